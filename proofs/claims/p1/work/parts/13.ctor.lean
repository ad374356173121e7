def mIsL (c : Int32) : Int32 := if c < 97 then 0 else if 122 < c then 0 else 1
def mIsD (c : Int32) : Int32 := if c < 48 then 0 else if 57 < c then 0 else 1
def mCode (c : Int32) : Int32 := if mIsL c = 0 then (if mIsD c = 0 then (if c = 95 then 37 else 0) else c - 48 + 27) else c - 97 + 1
set_option maxHeartbeats 4000000 in
theorem t_isLetter (l : Launch) (a1 : Int32) : KQ l yM_isLetter cM_isLetter 1 (some .boolean) 0 [.int a1] (fun r => r = mIsL a1) := by
  refine KQ.of (by decide) (Nat.le_of_ble_eq_true rfl) ?_
  intro p e s m below meth c ls C hr hlk hl
  have hx := C.1
  have hb := C.2.1
  have hl : lv_has ls 1 [(0, .int a1)] := hl
  refine lv_iload_n hx hb dM_isLetter_0 rfl (lv_at hl 0 rfl) ?_
  refine lv_bipush (v := 97) hx hb dM_isLetter_1 (by decide) ?_
  refine lv_icmp_lt (tgt := 16) hx hb dM_isLetter_3 (by decide) (fun c3 => ?_) (fun c3 => ?_)
  · refine lv_iconst (v := 0) hx hb dM_isLetter_16 (by decide) ?_
    exact KP.ret C hr hlk rfl (by unfold mIsL; rw [if_pos c3]) dM_isLetter_17
  · refine lv_iload_n hx hb dM_isLetter_6 rfl (lv_at hl 0 rfl) ?_
    refine lv_bipush (v := 122) hx hb dM_isLetter_7 (by decide) ?_
    refine lv_icmp_gt (tgt := 16) hx hb dM_isLetter_9 (by decide) (fun c9 => ?_) (fun c9 => ?_)
    · refine lv_iconst (v := 0) hx hb dM_isLetter_16 (by decide) ?_
      exact KP.ret C hr hlk rfl (by unfold mIsL; rw [if_neg c3, if_pos c9]) dM_isLetter_17
    · refine lv_iconst (v := 1) hx hb dM_isLetter_12 (by decide) ?_
      refine lv_goto (tgt := 17) hx hb dM_isLetter_13 (by decide) ?_
      exact KP.ret C hr hlk rfl (by unfold mIsL; rw [if_neg c3, if_neg c9]) dM_isLetter_17
set_option maxHeartbeats 4000000 in
theorem t_isDigit (l : Launch) (a1 : Int32) : KQ l yM_isDigit cM_isDigit 1 (some .boolean) 0 [.int a1] (fun r => r = mIsD a1) := by
  refine KQ.of (by decide) (Nat.le_of_ble_eq_true rfl) ?_
  intro p e s m below meth c ls C hr hlk hl
  have hx := C.1
  have hb := C.2.1
  have hl : lv_has ls 1 [(0, .int a1)] := hl
  refine lv_iload_n hx hb dM_isDigit_0 rfl (lv_at hl 0 rfl) ?_
  refine lv_bipush (v := 48) hx hb dM_isDigit_1 (by decide) ?_
  refine lv_icmp_lt (tgt := 16) hx hb dM_isDigit_3 (by decide) (fun c3 => ?_) (fun c3 => ?_)
  · refine lv_iconst (v := 0) hx hb dM_isDigit_16 (by decide) ?_
    exact KP.ret C hr hlk rfl (by unfold mIsD; rw [if_pos c3]) dM_isDigit_17
  · refine lv_iload_n hx hb dM_isDigit_6 rfl (lv_at hl 0 rfl) ?_
    refine lv_bipush (v := 57) hx hb dM_isDigit_7 (by decide) ?_
    refine lv_icmp_gt (tgt := 16) hx hb dM_isDigit_9 (by decide) (fun c9 => ?_) (fun c9 => ?_)
    · refine lv_iconst (v := 0) hx hb dM_isDigit_16 (by decide) ?_
      exact KP.ret C hr hlk rfl (by unfold mIsD; rw [if_neg c3, if_pos c9]) dM_isDigit_17
    · refine lv_iconst (v := 1) hx hb dM_isDigit_12 (by decide) ?_
      refine lv_goto (tgt := 17) hx hb dM_isDigit_13 (by decide) ?_
      exact KP.ret C hr hlk rfl (by unfold mIsD; rw [if_neg c3, if_neg c9]) dM_isDigit_17
set_option maxHeartbeats 4000000 in
theorem t_code (l : Launch) (a1 : Int32) : KQ l yM_code cM_code 1 (some .int) 1 [.int a1] (fun r => r = mCode a1) := by
  refine KQ.of (by decide) (Nat.le_of_ble_eq_true rfl) ?_
  intro p e s m below meth c ls C hr hlk hl
  have hx := C.1
  have hb := C.2.1
  have hl : lv_has ls 1 [(0, .int a1)] := hl
  refine lv_iload_n hx hb dM_code_0 rfl (lv_at hl 0 rfl) ?_
  refine KQ.callS (As := [.int (a1)]) C (t_isLetter l a1) vM_code_411 rfl ⟨by decide, by decide⟩ hl.1 rfl (Nat.le_of_ble_eq_true rfl) dM_code_1 ⟨by decide, by decide⟩ (fun r_1 hp => ?_)
  subst hp
  refine lv_if_eq (tgt := 16) hx hb dM_code_4 (by decide) (fun c4 => ?_) (fun c4 => ?_)
  · refine lv_iload_n hx hb dM_code_16 rfl (lv_at hl 0 rfl) ?_
    refine KQ.callS (As := [.int (a1)]) C (t_isDigit l a1) vM_code_415 rfl ⟨by decide, by decide⟩ hl.1 rfl (Nat.le_of_ble_eq_true rfl) dM_code_17 ⟨by decide, by decide⟩ (fun r_2 hp => ?_)
    subst hp
    refine lv_if_eq (tgt := 33) hx hb dM_code_20 (by decide) (fun c20 => ?_) (fun c20 => ?_)
    · refine lv_iload_n hx hb dM_code_33 rfl (lv_at hl 0 rfl) ?_
      refine lv_bipush (v := 95) hx hb dM_code_34 (by decide) ?_
      refine lv_icmp_ne (tgt := 44) hx hb dM_code_36 (by decide) (fun c36 => ?_) (fun c36 => ?_)
      · refine lv_iconst (v := 0) hx hb dM_code_44 (by decide) ?_
        exact KP.ret C hr hlk rfl (by unfold mCode; rw [if_pos c4, if_pos c20, if_neg c36]) dM_code_45
      · refine lv_bipush (v := 37) hx hb dM_code_39 (by decide) ?_
        refine lv_goto (tgt := 45) hx hb dM_code_41 (by decide) ?_
        exact KP.ret C hr hlk rfl (by unfold mCode; rw [if_pos c4, if_pos c20, if_pos c36]) dM_code_45
    · refine lv_iload_n hx hb dM_code_23 rfl (lv_at hl 0 rfl) ?_
      refine lv_bipush (v := 48) hx hb dM_code_24 (by decide) ?_
      refine lv_isub hx hb dM_code_26 ?_
      refine lv_bipush (v := 27) hx hb dM_code_27 (by decide) ?_
      refine lv_iadd hx hb dM_code_29 ?_
      refine lv_goto (tgt := 45) hx hb dM_code_30 (by decide) ?_
      exact KP.ret C hr hlk rfl (by unfold mCode; rw [if_pos c4, if_neg c20]) dM_code_45
  · refine lv_iload_n hx hb dM_code_7 rfl (lv_at hl 0 rfl) ?_
    refine lv_bipush (v := 97) hx hb dM_code_8 (by decide) ?_
    refine lv_isub hx hb dM_code_10 ?_
    refine lv_iconst (v := 1) hx hb dM_code_11 (by decide) ?_
    refine lv_iadd hx hb dM_code_12 ?_
    refine lv_goto (tgt := 45) hx hb dM_code_13 (by decide) ?_
    exact KP.ret C hr hlk rfl (by unfold mCode; rw [if_neg c4]) dM_code_45
/-- the words, char by char: the word at hand, how many there are, these -/
def wF : Nat → Int64 × Nat × (Nat → Int64)
  | 0 => (0, 0, fun _ => 0)
  | k + 1 => if sCh 4 k = 32 then (0, (wF k).2.1 + 1, vp_updL (wF k).2.2 (wF k).2.1 (wF k).1) else (38 * (wF k).1 + (mCode (sCh 4 k)).toInt64, (wF k).2.1, (wF k).2.2)
def wC : Nat → Nat
  | 0 => 0
  | k + 1 => if sCh 4 k = 32 then wC k + 1 else wC k
theorem wF_c : ∀ k, (wF k).2.1 = wC k := by
  intro k
  induction k with
  | zero => rfl
  | succ k ih =>
    show (if sCh 4 k = 32 then ((0 : Int64), (wF k).2.1 + 1, vp_updL (wF k).2.2 (wF k).2.1 (wF k).1) else (38 * (wF k).1 + (mCode (sCh 4 k)).toInt64, (wF k).2.1, (wF k).2.2)).2.1 = if sCh 4 k = 32 then wC k + 1 else wC k
    by_cases h : sCh 4 k = 32
    · rw [if_pos h, if_pos h, ih]
    · rw [if_neg h, if_neg h, ih]
abbrev sL4 : Nat := sLen.getD 4 0
theorem wC_all : (List.range (sLen.getD 4 0)).all (fun k => !(decide (sCh 4 k = 32)) || decide (wC k < 48)) = true := by decide +kernel
theorem wC_lt {k : Nat} (hk : k < sLen.getD 4 0) (h : sCh 4 k = 32) : wC k < 48 := by
  have h1 := List.all_eq_true.mp wC_all k (List.mem_range.mpr hk)
  simpa [h] using h1
theorem sL4_lt : sLen.getD 4 0 < 2 ^ 31 := by decide +kernel
def mI0 : Nat → Int32 := va_up (fun _ => 0) m_place (-1)
def mWd (k : Nat) : MS := (mI0, fun _ _ => 0, va_up (fun _ _ => 0) m_words (wF k).2.2)
def mNew : MS := mWd (sLen.getD 4 0)
theorem mWd_0 : mWd 0 = (mI0, fun _ _ => 0, fun _ _ => 0) := by
  unfold mWd
  congr 2
  funext j
  by_cases h : j = m_words
  · subst h; simp [va_up, wF]
  · simp [va_up, h]
section LdcW
variable {p : Program} {l : Launch} {e : Env} {R : Room} {s : State} {m : MethodId} {args : Array Value} {below : List Frame} {meth : Method} {c : Code} {H : Heap} {locs : List Loc} {cells slots : Nat} {Q : State → Prop}
variable {cc : ByteArray} {pc : Nat} {ls : Array Slot} {rest : List Value}
theorem ldcSw (hexec : p.tables.exec = Jvm.exec) (hb : c.code = cc) {own tx : String} {index q : Nat} (hown : s.vm.findClass own = some m.cls) (hZ : vk_R own index tx q s) (hdg : decode cc pc = .ok (.ldc_w index, 3))
    (k : W p l e R s m args below meth c H locs cells slots Q (F0 m (pc + 3) ls (.ref q :: rest))) : W p l e R s m args below meth c H locs cells slots Q (F0 m pc ls rest) := by
  intro T hT X
  obtain ⟨t, a1, b1⟩ := k T hT X
  refine ⟨t, ?_, b1⟩
  obtain ⟨kC, cf, i, a', hk, hcf, hcp, -, hr, hev'⟩ := Cond.stringRef_spec hown hZ.1
  have hq : q = a' := by
    have h1 := hZ.2.symm.trans hev'
    cases h1
    rfl
  subst hq
  obtain ⟨k', hk', he⟩ := X.warmed.alike.2.2 _ _ hk
  have hr' : k'.resolved[index]? = some (some (.string q)) := by
    rcases X.warmed.entry hk hk' index with h | ⟨h, -⟩
    · rw [h]; exact hr
    · rw [hr] at h; cases h
  jvm_step X.here [hexec, hb, hdg, ldc_w.wp_string (e := e) (s := T) (f := F0 m pc ls rest) X.here.top hk' (by rw [he]; exact hcf) hcp hr']
  exact a1
end LdcW
section InitLoop
variable {p : Program} {l : Launch} {e : Env} {s : State} {m : MethodId} {below : List Frame} {meth : Method} {c : Code} {g : GG} {A : Nat → Prop} {o : Nat} {ak sv ad : Nat → Nat}
set_option maxHeartbeats 4000000 in
set_option maxRecDepth 100000 in
theorem t_initW (C : Cx p s m c cM_init 6 RM #[.ref o] g) (hr : meth.sig.returnType = none) (hlk : meth.locks = false) (hE : sE ak sv A s s.heap) :
    ∀ (d k : Nat), k + d = sLen.getD 4 0 → ∀ (H : Heap) (locs : List Loc) (ls : Array Slot), Hx g (mW g o ad (mWd k)) A s.heap H locs → lv_has ls 6 [(5, .int (nI k)), (4, .int (nI (wC k))), (2, .long (wF k).1), (1, .ref (ak 4)), (0, .ref o)] →
      W p l e (rD 5 122 304858) s m #[.ref o] below meth c H locs 122 304858 (MQ below (va_Qv (fun u : (Nat → Nat) × MS => u.2 = mNew) (gB g (fun u : (Nat → Nat) × MS => mW g o u.1 u.2) A) A) #[.ref o] s 122 304858 A) (F0 m 1050 ls []) := by
  have hx := C.1.1
  have hb := C.1.2.1
  intro d
  induction d with
  | zero =>
    intro k hk H locs ls h hl
    have hk : k = sLen.getD 4 0 := hk
    subst hk
    refine lv_iload hx hb dM_init_1050 (lv_at hl 0 rfl) ?_
    refine lv_aload_n hx hb dM_init_1052 rfl (lv_at hl 3 rfl) ?_
    refine KP.callV (As := []) C.1 hE h.2.2.1 h.2.2.2 (by decide) (j_length l (i := 4) (by decide)) rfl vM_init_386 ⟨by decide, by decide⟩ hl.1 rfl (Nat.le_of_ble_eq_true rfl) dM_init_1053 ⟨by decide, by decide⟩ (fun v hv => ?_)
    subst hv
    refine lv_icmp_ge (tgt := 1109) hx hb dM_init_1056 (by decide) (fun _ => ?_) (fun q => absurd (Int32.le_refl _) q)
    exact KV.ret C hr hlk (ad, mNew) h rfl (by decide) (by decide) dM_init_1109
  | succ d ih =>
    intro k hk H locs ls h hl
    have hlt : k < sLen.getD 4 0 := by omega
    have hL := sL4_lt
    refine lv_iload hx hb dM_init_1050 (lv_at hl 0 rfl) ?_
    refine lv_aload_n hx hb dM_init_1052 rfl (lv_at hl 3 rfl) ?_
    refine KP.callV (As := []) C.1 hE h.2.2.1 h.2.2.2 (by decide) (j_length l (i := 4) (by decide)) rfl vM_init_386 ⟨by decide, by decide⟩ hl.1 rfl (Nat.le_of_ble_eq_true rfl) dM_init_1053 ⟨by decide, by decide⟩ (fun v hv => ?_)
    subst hv
    refine lv_icmp_ge (tgt := 1109) hx hb dM_init_1056 (by decide) (fun q => absurd q (nI_ge hlt hL)) (fun _ => ?_)
    refine lv_aload_n hx hb dM_init_1059 rfl (lv_at hl 3 rfl) ?_
    refine lv_iload hx hb dM_init_1060 (lv_at hl 0 rfl) ?_
    refine KP.callV (As := [.int (nI k)]) C.1 hE h.2.2.1 h.2.2.2 (by decide) (j_charAt l (i := 4) (by decide) hlt) rfl vM_init_392 ⟨by decide, by decide⟩ hl.1 rfl (Nat.le_of_ble_eq_true rfl) dM_init_1062 ⟨by decide, by decide⟩ (fun v hv => ?_)
    subst hv
    refine lv_bipush (v := 32) hx hb dM_init_1065 (by decide) ?_
    refine lv_icmp_ne (tgt := 1086) hx hb dM_init_1067 (by decide) (fun c1 => ?_) (fun c1 => ?_)
    · refine lv_ldc2 (v := 38) hx hb C.1.2.2.2.1 (C.1.2.2.2.2 _ k_38) dM_init_1086 ?_
      refine lv_lload_n hx hb dM_init_1089 rfl (lv_at hl 2 rfl) ?_
      refine lv_lmul hx hb dM_init_1090 ?_
      refine lv_aload_n hx hb dM_init_1091 rfl (lv_at hl 3 rfl) ?_
      refine lv_iload hx hb dM_init_1092 (lv_at hl 0 rfl) ?_
      refine KP.callV (As := [.int (nI k)]) C.1 hE h.2.2.1 h.2.2.2 (by decide) (j_charAt l (i := 4) (by decide) hlt) rfl vM_init_392 ⟨by decide, by decide⟩ hl.1 rfl (Nat.le_of_ble_eq_true rfl) dM_init_1094 ⟨by decide, by decide⟩ (fun v hv => ?_)
      subst hv
      refine KQ.callS (As := [.int (sCh 4 k)]) C.1 (t_code l (sCh 4 k)) vM_init_398 rfl ⟨by decide, by decide⟩ hl.1 rfl (Nat.le_of_ble_eq_true rfl) dM_init_1097 ⟨by decide, by decide⟩ (fun v hv => ?_)
      subst hv
      refine lv_i2l hx hb dM_init_1100 rfl ?_
      refine lv_ladd hx hb dM_init_1101 ?_
      refine lv_lstore_n (lv' := [(2, .long (38 * (wF k).1 + (mCode (sCh 4 k)).toInt64)), (5, .int (nI k)), (4, .int (nI (wC k))), (1, .ref (ak 4)), (0, .ref o)]) hx hb dM_init_1102 rfl hl (by decide) rfl (fun ls hl => ?_)
      refine lv_iinc (v := nI (k + 1)) (lv' := [(5, .int (nI (k + 1))), (2, .long (38 * (wF k).1 + (mCode (sCh 4 k)).toInt64)), (4, .int (nI (wC k))), (1, .ref (ak 4)), (0, .ref o)]) hx hb dM_init_1103 hl (k := 1) rfl (nI_1 k) (by decide) rfl (fun ls hl => ?_)
      refine lv_goto (tgt := 1050) hx hb dM_init_1106 (by decide) ?_
      have e1 : wF (k + 1) = (38 * (wF k).1 + (mCode (sCh 4 k)).toInt64, (wF k).2.1, (wF k).2.2) := if_neg c1
      have e2 : wC (k + 1) = wC k := if_neg c1
      have e3 : mWd (k + 1) = mWd k := by unfold mWd; rw [e1]
      refine ih (k + 1) (by omega) H locs ls (by rw [e3]; exact h) ?_
      rw [e1, e2]
      exact lv_sub hl [0, 2, 1, 3, 4] rfl
    · refine lv_aload_n hx hb dM_init_1070 rfl (lv_at hl 4 rfl) ?_
      refine mga C h m_words (by decide) (by decide) rfl dM_init_1071 ?_
      refine lv_iload hx hb dM_init_1074 (lv_at hl 1 rfl) ?_
      refine lv_lload_n hx hb dM_init_1076 rfl (lv_at hl 2 rfl) ?_
      have hw := wC_lt hlt c1
      refine msj C h m_words (by decide) rfl (vp_in_nI hw (by decide)) dM_init_1077 (fun H locs h => ?_)
      refine lv_iinc (v := nI (wC k + 1)) (lv' := [(4, .int (nI (wC k + 1))), (5, .int (nI k)), (2, .long (wF k).1), (1, .ref (ak 4)), (0, .ref o)]) hx hb dM_init_1078 hl (k := 1) rfl (nI_1 _) (by decide) rfl (fun ls hl => ?_)
      refine lv_lconst (v := 0) hx hb dM_init_1081 (by decide) ?_
      refine lv_lstore_n (lv' := [(2, .long 0), (4, .int (nI (wC k + 1))), (5, .int (nI k)), (1, .ref (ak 4)), (0, .ref o)]) hx hb dM_init_1082 rfl hl (by decide) rfl (fun ls hl => ?_)
      refine lv_goto (tgt := 1103) hx hb dM_init_1083 (by decide) ?_
      refine lv_iinc (v := nI (k + 1)) (lv' := [(5, .int (nI (k + 1))), (2, .long 0), (4, .int (nI (wC k + 1))), (1, .ref (ak 4)), (0, .ref o)]) hx hb dM_init_1103 hl (k := 2) rfl (nI_1 k) (by decide) rfl (fun ls hl => ?_)
      refine lv_goto (tgt := 1050) hx hb dM_init_1106 (by decide) ?_
      have e1 : wF (k + 1) = (0, (wF k).2.1 + 1, vp_updL (wF k).2.2 (wF k).2.1 (wF k).1) := if_pos c1
      have e2 : wC (k + 1) = wC k + 1 := if_pos c1
      have e3 : msetj (mWd k) m_words (nI (wC k)).toNatClampNeg (wF k).1 = mWd (k + 1) := by
        rw [nI_clamp (by omega)]
        unfold mWd msetj
        rw [e1, wF_c]
        congr 2
        funext j
        by_cases hj : j = m_words
        · subst hj; simp [va_up]
        · simp [va_up, hj]
      rw [e3] at h
      refine ih (k + 1) (by omega) H locs ls h ?_
      rw [e1, e2]
      exact lv_sub hl [0, 2, 1, 3, 4] rfl
set_option maxHeartbeats 4000000 in
set_option maxRecDepth 100000 in
theorem t_initL {H : Heap} {locs : List Loc} {ls : Array Slot} (C : Cx p s m c cM_init 6 RM #[.ref o] g) (hr : meth.sig.returnType = none) (hlk : meth.locks = false) (hE : sE ak sv A s s.heap) (h : Hx g (mW g o ad (mI0, fun _ _ => 0, fun _ _ => 0)) A s.heap H locs) (hl : lv_has ls 6 [(0, .ref o)]) :
      W p l e (rD 5 122 304858) s m #[.ref o] below meth c H locs 122 304858 (MQ below (va_Qv (fun u : (Nat → Nat) × MS => u.2 = mNew) (gB g (fun u : (Nat → Nat) × MS => mW g o u.1 u.2) A) A) #[.ref o] s 122 304858 A) (F0 m 1038 ls []) := by
  have hx := C.1.1
  have hb := C.1.2.1
  refine ldcSw hx hb C.1.2.2.2.1 (hE.2.2.2.1 4 (by decide)) dM_init_1038 ?_
  refine lv_astore_n (lv' := [(1, .ref (ak 4)), (0, .ref o)]) hx hb dM_init_1041 rfl hl (by decide) rfl (fun ls hl => ?_)
  refine lv_lconst (v := 0) hx hb dM_init_1042 (by decide) ?_
  refine lv_lstore_n (lv' := [(2, .long 0), (1, .ref (ak 4)), (0, .ref o)]) hx hb dM_init_1043 rfl hl (by decide) rfl (fun ls hl => ?_)
  refine lv_iconst (v := 0) hx hb dM_init_1044 (by decide) ?_
  refine lv_istore (lv' := [(4, .int 0), (2, .long 0), (1, .ref (ak 4)), (0, .ref o)]) hx hb dM_init_1045 hl (by decide) rfl (fun ls hl => ?_)
  refine lv_iconst (v := 0) hx hb dM_init_1047 (by decide) ?_
  refine lv_istore (lv' := [(5, .int 0), (4, .int 0), (2, .long 0), (1, .ref (ak 4)), (0, .ref o)]) hx hb dM_init_1048 hl (by decide) rfl (fun ls hl => ?_)
  rw [← mWd_0] at h
  exact t_initW C hr hlk hE (sLen.getD 4 0) 0 (Nat.zero_add _) H locs ls h hl
end InitLoop

set_option maxHeartbeats 40000000 in
set_option maxRecDepth 100000 in
/-- the constructor: all arrays there, the words learnt -/
theorem t_init {ak sv : Nat → Nat} (l : Launch) (g : GG) (o : Nat) : KVx ak sv l yM_init cM_init 6 (rD 5 122 304858) g (pW g o (fun _ => 0) (fun _ => 0) 0) (fun u : (Nat → Nat) × MS => mW g o u.1 u.2) [.ref o] (fun u => u.2 = mNew) := by
  refine KVx.of (by decide) (Nat.le_of_ble_eq_true rfl) ?_
  intro p e s m below meth c A ls C hr hlk hnm h hE hl
  have hx := C.1.1
  have hb := C.1.2.1
  have hl : lv_has ls 6 [(0, .ref o)] := hl
  refine lv_aload_n hx hb dM_init_0 rfl (lv_at hl 0 rfl) ?_
  refine W.objInit hx hb C.1.2.2.2.1 (C.1.2.2.2.2 _ k_objL) (C.1.2.2.2.2 _ k_objI) (C.1.2.2.2.2 _ k_objC) rfl (by rw [C.1.2.2.1]; exact hl.1) rfl dM_init_1 (Nat.le_of_ble_eq_true rfl) (Nat.le_of_ble_eq_true rfl) ?_
  refine W.eq (g2 := F0 m 4 ls []) rfl ?_
  refine lv_aload_n hx hb dM_init_4 rfl (lv_at hl 0 rfl) ?_
  refine lv_sipush (v := 5000) hx hb dM_init_5 (by decide) ?_
  refine newA_b C h (N := 5000) (by decide) (by decide) (by decide) (by decide) (by decide) dM_init_8 (fun q0 H h => ?_)
  refine W.widen (k := 1) (n := 5000) (by decide) (by decide) ?_
  refine ipF C hnm 0 rfl rfl h rfl rfl rfl rfl dM_init_10 (fun H locs h => ?_)
  refine lv_aload_n hx hb dM_init_13 rfl (lv_at hl 0 rfl) ?_
  refine lv_sipush (v := 5000) hx hb dM_init_14 (by decide) ?_
  refine newA_b C h (N := 5000) (by decide) (by decide) (by decide) (by decide) (by decide) dM_init_17 (fun q1 H h => ?_)
  refine W.widen (k := 2) (n := 10000) (by decide) (by decide) ?_
  refine ipF C hnm 1 rfl rfl h rfl rfl rfl rfl dM_init_19 (fun H locs h => ?_)
  refine lv_aload_n hx hb dM_init_22 rfl (lv_at hl 0 rfl) ?_
  refine lv_sipush (v := 5000) hx hb dM_init_23 (by decide) ?_
  refine newA_b C h (N := 5000) (by decide) (by decide) (by decide) (by decide) (by decide) dM_init_26 (fun q2 H h => ?_)
  refine W.widen (k := 3) (n := 15000) (by decide) (by decide) ?_
  refine ipF C hnm 2 rfl rfl h rfl rfl rfl rfl dM_init_28 (fun H locs h => ?_)
  refine lv_aload_n hx hb dM_init_31 rfl (lv_at hl 0 rfl) ?_
  refine lv_bipush (v := 48) hx hb dM_init_32 (by decide) ?_
  refine newA_j C h (N := 48) (by decide) (by decide) (by decide) (by decide) (by decide) dM_init_34 (fun q3 H h => ?_)
  refine W.widen (k := 4) (n := 15048) (by decide) (by decide) ?_
  refine ipF C hnm 7 rfl rfl h rfl rfl rfl rfl dM_init_36 (fun H locs h => ?_)
  refine lv_aload_n hx hb dM_init_39 rfl (lv_at hl 0 rfl) ?_
  refine lv_sipush (v := 1202) hx hb dM_init_40 (by decide) ?_
  refine newA_i C h (N := 1202) (by decide) (by decide) (by decide) (by decide) (by decide) dM_init_43 (fun q4 H h => ?_)
  refine W.widen (k := 5) (n := 16250) (by decide) (by decide) ?_
  refine ipF C hnm 8 rfl rfl h rfl rfl rfl rfl dM_init_45 (fun H locs h => ?_)
  refine lv_aload_n hx hb dM_init_48 rfl (lv_at hl 0 rfl) ?_
  refine lv_sipush (v := 1202) hx hb dM_init_49 (by decide) ?_
  refine newA_i C h (N := 1202) (by decide) (by decide) (by decide) (by decide) (by decide) dM_init_52 (fun q5 H h => ?_)
  refine W.widen (k := 6) (n := 17452) (by decide) (by decide) ?_
  refine ipF C hnm 9 rfl rfl h rfl rfl rfl rfl dM_init_54 (fun H locs h => ?_)
  refine lv_aload_n hx hb dM_init_57 rfl (lv_at hl 0 rfl) ?_
  refine lv_sipush (v := 1202) hx hb dM_init_58 (by decide) ?_
  refine newA_j C h (N := 1202) (by decide) (by decide) (by decide) (by decide) (by decide) dM_init_61 (fun q6 H h => ?_)
  refine W.widen (k := 7) (n := 18654) (by decide) (by decide) ?_
  refine ipF C hnm 10 rfl rfl h rfl rfl rfl rfl dM_init_63 (fun H locs h => ?_)
  refine lv_aload_n hx hb dM_init_66 rfl (lv_at hl 0 rfl) ?_
  refine lv_bipush (v := 20) hx hb dM_init_67 (by decide) ?_
  refine newA_j C h (N := 20) (by decide) (by decide) (by decide) (by decide) (by decide) dM_init_69 (fun q7 H h => ?_)
  refine W.widen (k := 8) (n := 18674) (by decide) (by decide) ?_
  refine ipF C hnm 20 rfl rfl h rfl rfl rfl rfl dM_init_71 (fun H locs h => ?_)
  refine lv_aload_n hx hb dM_init_74 rfl (lv_at hl 0 rfl) ?_
  refine lv_bipush (v := 10) hx hb dM_init_75 (by decide) ?_
  refine newA_j C h (N := 10) (by decide) (by decide) (by decide) (by decide) (by decide) dM_init_77 (fun q8 H h => ?_)
  refine W.widen (k := 9) (n := 18684) (by decide) (by decide) ?_
  refine ipF C hnm 21 rfl rfl h rfl rfl rfl rfl dM_init_79 (fun H locs h => ?_)
  refine lv_aload_n hx hb dM_init_82 rfl (lv_at hl 0 rfl) ?_
  refine lv_bipush (v := 6) hx hb dM_init_83 (by decide) ?_
  refine newA_j C h (N := 6) (by decide) (by decide) (by decide) (by decide) (by decide) dM_init_85 (fun q9 H h => ?_)
  refine W.widen (k := 10) (n := 18690) (by decide) (by decide) ?_
  refine ipF C hnm 22 rfl rfl h rfl rfl rfl rfl dM_init_87 (fun H locs h => ?_)
  refine lv_aload_n hx hb dM_init_90 rfl (lv_at hl 0 rfl) ?_
  refine lv_bipush (v := 20) hx hb dM_init_91 (by decide) ?_
  refine newA_i C h (N := 20) (by decide) (by decide) (by decide) (by decide) (by decide) dM_init_93 (fun q10 H h => ?_)
  refine W.widen (k := 11) (n := 18710) (by decide) (by decide) ?_
  refine ipF C hnm 23 rfl rfl h rfl rfl rfl rfl dM_init_95 (fun H locs h => ?_)
  refine lv_aload_n hx hb dM_init_98 rfl (lv_at hl 0 rfl) ?_
  refine lv_bipush (v := 20) hx hb dM_init_99 (by decide) ?_
  refine newA_i C h (N := 20) (by decide) (by decide) (by decide) (by decide) (by decide) dM_init_101 (fun q11 H h => ?_)
  refine W.widen (k := 12) (n := 18730) (by decide) (by decide) ?_
  refine ipF C hnm 24 rfl rfl h rfl rfl rfl rfl dM_init_103 (fun H locs h => ?_)
  refine lv_aload_n hx hb dM_init_106 rfl (lv_at hl 0 rfl) ?_
  refine lv_bipush (v := 60) hx hb dM_init_107 (by decide) ?_
  refine newA_i C h (N := 60) (by decide) (by decide) (by decide) (by decide) (by decide) dM_init_109 (fun q12 H h => ?_)
  refine W.widen (k := 13) (n := 18790) (by decide) (by decide) ?_
  refine ipF C hnm 25 rfl rfl h rfl rfl rfl rfl dM_init_111 (fun H locs h => ?_)
  refine lv_aload_n hx hb dM_init_114 rfl (lv_at hl 0 rfl) ?_
  refine lv_bipush (v := 10) hx hb dM_init_115 (by decide) ?_
  refine newA_j C h (N := 10) (by decide) (by decide) (by decide) (by decide) (by decide) dM_init_117 (fun q13 H h => ?_)
  refine W.widen (k := 14) (n := 18800) (by decide) (by decide) ?_
  refine ipF C hnm 26 rfl rfl h rfl rfl rfl rfl dM_init_119 (fun H locs h => ?_)
  refine lv_aload_n hx hb dM_init_122 rfl (lv_at hl 0 rfl) ?_
  refine lv_bipush (v := 10) hx hb dM_init_123 (by decide) ?_
  refine newA_j C h (N := 10) (by decide) (by decide) (by decide) (by decide) (by decide) dM_init_125 (fun q14 H h => ?_)
  refine W.widen (k := 15) (n := 18810) (by decide) (by decide) ?_
  refine ipF C hnm 27 rfl rfl h rfl rfl rfl rfl dM_init_127 (fun H locs h => ?_)
  refine lv_aload_n hx hb dM_init_130 rfl (lv_at hl 0 rfl) ?_
  refine lv_bipush (v := 10) hx hb dM_init_131 (by decide) ?_
  refine newA_i C h (N := 10) (by decide) (by decide) (by decide) (by decide) (by decide) dM_init_133 (fun q15 H h => ?_)
  refine W.widen (k := 16) (n := 18820) (by decide) (by decide) ?_
  refine ipF C hnm 28 rfl rfl h rfl rfl rfl rfl dM_init_135 (fun H locs h => ?_)
  refine lv_aload_n hx hb dM_init_138 rfl (lv_at hl 0 rfl) ?_
  refine lv_bipush (v := 10) hx hb dM_init_139 (by decide) ?_
  refine newA_i C h (N := 10) (by decide) (by decide) (by decide) (by decide) (by decide) dM_init_141 (fun q16 H h => ?_)
  refine W.widen (k := 17) (n := 18830) (by decide) (by decide) ?_
  refine ipF C hnm 29 rfl rfl h rfl rfl rfl rfl dM_init_143 (fun H locs h => ?_)
  refine lv_aload_n hx hb dM_init_146 rfl (lv_at hl 0 rfl) ?_
  refine lv_bipush (v := 10) hx hb dM_init_147 (by decide) ?_
  refine newA_i C h (N := 10) (by decide) (by decide) (by decide) (by decide) (by decide) dM_init_149 (fun q17 H h => ?_)
  refine W.widen (k := 18) (n := 18840) (by decide) (by decide) ?_
  refine ipF C hnm 30 rfl rfl h rfl rfl rfl rfl dM_init_151 (fun H locs h => ?_)
  refine lv_aload_n hx hb dM_init_154 rfl (lv_at hl 0 rfl) ?_
  refine lv_bipush (v := 10) hx hb dM_init_155 (by decide) ?_
  refine newA_i C h (N := 10) (by decide) (by decide) (by decide) (by decide) (by decide) dM_init_157 (fun q18 H h => ?_)
  refine W.widen (k := 19) (n := 18850) (by decide) (by decide) ?_
  refine ipF C hnm 31 rfl rfl h rfl rfl rfl rfl dM_init_159 (fun H locs h => ?_)
  refine lv_aload_n hx hb dM_init_162 rfl (lv_at hl 0 rfl) ?_
  refine lv_bipush (v := 10) hx hb dM_init_163 (by decide) ?_
  refine newA_i C h (N := 10) (by decide) (by decide) (by decide) (by decide) (by decide) dM_init_165 (fun q19 H h => ?_)
  refine W.widen (k := 20) (n := 18860) (by decide) (by decide) ?_
  refine ipF C hnm 32 rfl rfl h rfl rfl rfl rfl dM_init_167 (fun H locs h => ?_)
  refine lv_aload_n hx hb dM_init_170 rfl (lv_at hl 0 rfl) ?_
  refine lv_bipush (v := 10) hx hb dM_init_171 (by decide) ?_
  refine newA_i C h (N := 10) (by decide) (by decide) (by decide) (by decide) (by decide) dM_init_173 (fun q20 H h => ?_)
  refine W.widen (k := 21) (n := 18870) (by decide) (by decide) ?_
  refine ipF C hnm 33 rfl rfl h rfl rfl rfl rfl dM_init_175 (fun H locs h => ?_)
  refine lv_aload_n hx hb dM_init_178 rfl (lv_at hl 0 rfl) ?_
  refine lv_bipush (v := 10) hx hb dM_init_179 (by decide) ?_
  refine newA_z C h (N := 10) (by decide) (by decide) (by decide) (by decide) (by decide) dM_init_181 (fun q21 H h => ?_)
  refine W.widen (k := 22) (n := 18880) (by decide) (by decide) ?_
  refine ipF C hnm 34 rfl rfl h rfl rfl rfl rfl dM_init_183 (fun H locs h => ?_)
  refine lv_aload_n hx hb dM_init_186 rfl (lv_at hl 0 rfl) ?_
  refine lv_bipush (v := 6) hx hb dM_init_187 (by decide) ?_
  refine newA_i C h (N := 6) (by decide) (by decide) (by decide) (by decide) (by decide) dM_init_189 (fun q22 H h => ?_)
  refine W.widen (k := 23) (n := 18886) (by decide) (by decide) ?_
  refine ipF C hnm 35 rfl rfl h rfl rfl rfl rfl dM_init_191 (fun H locs h => ?_)
  refine lv_aload_n hx hb dM_init_194 rfl (lv_at hl 0 rfl) ?_
  refine lv_bipush (v := 6) hx hb dM_init_195 (by decide) ?_
  refine newA_i C h (N := 6) (by decide) (by decide) (by decide) (by decide) (by decide) dM_init_197 (fun q23 H h => ?_)
  refine W.widen (k := 24) (n := 18892) (by decide) (by decide) ?_
  refine ipF C hnm 36 rfl rfl h rfl rfl rfl rfl dM_init_199 (fun H locs h => ?_)
  refine lv_aload_n hx hb dM_init_202 rfl (lv_at hl 0 rfl) ?_
  refine lv_bipush (v := 6) hx hb dM_init_203 (by decide) ?_
  refine newA_i C h (N := 6) (by decide) (by decide) (by decide) (by decide) (by decide) dM_init_205 (fun q24 H h => ?_)
  refine W.widen (k := 25) (n := 18898) (by decide) (by decide) ?_
  refine ipF C hnm 37 rfl rfl h rfl rfl rfl rfl dM_init_207 (fun H locs h => ?_)
  refine lv_aload_n hx hb dM_init_210 rfl (lv_at hl 0 rfl) ?_
  refine lv_bipush (v := 6) hx hb dM_init_211 (by decide) ?_
  refine newA_i C h (N := 6) (by decide) (by decide) (by decide) (by decide) (by decide) dM_init_213 (fun q25 H h => ?_)
  refine W.widen (k := 26) (n := 18904) (by decide) (by decide) ?_
  refine ipF C hnm 38 rfl rfl h rfl rfl rfl rfl dM_init_215 (fun H locs h => ?_)
  refine lv_aload_n hx hb dM_init_218 rfl (lv_at hl 0 rfl) ?_
  refine lv_bipush (v := 6) hx hb dM_init_219 (by decide) ?_
  refine newA_i C h (N := 6) (by decide) (by decide) (by decide) (by decide) (by decide) dM_init_221 (fun q26 H h => ?_)
  refine W.widen (k := 27) (n := 18910) (by decide) (by decide) ?_
  refine ipF C hnm 39 rfl rfl h rfl rfl rfl rfl dM_init_223 (fun H locs h => ?_)
  refine lv_aload_n hx hb dM_init_226 rfl (lv_at hl 0 rfl) ?_
  refine lv_bipush (v := 6) hx hb dM_init_227 (by decide) ?_
  refine newA_i C h (N := 6) (by decide) (by decide) (by decide) (by decide) (by decide) dM_init_229 (fun q27 H h => ?_)
  refine W.widen (k := 28) (n := 18916) (by decide) (by decide) ?_
  refine ipF C hnm 40 rfl rfl h rfl rfl rfl rfl dM_init_231 (fun H locs h => ?_)
  refine lv_aload_n hx hb dM_init_234 rfl (lv_at hl 0 rfl) ?_
  refine lv_bipush (v := 6) hx hb dM_init_235 (by decide) ?_
  refine newA_i C h (N := 6) (by decide) (by decide) (by decide) (by decide) (by decide) dM_init_237 (fun q28 H h => ?_)
  refine W.widen (k := 29) (n := 18922) (by decide) (by decide) ?_
  refine ipF C hnm 41 rfl rfl h rfl rfl rfl rfl dM_init_239 (fun H locs h => ?_)
  refine lv_aload_n hx hb dM_init_242 rfl (lv_at hl 0 rfl) ?_
  refine lv_bipush (v := 6) hx hb dM_init_243 (by decide) ?_
  refine newA_i C h (N := 6) (by decide) (by decide) (by decide) (by decide) (by decide) dM_init_245 (fun q29 H h => ?_)
  refine W.widen (k := 30) (n := 18928) (by decide) (by decide) ?_
  refine ipF C hnm 42 rfl rfl h rfl rfl rfl rfl dM_init_247 (fun H locs h => ?_)
  refine lv_aload_n hx hb dM_init_250 rfl (lv_at hl 0 rfl) ?_
  refine lv_bipush (v := 6) hx hb dM_init_251 (by decide) ?_
  refine newA_i C h (N := 6) (by decide) (by decide) (by decide) (by decide) (by decide) dM_init_253 (fun q30 H h => ?_)
  refine W.widen (k := 31) (n := 18934) (by decide) (by decide) ?_
  refine ipF C hnm 43 rfl rfl h rfl rfl rfl rfl dM_init_255 (fun H locs h => ?_)
  refine lv_aload_n hx hb dM_init_258 rfl (lv_at hl 0 rfl) ?_
  refine lv_bipush (v := 6) hx hb dM_init_259 (by decide) ?_
  refine newA_i C h (N := 6) (by decide) (by decide) (by decide) (by decide) (by decide) dM_init_261 (fun q31 H h => ?_)
  refine W.widen (k := 32) (n := 18940) (by decide) (by decide) ?_
  refine ipF C hnm 44 rfl rfl h rfl rfl rfl rfl dM_init_263 (fun H locs h => ?_)
  refine lv_aload_n hx hb dM_init_266 rfl (lv_at hl 0 rfl) ?_
  refine lv_bipush (v := 48) hx hb dM_init_267 (by decide) ?_
  refine newA_j C h (N := 48) (by decide) (by decide) (by decide) (by decide) (by decide) dM_init_269 (fun q32 H h => ?_)
  refine W.widen (k := 33) (n := 18988) (by decide) (by decide) ?_
  refine ipF C hnm 45 rfl rfl h rfl rfl rfl rfl dM_init_271 (fun H locs h => ?_)
  refine lv_aload_n hx hb dM_init_274 rfl (lv_at hl 0 rfl) ?_
  refine lv_bipush (v := 18) hx hb dM_init_275 (by decide) ?_
  refine newA_j C h (N := 18) (by decide) (by decide) (by decide) (by decide) (by decide) dM_init_277 (fun q33 H h => ?_)
  refine W.widen (k := 34) (n := 19006) (by decide) (by decide) ?_
  refine ipF C hnm 46 rfl rfl h rfl rfl rfl rfl dM_init_279 (fun H locs h => ?_)
  refine lv_aload_n hx hb dM_init_282 rfl (lv_at hl 0 rfl) ?_
  refine lv_bipush (v := 72) hx hb dM_init_283 (by decide) ?_
  refine newA_j C h (N := 72) (by decide) (by decide) (by decide) (by decide) (by decide) dM_init_285 (fun q34 H h => ?_)
  refine W.widen (k := 35) (n := 19078) (by decide) (by decide) ?_
  refine ipF C hnm 47 rfl rfl h rfl rfl rfl rfl dM_init_287 (fun H locs h => ?_)
  refine lv_aload_n hx hb dM_init_290 rfl (lv_at hl 0 rfl) ?_
  refine lv_bipush (v := 60) hx hb dM_init_291 (by decide) ?_
  refine newA_j C h (N := 60) (by decide) (by decide) (by decide) (by decide) (by decide) dM_init_293 (fun q35 H h => ?_)
  refine W.widen (k := 36) (n := 19138) (by decide) (by decide) ?_
  refine ipF C hnm 48 rfl rfl h rfl rfl rfl rfl dM_init_295 (fun H locs h => ?_)
  refine lv_aload_n hx hb dM_init_298 rfl (lv_at hl 0 rfl) ?_
  refine lv_bipush (v := 48) hx hb dM_init_299 (by decide) ?_
  refine newA_i C h (N := 48) (by decide) (by decide) (by decide) (by decide) (by decide) dM_init_301 (fun q36 H h => ?_)
  refine W.widen (k := 37) (n := 19186) (by decide) (by decide) ?_
  refine ipF C hnm 49 rfl rfl h rfl rfl rfl rfl dM_init_303 (fun H locs h => ?_)
  refine lv_aload_n hx hb dM_init_306 rfl (lv_at hl 0 rfl) ?_
  refine lv_bipush (v := 48) hx hb dM_init_307 (by decide) ?_
  refine newA_i C h (N := 48) (by decide) (by decide) (by decide) (by decide) (by decide) dM_init_309 (fun q37 H h => ?_)
  refine W.widen (k := 38) (n := 19234) (by decide) (by decide) ?_
  refine ipF C hnm 50 rfl rfl h rfl rfl rfl rfl dM_init_311 (fun H locs h => ?_)
  refine lv_aload_n hx hb dM_init_314 rfl (lv_at hl 0 rfl) ?_
  refine lv_bipush (v := 48) hx hb dM_init_315 (by decide) ?_
  refine newA_i C h (N := 48) (by decide) (by decide) (by decide) (by decide) (by decide) dM_init_317 (fun q38 H h => ?_)
  refine W.widen (k := 39) (n := 19282) (by decide) (by decide) ?_
  refine ipF C hnm 51 rfl rfl h rfl rfl rfl rfl dM_init_319 (fun H locs h => ?_)
  refine lv_aload_n hx hb dM_init_322 rfl (lv_at hl 0 rfl) ?_
  refine lv_bipush (v := 48) hx hb dM_init_323 (by decide) ?_
  refine newA_i C h (N := 48) (by decide) (by decide) (by decide) (by decide) (by decide) dM_init_325 (fun q39 H h => ?_)
  refine W.widen (k := 40) (n := 19330) (by decide) (by decide) ?_
  refine ipF C hnm 52 rfl rfl h rfl rfl rfl rfl dM_init_327 (fun H locs h => ?_)
  refine lv_aload_n hx hb dM_init_330 rfl (lv_at hl 0 rfl) ?_
  refine lv_bipush (v := 18) hx hb dM_init_331 (by decide) ?_
  refine newA_i C h (N := 18) (by decide) (by decide) (by decide) (by decide) (by decide) dM_init_333 (fun q40 H h => ?_)
  refine W.widen (k := 41) (n := 19348) (by decide) (by decide) ?_
  refine ipF C hnm 53 rfl rfl h rfl rfl rfl rfl dM_init_335 (fun H locs h => ?_)
  refine lv_aload_n hx hb dM_init_338 rfl (lv_at hl 0 rfl) ?_
  refine lv_bipush (v := 72) hx hb dM_init_339 (by decide) ?_
  refine newA_i C h (N := 72) (by decide) (by decide) (by decide) (by decide) (by decide) dM_init_341 (fun q41 H h => ?_)
  refine W.widen (k := 42) (n := 19420) (by decide) (by decide) ?_
  refine ipF C hnm 54 rfl rfl h rfl rfl rfl rfl dM_init_343 (fun H locs h => ?_)
  refine lv_aload_n hx hb dM_init_346 rfl (lv_at hl 0 rfl) ?_
  refine lv_bipush (v := 60) hx hb dM_init_347 (by decide) ?_
  refine newA_i C h (N := 60) (by decide) (by decide) (by decide) (by decide) (by decide) dM_init_349 (fun q42 H h => ?_)
  refine W.widen (k := 43) (n := 19480) (by decide) (by decide) ?_
  refine ipF C hnm 55 rfl rfl h rfl rfl rfl rfl dM_init_351 (fun H locs h => ?_)
  refine lv_aload_n hx hb dM_init_354 rfl (lv_at hl 0 rfl) ?_
  refine lv_bipush (v := 60) hx hb dM_init_355 (by decide) ?_
  refine newA_i C h (N := 60) (by decide) (by decide) (by decide) (by decide) (by decide) dM_init_357 (fun q43 H h => ?_)
  refine W.widen (k := 44) (n := 19540) (by decide) (by decide) ?_
  refine ipF C hnm 56 rfl rfl h rfl rfl rfl rfl dM_init_359 (fun H locs h => ?_)
  refine lv_aload_n hx hb dM_init_362 rfl (lv_at hl 0 rfl) ?_
  refine lv_bipush (v := 60) hx hb dM_init_363 (by decide) ?_
  refine newA_i C h (N := 60) (by decide) (by decide) (by decide) (by decide) (by decide) dM_init_365 (fun q44 H h => ?_)
  refine W.widen (k := 45) (n := 19600) (by decide) (by decide) ?_
  refine ipF C hnm 57 rfl rfl h rfl rfl rfl rfl dM_init_367 (fun H locs h => ?_)
  refine lv_aload_n hx hb dM_init_370 rfl (lv_at hl 0 rfl) ?_
  refine lv_bipush (v := 36) hx hb dM_init_371 (by decide) ?_
  refine newA_j C h (N := 36) (by decide) (by decide) (by decide) (by decide) (by decide) dM_init_373 (fun q45 H h => ?_)
  refine W.widen (k := 46) (n := 19636) (by decide) (by decide) ?_
  refine ipF C hnm 59 rfl rfl h rfl rfl rfl rfl dM_init_375 (fun H locs h => ?_)
  refine lv_aload_n hx hb dM_init_378 rfl (lv_at hl 0 rfl) ?_
  refine lv_bipush (v := 36) hx hb dM_init_379 (by decide) ?_
  refine newA_i C h (N := 36) (by decide) (by decide) (by decide) (by decide) (by decide) dM_init_381 (fun q46 H h => ?_)
  refine W.widen (k := 47) (n := 19672) (by decide) (by decide) ?_
  refine ipF C hnm 60 rfl rfl h rfl rfl rfl rfl dM_init_383 (fun H locs h => ?_)
  refine lv_aload_n hx hb dM_init_386 rfl (lv_at hl 0 rfl) ?_
  refine lv_sipush (v := 1300) hx hb dM_init_387 (by decide) ?_
  refine newA_i C h (N := 1300) (by decide) (by decide) (by decide) (by decide) (by decide) dM_init_390 (fun q47 H h => ?_)
  refine W.widen (k := 48) (n := 20972) (by decide) (by decide) ?_
  refine ipF C hnm 64 rfl rfl h rfl rfl rfl rfl dM_init_392 (fun H locs h => ?_)
  refine lv_aload_n hx hb dM_init_395 rfl (lv_at hl 0 rfl) ?_
  refine lv_sipush (v := 1300) hx hb dM_init_396 (by decide) ?_
  refine newA_i C h (N := 1300) (by decide) (by decide) (by decide) (by decide) (by decide) dM_init_399 (fun q48 H h => ?_)
  refine W.widen (k := 49) (n := 22272) (by decide) (by decide) ?_
  refine ipF C hnm 65 rfl rfl h rfl rfl rfl rfl dM_init_401 (fun H locs h => ?_)
  refine lv_aload_n hx hb dM_init_404 rfl (lv_at hl 0 rfl) ?_
  refine lv_sipush (v := 1300) hx hb dM_init_405 (by decide) ?_
  refine newA_i C h (N := 1300) (by decide) (by decide) (by decide) (by decide) (by decide) dM_init_408 (fun q49 H h => ?_)
  refine W.widen (k := 50) (n := 23572) (by decide) (by decide) ?_
  refine ipF C hnm 66 rfl rfl h rfl rfl rfl rfl dM_init_410 (fun H locs h => ?_)
  refine lv_aload_n hx hb dM_init_413 rfl (lv_at hl 0 rfl) ?_
  refine lv_sipush (v := 1300) hx hb dM_init_414 (by decide) ?_
  refine newA_i C h (N := 1300) (by decide) (by decide) (by decide) (by decide) (by decide) dM_init_417 (fun q50 H h => ?_)
  refine W.widen (k := 51) (n := 24872) (by decide) (by decide) ?_
  refine ipF C hnm 67 rfl rfl h rfl rfl rfl rfl dM_init_419 (fun H locs h => ?_)
  refine lv_aload_n hx hb dM_init_422 rfl (lv_at hl 0 rfl) ?_
  refine lv_sipush (v := 1300) hx hb dM_init_423 (by decide) ?_
  refine newA_i C h (N := 1300) (by decide) (by decide) (by decide) (by decide) (by decide) dM_init_426 (fun q51 H h => ?_)
  refine W.widen (k := 52) (n := 26172) (by decide) (by decide) ?_
  refine ipF C hnm 68 rfl rfl h rfl rfl rfl rfl dM_init_428 (fun H locs h => ?_)
  refine lv_aload_n hx hb dM_init_431 rfl (lv_at hl 0 rfl) ?_
  refine lv_sipush (v := 1300) hx hb dM_init_432 (by decide) ?_
  refine newA_i C h (N := 1300) (by decide) (by decide) (by decide) (by decide) (by decide) dM_init_435 (fun q52 H h => ?_)
  refine W.widen (k := 53) (n := 27472) (by decide) (by decide) ?_
  refine ipF C hnm 69 rfl rfl h rfl rfl rfl rfl dM_init_437 (fun H locs h => ?_)
  refine lv_aload_n hx hb dM_init_440 rfl (lv_at hl 0 rfl) ?_
  refine lv_sipush (v := 1300) hx hb dM_init_441 (by decide) ?_
  refine newA_i C h (N := 1300) (by decide) (by decide) (by decide) (by decide) (by decide) dM_init_444 (fun q53 H h => ?_)
  refine W.widen (k := 54) (n := 28772) (by decide) (by decide) ?_
  refine ipF C hnm 70 rfl rfl h rfl rfl rfl rfl dM_init_446 (fun H locs h => ?_)
  refine lv_aload_n hx hb dM_init_449 rfl (lv_at hl 0 rfl) ?_
  refine lv_sipush (v := 1300) hx hb dM_init_450 (by decide) ?_
  refine newA_i C h (N := 1300) (by decide) (by decide) (by decide) (by decide) (by decide) dM_init_453 (fun q54 H h => ?_)
  refine W.widen (k := 55) (n := 30072) (by decide) (by decide) ?_
  refine ipF C hnm 71 rfl rfl h rfl rfl rfl rfl dM_init_455 (fun H locs h => ?_)
  refine lv_aload_n hx hb dM_init_458 rfl (lv_at hl 0 rfl) ?_
  refine lv_sipush (v := 1300) hx hb dM_init_459 (by decide) ?_
  refine newA_i C h (N := 1300) (by decide) (by decide) (by decide) (by decide) (by decide) dM_init_462 (fun q55 H h => ?_)
  refine W.widen (k := 56) (n := 31372) (by decide) (by decide) ?_
  refine ipF C hnm 72 rfl rfl h rfl rfl rfl rfl dM_init_464 (fun H locs h => ?_)
  refine lv_aload_n hx hb dM_init_467 rfl (lv_at hl 0 rfl) ?_
  refine lv_sipush (v := 1300) hx hb dM_init_468 (by decide) ?_
  refine newA_i C h (N := 1300) (by decide) (by decide) (by decide) (by decide) (by decide) dM_init_471 (fun q56 H h => ?_)
  refine W.widen (k := 57) (n := 32672) (by decide) (by decide) ?_
  refine ipF C hnm 73 rfl rfl h rfl rfl rfl rfl dM_init_473 (fun H locs h => ?_)
  refine lv_aload_n hx hb dM_init_476 rfl (lv_at hl 0 rfl) ?_
  refine lv_sipush (v := 3900) hx hb dM_init_477 (by decide) ?_
  refine newA_i C h (N := 3900) (by decide) (by decide) (by decide) (by decide) (by decide) dM_init_480 (fun q57 H h => ?_)
  refine W.widen (k := 58) (n := 36572) (by decide) (by decide) ?_
  refine ipF C hnm 74 rfl rfl h rfl rfl rfl rfl dM_init_482 (fun H locs h => ?_)
  refine lv_aload_n hx hb dM_init_485 rfl (lv_at hl 0 rfl) ?_
  refine lv_sipush (v := 1300) hx hb dM_init_486 (by decide) ?_
  refine newA_i C h (N := 1300) (by decide) (by decide) (by decide) (by decide) (by decide) dM_init_489 (fun q58 H h => ?_)
  refine W.widen (k := 59) (n := 37872) (by decide) (by decide) ?_
  refine ipF C hnm 77 rfl rfl h rfl rfl rfl rfl dM_init_491 (fun H locs h => ?_)
  refine lv_aload_n hx hb dM_init_494 rfl (lv_at hl 0 rfl) ?_
  refine lv_sipush (v := 1300) hx hb dM_init_495 (by decide) ?_
  refine newA_i C h (N := 1300) (by decide) (by decide) (by decide) (by decide) (by decide) dM_init_498 (fun q59 H h => ?_)
  refine W.widen (k := 60) (n := 39172) (by decide) (by decide) ?_
  refine ipF C hnm 78 rfl rfl h rfl rfl rfl rfl dM_init_500 (fun H locs h => ?_)
  refine lv_aload_n hx hb dM_init_503 rfl (lv_at hl 0 rfl) ?_
  refine lv_sipush (v := 1300) hx hb dM_init_504 (by decide) ?_
  refine newA_i C h (N := 1300) (by decide) (by decide) (by decide) (by decide) (by decide) dM_init_507 (fun q60 H h => ?_)
  refine W.widen (k := 61) (n := 40472) (by decide) (by decide) ?_
  refine ipF C hnm 79 rfl rfl h rfl rfl rfl rfl dM_init_509 (fun H locs h => ?_)
  refine lv_aload_n hx hb dM_init_512 rfl (lv_at hl 0 rfl) ?_
  refine lv_sipush (v := 1300) hx hb dM_init_513 (by decide) ?_
  refine newA_i C h (N := 1300) (by decide) (by decide) (by decide) (by decide) (by decide) dM_init_516 (fun q61 H h => ?_)
  refine W.widen (k := 62) (n := 41772) (by decide) (by decide) ?_
  refine ipF C hnm 80 rfl rfl h rfl rfl rfl rfl dM_init_518 (fun H locs h => ?_)
  refine lv_aload_n hx hb dM_init_521 rfl (lv_at hl 0 rfl) ?_
  refine lv_sipush (v := 1300) hx hb dM_init_522 (by decide) ?_
  refine newA_i C h (N := 1300) (by decide) (by decide) (by decide) (by decide) (by decide) dM_init_525 (fun q62 H h => ?_)
  refine W.widen (k := 63) (n := 43072) (by decide) (by decide) ?_
  refine ipF C hnm 81 rfl rfl h rfl rfl rfl rfl dM_init_527 (fun H locs h => ?_)
  refine lv_aload_n hx hb dM_init_530 rfl (lv_at hl 0 rfl) ?_
  refine lv_sipush (v := 1300) hx hb dM_init_531 (by decide) ?_
  refine newA_i C h (N := 1300) (by decide) (by decide) (by decide) (by decide) (by decide) dM_init_534 (fun q63 H h => ?_)
  refine W.widen (k := 64) (n := 44372) (by decide) (by decide) ?_
  refine ipF C hnm 82 rfl rfl h rfl rfl rfl rfl dM_init_536 (fun H locs h => ?_)
  refine lv_aload_n hx hb dM_init_539 rfl (lv_at hl 0 rfl) ?_
  refine lv_sipush (v := 3900) hx hb dM_init_540 (by decide) ?_
  refine newA_i C h (N := 3900) (by decide) (by decide) (by decide) (by decide) (by decide) dM_init_543 (fun q64 H h => ?_)
  refine W.widen (k := 65) (n := 48272) (by decide) (by decide) ?_
  refine ipF C hnm 83 rfl rfl h rfl rfl rfl rfl dM_init_545 (fun H locs h => ?_)
  refine lv_aload_n hx hb dM_init_548 rfl (lv_at hl 0 rfl) ?_
  refine lv_sipush (v := 1300) hx hb dM_init_549 (by decide) ?_
  refine newA_i C h (N := 1300) (by decide) (by decide) (by decide) (by decide) (by decide) dM_init_552 (fun q65 H h => ?_)
  refine W.widen (k := 66) (n := 49572) (by decide) (by decide) ?_
  refine ipF C hnm 84 rfl rfl h rfl rfl rfl rfl dM_init_554 (fun H locs h => ?_)
  refine lv_aload_n hx hb dM_init_557 rfl (lv_at hl 0 rfl) ?_
  refine lv_sipush (v := 1300) hx hb dM_init_558 (by decide) ?_
  refine newA_i C h (N := 1300) (by decide) (by decide) (by decide) (by decide) (by decide) dM_init_561 (fun q66 H h => ?_)
  refine W.widen (k := 67) (n := 50872) (by decide) (by decide) ?_
  refine ipF C hnm 85 rfl rfl h rfl rfl rfl rfl dM_init_563 (fun H locs h => ?_)
  refine lv_aload_n hx hb dM_init_566 rfl (lv_at hl 0 rfl) ?_
  refine lv_sipush (v := 1300) hx hb dM_init_567 (by decide) ?_
  refine newA_i C h (N := 1300) (by decide) (by decide) (by decide) (by decide) (by decide) dM_init_570 (fun q67 H h => ?_)
  refine W.widen (k := 68) (n := 52172) (by decide) (by decide) ?_
  refine ipF C hnm 86 rfl rfl h rfl rfl rfl rfl dM_init_572 (fun H locs h => ?_)
  refine lv_aload_n hx hb dM_init_575 rfl (lv_at hl 0 rfl) ?_
  refine lv_sipush (v := 1300) hx hb dM_init_576 (by decide) ?_
  refine newA_i C h (N := 1300) (by decide) (by decide) (by decide) (by decide) (by decide) dM_init_579 (fun q68 H h => ?_)
  refine W.widen (k := 69) (n := 53472) (by decide) (by decide) ?_
  refine ipF C hnm 87 rfl rfl h rfl rfl rfl rfl dM_init_581 (fun H locs h => ?_)
  refine lv_aload_n hx hb dM_init_584 rfl (lv_at hl 0 rfl) ?_
  refine lv_sipush (v := 1300) hx hb dM_init_585 (by decide) ?_
  refine newA_i C h (N := 1300) (by decide) (by decide) (by decide) (by decide) (by decide) dM_init_588 (fun q69 H h => ?_)
  refine W.widen (k := 70) (n := 54772) (by decide) (by decide) ?_
  refine ipF C hnm 88 rfl rfl h rfl rfl rfl rfl dM_init_590 (fun H locs h => ?_)
  refine lv_aload_n hx hb dM_init_593 rfl (lv_at hl 0 rfl) ?_
  refine lv_sipush (v := 1300) hx hb dM_init_594 (by decide) ?_
  refine newA_z C h (N := 1300) (by decide) (by decide) (by decide) (by decide) (by decide) dM_init_597 (fun q70 H h => ?_)
  refine W.widen (k := 71) (n := 56072) (by decide) (by decide) ?_
  refine ipF C hnm 89 rfl rfl h rfl rfl rfl rfl dM_init_599 (fun H locs h => ?_)
  refine lv_aload_n hx hb dM_init_602 rfl (lv_at hl 0 rfl) ?_
  refine lv_sipush (v := 1300) hx hb dM_init_603 (by decide) ?_
  refine newA_i C h (N := 1300) (by decide) (by decide) (by decide) (by decide) (by decide) dM_init_606 (fun q71 H h => ?_)
  refine W.widen (k := 72) (n := 57372) (by decide) (by decide) ?_
  refine ipF C hnm 91 rfl rfl h rfl rfl rfl rfl dM_init_608 (fun H locs h => ?_)
  refine lv_aload_n hx hb dM_init_611 rfl (lv_at hl 0 rfl) ?_
  refine lv_sipush (v := 1300) hx hb dM_init_612 (by decide) ?_
  refine newA_i C h (N := 1300) (by decide) (by decide) (by decide) (by decide) (by decide) dM_init_615 (fun q72 H h => ?_)
  refine W.widen (k := 73) (n := 58672) (by decide) (by decide) ?_
  refine ipF C hnm 92 rfl rfl h rfl rfl rfl rfl dM_init_617 (fun H locs h => ?_)
  refine lv_aload_n hx hb dM_init_620 rfl (lv_at hl 0 rfl) ?_
  refine lv_sipush (v := 1300) hx hb dM_init_621 (by decide) ?_
  refine newA_i C h (N := 1300) (by decide) (by decide) (by decide) (by decide) (by decide) dM_init_624 (fun q73 H h => ?_)
  refine W.widen (k := 74) (n := 59972) (by decide) (by decide) ?_
  refine ipF C hnm 93 rfl rfl h rfl rfl rfl rfl dM_init_626 (fun H locs h => ?_)
  refine lv_aload_n hx hb dM_init_629 rfl (lv_at hl 0 rfl) ?_
  refine lv_sipush (v := 1300) hx hb dM_init_630 (by decide) ?_
  refine newA_i C h (N := 1300) (by decide) (by decide) (by decide) (by decide) (by decide) dM_init_633 (fun q74 H h => ?_)
  refine W.widen (k := 75) (n := 61272) (by decide) (by decide) ?_
  refine ipF C hnm 94 rfl rfl h rfl rfl rfl rfl dM_init_635 (fun H locs h => ?_)
  refine lv_aload_n hx hb dM_init_638 rfl (lv_at hl 0 rfl) ?_
  refine lv_bipush (v := 14) hx hb dM_init_639 (by decide) ?_
  refine newA_i C h (N := 14) (by decide) (by decide) (by decide) (by decide) (by decide) dM_init_641 (fun q75 H h => ?_)
  refine W.widen (k := 76) (n := 61286) (by decide) (by decide) ?_
  refine ipF C hnm 95 rfl rfl h rfl rfl rfl rfl dM_init_643 (fun H locs h => ?_)
  refine lv_aload_n hx hb dM_init_646 rfl (lv_at hl 0 rfl) ?_
  refine lv_bipush (v := 14) hx hb dM_init_647 (by decide) ?_
  refine newA_i C h (N := 14) (by decide) (by decide) (by decide) (by decide) (by decide) dM_init_649 (fun q76 H h => ?_)
  refine W.widen (k := 77) (n := 61300) (by decide) (by decide) ?_
  refine ipF C hnm 96 rfl rfl h rfl rfl rfl rfl dM_init_651 (fun H locs h => ?_)
  refine lv_aload_n hx hb dM_init_654 rfl (lv_at hl 0 rfl) ?_
  refine lv_bipush (v := 14) hx hb dM_init_655 (by decide) ?_
  refine newA_i C h (N := 14) (by decide) (by decide) (by decide) (by decide) (by decide) dM_init_657 (fun q77 H h => ?_)
  refine W.widen (k := 78) (n := 61314) (by decide) (by decide) ?_
  refine ipF C hnm 97 rfl rfl h rfl rfl rfl rfl dM_init_659 (fun H locs h => ?_)
  refine lv_aload_n hx hb dM_init_662 rfl (lv_at hl 0 rfl) ?_
  refine lv_bipush (v := 14) hx hb dM_init_663 (by decide) ?_
  refine newA_i C h (N := 14) (by decide) (by decide) (by decide) (by decide) (by decide) dM_init_665 (fun q78 H h => ?_)
  refine W.widen (k := 79) (n := 61328) (by decide) (by decide) ?_
  refine ipF C hnm 98 rfl rfl h rfl rfl rfl rfl dM_init_667 (fun H locs h => ?_)
  refine lv_aload_n hx hb dM_init_670 rfl (lv_at hl 0 rfl) ?_
  refine lv_bipush (v := 14) hx hb dM_init_671 (by decide) ?_
  refine newA_i C h (N := 14) (by decide) (by decide) (by decide) (by decide) (by decide) dM_init_673 (fun q79 H h => ?_)
  refine W.widen (k := 80) (n := 61342) (by decide) (by decide) ?_
  refine ipF C hnm 99 rfl rfl h rfl rfl rfl rfl dM_init_675 (fun H locs h => ?_)
  refine lv_aload_n hx hb dM_init_678 rfl (lv_at hl 0 rfl) ?_
  refine lv_bipush (v := 14) hx hb dM_init_679 (by decide) ?_
  refine newA_z C h (N := 14) (by decide) (by decide) (by decide) (by decide) (by decide) dM_init_681 (fun q80 H h => ?_)
  refine W.widen (k := 81) (n := 61356) (by decide) (by decide) ?_
  refine ipF C hnm 100 rfl rfl h rfl rfl rfl rfl dM_init_683 (fun H locs h => ?_)
  refine lv_aload_n hx hb dM_init_686 rfl (lv_at hl 0 rfl) ?_
  refine lv_bipush (v := 14) hx hb dM_init_687 (by decide) ?_
  refine newA_z C h (N := 14) (by decide) (by decide) (by decide) (by decide) (by decide) dM_init_689 (fun q81 H h => ?_)
  refine W.widen (k := 82) (n := 61370) (by decide) (by decide) ?_
  refine ipF C hnm 101 rfl rfl h rfl rfl rfl rfl dM_init_691 (fun H locs h => ?_)
  refine lv_aload_n hx hb dM_init_694 rfl (lv_at hl 0 rfl) ?_
  refine lv_sipush (v := 3000) hx hb dM_init_695 (by decide) ?_
  refine newA_i C h (N := 3000) (by decide) (by decide) (by decide) (by decide) (by decide) dM_init_698 (fun q82 H h => ?_)
  refine W.widen (k := 83) (n := 64370) (by decide) (by decide) ?_
  refine ipF C hnm 105 rfl rfl h rfl rfl rfl rfl dM_init_700 (fun H locs h => ?_)
  refine lv_aload_n hx hb dM_init_703 rfl (lv_at hl 0 rfl) ?_
  refine lv_sipush (v := 3000) hx hb dM_init_704 (by decide) ?_
  refine newA_i C h (N := 3000) (by decide) (by decide) (by decide) (by decide) (by decide) dM_init_707 (fun q83 H h => ?_)
  refine W.widen (k := 84) (n := 67370) (by decide) (by decide) ?_
  refine ipF C hnm 106 rfl rfl h rfl rfl rfl rfl dM_init_709 (fun H locs h => ?_)
  refine lv_aload_n hx hb dM_init_712 rfl (lv_at hl 0 rfl) ?_
  refine lv_sipush (v := 1240) hx hb dM_init_713 (by decide) ?_
  refine newA_i C h (N := 1240) (by decide) (by decide) (by decide) (by decide) (by decide) dM_init_716 (fun q84 H h => ?_)
  refine W.widen (k := 85) (n := 68610) (by decide) (by decide) ?_
  refine ipF C hnm 110 rfl rfl h rfl rfl rfl rfl dM_init_718 (fun H locs h => ?_)
  refine lv_aload_n hx hb dM_init_721 rfl (lv_at hl 0 rfl) ?_
  refine lv_sipush (v := 1240) hx hb dM_init_722 (by decide) ?_
  refine newA_i C h (N := 1240) (by decide) (by decide) (by decide) (by decide) (by decide) dM_init_725 (fun q85 H h => ?_)
  refine W.widen (k := 86) (n := 69850) (by decide) (by decide) ?_
  refine ipF C hnm 111 rfl rfl h rfl rfl rfl rfl dM_init_727 (fun H locs h => ?_)
  refine lv_aload_n hx hb dM_init_730 rfl (lv_at hl 0 rfl) ?_
  refine lv_sipush (v := 1202) hx hb dM_init_731 (by decide) ?_
  refine newA_i C h (N := 1202) (by decide) (by decide) (by decide) (by decide) (by decide) dM_init_734 (fun q86 H h => ?_)
  refine W.widen (k := 87) (n := 71052) (by decide) (by decide) ?_
  refine ipF C hnm 113 rfl rfl h rfl rfl rfl rfl dM_init_736 (fun H locs h => ?_)
  refine lv_aload_n hx hb dM_init_739 rfl (lv_at hl 0 rfl) ?_
  refine lv_sipush (v := 1202) hx hb dM_init_740 (by decide) ?_
  refine newA_i C h (N := 1202) (by decide) (by decide) (by decide) (by decide) (by decide) dM_init_743 (fun q87 H h => ?_)
  refine W.widen (k := 88) (n := 72254) (by decide) (by decide) ?_
  refine ipF C hnm 114 rfl rfl h rfl rfl rfl rfl dM_init_745 (fun H locs h => ?_)
  refine lv_aload_n hx hb dM_init_748 rfl (lv_at hl 0 rfl) ?_
  refine lv_sipush (v := 1202) hx hb dM_init_749 (by decide) ?_
  refine newA_z C h (N := 1202) (by decide) (by decide) (by decide) (by decide) (by decide) dM_init_752 (fun q88 H h => ?_)
  refine W.widen (k := 89) (n := 73456) (by decide) (by decide) ?_
  refine ipF C hnm 115 rfl rfl h rfl rfl rfl rfl dM_init_754 (fun H locs h => ?_)
  refine lv_aload_n hx hb dM_init_757 rfl (lv_at hl 0 rfl) ?_
  refine lv_bipush (v := 40) hx hb dM_init_758 (by decide) ?_
  refine newA_z C h (N := 40) (by decide) (by decide) (by decide) (by decide) (by decide) dM_init_760 (fun q89 H h => ?_)
  refine W.widen (k := 90) (n := 73496) (by decide) (by decide) ?_
  refine ipF C hnm 117 rfl rfl h rfl rfl rfl rfl dM_init_762 (fun H locs h => ?_)
  refine lv_aload_n hx hb dM_init_765 rfl (lv_at hl 0 rfl) ?_
  refine lv_iconst (v := -1) hx hb dM_init_766 (by decide) ?_
  refine ipI C h m_place (by decide) rfl rfl rfl rfl rfl dM_init_767 (fun H locs h => ?_)
  refine lv_aload_n hx hb dM_init_770 rfl (lv_at hl 0 rfl) ?_
  refine lv_sipush (v := 400) hx hb dM_init_771 (by decide) ?_
  refine newA_i C h (N := 400) (by decide) (by decide) (by decide) (by decide) (by decide) dM_init_774 (fun q90 H h => ?_)
  refine W.widen (k := 91) (n := 73896) (by decide) (by decide) ?_
  refine ipF C hnm 121 rfl rfl h rfl rfl rfl rfl dM_init_776 (fun H locs h => ?_)
  refine lv_aload_n hx hb dM_init_779 rfl (lv_at hl 0 rfl) ?_
  refine lv_sipush (v := 400) hx hb dM_init_780 (by decide) ?_
  refine newA_i C h (N := 400) (by decide) (by decide) (by decide) (by decide) (by decide) dM_init_783 (fun q91 H h => ?_)
  refine W.widen (k := 92) (n := 74296) (by decide) (by decide) ?_
  refine ipF C hnm 122 rfl rfl h rfl rfl rfl rfl dM_init_785 (fun H locs h => ?_)
  refine lv_aload_n hx hb dM_init_788 rfl (lv_at hl 0 rfl) ?_
  refine lv_bipush (v := 6) hx hb dM_init_789 (by decide) ?_
  refine newA_i C h (N := 6) (by decide) (by decide) (by decide) (by decide) (by decide) dM_init_791 (fun q92 H h => ?_)
  refine W.widen (k := 93) (n := 74302) (by decide) (by decide) ?_
  refine ipF C hnm 123 rfl rfl h rfl rfl rfl rfl dM_init_793 (fun H locs h => ?_)
  refine lv_aload_n hx hb dM_init_796 rfl (lv_at hl 0 rfl) ?_
  refine lv_sipush (v := 1300) hx hb dM_init_797 (by decide) ?_
  refine newA_z C h (N := 1300) (by decide) (by decide) (by decide) (by decide) (by decide) dM_init_800 (fun q93 H h => ?_)
  refine W.widen (k := 94) (n := 75602) (by decide) (by decide) ?_
  refine ipF C hnm 124 rfl rfl h rfl rfl rfl rfl dM_init_802 (fun H locs h => ?_)
  refine lv_aload_n hx hb dM_init_805 rfl (lv_at hl 0 rfl) ?_
  refine lv_sipush (v := 1104) hx hb dM_init_806 (by decide) ?_
  refine newA_i C h (N := 1104) (by decide) (by decide) (by decide) (by decide) (by decide) dM_init_809 (fun q94 H h => ?_)
  refine W.widen (k := 95) (n := 76706) (by decide) (by decide) ?_
  refine ipN C 125 rfl rfl h rfl rfl rfl rfl dM_init_811 (fun H locs h => ?_)
  refine lv_aload_n hx hb dM_init_814 rfl (lv_at hl 0 rfl) ?_
  refine lv_sipush (v := 2000) hx hb dM_init_815 (by decide) ?_
  refine newA_i C h (N := 2000) (by decide) (by decide) (by decide) (by decide) (by decide) dM_init_818 (fun q95 H h => ?_)
  refine W.widen (k := 96) (n := 78706) (by decide) (by decide) ?_
  refine ipF C hnm 140 rfl rfl h rfl rfl rfl rfl dM_init_820 (fun H locs h => ?_)
  refine lv_aload_n hx hb dM_init_823 rfl (lv_at hl 0 rfl) ?_
  refine lv_sipush (v := 1200) hx hb dM_init_824 (by decide) ?_
  refine newA_i C h (N := 1200) (by decide) (by decide) (by decide) (by decide) (by decide) dM_init_827 (fun q96 H h => ?_)
  refine W.widen (k := 97) (n := 79906) (by decide) (by decide) ?_
  refine ipF C hnm 141 rfl rfl h rfl rfl rfl rfl dM_init_829 (fun H locs h => ?_)
  refine lv_aload_n hx hb dM_init_832 rfl (lv_at hl 0 rfl) ?_
  refine lv_iconst (v := 3) hx hb dM_init_833 (by decide) ?_
  refine newA_i C h (N := 3) (by decide) (by decide) (by decide) (by decide) (by decide) dM_init_834 (fun q97 H h => ?_)
  refine W.widen (k := 98) (n := 79909) (by decide) (by decide) ?_
  refine ipF C hnm 146 rfl rfl h rfl rfl rfl rfl dM_init_836 (fun H locs h => ?_)
  refine lv_aload_n hx hb dM_init_839 rfl (lv_at hl 0 rfl) ?_
  refine lv_sipush (v := 1202) hx hb dM_init_840 (by decide) ?_
  refine newA_i C h (N := 1202) (by decide) (by decide) (by decide) (by decide) (by decide) dM_init_843 (fun q98 H h => ?_)
  refine W.widen (k := 99) (n := 81111) (by decide) (by decide) ?_
  refine ipF C hnm 147 rfl rfl h rfl rfl rfl rfl dM_init_845 (fun H locs h => ?_)
  refine lv_aload_n hx hb dM_init_848 rfl (lv_at hl 0 rfl) ?_
  refine lv_iconst (v := 3) hx hb dM_init_849 (by decide) ?_
  refine newA_i C h (N := 3) (by decide) (by decide) (by decide) (by decide) (by decide) dM_init_850 (fun q99 H h => ?_)
  refine W.widen (k := 100) (n := 81114) (by decide) (by decide) ?_
  refine ipF C hnm 150 rfl rfl h rfl rfl rfl rfl dM_init_852 (fun H locs h => ?_)
  refine lv_aload_n hx hb dM_init_855 rfl (lv_at hl 0 rfl) ?_
  refine lv_ldcw (v := 220800) hx hb C.1.2.2.2.1 (C.1.2.2.2.2 _ k_c317) dM_init_856 ?_
  refine newA_i C h (N := 220800) (by decide) (by decide) (by decide) (by decide) (by decide) dM_init_859 (fun q100 H h => ?_)
  refine W.widen (k := 101) (n := 301914) (by decide) (by decide) ?_
  refine ipF C hnm 154 rfl rfl h rfl rfl rfl rfl dM_init_861 (fun H locs h => ?_)
  refine lv_aload_n hx hb dM_init_864 rfl (lv_at hl 0 rfl) ?_
  refine lv_sipush (v := 1104) hx hb dM_init_865 (by decide) ?_
  refine newA_i C h (N := 1104) (by decide) (by decide) (by decide) (by decide) (by decide) dM_init_868 (fun q101 H h => ?_)
  refine W.widen (k := 102) (n := 303018) (by decide) (by decide) ?_
  refine ipF C hnm 155 rfl rfl h rfl rfl rfl rfl dM_init_870 (fun H locs h => ?_)
  refine lv_aload_n hx hb dM_init_873 rfl (lv_at hl 0 rfl) ?_
  refine lv_sipush (v := 200) hx hb dM_init_874 (by decide) ?_
  refine newA_i C h (N := 200) (by decide) (by decide) (by decide) (by decide) (by decide) dM_init_877 (fun q102 H h => ?_)
  refine W.widen (k := 103) (n := 303218) (by decide) (by decide) ?_
  refine ipF C hnm 156 rfl rfl h rfl rfl rfl rfl dM_init_879 (fun H locs h => ?_)
  refine lv_aload_n hx hb dM_init_882 rfl (lv_at hl 0 rfl) ?_
  refine lv_sipush (v := 200) hx hb dM_init_883 (by decide) ?_
  refine newA_i C h (N := 200) (by decide) (by decide) (by decide) (by decide) (by decide) dM_init_886 (fun q103 H h => ?_)
  refine W.widen (k := 104) (n := 303418) (by decide) (by decide) ?_
  refine ipF C hnm 157 rfl rfl h rfl rfl rfl rfl dM_init_888 (fun H locs h => ?_)
  refine lv_aload_n hx hb dM_init_891 rfl (lv_at hl 0 rfl) ?_
  refine lv_sipush (v := 200) hx hb dM_init_892 (by decide) ?_
  refine newA_i C h (N := 200) (by decide) (by decide) (by decide) (by decide) (by decide) dM_init_895 (fun q104 H h => ?_)
  refine W.widen (k := 105) (n := 303618) (by decide) (by decide) ?_
  refine ipF C hnm 158 rfl rfl h rfl rfl rfl rfl dM_init_897 (fun H locs h => ?_)
  refine lv_aload_n hx hb dM_init_900 rfl (lv_at hl 0 rfl) ?_
  refine lv_sipush (v := 200) hx hb dM_init_901 (by decide) ?_
  refine newA_i C h (N := 200) (by decide) (by decide) (by decide) (by decide) (by decide) dM_init_904 (fun q105 H h => ?_)
  refine W.widen (k := 106) (n := 303818) (by decide) (by decide) ?_
  refine ipF C hnm 159 rfl rfl h rfl rfl rfl rfl dM_init_906 (fun H locs h => ?_)
  refine lv_aload_n hx hb dM_init_909 rfl (lv_at hl 0 rfl) ?_
  refine lv_sipush (v := 200) hx hb dM_init_910 (by decide) ?_
  refine newA_i C h (N := 200) (by decide) (by decide) (by decide) (by decide) (by decide) dM_init_913 (fun q106 H h => ?_)
  refine W.widen (k := 107) (n := 304018) (by decide) (by decide) ?_
  refine ipF C hnm 160 rfl rfl h rfl rfl rfl rfl dM_init_915 (fun H locs h => ?_)
  refine lv_aload_n hx hb dM_init_918 rfl (lv_at hl 0 rfl) ?_
  refine lv_sipush (v := 200) hx hb dM_init_919 (by decide) ?_
  refine newA_i C h (N := 200) (by decide) (by decide) (by decide) (by decide) (by decide) dM_init_922 (fun q107 H h => ?_)
  refine W.widen (k := 108) (n := 304218) (by decide) (by decide) ?_
  refine ipF C hnm 161 rfl rfl h rfl rfl rfl rfl dM_init_924 (fun H locs h => ?_)
  refine lv_aload_n hx hb dM_init_927 rfl (lv_at hl 0 rfl) ?_
  refine lv_sipush (v := 200) hx hb dM_init_928 (by decide) ?_
  refine newA_i C h (N := 200) (by decide) (by decide) (by decide) (by decide) (by decide) dM_init_931 (fun q108 H h => ?_)
  refine W.widen (k := 109) (n := 304418) (by decide) (by decide) ?_
  refine ipF C hnm 162 rfl rfl h rfl rfl rfl rfl dM_init_933 (fun H locs h => ?_)
  refine lv_aload_n hx hb dM_init_936 rfl (lv_at hl 0 rfl) ?_
  refine lv_bipush (v := 8) hx hb dM_init_937 (by decide) ?_
  refine newA_j C h (N := 8) (by decide) (by decide) (by decide) (by decide) (by decide) dM_init_939 (fun q109 H h => ?_)
  refine W.widen (k := 110) (n := 304426) (by decide) (by decide) ?_
  refine ipF C hnm 173 rfl rfl h rfl rfl rfl rfl dM_init_941 (fun H locs h => ?_)
  refine lv_aload_n hx hb dM_init_944 rfl (lv_at hl 0 rfl) ?_
  refine lv_bipush (v := 8) hx hb dM_init_945 (by decide) ?_
  refine newA_i C h (N := 8) (by decide) (by decide) (by decide) (by decide) (by decide) dM_init_947 (fun q110 H h => ?_)
  refine W.widen (k := 111) (n := 304434) (by decide) (by decide) ?_
  refine ipF C hnm 174 rfl rfl h rfl rfl rfl rfl dM_init_949 (fun H locs h => ?_)
  refine lv_aload_n hx hb dM_init_952 rfl (lv_at hl 0 rfl) ?_
  refine lv_bipush (v := 40) hx hb dM_init_953 (by decide) ?_
  refine newA_i C h (N := 40) (by decide) (by decide) (by decide) (by decide) (by decide) dM_init_955 (fun q111 H h => ?_)
  refine W.widen (k := 112) (n := 304474) (by decide) (by decide) ?_
  refine ipF C hnm 175 rfl rfl h rfl rfl rfl rfl dM_init_957 (fun H locs h => ?_)
  refine lv_aload_n hx hb dM_init_960 rfl (lv_at hl 0 rfl) ?_
  refine lv_bipush (v := 40) hx hb dM_init_961 (by decide) ?_
  refine newA_i C h (N := 40) (by decide) (by decide) (by decide) (by decide) (by decide) dM_init_963 (fun q112 H h => ?_)
  refine W.widen (k := 113) (n := 304514) (by decide) (by decide) ?_
  refine ipF C hnm 176 rfl rfl h rfl rfl rfl rfl dM_init_965 (fun H locs h => ?_)
  refine lv_aload_n hx hb dM_init_968 rfl (lv_at hl 0 rfl) ?_
  refine lv_bipush (v := 40) hx hb dM_init_969 (by decide) ?_
  refine newA_i C h (N := 40) (by decide) (by decide) (by decide) (by decide) (by decide) dM_init_971 (fun q113 H h => ?_)
  refine W.widen (k := 114) (n := 304554) (by decide) (by decide) ?_
  refine ipF C hnm 177 rfl rfl h rfl rfl rfl rfl dM_init_973 (fun H locs h => ?_)
  refine lv_aload_n hx hb dM_init_976 rfl (lv_at hl 0 rfl) ?_
  refine lv_bipush (v := 40) hx hb dM_init_977 (by decide) ?_
  refine newA_i C h (N := 40) (by decide) (by decide) (by decide) (by decide) (by decide) dM_init_979 (fun q114 H h => ?_)
  refine W.widen (k := 115) (n := 304594) (by decide) (by decide) ?_
  refine ipF C hnm 178 rfl rfl h rfl rfl rfl rfl dM_init_981 (fun H locs h => ?_)
  refine lv_aload_n hx hb dM_init_984 rfl (lv_at hl 0 rfl) ?_
  refine lv_bipush (v := 120) hx hb dM_init_985 (by decide) ?_
  refine newA_i C h (N := 120) (by decide) (by decide) (by decide) (by decide) (by decide) dM_init_987 (fun q115 H h => ?_)
  refine W.widen (k := 116) (n := 304714) (by decide) (by decide) ?_
  refine ipF C hnm 179 rfl rfl h rfl rfl rfl rfl dM_init_989 (fun H locs h => ?_)
  refine lv_aload_n hx hb dM_init_992 rfl (lv_at hl 0 rfl) ?_
  refine lv_bipush (v := 120) hx hb dM_init_993 (by decide) ?_
  refine newA_i C h (N := 120) (by decide) (by decide) (by decide) (by decide) (by decide) dM_init_995 (fun q116 H h => ?_)
  refine W.widen (k := 117) (n := 304834) (by decide) (by decide) ?_
  refine ipF C hnm 180 rfl rfl h rfl rfl rfl rfl dM_init_997 (fun H locs h => ?_)
  refine lv_aload_n hx hb dM_init_1000 rfl (lv_at hl 0 rfl) ?_
  refine lv_bipush (v := 6) hx hb dM_init_1001 (by decide) ?_
  refine newA_i C h (N := 6) (by decide) (by decide) (by decide) (by decide) (by decide) dM_init_1003 (fun q117 H h => ?_)
  refine W.widen (k := 118) (n := 304840) (by decide) (by decide) ?_
  refine ipF C hnm 181 rfl rfl h rfl rfl rfl rfl dM_init_1005 (fun H locs h => ?_)
  refine lv_aload_n hx hb dM_init_1008 rfl (lv_at hl 0 rfl) ?_
  refine lv_iconst (v := 3) hx hb dM_init_1009 (by decide) ?_
  refine newA_i C h (N := 3) (by decide) (by decide) (by decide) (by decide) (by decide) dM_init_1010 (fun q118 H h => ?_)
  refine W.widen (k := 119) (n := 304843) (by decide) (by decide) ?_
  refine ipF C hnm 182 rfl rfl h rfl rfl rfl rfl dM_init_1012 (fun H locs h => ?_)
  refine lv_aload_n hx hb dM_init_1015 rfl (lv_at hl 0 rfl) ?_
  refine lv_iconst (v := 3) hx hb dM_init_1016 (by decide) ?_
  refine newA_i C h (N := 3) (by decide) (by decide) (by decide) (by decide) (by decide) dM_init_1017 (fun q119 H h => ?_)
  refine W.widen (k := 120) (n := 304846) (by decide) (by decide) ?_
  refine ipF C hnm 183 rfl rfl h rfl rfl rfl rfl dM_init_1019 (fun H locs h => ?_)
  refine lv_aload_n hx hb dM_init_1022 rfl (lv_at hl 0 rfl) ?_
  refine lv_bipush (v := 6) hx hb dM_init_1023 (by decide) ?_
  refine newA_i C h (N := 6) (by decide) (by decide) (by decide) (by decide) (by decide) dM_init_1025 (fun q120 H h => ?_)
  refine W.widen (k := 121) (n := 304852) (by decide) (by decide) ?_
  refine ipF C hnm 184 rfl rfl h rfl rfl rfl rfl dM_init_1027 (fun H locs h => ?_)
  refine lv_aload_n hx hb dM_init_1030 rfl (lv_at hl 0 rfl) ?_
  refine lv_bipush (v := 6) hx hb dM_init_1031 (by decide) ?_
  refine newA_z C h (N := 6) (by decide) (by decide) (by decide) (by decide) (by decide) dM_init_1033 (fun q121 H h => ?_)
  refine W.widen (k := 122) (n := 304858) (by decide) (by decide) ?_
  refine ipF C hnm 185 rfl rfl h rfl rfl rfl rfl dM_init_1035 (fun H locs h => ?_)
  rw [pW_end] at h
  exact t_initL (ak := ak) (sv := sv) C hr hlk hE h (lv_sub hl [0] rfl)
