theorem dTk_learn_0 : decode cTk_learn 0 = .ok (.iload_n 2, 1) := by decide +kernel
theorem dTk_learn_1 : decode cTk_learn 1 = .ok (.istore_n 3, 1) := by decide +kernel
theorem dTk_learn_2 : decode cTk_learn 2 = .ok (.lconst 0, 1) := by decide +kernel
theorem dTk_learn_3 : decode cTk_learn 3 = .ok (.lstore 4, 2) := by decide +kernel
theorem dTk_learn_5 : decode cTk_learn 5 = .ok (.iconst 0, 1) := by decide +kernel
theorem dTk_learn_6 : decode cTk_learn 6 = .ok (.istore 6, 2) := by decide +kernel
theorem dTk_learn_8 : decode cTk_learn 8 = .ok (.iload 6, 2) := by decide +kernel
theorem dTk_learn_10 : decode cTk_learn 10 = .ok (.aload_n 1, 1) := by decide +kernel
theorem dTk_learn_11 : decode cTk_learn 11 = .ok (.invokevirtual 39, 3) := by decide +kernel
theorem dTk_learn_14 : decode cTk_learn 14 = .ok (.if_icmp .ge 62, 3) := by decide +kernel
theorem dTk_learn_17 : decode cTk_learn 17 = .ok (.aload_n 1, 1) := by decide +kernel
theorem dTk_learn_18 : decode cTk_learn 18 = .ok (.iload 6, 2) := by decide +kernel
theorem dTk_learn_20 : decode cTk_learn 20 = .ok (.invokevirtual 45, 3) := by decide +kernel
theorem dTk_learn_23 : decode cTk_learn 23 = .ok (.istore 7, 2) := by decide +kernel
theorem dTk_learn_25 : decode cTk_learn 25 = .ok (.iload 7, 2) := by decide +kernel
theorem dTk_learn_27 : decode cTk_learn 27 = .ok (.bipush 32, 2) := by decide +kernel
theorem dTk_learn_29 : decode cTk_learn 29 = .ok (.if_icmp .eq 21, 3) := by decide +kernel
theorem dTk_learn_32 : decode cTk_learn 32 = .ok (.lload 4, 2) := by decide +kernel
theorem dTk_learn_34 : decode cTk_learn 34 = .ok (.ldc2_w 49, 3) := by decide +kernel
theorem dTk_learn_37 : decode cTk_learn 37 = .ok (.lmul, 1) := by decide +kernel
theorem dTk_learn_38 : decode cTk_learn 38 = .ok (.iload 7, 2) := by decide +kernel
theorem dTk_learn_40 : decode cTk_learn 40 = .ok (.invokestatic 51, 3) := by decide +kernel
theorem dTk_learn_43 : decode cTk_learn 43 = .ok (.i2l, 1) := by decide +kernel
theorem dTk_learn_44 : decode cTk_learn 44 = .ok (.ladd, 1) := by decide +kernel
theorem dTk_learn_45 : decode cTk_learn 45 = .ok (.lstore 4, 2) := by decide +kernel
theorem dTk_learn_47 : decode cTk_learn 47 = .ok (.goto 23, 3) := by decide +kernel
theorem dTk_learn_50 : decode cTk_learn 50 = .ok (.iload_n 3, 1) := by decide +kernel
theorem dTk_learn_51 : decode cTk_learn 51 = .ok (.bipush 48, 2) := by decide +kernel
theorem dTk_learn_53 : decode cTk_learn 53 = .ok (.if_icmp .ge 17, 3) := by decide +kernel
theorem dTk_learn_56 : decode cTk_learn 56 = .ok (.aload_n 0, 1) := by decide +kernel
theorem dTk_learn_57 : decode cTk_learn 57 = .ok (.getfield 20, 3) := by decide +kernel
theorem dTk_learn_60 : decode cTk_learn 60 = .ok (.iload_n 3, 1) := by decide +kernel
theorem dTk_learn_61 : decode cTk_learn 61 = .ok (.lload 4, 2) := by decide +kernel
theorem dTk_learn_63 : decode cTk_learn 63 = .ok (.lastore, 1) := by decide +kernel
theorem dTk_learn_64 : decode cTk_learn 64 = .ok (.iinc 3 1, 3) := by decide +kernel
theorem dTk_learn_67 : decode cTk_learn 67 = .ok (.lconst 0, 1) := by decide +kernel
theorem dTk_learn_68 : decode cTk_learn 68 = .ok (.lstore 4, 2) := by decide +kernel
theorem dTk_learn_70 : decode cTk_learn 70 = .ok (.iinc 6 1, 3) := by decide +kernel
theorem dTk_learn_73 : decode cTk_learn 73 = .ok (.goto (-65), 3) := by decide +kernel
theorem dTk_learn_76 : decode cTk_learn 76 = .ok (.iload_n 3, 1) := by decide +kernel
theorem dTk_learn_77 : decode cTk_learn 77 = .ok (.ireturn, 1) := by decide +kernel
theorem dTk_symbol_0 : decode cTk_symbol 0 = .ok (.iload_n 0, 1) := by decide +kernel
theorem dTk_symbol_1 : decode cTk_symbol 1 = .ok (.bipush 97, 2) := by decide +kernel
theorem dTk_symbol_3 : decode cTk_symbol 3 = .ok (.if_icmp .lt 16, 3) := by decide +kernel
theorem dTk_symbol_6 : decode cTk_symbol 6 = .ok (.iload_n 0, 1) := by decide +kernel
theorem dTk_symbol_7 : decode cTk_symbol 7 = .ok (.bipush 122, 2) := by decide +kernel
theorem dTk_symbol_9 : decode cTk_symbol 9 = .ok (.if_icmp .gt 10, 3) := by decide +kernel
theorem dTk_symbol_12 : decode cTk_symbol 12 = .ok (.iload_n 0, 1) := by decide +kernel
theorem dTk_symbol_13 : decode cTk_symbol 13 = .ok (.bipush 97, 2) := by decide +kernel
theorem dTk_symbol_15 : decode cTk_symbol 15 = .ok (.isub, 1) := by decide +kernel
theorem dTk_symbol_16 : decode cTk_symbol 16 = .ok (.iconst 1, 1) := by decide +kernel
theorem dTk_symbol_17 : decode cTk_symbol 17 = .ok (.iadd, 1) := by decide +kernel
theorem dTk_symbol_18 : decode cTk_symbol 18 = .ok (.ireturn, 1) := by decide +kernel
theorem dTk_symbol_19 : decode cTk_symbol 19 = .ok (.iload_n 0, 1) := by decide +kernel
theorem dTk_symbol_20 : decode cTk_symbol 20 = .ok (.bipush 48, 2) := by decide +kernel
theorem dTk_symbol_22 : decode cTk_symbol 22 = .ok (.if_icmp .lt 17, 3) := by decide +kernel
theorem dTk_symbol_25 : decode cTk_symbol 25 = .ok (.iload_n 0, 1) := by decide +kernel
theorem dTk_symbol_26 : decode cTk_symbol 26 = .ok (.bipush 57, 2) := by decide +kernel
theorem dTk_symbol_28 : decode cTk_symbol 28 = .ok (.if_icmp .gt 11, 3) := by decide +kernel
theorem dTk_symbol_31 : decode cTk_symbol 31 = .ok (.iload_n 0, 1) := by decide +kernel
theorem dTk_symbol_32 : decode cTk_symbol 32 = .ok (.bipush 48, 2) := by decide +kernel
theorem dTk_symbol_34 : decode cTk_symbol 34 = .ok (.isub, 1) := by decide +kernel
theorem dTk_symbol_35 : decode cTk_symbol 35 = .ok (.bipush 27, 2) := by decide +kernel
theorem dTk_symbol_37 : decode cTk_symbol 37 = .ok (.iadd, 1) := by decide +kernel
theorem dTk_symbol_38 : decode cTk_symbol 38 = .ok (.ireturn, 1) := by decide +kernel
theorem dTk_symbol_39 : decode cTk_symbol 39 = .ok (.iload_n 0, 1) := by decide +kernel
theorem dTk_symbol_40 : decode cTk_symbol 40 = .ok (.bipush 95, 2) := by decide +kernel
theorem dTk_symbol_42 : decode cTk_symbol 42 = .ok (.if_icmp .ne 8, 3) := by decide +kernel
theorem dTk_symbol_45 : decode cTk_symbol 45 = .ok (.bipush 37, 2) := by decide +kernel
theorem dTk_symbol_47 : decode cTk_symbol 47 = .ok (.goto 4, 3) := by decide +kernel
theorem dTk_symbol_50 : decode cTk_symbol 50 = .ok (.iconst 0, 1) := by decide +kernel
theorem dTk_symbol_51 : decode cTk_symbol 51 = .ok (.ireturn, 1) := by decide +kernel
theorem dJ7_fill_53178_0 : decode cJ7_fill_53178 0 = .ok (.iconst 0, 1) := by decide +kernel
theorem dJ7_fill_53178_1 : decode cJ7_fill_53178 1 = .ok (.istore_n 2, 1) := by decide +kernel
theorem dJ7_fill_53178_2 : decode cJ7_fill_53178 2 = .ok (.aload_n 0, 1) := by decide +kernel
theorem dJ7_fill_53178_3 : decode cJ7_fill_53178 3 = .ok (.arraylength, 1) := by decide +kernel
theorem dJ7_fill_53178_4 : decode cJ7_fill_53178 4 = .ok (.istore_n 3, 1) := by decide +kernel
theorem dJ7_fill_53178_5 : decode cJ7_fill_53178 5 = .ok (.iload_n 2, 1) := by decide +kernel
theorem dJ7_fill_53178_6 : decode cJ7_fill_53178 6 = .ok (.iload_n 3, 1) := by decide +kernel
theorem dJ7_fill_53178_7 : decode cJ7_fill_53178 7 = .ok (.if_icmp .ge 13, 3) := by decide +kernel
theorem dJ7_fill_53178_10 : decode cJ7_fill_53178 10 = .ok (.aload_n 0, 1) := by decide +kernel
theorem dJ7_fill_53178_11 : decode cJ7_fill_53178 11 = .ok (.iload_n 2, 1) := by decide +kernel
theorem dJ7_fill_53178_12 : decode cJ7_fill_53178 12 = .ok (.iload_n 1, 1) := by decide +kernel
theorem dJ7_fill_53178_13 : decode cJ7_fill_53178 13 = .ok (.iastore, 1) := by decide +kernel
theorem dJ7_fill_53178_14 : decode cJ7_fill_53178 14 = .ok (.iinc 2 1, 3) := by decide +kernel
theorem dJ7_fill_53178_17 : decode cJ7_fill_53178 17 = .ok (.goto (-12), 3) := by decide +kernel
theorem dJ7_fill_53178_20 : decode cJ7_fill_53178 20 = .ok (.return_, 1) := by decide +kernel
theorem vTk_learn_39 : OkV RTk 39 yJ0_length_8abf5 cJ0_length_8abf5 1 (some .int) 0 := ⟨aw_v (tm 393 (by decide +kernel) rfl) (tm 394 (by decide +kernel) rfl) (tm 395 (by decide +kernel) rfl) (tm 303 (by decide +kernel) rfl) (tm 396 (by decide +kernel) rfl), by decide +kernel, by decide +kernel, by decide +kernel⟩
theorem vTk_learn_45 : OkV RTk 45 yJ0_charAt_5068e cJ0_charAt_5068e 2 (some .char) 1 := ⟨aw_v (tm 403 (by decide +kernel) rfl) (tm 404 (by decide +kernel) rfl) (tm 405 (by decide +kernel) rfl) (tm 303 (by decide +kernel) rfl) (tm 406 (by decide +kernel) rfl), by decide +kernel, by decide +kernel, by decide +kernel⟩
theorem vTk_learn_51 : OkS RTk 51 yTk_symbol cTk_symbol 1 (some .int) 1 := ⟨aw_s (tm 442 (by decide +kernel) rfl) (tm 443 (by decide +kernel) rfl) (tm 307 (by decide +kernel) rfl) (tm 444 (by decide +kernel) rfl), by decide +kernel, by decide +kernel, by decide +kernel⟩
theorem kTk_38 : Cond.constantLong RTk 49 38 ∈ tb := tm 441 (by decide +kernel) rfl
set_option maxHeartbeats 4000000 in
theorem t_symbol (l : Launch) (a1 : Int32) : KQ l yTk_symbol cTk_symbol 1 (some .int) 0 [.int a1] (fun _ => True) := by
  refine KQ.of (by decide) (Nat.le_of_ble_eq_true rfl) ?_
  intro p e s m below meth c ls C hr hlk hl
  have hx := C.1
  have hb := C.2.1
  have hl : lv_has ls 1 [(0, .int a1)] := hl
  refine lv_iload_n hx hb dTk_symbol_0 rfl (lv_at hl 0 rfl) ?_
  refine lv_bipush (v := 97) hx hb dTk_symbol_1 (by decide) ?_
  refine lv_icmp_lt (tgt := 19) hx hb dTk_symbol_3 (by decide) (fun c3 => ?_) (fun c3 => ?_)
  · refine lv_iload_n hx hb dTk_symbol_19 rfl (lv_at hl 0 rfl) ?_
    refine lv_bipush (v := 48) hx hb dTk_symbol_20 (by decide) ?_
    refine lv_icmp_lt (tgt := 39) hx hb dTk_symbol_22 (by decide) (fun c22 => ?_) (fun c22 => ?_)
    · refine lv_iload_n hx hb dTk_symbol_39 rfl (lv_at hl 0 rfl) ?_
      refine lv_bipush (v := 95) hx hb dTk_symbol_40 (by decide) ?_
      refine lv_icmp_ne (tgt := 50) hx hb dTk_symbol_42 (by decide) (fun c42 => ?_) (fun c42 => ?_)
      · refine lv_iconst (v := 0) hx hb dTk_symbol_50 (by decide) ?_
        exact KP.ret C hr hlk rfl trivial dTk_symbol_51
      · refine lv_bipush (v := 37) hx hb dTk_symbol_45 (by decide) ?_
        refine lv_goto (tgt := 51) hx hb dTk_symbol_47 (by decide) ?_
        exact KP.ret C hr hlk rfl trivial dTk_symbol_51
    · refine lv_iload_n hx hb dTk_symbol_25 rfl (lv_at hl 0 rfl) ?_
      refine lv_bipush (v := 57) hx hb dTk_symbol_26 (by decide) ?_
      refine lv_icmp_gt (tgt := 39) hx hb dTk_symbol_28 (by decide) (fun c28 => ?_) (fun c28 => ?_)
      · refine lv_iload_n hx hb dTk_symbol_39 rfl (lv_at hl 0 rfl) ?_
        refine lv_bipush (v := 95) hx hb dTk_symbol_40 (by decide) ?_
        refine lv_icmp_ne (tgt := 50) hx hb dTk_symbol_42 (by decide) (fun c42 => ?_) (fun c42 => ?_)
        · refine lv_iconst (v := 0) hx hb dTk_symbol_50 (by decide) ?_
          exact KP.ret C hr hlk rfl trivial dTk_symbol_51
        · refine lv_bipush (v := 37) hx hb dTk_symbol_45 (by decide) ?_
          refine lv_goto (tgt := 51) hx hb dTk_symbol_47 (by decide) ?_
          exact KP.ret C hr hlk rfl trivial dTk_symbol_51
      · refine lv_iload_n hx hb dTk_symbol_31 rfl (lv_at hl 0 rfl) ?_
        refine lv_bipush (v := 48) hx hb dTk_symbol_32 (by decide) ?_
        refine lv_isub hx hb dTk_symbol_34 ?_
        refine lv_bipush (v := 27) hx hb dTk_symbol_35 (by decide) ?_
        refine lv_iadd hx hb dTk_symbol_37 ?_
        exact KP.ret C hr hlk rfl trivial dTk_symbol_38
  · refine lv_iload_n hx hb dTk_symbol_6 rfl (lv_at hl 0 rfl) ?_
    refine lv_bipush (v := 122) hx hb dTk_symbol_7 (by decide) ?_
    refine lv_icmp_gt (tgt := 19) hx hb dTk_symbol_9 (by decide) (fun c9 => ?_) (fun c9 => ?_)
    · refine lv_iload_n hx hb dTk_symbol_19 rfl (lv_at hl 0 rfl) ?_
      refine lv_bipush (v := 48) hx hb dTk_symbol_20 (by decide) ?_
      refine lv_icmp_lt (tgt := 39) hx hb dTk_symbol_22 (by decide) (fun c22 => ?_) (fun c22 => ?_)
      · refine lv_iload_n hx hb dTk_symbol_39 rfl (lv_at hl 0 rfl) ?_
        refine lv_bipush (v := 95) hx hb dTk_symbol_40 (by decide) ?_
        refine lv_icmp_ne (tgt := 50) hx hb dTk_symbol_42 (by decide) (fun c42 => ?_) (fun c42 => ?_)
        · refine lv_iconst (v := 0) hx hb dTk_symbol_50 (by decide) ?_
          exact KP.ret C hr hlk rfl trivial dTk_symbol_51
        · refine lv_bipush (v := 37) hx hb dTk_symbol_45 (by decide) ?_
          refine lv_goto (tgt := 51) hx hb dTk_symbol_47 (by decide) ?_
          exact KP.ret C hr hlk rfl trivial dTk_symbol_51
      · refine lv_iload_n hx hb dTk_symbol_25 rfl (lv_at hl 0 rfl) ?_
        refine lv_bipush (v := 57) hx hb dTk_symbol_26 (by decide) ?_
        refine lv_icmp_gt (tgt := 39) hx hb dTk_symbol_28 (by decide) (fun c28 => ?_) (fun c28 => ?_)
        · refine lv_iload_n hx hb dTk_symbol_39 rfl (lv_at hl 0 rfl) ?_
          refine lv_bipush (v := 95) hx hb dTk_symbol_40 (by decide) ?_
          refine lv_icmp_ne (tgt := 50) hx hb dTk_symbol_42 (by decide) (fun c42 => ?_) (fun c42 => ?_)
          · refine lv_iconst (v := 0) hx hb dTk_symbol_50 (by decide) ?_
            exact KP.ret C hr hlk rfl trivial dTk_symbol_51
          · refine lv_bipush (v := 37) hx hb dTk_symbol_45 (by decide) ?_
            refine lv_goto (tgt := 51) hx hb dTk_symbol_47 (by decide) ?_
            exact KP.ret C hr hlk rfl trivial dTk_symbol_51
        · refine lv_iload_n hx hb dTk_symbol_31 rfl (lv_at hl 0 rfl) ?_
          refine lv_bipush (v := 48) hx hb dTk_symbol_32 (by decide) ?_
          refine lv_isub hx hb dTk_symbol_34 ?_
          refine lv_bipush (v := 27) hx hb dTk_symbol_35 (by decide) ?_
          refine lv_iadd hx hb dTk_symbol_37 ?_
          exact KP.ret C hr hlk rfl trivial dTk_symbol_38
    · refine lv_iload_n hx hb dTk_symbol_12 rfl (lv_at hl 0 rfl) ?_
      refine lv_bipush (v := 97) hx hb dTk_symbol_13 (by decide) ?_
      refine lv_isub hx hb dTk_symbol_15 ?_
      refine lv_iconst (v := 1) hx hb dTk_symbol_16 (by decide) ?_
      refine lv_iadd hx hb dTk_symbol_17 ?_
      exact KP.ret C hr hlk rfl trivial dTk_symbol_18
/-! rows of arrays of Kinds; Arrays.fill; Tokens.learn -/
section ORows2
variable {p : Program} {l : Launch} {e : Env} {R : Room} {s : State} {m : MethodId} {args : Array Value} {below : List Frame} {meth : Method} {c : Code} {H H0 : Heap} {locs : List Loc} {cells slots : Nat} {Q : State → Prop}
variable {cc : ByteArray} {nL : Nat} {own : String} {A : Nat → Prop} {pc : Nat} {ls : Array Slot} {rest : List Value} {g : GG} {w : va_W}
theorem newA_q (C : Cx p s m c cc nL own args g) (h : Hx g w A H0 H locs) {index : Nat} (hcl : Cond.classLink own index "ExchangeHouse$Kind" ∈ tb) (hO : va_AO "ExchangeHouse$Kind" s) {n : Int32} {N : Nat} (hn : ¬ n < 0) (hN : n.toNatClampNeg = N) (h8 : N * 4 ≤ 536870912) (hc : cells + 1 ≤ R.cells) (hs : slots + N ≤ R.slots) (hdg : decode cc pc = .ok (.anewarray index, 3)) (kk : ∀ (q : Nat) (H1 : Heap), Hx g (w ++ [(q, .inl (g.2.2 4, N, .inr (.inr (.inr (.inr (fun _ => none))))))]) A H0 H1 locs → W p l e R s m args below meth c H1 locs (cells + 1) (slots + N) Q (F0 m (pc + 3) ls (.ref q :: rest))) : W p l e R s m args below meth c H locs cells slots Q (F0 m pc ls (.int n :: rest)) := by
  refine va_newq C.1.1 C.1.2.1 C.1.2.2.2.1 (C.1.2.2.2.2 _ hcl) hO C.2 h.1 h.2.1 h.2.2.1 h.2.2.2 hn hN h8 hc hs hdg (fun q cA H1 hK hP hD hS => ?_)
  have e1 : cA = g.2.2 4 := by
    obtain ⟨k1, c1, a1, a2, a3, a4⟩ := (hK.2 5 (cA, .object "ExchangeHouse$Kind") rfl).2
    obtain ⟨k2, c2, b1, b2, b3, b4⟩ := (C.2.2 4 (g.2.2 4, .object "ExchangeHouse$Kind") rfl).2
    exact Option.some.inj (a4.symm.trans b4)
  subst e1
  exact kk q H1 ⟨hP, hD, hS, h.2.2.2⟩
end ORows2
-- Arrays.fill(int[], int)
section Fill
variable {p : Program} {l : Launch} {e : Env} {s : State} {m : MethodId} {below : List Frame} {meth : Method} {c : Code} {g : GG} {A : Nat → Prop} {a N : Nat} {v : Int32}
set_option maxHeartbeats 4000000 in
set_option maxRecDepth 100000 in
theorem j_fillW (hN : N < 2 ^ 31) (C : Cx p s m c cJ7_fill_53178 4 RJ7 #[.ref a, .int v] g) (hr : meth.sig.returnType = none) (hlk : meth.locks = false) :
    ∀ (d k : Nat), k + d = N → ∀ (f : Nat → Int32) (H : Heap) (locs : List Loc) (ls : Array Slot), Hx g [(a, .inl (g.2.2 1, N, .inl f))] A s.heap H locs → lv_has ls 4 [(3, .int (nI N)), (2, .int (nI k)), (0, .ref a), (1, .int v)] →
      W p l e (rD 0 0 0) s m #[.ref a, .int v] below meth c H locs 0 0 (MQ below (va_Qv (fun _ : Nat → Int32 => True) (gB g (fun u : Nat → Int32 => [(a, .inl (g.2.2 1, N, .inl u))]) A) A) #[.ref a, .int v] s 0 0 A) (F0 m 5 ls []) := by
  have hx := C.1.1
  have hb := C.1.2.1
  intro d
  induction d with
  | zero =>
    intro k hk f H locs ls h hl
    have hk : k = N := hk
    subst hk
    refine lv_iload_n hx hb dJ7_fill_53178_5 rfl (lv_at hl 1 rfl) ?_
    refine lv_iload_n hx hb dJ7_fill_53178_6 rfl (lv_at hl 0 rfl) ?_
    refine lv_icmp_ge (tgt := 20) hx hb dJ7_fill_53178_7 (by decide) (fun _ => ?_) (fun q => absurd (Int32.le_refl _) q)
    exact KV.ret C hr hlk f h trivial (by decide) (by decide) dJ7_fill_53178_20
  | succ d ih =>
    intro k hk f H locs ls h hl
    have hlt : k < N := by omega
    refine lv_iload_n hx hb dJ7_fill_53178_5 rfl (lv_at hl 1 rfl) ?_
    refine lv_iload_n hx hb dJ7_fill_53178_6 rfl (lv_at hl 0 rfl) ?_
    refine lv_icmp_ge (tgt := 20) hx hb dJ7_fill_53178_7 (by decide) (fun q => absurd q (nI_ge hlt hN)) (fun _ => ?_)
    refine lv_aload_n hx hb dJ7_fill_53178_10 rfl (lv_at hl 2 rfl) ?_
    refine lv_iload_n hx hb dJ7_fill_53178_11 rfl (lv_at hl 1 rfl) ?_
    refine lv_iload_n hx hb dJ7_fill_53178_12 rfl (lv_at hl 3 rfl) ?_
    refine va_iast C.1.1 C.1.2.1 C.2 h.1 h.2.1 h.2.2.1 0 1 rfl rfl (vp_in_nI hlt hN) dJ7_fill_53178_13 (fun H locs hP hD hS => ?_)
    have h : Hx g [(a, .inl (g.2.2 1, N, .inl (upd f (nI k).toNatClampNeg v)))] A s.heap H locs := ⟨hP, hD, hS, h.2.2.2⟩
    refine lv_iinc (v := nI (k + 1)) (lv' := [(2, .int (nI (k + 1))), (3, .int (nI N)), (0, .ref a), (1, .int v)]) hx hb dJ7_fill_53178_14 hl (k := 1) rfl (nI_1 k) (by decide) rfl (fun ls hl => ?_)
    refine lv_goto (tgt := 5) hx hb dJ7_fill_53178_17 (by decide) ?_
    exact ih (k + 1) (by omega) _ H locs ls h (lv_sub hl [1, 0, 2, 3] rfl)
end Fill
set_option maxHeartbeats 4000000 in
set_option maxRecDepth 100000 in
theorem j_fill (l : Launch) (g : GG) (a N : Nat) (hN : N < 2 ^ 31) (v : Int32) (f : Nat → Int32) : KV l yJ7_fill_53178 cJ7_fill_53178 4 (rD 0 0 0) g [(a, .inl (g.2.2 1, N, .inl f))] (fun u : Nat → Int32 => [(a, .inl (g.2.2 1, N, .inl u))]) [.ref a, .int v] (fun _ => True) := by
  refine KV.of (by decide) (Nat.le_of_ble_eq_true rfl) ?_
  intro p e s m below meth c A ls C hr hlk hnm h hl
  have hx := C.1.1
  have hb := C.1.2.1
  have hl : lv_has ls 4 [(0, .ref a), (1, .int v)] := hl
  refine lv_iconst (v := 0) hx hb dJ7_fill_53178_0 (by decide) ?_
  refine lv_istore_n (lv' := [(2, .int 0), (0, .ref a), (1, .int v)]) hx hb dJ7_fill_53178_1 rfl hl (by decide) rfl (fun ls hl => ?_)
  refine lv_aload_n hx hb dJ7_fill_53178_2 rfl (lv_at hl 1 rfl) ?_
  refine va_alen (v := nI N) C.1.1 C.1.2.1 C.2 h.1 0 1 rfl rfl rfl dJ7_fill_53178_3 ?_
  refine lv_istore_n (lv' := [(3, .int (nI N)), (2, .int 0), (0, .ref a), (1, .int v)]) hx hb dJ7_fill_53178_4 rfl hl (by decide) rfl (fun ls hl => ?_)
  exact j_fillW hN C hr hlk N 0 (Nat.zero_add _) f _ _ ls h hl
def tkF (k1 k2 k3 kw tx : Nat) : List Value := [.ref k1, .ref k2, .ref k3, .int 0, .int 0, .int 0, .int 0, .int 0, .int 0, .ref kw, .ref tx, .int 0]
def tkW (g : GG) (o k1 k2 k3 kw tx : Nat) (f : Nat → Int64) : va_W := [(o, .inr (2, tkF k1 k2 k3 kw tx)), (kw, .inl (g.2.2 2, 48, .inr (.inl f)))]
section Learn
variable {p : Program} {l : Launch} {e : Env} {s : State} {m : MethodId} {below : List Frame} {meth : Method} {c : Code} {g : GG} {A : Nat → Prop} {o k1 k2 k3 kw tx i : Nat} {ak sv : Nat → Nat} {c0 : Int32}
set_option maxHeartbeats 4000000 in
set_option maxRecDepth 100000 in
theorem t_learnW (hi : i < sN) (C : Cx p s m c cTk_learn 8 RTk #[.ref o, .ref (ak i), .int c0] g) (hr : meth.sig.returnType = some .int) (hlk : meth.locks = false) (hE : sE ak sv A s s.heap) :
    ∀ (d k : Nat), k + d = sLen.getD i 0 → ∀ (cn : Nat) (v : Int64) (f : Nat → Int64) (H : Heap) (locs : List Loc) (ls : Array Slot), cn ≤ 48 → Hx g (tkW g o k1 k2 k3 kw tx f) A s.heap H locs → lv_has ls 8 [(6, .int (nI k)), (4, .long v), (3, .int (nI cn)), (1, .ref (ak i)), (0, .ref o)] →
      W p l e (rD 4 0 0) s m #[.ref o, .ref (ak i), .int c0] below meth c H locs 0 0 (MQ below (va_Qi (fun (r : Int32) (_ : Nat → Int64) => ∃ q : Nat, r = nI q ∧ q ≤ 48) (gB g (fun u : Nat → Int64 => tkW g o k1 k2 k3 kw tx u) A) A) #[.ref o, .ref (ak i), .int c0] s 0 0 A) (F0 m 8 ls []) := by
  have hx := C.1.1
  have hb := C.1.2.1
  have hL := (s_ok i hi).2
  intro d
  induction d with
  | zero =>
    intro k hk cn v f H locs ls hc h hl
    have hk : k = sLen.getD i 0 := hk
    subst hk
    refine lv_iload hx hb dTk_learn_8 (lv_at hl 0 rfl) ?_
    refine lv_aload_n hx hb dTk_learn_10 rfl (lv_at hl 3 rfl) ?_
    refine KP.callV (As := []) C.1 hE h.2.2.1 h.2.2.2 hi (j_length l hi) rfl vTk_learn_39 ⟨by decide, by decide⟩ hl.1 rfl (Nat.le_of_ble_eq_true rfl) dTk_learn_11 ⟨by decide, by decide⟩ (fun v hv => ?_)
    subst hv
    refine lv_icmp_ge (tgt := 76) hx hb dTk_learn_14 (by decide) (fun _ => ?_) (fun q => absurd (Int32.le_refl _) q)
    refine lv_iload_n hx hb dTk_learn_76 rfl (lv_at hl 2 rfl) ?_
    exact KI.ret C hr hlk f h rfl ⟨cn, rfl, hc⟩ (by decide) (by decide) dTk_learn_77
  | succ d ih =>
    intro k hk cn v f H locs ls hc h hl
    have hlt : k < sLen.getD i 0 := by omega
    refine lv_iload hx hb dTk_learn_8 (lv_at hl 0 rfl) ?_
    refine lv_aload_n hx hb dTk_learn_10 rfl (lv_at hl 3 rfl) ?_
    refine KP.callV (As := []) C.1 hE h.2.2.1 h.2.2.2 hi (j_length l hi) rfl vTk_learn_39 ⟨by decide, by decide⟩ hl.1 rfl (Nat.le_of_ble_eq_true rfl) dTk_learn_11 ⟨by decide, by decide⟩ (fun v hv => ?_)
    subst hv
    refine lv_icmp_ge (tgt := 76) hx hb dTk_learn_14 (by decide) (fun q => absurd q (nI_ge hlt hL)) (fun _ => ?_)
    refine lv_aload_n hx hb dTk_learn_17 rfl (lv_at hl 3 rfl) ?_
    refine lv_iload hx hb dTk_learn_18 (lv_at hl 0 rfl) ?_
    refine KP.callV (As := [.int (nI k)]) C.1 hE h.2.2.1 h.2.2.2 hi (j_charAt l hi hlt) rfl vTk_learn_45 ⟨by decide, by decide⟩ hl.1 rfl (Nat.le_of_ble_eq_true rfl) dTk_learn_20 ⟨by decide, by decide⟩ (fun ch hv => ?_)
    refine lv_istore (lv' := [(7, .int ch), (6, .int (nI k)), (4, .long v), (3, .int (nI cn)), (1, .ref (ak i)), (0, .ref o)]) hx hb dTk_learn_23 hl (by decide) rfl (fun ls hl => ?_)
    refine lv_iload hx hb dTk_learn_25 (lv_at hl 0 rfl) ?_
    refine lv_bipush (v := 32) hx hb dTk_learn_27 (by decide) ?_
    have next : ∀ (cn : Nat) (v : Int64) (f : Nat → Int64) (H : Heap) (locs : List Loc) (ls : Array Slot), cn ≤ 48 → Hx g (tkW g o k1 k2 k3 kw tx f) A s.heap H locs → lv_has ls 8 [(6, .int (nI k)), (4, .long v), (3, .int (nI cn)), (1, .ref (ak i)), (0, .ref o)] →
        W p l e (rD 4 0 0) s m #[.ref o, .ref (ak i), .int c0] below meth c H locs 0 0 (MQ below (va_Qi (fun (r : Int32) (_ : Nat → Int64) => ∃ q : Nat, r = nI q ∧ q ≤ 48) (gB g (fun u : Nat → Int64 => tkW g o k1 k2 k3 kw tx u) A) A) #[.ref o, .ref (ak i), .int c0] s 0 0 A) (F0 m 70 ls []) := by
      intro cn v f H locs ls hc h hl
      refine lv_iinc (v := nI (k + 1)) (lv' := [(6, .int (nI (k + 1))), (4, .long v), (3, .int (nI cn)), (1, .ref (ak i)), (0, .ref o)]) hx hb dTk_learn_70 hl (k := 0) rfl (nI_1 k) (by decide) rfl (fun ls hl => ?_)
      refine lv_goto (tgt := 8) hx hb dTk_learn_73 (by decide) ?_
      exact ih (k + 1) (by omega) cn v f H locs ls hc h hl
    refine lv_icmp_eq (tgt := 50) hx hb dTk_learn_29 (by decide) (fun c1 => ?_) (fun c1 => ?_)
    · refine lv_iload_n hx hb dTk_learn_50 rfl (lv_at hl 3 rfl) ?_
      refine lv_bipush (v := 48) hx hb dTk_learn_51 (by decide) ?_
      refine lv_icmp_ge (tgt := 70) hx hb dTk_learn_53 (by decide) (fun c2 => ?_) (fun c2 => ?_)
      · exact next cn v f H locs ls hc h (lv_sub hl [1, 2, 3, 4, 5] rfl)
      · have hcn : cn < 48 := by
          rcases Nat.lt_or_ge cn 48 with q | q
          · exact q
          · exact absurd (nI_le q (by omega)) c2
        refine lv_aload_n hx hb dTk_learn_56 rfl (lv_at hl 5 rfl) ?_
        refine og C h laysTk 0 rfl rfl 9 (by decide) flTk_20 rfl (v := .ref kw) rfl dTk_learn_57 ?_
        refine lv_iload_n hx hb dTk_learn_60 rfl (lv_at hl 3 rfl) ?_
        refine lv_lload hx hb dTk_learn_61 (lv_at hl 2 rfl) ?_
        refine va_last C.1.1 C.1.2.1 C.2 h.1 h.2.1 h.2.2.1 1 2 rfl rfl (vp_in_nI hcn (by decide)) dTk_learn_63 (fun H locs hP hD hS => ?_)
        have h : Hx g (tkW g o k1 k2 k3 kw tx (vp_updL f (nI cn).toNatClampNeg v)) A s.heap H locs := ⟨hP, hD, hS, h.2.2.2⟩
        refine lv_iinc (v := nI (cn + 1)) (lv' := [(3, .int (nI (cn + 1))), (7, .int ch), (6, .int (nI k)), (4, .long v), (1, .ref (ak i)), (0, .ref o)]) hx hb dTk_learn_64 hl (k := 3) rfl (nI_1 cn) (by decide) rfl (fun ls hl => ?_)
        refine lv_lconst (v := 0) hx hb dTk_learn_67 (by decide) ?_
        refine lv_lstore (lv' := [(4, .long 0), (3, .int (nI (cn + 1))), (7, .int ch), (6, .int (nI k)), (1, .ref (ak i)), (0, .ref o)]) hx hb dTk_learn_68 hl (by decide) rfl (fun ls hl => ?_)
        exact next (cn + 1) 0 _ H locs ls (by omega) h (lv_sub hl [3, 0, 1, 4, 5] rfl)
    · refine lv_lload hx hb dTk_learn_32 (lv_at hl 2 rfl) ?_
      refine lv_ldc2 (v := 38) hx hb C.1.2.2.2.1 (C.1.2.2.2.2 _ kTk_38) dTk_learn_34 ?_
      refine lv_lmul hx hb dTk_learn_37 ?_
      refine lv_iload hx hb dTk_learn_38 (lv_at hl 0 rfl) ?_
      refine KQ.callS (As := [.int ch]) C.1 (t_symbol l ch) vTk_learn_51 rfl ⟨by decide, by decide⟩ hl.1 rfl (Nat.le_of_ble_eq_true rfl) dTk_learn_40 ⟨by decide, by decide⟩ (fun sy hsy => ?_)
      refine lv_i2l hx hb dTk_learn_43 rfl ?_
      refine lv_ladd hx hb dTk_learn_44 ?_
      refine lv_topl (fun v2 ev2 => ?_)
      refine lv_lstore (lv' := [(4, .long v2), (7, .int ch), (6, .int (nI k)), (3, .int (nI cn)), (1, .ref (ak i)), (0, .ref o)]) hx hb dTk_learn_45 hl (by decide) rfl (fun ls hl => ?_)
      refine lv_goto (tgt := 70) hx hb dTk_learn_47 (by decide) ?_
      exact next cn v2 f H locs ls hc h (lv_sub hl [2, 0, 3, 4, 5] rfl)
end Learn
set_option maxHeartbeats 4000000 in
set_option maxRecDepth 100000 in
/-- learn(): it ends; the count stays in its bounds -/
theorem t_learn {ak sv : Nat → Nat} (l : Launch) (g : GG) (o k1 k2 k3 kw tx i : Nat) (hi : i < sN) (f : Nat → Int64) (c0 : Int32) (hc0 : ∃ q : Nat, c0 = nI q ∧ q ≤ 48) : KIx ak sv l yTk_learn cTk_learn 8 (some .int) (rD 4 0 0) g (tkW g o k1 k2 k3 kw tx f) (fun u : Nat → Int64 => tkW g o k1 k2 k3 kw tx u) [.ref o, .ref (ak i), .int c0] (fun r _ => ∃ q : Nat, r = nI q ∧ q ≤ 48) := by
  obtain ⟨q, rfl, hq⟩ := hc0
  refine KIx.of (by decide) (Nat.le_of_ble_eq_true rfl) ?_
  intro p e s m below meth c A ls C hr hlk hnm h hE hl
  have hx := C.1.1
  have hb := C.1.2.1
  have hl : lv_has ls 8 [(0, .ref o), (1, .ref (ak i)), (2, .int (nI q))] := hl
  refine lv_iload_n hx hb dTk_learn_0 rfl (lv_at hl 2 rfl) ?_
  refine lv_istore_n (lv' := [(3, .int (nI q)), (0, .ref o), (1, .ref (ak i)), (2, .int (nI q))]) hx hb dTk_learn_1 rfl hl (by decide) rfl (fun ls hl => ?_)
  refine lv_lconst (v := 0) hx hb dTk_learn_2 (by decide) ?_
  refine lv_lstore (lv' := [(4, .long 0), (3, .int (nI q)), (0, .ref o), (1, .ref (ak i)), (2, .int (nI q))]) hx hb dTk_learn_3 hl (by decide) rfl (fun ls hl => ?_)
  refine lv_iconst (v := 0) hx hb dTk_learn_5 (by decide) ?_
  refine lv_istore (lv' := [(6, .int 0), (4, .long 0), (3, .int (nI q)), (0, .ref o), (1, .ref (ak i)), (2, .int (nI q))]) hx hb dTk_learn_6 hl (by decide) rfl (fun ls hl => ?_)
  exact t_learnW hi C hr hlk hE (sLen.getD i 0) 0 (Nat.zero_add _) q 0 f _ _ ls hq h (lv_sub hl [0, 1, 2, 4, 3] rfl)
