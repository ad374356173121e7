set_option maxHeartbeats 4000000 in
set_option maxRecDepth 100000 in
/-- Tokens -/
theorem i_Tk {ak sv : Nat → Nat} (l : Launch) (g : GG) (o : Nat) : KVx ak sv l yTk_init cTk_init 1 (rD 5 5 3654) g [(o, .inr (2, [.null, .null, .null, .int 0, .int 0, .int 0, .int 0, .int 0, .int 0, .null, .null, .int 0]))] (fun u : Nat → Nat => [(o, .inr (2, [.ref (u 0), .ref (u 1), .ref (u 2), .int 0, .int 0, .int 0, .int 0, .int 0, .int 0, .ref (u 3), .ref (u 4), .int 0])), (u 0, .inl (g.2.2 1, 1202, .inl (fun _ => 0))), (u 1, .inl (g.2.2 1, 1202, .inl (fun _ => 0)))]) [.ref o] (fun u : Nat → Nat => True) := by
  refine KVx.of (by decide) (Nat.le_of_ble_eq_true rfl) ?_
  intro p e s m below meth c A ls C hr hlk hnm h hE hl
  have hx := C.1.1
  have hb := C.1.2.1
  have hl : lv_has ls 1 [(0, .ref o)] := hl
  refine lv_aload_n hx hb dTk_init_0 rfl (lv_at hl 0 rfl) ?_
  refine W.objInit hx hb C.1.2.2.2.1 (C.1.2.2.2.2 _ koTk) (C.1.2.2.2.2 _ k_objI) (C.1.2.2.2.2 _ k_objC) rfl (by rw [C.1.2.2.1]; exact hl.1) rfl dTk_init_1 (Nat.le_of_ble_eq_true rfl) (Nat.le_of_ble_eq_true rfl) ?_
  refine W.eq (g2 := F0 m 4 ls []) rfl ?_
  refine lv_aload_n hx hb dTk_init_4 rfl (lv_at hl 0 rfl) ?_
  refine lv_sipush (v := 1202) hx hb dTk_init_5 (by decide) ?_
  refine newA_i C h (N := 1202) (by decide) (by decide) (by decide) (by decide) (by decide) dTk_init_8 (fun q_1 H h => ?_)
  have h : Hx g [(o, .inr (2, [.null, .null, .null, .int 0, .int 0, .int 0, .int 0, .int 0, .int 0, .null, .null, .int 0])), (q_1, .inl (g.2.2 1, 1202, .inl (fun _ => 0)))] A s.heap _ _ := h
  refine W.widen (k := 1) (n := 1202) (by decide) (by decide) ?_
  refine opF C h laysTk tyTk tyTk_ok nmTk hnm rfl 0 rfl rfl 0 (by decide) flTk_9 rfl rfl (v := .ref q_1) rfl rfl (Nat.le_of_ble_eq_true rfl) (w' := [(o, .inr (2, [.ref q_1, .null, .null, .int 0, .int 0, .int 0, .int 0, .int 0, .int 0, .null, .null, .int 0])), (q_1, .inl (g.2.2 1, 1202, .inl (fun _ => 0)))]) rfl dTk_init_10 (fun H locs h => ?_)
  refine lv_aload_n hx hb dTk_init_13 rfl (lv_at hl 0 rfl) ?_
  refine lv_sipush (v := 1202) hx hb dTk_init_14 (by decide) ?_
  refine newA_i C h (N := 1202) (by decide) (by decide) (by decide) (by decide) (by decide) dTk_init_17 (fun q_2 H h => ?_)
  have h : Hx g [(o, .inr (2, [.ref q_1, .null, .null, .int 0, .int 0, .int 0, .int 0, .int 0, .int 0, .null, .null, .int 0])), (q_1, .inl (g.2.2 1, 1202, .inl (fun _ => 0))), (q_2, .inl (g.2.2 1, 1202, .inl (fun _ => 0)))] A s.heap _ _ := h
  refine W.widen (k := 2) (n := 2404) (by decide) (by decide) ?_
  refine opF C h laysTk tyTk tyTk_ok nmTk hnm rfl 0 rfl rfl 1 (by decide) flTk_13 rfl rfl (v := .ref q_2) rfl rfl (Nat.le_of_ble_eq_true rfl) (w' := [(o, .inr (2, [.ref q_1, .ref q_2, .null, .int 0, .int 0, .int 0, .int 0, .int 0, .int 0, .null, .null, .int 0])), (q_1, .inl (g.2.2 1, 1202, .inl (fun _ => 0))), (q_2, .inl (g.2.2 1, 1202, .inl (fun _ => 0)))]) rfl dTk_init_19 (fun H locs h => ?_)
  refine lv_aload_n hx hb dTk_init_22 rfl (lv_at hl 0 rfl) ?_
  refine lv_sipush (v := 1202) hx hb dTk_init_23 (by decide) ?_
  refine newA_j C h (N := 1202) (by decide) (by decide) (by decide) (by decide) (by decide) dTk_init_26 (fun q_3 H h => ?_)
  have h : Hx g [(o, .inr (2, [.ref q_1, .ref q_2, .null, .int 0, .int 0, .int 0, .int 0, .int 0, .int 0, .null, .null, .int 0])), (q_1, .inl (g.2.2 1, 1202, .inl (fun _ => 0))), (q_2, .inl (g.2.2 1, 1202, .inl (fun _ => 0))), (q_3, .inl (g.2.2 2, 1202, .inr (.inl (fun _ => 0))))] A s.heap _ _ := h
  refine W.widen (k := 3) (n := 3606) (by decide) (by decide) ?_
  refine opF C h laysTk tyTk tyTk_ok nmTk hnm rfl 0 rfl rfl 2 (by decide) flTk_16 rfl rfl (v := .ref q_3) rfl rfl (Nat.le_of_ble_eq_true rfl) (w' := [(o, .inr (2, [.ref q_1, .ref q_2, .ref q_3, .int 0, .int 0, .int 0, .int 0, .int 0, .int 0, .null, .null, .int 0])), (q_1, .inl (g.2.2 1, 1202, .inl (fun _ => 0))), (q_2, .inl (g.2.2 1, 1202, .inl (fun _ => 0))), (q_3, .inl (g.2.2 2, 1202, .inr (.inl (fun _ => 0))))]) rfl dTk_init_28 (fun H locs h => ?_)
  refine lv_aload_n hx hb dTk_init_31 rfl (lv_at hl 0 rfl) ?_
  refine lv_bipush (v := 48) hx hb dTk_init_32 (by decide) ?_
  refine newA_j C h (N := 48) (by decide) (by decide) (by decide) (by decide) (by decide) dTk_init_34 (fun q_4 H h => ?_)
  have h : Hx g [(o, .inr (2, [.ref q_1, .ref q_2, .ref q_3, .int 0, .int 0, .int 0, .int 0, .int 0, .int 0, .null, .null, .int 0])), (q_1, .inl (g.2.2 1, 1202, .inl (fun _ => 0))), (q_2, .inl (g.2.2 1, 1202, .inl (fun _ => 0))), (q_3, .inl (g.2.2 2, 1202, .inr (.inl (fun _ => 0)))), (q_4, .inl (g.2.2 2, 48, .inr (.inl (fun _ => 0))))] A s.heap _ _ := h
  refine W.widen (k := 4) (n := 3654) (by decide) (by decide) ?_
  refine opF C h laysTk tyTk tyTk_ok nmTk hnm rfl 0 rfl rfl 9 (by decide) flTk_20 rfl rfl (v := .ref q_4) rfl rfl (Nat.le_of_ble_eq_true rfl) (w' := [(o, .inr (2, [.ref q_1, .ref q_2, .ref q_3, .int 0, .int 0, .int 0, .int 0, .int 0, .int 0, .ref q_4, .null, .int 0])), (q_1, .inl (g.2.2 1, 1202, .inl (fun _ => 0))), (q_2, .inl (g.2.2 1, 1202, .inl (fun _ => 0))), (q_3, .inl (g.2.2 2, 1202, .inr (.inl (fun _ => 0)))), (q_4, .inl (g.2.2 2, 48, .inr (.inl (fun _ => 0))))]) rfl dTk_init_36 (fun H locs h => ?_)
  refine lv_aload_n hx hb dTk_init_39 rfl (lv_at hl 0 rfl) ?_
  refine lv_iconst (v := 0) hx hb dTk_init_40 (by decide) ?_
  refine newA_b C h (N := 0) (by decide) (by decide) (by decide) (by decide) (by decide) dTk_init_41 (fun q_5 H h => ?_)
  have h : Hx g [(o, .inr (2, [.ref q_1, .ref q_2, .ref q_3, .int 0, .int 0, .int 0, .int 0, .int 0, .int 0, .ref q_4, .null, .int 0])), (q_1, .inl (g.2.2 1, 1202, .inl (fun _ => 0))), (q_2, .inl (g.2.2 1, 1202, .inl (fun _ => 0))), (q_3, .inl (g.2.2 2, 1202, .inr (.inl (fun _ => 0)))), (q_4, .inl (g.2.2 2, 48, .inr (.inl (fun _ => 0)))), (q_5, .inl (g.2.2 0, 0, .inl (fun _ => 0)))] A s.heap _ _ := h
  refine W.widen (k := 5) (n := 3654) (by decide) (by decide) ?_
  refine op C h laysTk tyTk tyTk_ok nmTk 0 rfl rfl 10 (by decide) flTk_23 rfl rfl (v := .ref q_5) rfl rfl (Nat.le_of_ble_eq_true rfl) (w' := [(o, .inr (2, [.ref q_1, .ref q_2, .ref q_3, .int 0, .int 0, .int 0, .int 0, .int 0, .int 0, .ref q_4, .ref q_5, .int 0])), (q_1, .inl (g.2.2 1, 1202, .inl (fun _ => 0))), (q_2, .inl (g.2.2 1, 1202, .inl (fun _ => 0))), (q_3, .inl (g.2.2 2, 1202, .inr (.inl (fun _ => 0)))), (q_4, .inl (g.2.2 2, 48, .inr (.inl (fun _ => 0)))), (q_5, .inl (g.2.2 0, 0, .inl (fun _ => 0)))]) rfl dTk_init_43 (fun H locs h => ?_)
  refine lv_aload_n hx hb dTk_init_46 rfl (lv_at hl 0 rfl) ?_
  refine va_ldcS hx hb C.1.2.2.2.1 (hE.2.2.2.1 0 (by decide)) dTk_init_47 ?_
  refine lv_aload_n hx hb dTk_init_49 rfl (lv_at hl 0 rfl) ?_
  refine va_ldcS hx hb C.1.2.2.2.1 (hE.2.2.2.1 1 (by decide)) dTk_init_50 ?_
  refine lv_aload_n hx hb dTk_init_52 rfl (lv_at hl 0 rfl) ?_
  refine va_ldcS hx hb C.1.2.2.2.1 (hE.2.2.2.1 2 (by decide)) dTk_init_53 ?_
  refine lv_aload_n hx hb dTk_init_55 rfl (lv_at hl 0 rfl) ?_
  refine va_ldcS hx hb C.1.2.2.2.1 (hE.2.2.2.1 3 (by decide)) dTk_init_56 ?_
  refine lv_iconst (v := 0) hx hb dTk_init_58 (by decide) ?_
  refine KIx.callVs (As := [.ref (ak 3), .int 0]) (q0 := 0) (ci := 2) (wc := [(o, .inr (2, [.ref q_1, .ref q_2, .ref q_3, .int 0, .int 0, .int 0, .int 0, .int 0, .int 0, .ref q_4, .ref q_5, .int 0])), (q_4, .inl (g.2.2 2, 48, .inr (.inl (fun _ => 0))))]) (wr := [(q_1, .inl (g.2.2 1, 1202, .inl (fun _ => 0))), (q_2, .inl (g.2.2 1, 1202, .inl (fun _ => 0))), (q_3, .inl (g.2.2 2, 1202, .inr (.inl (fun _ => 0)))), (q_5, .inl (g.2.2 0, 0, .inl (fun _ => 0)))]) C h hE [0, 4] [1, 2, 3, 5] rfl rfl (by decide) (by decide) (by decide) (t_learn l g o q_1 q_2 q_3 q_4 q_5 3 (by decide) (fun _ => 0) 0 ⟨0, rfl, by decide⟩) vTk_init_35 ⟨by decide, by decide⟩ rfl rfl hl.1 rfl (Nat.le_of_ble_eq_true rfl) dTk_init_59 ⟨by decide, by decide⟩ (fun r_7 u_6 H locs hp h => ?_)
  have h : Hx g [(q_1, .inl (g.2.2 1, 1202, .inl (fun _ => 0))), (q_2, .inl (g.2.2 1, 1202, .inl (fun _ => 0))), (q_3, .inl (g.2.2 2, 1202, .inr (.inl (fun _ => 0)))), (q_5, .inl (g.2.2 0, 0, .inl (fun _ => 0))), (o, .inr (2, [.ref q_1, .ref q_2, .ref q_3, .int 0, .int 0, .int 0, .int 0, .int 0, .int 0, .ref q_4, .ref q_5, .int 0])), (q_4, .inl (g.2.2 2, 48, .inr (.inl u_6)))] A s.heap _ _ := h
  have hr_7 := hp
  refine KIx.callVs (As := [.ref (ak 2), .int r_7]) (q0 := 4) (ci := 2) (wc := [(o, .inr (2, [.ref q_1, .ref q_2, .ref q_3, .int 0, .int 0, .int 0, .int 0, .int 0, .int 0, .ref q_4, .ref q_5, .int 0])), (q_4, .inl (g.2.2 2, 48, .inr (.inl u_6)))]) (wr := [(q_1, .inl (g.2.2 1, 1202, .inl (fun _ => 0))), (q_2, .inl (g.2.2 1, 1202, .inl (fun _ => 0))), (q_3, .inl (g.2.2 2, 1202, .inr (.inl (fun _ => 0)))), (q_5, .inl (g.2.2 0, 0, .inl (fun _ => 0)))]) C h hE [4, 5] [0, 1, 2, 3] rfl rfl (by decide) (by decide) (by decide) (t_learn l g o q_1 q_2 q_3 q_4 q_5 2 (by decide) u_6 r_7 hr_7) vTk_init_35 ⟨by decide, by decide⟩ rfl rfl hl.1 rfl (Nat.le_of_ble_eq_true rfl) dTk_init_62 ⟨by decide, by decide⟩ (fun r_9 u_8 H locs hp h => ?_)
  have h : Hx g [(q_1, .inl (g.2.2 1, 1202, .inl (fun _ => 0))), (q_2, .inl (g.2.2 1, 1202, .inl (fun _ => 0))), (q_3, .inl (g.2.2 2, 1202, .inr (.inl (fun _ => 0)))), (q_5, .inl (g.2.2 0, 0, .inl (fun _ => 0))), (o, .inr (2, [.ref q_1, .ref q_2, .ref q_3, .int 0, .int 0, .int 0, .int 0, .int 0, .int 0, .ref q_4, .ref q_5, .int 0])), (q_4, .inl (g.2.2 2, 48, .inr (.inl u_8)))] A s.heap _ _ := h
  have hr_9 := hp
  refine KIx.callVs (As := [.ref (ak 1), .int r_9]) (q0 := 4) (ci := 2) (wc := [(o, .inr (2, [.ref q_1, .ref q_2, .ref q_3, .int 0, .int 0, .int 0, .int 0, .int 0, .int 0, .ref q_4, .ref q_5, .int 0])), (q_4, .inl (g.2.2 2, 48, .inr (.inl u_8)))]) (wr := [(q_1, .inl (g.2.2 1, 1202, .inl (fun _ => 0))), (q_2, .inl (g.2.2 1, 1202, .inl (fun _ => 0))), (q_3, .inl (g.2.2 2, 1202, .inr (.inl (fun _ => 0)))), (q_5, .inl (g.2.2 0, 0, .inl (fun _ => 0)))]) C h hE [4, 5] [0, 1, 2, 3] rfl rfl (by decide) (by decide) (by decide) (t_learn l g o q_1 q_2 q_3 q_4 q_5 1 (by decide) u_8 r_9 hr_9) vTk_init_35 ⟨by decide, by decide⟩ rfl rfl hl.1 rfl (Nat.le_of_ble_eq_true rfl) dTk_init_65 ⟨by decide, by decide⟩ (fun r_11 u_10 H locs hp h => ?_)
  have h : Hx g [(q_1, .inl (g.2.2 1, 1202, .inl (fun _ => 0))), (q_2, .inl (g.2.2 1, 1202, .inl (fun _ => 0))), (q_3, .inl (g.2.2 2, 1202, .inr (.inl (fun _ => 0)))), (q_5, .inl (g.2.2 0, 0, .inl (fun _ => 0))), (o, .inr (2, [.ref q_1, .ref q_2, .ref q_3, .int 0, .int 0, .int 0, .int 0, .int 0, .int 0, .ref q_4, .ref q_5, .int 0])), (q_4, .inl (g.2.2 2, 48, .inr (.inl u_10)))] A s.heap _ _ := h
  have hr_11 := hp
  refine KIx.callVs (As := [.ref (ak 0), .int r_11]) (q0 := 4) (ci := 2) (wc := [(o, .inr (2, [.ref q_1, .ref q_2, .ref q_3, .int 0, .int 0, .int 0, .int 0, .int 0, .int 0, .ref q_4, .ref q_5, .int 0])), (q_4, .inl (g.2.2 2, 48, .inr (.inl u_10)))]) (wr := [(q_1, .inl (g.2.2 1, 1202, .inl (fun _ => 0))), (q_2, .inl (g.2.2 1, 1202, .inl (fun _ => 0))), (q_3, .inl (g.2.2 2, 1202, .inr (.inl (fun _ => 0)))), (q_5, .inl (g.2.2 0, 0, .inl (fun _ => 0)))]) C h hE [4, 5] [0, 1, 2, 3] rfl rfl (by decide) (by decide) (by decide) (t_learn l g o q_1 q_2 q_3 q_4 q_5 0 (by decide) u_10 r_11 hr_11) vTk_init_35 ⟨by decide, by decide⟩ rfl rfl hl.1 rfl (Nat.le_of_ble_eq_true rfl) dTk_init_68 ⟨by decide, by decide⟩ (fun r_13 u_12 H locs hp h => ?_)
  have h : Hx g [(q_1, .inl (g.2.2 1, 1202, .inl (fun _ => 0))), (q_2, .inl (g.2.2 1, 1202, .inl (fun _ => 0))), (q_3, .inl (g.2.2 2, 1202, .inr (.inl (fun _ => 0)))), (q_5, .inl (g.2.2 0, 0, .inl (fun _ => 0))), (o, .inr (2, [.ref q_1, .ref q_2, .ref q_3, .int 0, .int 0, .int 0, .int 0, .int 0, .int 0, .ref q_4, .ref q_5, .int 0])), (q_4, .inl (g.2.2 2, 48, .inr (.inl u_12)))] A s.heap _ _ := h
  have hr_13 := hp
  refine lv_pop hx hb dTk_init_71 rfl ?_
  have h : Hx g [(o, .inr (2, [.ref q_1, .ref q_2, .ref q_3, .int 0, .int 0, .int 0, .int 0, .int 0, .int 0, .ref q_4, .ref q_5, .int 0])), (q_1, .inl (g.2.2 1, 1202, .inl (fun _ => 0))), (q_2, .inl (g.2.2 1, 1202, .inl (fun _ => 0)))] A s.heap _ _ := h.cut [4, 0, 1] (by decide) rfl
  exact KV.ret C hr hlk (fun i => ([q_1, q_2, q_3, q_4, q_5] : List Nat).getD i 0) h trivial (by decide) (by decide) dTk_init_72

set_option maxHeartbeats 4000000 in
set_option maxRecDepth 100000 in
/-- gap(0) of an empty text -/
theorem t_gap0 (l : Launch) (g : GG) (o k pp v kw tx : Nat) : KI l yTk_gap cTk_gap 5 (some .int) (rD 0 0 0) g [(o, .inr (2, [.ref k, .ref pp, .ref v, .int 0, .int 0, .int 0, .int 0, .int 0, .int 0, .ref kw, .ref tx, .int 0]))] (fun u : Unit => [(o, .inr (2, [.ref k, .ref pp, .ref v, .int 0, .int 0, .int 0, .int 0, .int 0, .int 0, .ref kw, .ref tx, .int 0]))]) [.ref o, .int 0] (fun (r : Int32) (u : Unit) => r = 0) := by
  refine KI.of (by decide) (Nat.le_of_ble_eq_true rfl) ?_
  intro p e s m below meth c A ls C hr hlk hnm h hl
  have hx := C.1.1
  have hb := C.1.2.1
  have hl : lv_has ls 5 [(0, .ref o), (1, .int 0)] := hl
  refine lv_iconst (v := 0) hx hb dTk_gap_0 (by decide) ?_
  refine lv_istore_n (lv' := [(2, .int (0)), (0, .ref o), (1, .int (0))]) hx hb dTk_gap_1 rfl hl (by decide) rfl (fun ls hl => ?_)
  refine lv_iload_n hx hb dTk_gap_2 rfl (lv_at hl 2 rfl) ?_
  refine lv_istore_n (lv' := [(3, .int (0)), (2, .int (0)), (0, .ref o), (1, .int (0))]) hx hb dTk_gap_3 rfl hl (by decide) rfl (fun ls hl => ?_)
  refine lv_iload_n hx hb dTk_gap_4 rfl (lv_at hl 0 rfl) ?_
  refine lv_aload_n hx hb dTk_gap_5 rfl (lv_at hl 2 rfl) ?_
  refine og C h laysTk 0 rfl rfl 11 (by decide) flTk_55 rfl (v := .int 0) rfl dTk_gap_6 ?_
  refine lv_icmp_ge (tgt := 88) hx hb dTk_gap_9 (by decide) (fun c9 => ?_) (fun c9 => absurd c9 (by decide))
  refine lv_iload_n hx hb dTk_gap_88 rfl (lv_at hl 0 rfl) ?_
  exact KI.ret C hr hlk () h rfl rfl (by decide) (by decide) dTk_gap_89

set_option maxHeartbeats 4000000 in
set_option maxRecDepth 100000 in
/-- read() of an empty text -/
theorem t_read0 (l : Launch) (g : GG) (o k pp v kw tx : Nat) (t : Nat) : KV l yTk_read cTk_read 7 (rD 1 0 0) g [(o, .inr (2, [.ref k, .ref pp, .ref v, .int 0, .int 0, .int 0, .int 0, .int 0, .int 0, .ref kw, .ref tx, .int 0])), (k, .inl (g.2.2 1, 1202, .inl (fun _ => 0))), (pp, .inl (g.2.2 1, 1202, .inl (fun _ => 0)))] (fun u : Unit => [(o, .inr (2, [.ref k, .ref pp, .ref v, .int 0, .int 0, .int 0, .int 0, .int 0, .int 0, .ref kw, .ref t, .int 0])), (k, .inl (g.2.2 1, 1202, .inl (upd (fun _ => 0) (0 : Int32).toNatClampNeg 0))), (pp, .inl (g.2.2 1, 1202, .inl (upd (fun _ => 0) (0 : Int32).toNatClampNeg 0)))]) [.ref o, .ref t, .int 0] (fun u : Unit => True) := by
  refine KV.of (by decide) (Nat.le_of_ble_eq_true rfl) ?_
  intro p e s m below meth c A ls C hr hlk hnm h hl
  have hx := C.1.1
  have hb := C.1.2.1
  have hl : lv_has ls 7 [(0, .ref o), (1, .ref t), (2, .int 0)] := hl
  refine lv_aload_n hx hb dTk_read_0 rfl (lv_at hl 0 rfl) ?_
  refine lv_aload_n hx hb dTk_read_1 rfl (lv_at hl 1 rfl) ?_
  refine op C h laysTk tyTk tyTk_ok nmTk 0 rfl rfl 10 (by decide) flTk_23 rfl rfl (v := .ref t) rfl rfl (Nat.le_of_ble_eq_true rfl) (w' := [(o, .inr (2, [.ref k, .ref pp, .ref v, .int 0, .int 0, .int 0, .int 0, .int 0, .int 0, .ref kw, .ref t, .int 0])), (k, .inl (g.2.2 1, 1202, .inl (fun _ => 0))), (pp, .inl (g.2.2 1, 1202, .inl (fun _ => 0)))]) rfl dTk_read_2 (fun H locs h => ?_)
  refine lv_aload_n hx hb dTk_read_5 rfl (lv_at hl 0 rfl) ?_
  refine lv_iload_n hx hb dTk_read_6 rfl (lv_at hl 2 rfl) ?_
  refine op C h laysTk tyTk tyTk_ok nmTk 0 rfl rfl 11 (by decide) flTk_55 rfl rfl (v := .int 0) rfl rfl (Nat.le_of_ble_eq_true rfl) (w' := [(o, .inr (2, [.ref k, .ref pp, .ref v, .int 0, .int 0, .int 0, .int 0, .int 0, .int 0, .ref kw, .ref t, .int 0])), (k, .inl (g.2.2 1, 1202, .inl (fun _ => 0))), (pp, .inl (g.2.2 1, 1202, .inl (fun _ => 0)))]) rfl dTk_read_7 (fun H locs h => ?_)
  refine lv_aload_n hx hb dTk_read_10 rfl (lv_at hl 0 rfl) ?_
  refine lv_iconst (v := 0) hx hb dTk_read_11 (by decide) ?_
  refine op C h laysTk tyTk tyTk_ok nmTk 0 rfl rfl 3 (by decide) flTk_58 rfl rfl (v := .int 0) rfl rfl (Nat.le_of_ble_eq_true rfl) (w' := [(o, .inr (2, [.ref k, .ref pp, .ref v, .int 0, .int 0, .int 0, .int 0, .int 0, .int 0, .ref kw, .ref t, .int 0])), (k, .inl (g.2.2 1, 1202, .inl (fun _ => 0))), (pp, .inl (g.2.2 1, 1202, .inl (fun _ => 0)))]) rfl dTk_read_12 (fun H locs h => ?_)
  refine lv_aload_n hx hb dTk_read_15 rfl (lv_at hl 0 rfl) ?_
  refine lv_iconst (v := 0) hx hb dTk_read_16 (by decide) ?_
  refine op C h laysTk tyTk tyTk_ok nmTk 0 rfl rfl 4 (by decide) flTk_61 rfl rfl (v := .int 0) rfl rfl (Nat.le_of_ble_eq_true rfl) (w' := [(o, .inr (2, [.ref k, .ref pp, .ref v, .int 0, .int 0, .int 0, .int 0, .int 0, .int 0, .ref kw, .ref t, .int 0])), (k, .inl (g.2.2 1, 1202, .inl (fun _ => 0))), (pp, .inl (g.2.2 1, 1202, .inl (fun _ => 0)))]) rfl dTk_read_17 (fun H locs h => ?_)
  refine lv_aload_n hx hb dTk_read_20 rfl (lv_at hl 0 rfl) ?_
  refine lv_iconst (v := 0) hx hb dTk_read_21 (by decide) ?_
  refine op C h laysTk tyTk tyTk_ok nmTk 0 rfl rfl 5 (by decide) flTk_64 rfl rfl (v := .int 0) rfl rfl (Nat.le_of_ble_eq_true rfl) (w' := [(o, .inr (2, [.ref k, .ref pp, .ref v, .int 0, .int 0, .int 0, .int 0, .int 0, .int 0, .ref kw, .ref t, .int 0])), (k, .inl (g.2.2 1, 1202, .inl (fun _ => 0))), (pp, .inl (g.2.2 1, 1202, .inl (fun _ => 0)))]) rfl dTk_read_22 (fun H locs h => ?_)
  refine lv_aload_n hx hb dTk_read_25 rfl (lv_at hl 0 rfl) ?_
  refine lv_iconst (v := 0) hx hb dTk_read_26 (by decide) ?_
  refine op C h laysTk tyTk tyTk_ok nmTk 0 rfl rfl 7 (by decide) flTk_67 rfl rfl (v := .int 0) rfl rfl (Nat.le_of_ble_eq_true rfl) (w' := [(o, .inr (2, [.ref k, .ref pp, .ref v, .int 0, .int 0, .int 0, .int 0, .int 0, .int 0, .ref kw, .ref t, .int 0])), (k, .inl (g.2.2 1, 1202, .inl (fun _ => 0))), (pp, .inl (g.2.2 1, 1202, .inl (fun _ => 0)))]) rfl dTk_read_27 (fun H locs h => ?_)
  refine lv_iconst (v := 0) hx hb dTk_read_30 (by decide) ?_
  refine lv_istore_n (lv' := [(3, .int (0)), (0, .ref o), (1, .ref t), (2, .int (0))]) hx hb dTk_read_31 rfl hl (by decide) rfl (fun ls hl => ?_)
  refine lv_aload_n hx hb dTk_read_32 rfl (lv_at hl 1 rfl) ?_
  refine lv_iconst (v := 0) hx hb dTk_read_33 (by decide) ?_
  refine KI.callVs (As := [.int 0]) (q0 := 0) (ci := 2) (wc := [(o, .inr (2, [.ref k, .ref pp, .ref v, .int 0, .int 0, .int 0, .int 0, .int 0, .int 0, .ref kw, .ref t, .int 0]))]) (wr := [(k, .inl (g.2.2 1, 1202, .inl (fun _ => 0))), (pp, .inl (g.2.2 1, 1202, .inl (fun _ => 0)))]) C h [0] [1, 2] rfl rfl (by decide) (by decide) (by decide) (t_gap0 l g o k pp v kw t) vTk_read_70 ⟨by decide, by decide⟩ rfl rfl hl.1 rfl (Nat.le_of_ble_eq_true rfl) dTk_read_34 ⟨by decide, by decide⟩ (fun r_1 _ H locs hp h => ?_)
  have h : Hx g [(k, .inl (g.2.2 1, 1202, .inl (fun _ => 0))), (pp, .inl (g.2.2 1, 1202, .inl (fun _ => 0))), (o, .inr (2, [.ref k, .ref pp, .ref v, .int 0, .int 0, .int 0, .int 0, .int 0, .int 0, .ref kw, .ref t, .int 0]))] A s.heap _ _ := h
  subst hp
  refine lv_istore (lv' := [(4, .int (0)), (3, .int (0)), (0, .ref o), (1, .ref t), (2, .int (0))]) hx hb dTk_read_37 hl (by decide) rfl (fun ls hl => ?_)
  refine lv_iconst (v := 1) hx hb dTk_read_39 (by decide) ?_
  refine lv_istore (lv' := [(5, .int (1)), (4, .int (0)), (3, .int (0)), (0, .ref o), (1, .ref t), (2, .int (0))]) hx hb dTk_read_40 hl (by decide) rfl (fun ls hl => ?_)
  refine lv_iconst (v := 0) hx hb dTk_read_42 (by decide) ?_
  refine lv_istore (lv' := [(6, .int (0)), (5, .int (1)), (4, .int (0)), (3, .int (0)), (0, .ref o), (1, .ref t), (2, .int (0))]) hx hb dTk_read_43 hl (by decide) rfl (fun ls hl => ?_)
  refine lv_iload hx hb dTk_read_45 (lv_at hl 0 rfl) ?_
  refine lv_sipush (v := 1200) hx hb dTk_read_47 (by decide) ?_
  refine lv_icmp_gt (tgt := 116) hx hb dTk_read_50 (by decide) (fun c50 => absurd c50 (by decide)) (fun c50 => ?_)
  refine lv_iload hx hb dTk_read_53 (lv_at hl 1 rfl) ?_
  refine lv_if_eq (tgt := 116) hx hb dTk_read_55 (by decide) (fun c55 => absurd c55 (by decide)) (fun c55 => ?_)
  refine lv_iload hx hb dTk_read_58 (lv_at hl 2 rfl) ?_
  refine lv_iload_n hx hb dTk_read_60 rfl (lv_at hl 6 rfl) ?_
  refine lv_icmp_ge (tgt := 116) hx hb dTk_read_61 (by decide) (fun c61 => ?_) (fun c61 => absurd c61 (by decide))
  refine lv_iload hx hb dTk_read_116 (lv_at hl 1 rfl) ?_
  refine lv_if_eq (tgt := 135) hx hb dTk_read_118 (by decide) (fun c118 => absurd c118 (by decide)) (fun c118 => ?_)
  refine lv_aload_n hx hb dTk_read_121 rfl (lv_at hl 4 rfl) ?_
  refine og C h laysTk 2 rfl rfl 0 (by decide) flTk_9 rfl (v := .ref k) rfl dTk_read_122 ?_
  refine lv_iload_n hx hb dTk_read_125 rfl (lv_at hl 3 rfl) ?_
  refine lv_iconst (v := 0) hx hb dTk_read_126 (by decide) ?_
  refine va_iast C.1.1 C.1.2.1 C.2 h.1 h.2.1 h.2.2.1 0 1 rfl rfl (pk_in 0 1202 (by decide) rfl) dTk_read_127 (fun H locs hP hD hS => ?_)
  have h : Hx g [(k, .inl (g.2.2 1, 1202, .inl (upd (fun _ => 0) (0 : Int32).toNatClampNeg 0))), (pp, .inl (g.2.2 1, 1202, .inl (fun _ => 0))), (o, .inr (2, [.ref k, .ref pp, .ref v, .int 0, .int 0, .int 0, .int 0, .int 0, .int 0, .ref kw, .ref t, .int 0]))] A s.heap _ _ := ⟨hP, hD, hS, h.2.2.2⟩
  refine lv_aload_n hx hb dTk_read_128 rfl (lv_at hl 4 rfl) ?_
  refine og C h laysTk 2 rfl rfl 1 (by decide) flTk_13 rfl (v := .ref pp) rfl dTk_read_129 ?_
  refine lv_iload_n hx hb dTk_read_132 rfl (lv_at hl 3 rfl) ?_
  refine lv_iload_n hx hb dTk_read_133 rfl (lv_at hl 6 rfl) ?_
  refine va_iast C.1.1 C.1.2.1 C.2 h.1 h.2.1 h.2.2.1 1 1 rfl rfl (pk_in 0 1202 (by decide) rfl) dTk_read_134 (fun H locs hP hD hS => ?_)
  have h : Hx g [(k, .inl (g.2.2 1, 1202, .inl (upd (fun _ => 0) (0 : Int32).toNatClampNeg 0))), (pp, .inl (g.2.2 1, 1202, .inl (upd (fun _ => 0) (0 : Int32).toNatClampNeg 0))), (o, .inr (2, [.ref k, .ref pp, .ref v, .int 0, .int 0, .int 0, .int 0, .int 0, .int 0, .ref kw, .ref t, .int 0]))] A s.heap _ _ := ⟨hP, hD, hS, h.2.2.2⟩
  have h : Hx g [(o, .inr (2, [.ref k, .ref pp, .ref v, .int 0, .int 0, .int 0, .int 0, .int 0, .int 0, .ref kw, .ref t, .int 0])), (k, .inl (g.2.2 1, 1202, .inl (upd (fun _ => 0) (0 : Int32).toNatClampNeg 0))), (pp, .inl (g.2.2 1, 1202, .inl (upd (fun _ => 0) (0 : Int32).toNatClampNeg 0)))] A s.heap _ _ := h.cut [2, 0, 1] (by decide) rfl
  exact KV.ret C hr hlk () h trivial (by decide) (by decide) dTk_read_135

set_option maxHeartbeats 4000000 in
set_option maxRecDepth 100000 in
/-- seen() at the end of an empty text -/
theorem t_seen0 (l : Launch) (g : GG) (o k pp v kw t : Nat) : KI l yTk_seen cTk_seen 1 (some .int) (rD 0 0 0) g [(o, .inr (2, [.ref k, .ref pp, .ref v, .int 0, .int 0, .int 0, .int 0, .int 0, .int 0, .ref kw, .ref t, .int 0])), (k, .inl (g.2.2 1, 1202, .inl (upd (fun _ => 0) (0 : Int32).toNatClampNeg 0))), (pp, .inl (g.2.2 1, 1202, .inl (upd (fun _ => 0) (0 : Int32).toNatClampNeg 0)))] (fun u : Unit => [(o, .inr (2, [.ref k, .ref pp, .ref v, .int 0, .int 0, .int 0, .int 0, .int 0, .int 0, .ref kw, .ref t, .int 0])), (k, .inl (g.2.2 1, 1202, .inl (upd (fun _ => 0) (0 : Int32).toNatClampNeg 0))), (pp, .inl (g.2.2 1, 1202, .inl (upd (fun _ => 0) (0 : Int32).toNatClampNeg 0)))]) [.ref o] (fun (r : Int32) (u : Unit) => r = 0) := by
  refine KI.of (by decide) (Nat.le_of_ble_eq_true rfl) ?_
  intro p e s m below meth c A ls C hr hlk hnm h hl
  have hx := C.1.1
  have hb := C.1.2.1
  have hl : lv_has ls 1 [(0, .ref o)] := hl
  refine lv_aload_n hx hb dTk_seen_0 rfl (lv_at hl 0 rfl) ?_
  refine og C h laysTk 0 rfl rfl 5 (by decide) flTk_64 rfl (v := .int 0) rfl dTk_seen_1 ?_
  refine lv_if_eq (tgt := 11) hx hb dTk_seen_4 (by decide) (fun c4 => ?_) (fun c4 => absurd c4 (by decide))
  refine lv_aload_n hx hb dTk_seen_11 rfl (lv_at hl 0 rfl) ?_
  refine og C h laysTk 0 rfl rfl 0 (by decide) flTk_9 rfl (v := .ref k) rfl dTk_seen_12 ?_
  refine lv_aload_n hx hb dTk_seen_15 rfl (lv_at hl 0 rfl) ?_
  refine og C h laysTk 0 rfl rfl 3 (by decide) flTk_58 rfl (v := .int 0) rfl dTk_seen_16 ?_
  refine va_iald C.1.1 C.1.2.1 C.2 h.1 1 1 rfl rfl (pk_in 0 1202 (by decide) rfl) dTk_seen_19 ?_
  refine lv_topi (fun z ez => ?_)
  have ez : z = 0 := ez
  subst ez
  exact KI.ret C hr hlk () h rfl rfl (by decide) (by decide) dTk_seen_20

set_option maxHeartbeats 4000000 in
set_option maxRecDepth 100000 in
/-- the first fault -/
theorem t_fail0 (l : Launch) (g : GG) (o k pp v kw t : Nat) : KV l yTk_fail cTk_fail 3 (rD 0 0 0) g [(o, .inr (2, [.ref k, .ref pp, .ref v, .int 0, .int 0, .int 0, .int 0, .int 0, .int 0, .ref kw, .ref t, .int 0])), (k, .inl (g.2.2 1, 1202, .inl (upd (fun _ => 0) (0 : Int32).toNatClampNeg 0))), (pp, .inl (g.2.2 1, 1202, .inl (upd (fun _ => 0) (0 : Int32).toNatClampNeg 0)))] (fun u : Unit => [(o, .inr (2, [.ref k, .ref pp, .ref v, .int 0, .int 0, .int 1, .int 0, .int 0, .int 0, .ref kw, .ref t, .int 0])), (k, .inl (g.2.2 1, 1202, .inl (upd (fun _ => 0) (0 : Int32).toNatClampNeg 0))), (pp, .inl (g.2.2 1, 1202, .inl (upd (fun _ => 0) (0 : Int32).toNatClampNeg 0)))]) [.ref o, .int 1, .int 0] (fun u : Unit => True) := by
  refine KV.of (by decide) (Nat.le_of_ble_eq_true rfl) ?_
  intro p e s m below meth c A ls C hr hlk hnm h hl
  have hx := C.1.1
  have hb := C.1.2.1
  have hl : lv_has ls 3 [(0, .ref o), (1, .int 1), (2, .int 0)] := hl
  refine lv_aload_n hx hb dTk_fail_0 rfl (lv_at hl 0 rfl) ?_
  refine og C h laysTk 0 rfl rfl 5 (by decide) flTk_64 rfl (v := .int 0) rfl dTk_fail_1 ?_
  refine lv_if_ne (tgt := 22) hx hb dTk_fail_4 (by decide) (fun c4 => absurd c4 (by decide)) (fun c4 => ?_)
  refine lv_aload_n hx hb dTk_fail_7 rfl (lv_at hl 0 rfl) ?_
  refine lv_iload_n hx hb dTk_fail_8 rfl (lv_at hl 1 rfl) ?_
  refine op C h laysTk tyTk tyTk_ok nmTk 0 rfl rfl 5 (by decide) flTk_64 rfl rfl (v := .int 1) rfl rfl (Nat.le_of_ble_eq_true rfl) (w' := [(o, .inr (2, [.ref k, .ref pp, .ref v, .int 0, .int 0, .int 1, .int 0, .int 0, .int 0, .ref kw, .ref t, .int 0])), (k, .inl (g.2.2 1, 1202, .inl (upd (fun _ => 0) (0 : Int32).toNatClampNeg 0))), (pp, .inl (g.2.2 1, 1202, .inl (upd (fun _ => 0) (0 : Int32).toNatClampNeg 0)))]) rfl dTk_fail_9 (fun H locs h => ?_)
  refine lv_aload_n hx hb dTk_fail_12 rfl (lv_at hl 0 rfl) ?_
  refine lv_aload_n hx hb dTk_fail_13 rfl (lv_at hl 0 rfl) ?_
  refine og C h laysTk 0 rfl rfl 1 (by decide) flTk_13 rfl (v := .ref pp) rfl dTk_fail_14 ?_
  refine lv_iload_n hx hb dTk_fail_17 rfl (lv_at hl 2 rfl) ?_
  refine va_iald C.1.1 C.1.2.1 C.2 h.1 2 1 rfl rfl (pk_in 0 1202 (by decide) rfl) dTk_fail_18 ?_
  refine lv_topi (fun z ez => ?_)
  have ez : z = 0 := ez
  subst ez
  refine op C h laysTk tyTk tyTk_ok nmTk 0 rfl rfl 6 (by decide) flTk_103 rfl rfl (v := .int 0) rfl rfl (Nat.le_of_ble_eq_true rfl) (w' := [(o, .inr (2, [.ref k, .ref pp, .ref v, .int 0, .int 0, .int 1, .int 0, .int 0, .int 0, .ref kw, .ref t, .int 0])), (k, .inl (g.2.2 1, 1202, .inl (upd (fun _ => 0) (0 : Int32).toNatClampNeg 0))), (pp, .inl (g.2.2 1, 1202, .inl (upd (fun _ => 0) (0 : Int32).toNatClampNeg 0)))]) rfl dTk_fail_19 (fun H locs h => ?_)
  exact KV.ret C hr hlk () h trivial (by decide) (by decide) dTk_fail_22

set_option maxHeartbeats 4000000 in
set_option maxRecDepth 100000 in
/-- take() behind a fault -/
theorem t_take1 (l : Launch) (g : GG) (o k pp v kw t : Nat) : KI l yTk_take cTk_take 2 (some .boolean) (rD 0 0 0) g [(o, .inr (2, [.ref k, .ref pp, .ref v, .int 0, .int 0, .int 1, .int 0, .int 0, .int 0, .ref kw, .ref t, .int 0])), (k, .inl (g.2.2 1, 1202, .inl (upd (fun _ => 0) (0 : Int32).toNatClampNeg 0))), (pp, .inl (g.2.2 1, 1202, .inl (upd (fun _ => 0) (0 : Int32).toNatClampNeg 0)))] (fun u : Unit => [(o, .inr (2, [.ref k, .ref pp, .ref v, .int 0, .int 0, .int 1, .int 0, .int 0, .int 0, .ref kw, .ref t, .int 0])), (k, .inl (g.2.2 1, 1202, .inl (upd (fun _ => 0) (0 : Int32).toNatClampNeg 0))), (pp, .inl (g.2.2 1, 1202, .inl (upd (fun _ => 0) (0 : Int32).toNatClampNeg 0)))]) [.ref o, .int 0] (fun (r : Int32) (u : Unit) => r = 0) := by
  refine KI.of (by decide) (Nat.le_of_ble_eq_true rfl) ?_
  intro p e s m below meth c A ls C hr hlk hnm h hl
  have hx := C.1.1
  have hb := C.1.2.1
  have hl : lv_has ls 2 [(0, .ref o), (1, .int 0)] := hl
  refine lv_aload_n hx hb dTk_take_0 rfl (lv_at hl 0 rfl) ?_
  refine og C h laysTk 0 rfl rfl 5 (by decide) flTk_64 rfl (v := .int 1) rfl dTk_take_1 ?_
  refine lv_if_ne (tgt := 20) hx hb dTk_take_4 (by decide) (fun c4 => ?_) (fun c4 => absurd c4 (by decide))
  refine lv_iconst (v := 0) hx hb dTk_take_20 (by decide) ?_
  exact KI.ret C hr hlk () h rfl rfl (by decide) (by decide) dTk_take_21

set_option maxHeartbeats 4000000 in
set_option maxRecDepth 100000 in
/-- fault() -/
theorem t_fault1 (l : Launch) (g : GG) (o k pp v kw t : Nat) : KI l yTk_fault cTk_fault 1 (some .int) (rD 0 0 0) g [(o, .inr (2, [.ref k, .ref pp, .ref v, .int 0, .int 0, .int 1, .int 0, .int 0, .int 0, .ref kw, .ref t, .int 0])), (k, .inl (g.2.2 1, 1202, .inl (upd (fun _ => 0) (0 : Int32).toNatClampNeg 0))), (pp, .inl (g.2.2 1, 1202, .inl (upd (fun _ => 0) (0 : Int32).toNatClampNeg 0)))] (fun u : Unit => [(o, .inr (2, [.ref k, .ref pp, .ref v, .int 0, .int 0, .int 1, .int 0, .int 0, .int 0, .ref kw, .ref t, .int 0])), (k, .inl (g.2.2 1, 1202, .inl (upd (fun _ => 0) (0 : Int32).toNatClampNeg 0))), (pp, .inl (g.2.2 1, 1202, .inl (upd (fun _ => 0) (0 : Int32).toNatClampNeg 0)))]) [.ref o] (fun (r : Int32) (u : Unit) => r = 1) := by
  refine KI.of (by decide) (Nat.le_of_ble_eq_true rfl) ?_
  intro p e s m below meth c A ls C hr hlk hnm h hl
  have hx := C.1.1
  have hb := C.1.2.1
  have hl : lv_has ls 1 [(0, .ref o)] := hl
  refine lv_aload_n hx hb dTk_fault_0 rfl (lv_at hl 0 rfl) ?_
  refine og C h laysTk 0 rfl rfl 5 (by decide) flTk_64 rfl (v := .int 1) rfl dTk_fault_1 ?_
  refine lv_if_eq (tgt := 14) hx hb dTk_fault_4 (by decide) (fun c4 => absurd c4 (by decide)) (fun c4 => ?_)
  refine lv_aload_n hx hb dTk_fault_7 rfl (lv_at hl 0 rfl) ?_
  refine og C h laysTk 0 rfl rfl 5 (by decide) flTk_64 rfl (v := .int 1) rfl dTk_fault_8 ?_
  refine lv_goto (tgt := 18) hx hb dTk_fault_11 (by decide) ?_
  exact KI.ret C hr hlk () h rfl rfl (by decide) (by decide) dTk_fault_18

set_option maxHeartbeats 4000000 in
set_option maxRecDepth 100000 in
/-- faultPlace() -/
theorem t_faultPlace1 (l : Launch) (g : GG) (o k pp v kw t : Nat) : KI l yTk_faultPlace cTk_faultPlace 1 (some .int) (rD 0 0 0) g [(o, .inr (2, [.ref k, .ref pp, .ref v, .int 0, .int 0, .int 1, .int 0, .int 0, .int 0, .ref kw, .ref t, .int 0])), (k, .inl (g.2.2 1, 1202, .inl (upd (fun _ => 0) (0 : Int32).toNatClampNeg 0))), (pp, .inl (g.2.2 1, 1202, .inl (upd (fun _ => 0) (0 : Int32).toNatClampNeg 0)))] (fun u : Unit => [(o, .inr (2, [.ref k, .ref pp, .ref v, .int 0, .int 0, .int 1, .int 0, .int 0, .int 0, .ref kw, .ref t, .int 0])), (k, .inl (g.2.2 1, 1202, .inl (upd (fun _ => 0) (0 : Int32).toNatClampNeg 0))), (pp, .inl (g.2.2 1, 1202, .inl (upd (fun _ => 0) (0 : Int32).toNatClampNeg 0)))]) [.ref o] (fun (r : Int32) (u : Unit) => r = 0) := by
  refine KI.of (by decide) (Nat.le_of_ble_eq_true rfl) ?_
  intro p e s m below meth c A ls C hr hlk hnm h hl
  have hx := C.1.1
  have hb := C.1.2.1
  have hl : lv_has ls 1 [(0, .ref o)] := hl
  refine lv_aload_n hx hb dTk_faultPlace_0 rfl (lv_at hl 0 rfl) ?_
  refine og C h laysTk 0 rfl rfl 5 (by decide) flTk_64 rfl (v := .int 1) rfl dTk_faultPlace_1 ?_
  refine lv_if_eq (tgt := 14) hx hb dTk_faultPlace_4 (by decide) (fun c4 => absurd c4 (by decide)) (fun c4 => ?_)
  refine lv_aload_n hx hb dTk_faultPlace_7 rfl (lv_at hl 0 rfl) ?_
  refine og C h laysTk 0 rfl rfl 6 (by decide) flTk_103 rfl (v := .int 0) rfl dTk_faultPlace_8 ?_
  refine lv_goto (tgt := 18) hx hb dTk_faultPlace_11 (by decide) ?_
  exact KI.ret C hr hlk () h rfl rfl (by decide) (by decide) dTk_faultPlace_18

