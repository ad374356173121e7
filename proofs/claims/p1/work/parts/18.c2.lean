set_option maxHeartbeats 4000000 in
set_option maxRecDepth 100000 in
/-- write() -/
theorem e_write0 (l : Launch) (g : GG) (x q : Nat) (f : Nat → Int32) (a1 : Int32) : KV l yE_write cE_write 3 (rD 0 0 0) g [(x, .inr (1, [.ref q, .int 0, .null, .null, .null, .null, .null, .null, .null, .null, .int 0, .int (-1)])), (q, .inl (g.2.2 0, 5000, .inl f))] (fun u : Nat → Int32 => [(x, .inr (1, [.ref q, .int 4, .null, .null, .null, .null, .null, .null, .null, .null, .int 0, .int (-1)])), (q, .inl (g.2.2 0, 5000, .inl u))]) [.ref x, .int a1] (fun u : Nat → Int32 => True) := by
  refine KV.of (by decide) (Nat.le_of_ble_eq_true rfl) ?_
  intro p e s m below meth c A ls C hr hlk hnm h hl
  have hx := C.1.1
  have hb := C.1.2.1
  have hl : lv_has ls 3 [(0, .ref x), (1, .int a1)] := hl
  refine lv_bipush (v := 24) hx hb dE_write_0 (by decide) ?_
  refine lv_istore_n (lv' := [(2, .int (24)), (0, .ref x), (1, .int (a1))]) hx hb dE_write_2 rfl hl (by decide) rfl (fun ls hl => ?_)
  refine lv_iload_n hx hb dE_write_3 rfl (lv_at hl 0 rfl) ?_
  refine lv_if_lt (tgt := 36) hx hb dE_write_4 (by decide) (fun c4 => absurd c4 (by decide)) (fun c4 => ?_)
  refine lv_aload_n hx hb dE_write_7 rfl (lv_at hl 1 rfl) ?_
  refine og C h laysE 0 rfl rfl 0 (by decide) flE_7 rfl (v := .ref q) rfl dE_write_8 ?_
  refine lv_aload_n hx hb dE_write_11 rfl (lv_at hl 1 rfl) ?_
  refine og C h laysE 0 rfl rfl 1 (by decide) flE_17 rfl (v := .int 0) rfl dE_write_12 ?_
  refine lv_iload_n hx hb dE_write_15 rfl (lv_at hl 2 rfl) ?_
  refine lv_iload_n hx hb dE_write_16 rfl (lv_at hl 0 rfl) ?_
  refine lv_iushr hx hb dE_write_17 rfl ?_
  refine lv_i2b hx hb dE_write_18 rfl ?_
  refine va_bast C.1.1 C.1.2.1 C.2 h.1 h.2.1 h.2.2.1 1 0 rfl rfl (pk_in 0 5000 (by decide) rfl) dE_write_19 (fun H locs hP hD hS => ?_)
  have h : Hx g [(x, .inr (1, [.ref q, .int 0, .null, .null, .null, .null, .null, .null, .null, .null, .int 0, .int (-1)])), (q, .inl (g.2.2 0, 5000, .inl (upd f (0 : Int32).toNatClampNeg (vp_nar .byte ((((a1 : Int32).toUInt32 >>> ((24 : Int32).toUInt32 &&& Int32.toUInt32 31)).toInt32).toInt8.toInt32)))))] A s.heap _ _ := ⟨hP, hD, hS, h.2.2.2⟩
  generalize (upd f (0 : Int32).toNatClampNeg (vp_nar .byte ((((a1 : Int32).toUInt32 >>> ((24 : Int32).toUInt32 &&& Int32.toUInt32 31)).toInt32).toInt8.toInt32))) = f_1 at h
  refine lv_aload_n hx hb dE_write_20 rfl (lv_at hl 1 rfl) ?_
  refine lv_dup hx hb dE_write_21 rfl ?_
  refine og C h laysE 0 rfl rfl 1 (by decide) flE_17 rfl (v := .int 0) rfl dE_write_22 ?_
  refine lv_iconst (v := 1) hx hb dE_write_25 (by decide) ?_
  refine lv_iadd hx hb dE_write_26 ?_
  refine lv_topi (fun n_2 en_2 => ?_)
  have en_2 : n_2 = 1 := en_2.trans (by decide)
  subst en_2
  refine op C h laysE tyE tyE_ok nmE 0 rfl rfl 1 (by decide) flE_17 rfl rfl (v := .int 1) rfl rfl (Nat.le_of_ble_eq_true rfl) (w' := [(x, .inr (1, [.ref q, .int 1, .null, .null, .null, .null, .null, .null, .null, .null, .int 0, .int (-1)])), (q, .inl (g.2.2 0, 5000, .inl f_1))]) rfl dE_write_27 (fun H locs h => ?_)
  refine lv_iinc (v := 16) (lv' := [(2, .int (16)), (0, .ref x), (1, .int (a1))]) hx hb dE_write_30 hl (k := 0) rfl (by decide) (by decide) rfl (fun ls hl => ?_)
  refine lv_goto (tgt := 3) hx hb dE_write_33 (by decide) ?_
  refine lv_iload_n hx hb dE_write_3 rfl (lv_at hl 0 rfl) ?_
  refine lv_if_lt (tgt := 36) hx hb dE_write_4 (by decide) (fun c4 => absurd c4 (by decide)) (fun c4 => ?_)
  refine lv_aload_n hx hb dE_write_7 rfl (lv_at hl 1 rfl) ?_
  refine og C h laysE 0 rfl rfl 0 (by decide) flE_7 rfl (v := .ref q) rfl dE_write_8 ?_
  refine lv_aload_n hx hb dE_write_11 rfl (lv_at hl 1 rfl) ?_
  refine og C h laysE 0 rfl rfl 1 (by decide) flE_17 rfl (v := .int 1) rfl dE_write_12 ?_
  refine lv_iload_n hx hb dE_write_15 rfl (lv_at hl 2 rfl) ?_
  refine lv_iload_n hx hb dE_write_16 rfl (lv_at hl 0 rfl) ?_
  refine lv_iushr hx hb dE_write_17 rfl ?_
  refine lv_i2b hx hb dE_write_18 rfl ?_
  refine va_bast C.1.1 C.1.2.1 C.2 h.1 h.2.1 h.2.2.1 1 0 rfl rfl (pk_in 1 5000 (by decide) rfl) dE_write_19 (fun H locs hP hD hS => ?_)
  have h : Hx g [(x, .inr (1, [.ref q, .int 1, .null, .null, .null, .null, .null, .null, .null, .null, .int 0, .int (-1)])), (q, .inl (g.2.2 0, 5000, .inl (upd f_1 (1 : Int32).toNatClampNeg (vp_nar .byte ((((a1 : Int32).toUInt32 >>> ((16 : Int32).toUInt32 &&& Int32.toUInt32 31)).toInt32).toInt8.toInt32)))))] A s.heap _ _ := ⟨hP, hD, hS, h.2.2.2⟩
  generalize (upd f_1 (1 : Int32).toNatClampNeg (vp_nar .byte ((((a1 : Int32).toUInt32 >>> ((16 : Int32).toUInt32 &&& Int32.toUInt32 31)).toInt32).toInt8.toInt32))) = f_3 at h
  refine lv_aload_n hx hb dE_write_20 rfl (lv_at hl 1 rfl) ?_
  refine lv_dup hx hb dE_write_21 rfl ?_
  refine og C h laysE 0 rfl rfl 1 (by decide) flE_17 rfl (v := .int 1) rfl dE_write_22 ?_
  refine lv_iconst (v := 1) hx hb dE_write_25 (by decide) ?_
  refine lv_iadd hx hb dE_write_26 ?_
  refine lv_topi (fun n_4 en_4 => ?_)
  have en_4 : n_4 = 2 := en_4.trans (by decide)
  subst en_4
  refine op C h laysE tyE tyE_ok nmE 0 rfl rfl 1 (by decide) flE_17 rfl rfl (v := .int 2) rfl rfl (Nat.le_of_ble_eq_true rfl) (w' := [(x, .inr (1, [.ref q, .int 2, .null, .null, .null, .null, .null, .null, .null, .null, .int 0, .int (-1)])), (q, .inl (g.2.2 0, 5000, .inl f_3))]) rfl dE_write_27 (fun H locs h => ?_)
  refine lv_iinc (v := 8) (lv' := [(2, .int (8)), (0, .ref x), (1, .int (a1))]) hx hb dE_write_30 hl (k := 0) rfl (by decide) (by decide) rfl (fun ls hl => ?_)
  refine lv_goto (tgt := 3) hx hb dE_write_33 (by decide) ?_
  refine lv_iload_n hx hb dE_write_3 rfl (lv_at hl 0 rfl) ?_
  refine lv_if_lt (tgt := 36) hx hb dE_write_4 (by decide) (fun c4 => absurd c4 (by decide)) (fun c4 => ?_)
  refine lv_aload_n hx hb dE_write_7 rfl (lv_at hl 1 rfl) ?_
  refine og C h laysE 0 rfl rfl 0 (by decide) flE_7 rfl (v := .ref q) rfl dE_write_8 ?_
  refine lv_aload_n hx hb dE_write_11 rfl (lv_at hl 1 rfl) ?_
  refine og C h laysE 0 rfl rfl 1 (by decide) flE_17 rfl (v := .int 2) rfl dE_write_12 ?_
  refine lv_iload_n hx hb dE_write_15 rfl (lv_at hl 2 rfl) ?_
  refine lv_iload_n hx hb dE_write_16 rfl (lv_at hl 0 rfl) ?_
  refine lv_iushr hx hb dE_write_17 rfl ?_
  refine lv_i2b hx hb dE_write_18 rfl ?_
  refine va_bast C.1.1 C.1.2.1 C.2 h.1 h.2.1 h.2.2.1 1 0 rfl rfl (pk_in 2 5000 (by decide) rfl) dE_write_19 (fun H locs hP hD hS => ?_)
  have h : Hx g [(x, .inr (1, [.ref q, .int 2, .null, .null, .null, .null, .null, .null, .null, .null, .int 0, .int (-1)])), (q, .inl (g.2.2 0, 5000, .inl (upd f_3 (2 : Int32).toNatClampNeg (vp_nar .byte ((((a1 : Int32).toUInt32 >>> ((8 : Int32).toUInt32 &&& Int32.toUInt32 31)).toInt32).toInt8.toInt32)))))] A s.heap _ _ := ⟨hP, hD, hS, h.2.2.2⟩
  generalize (upd f_3 (2 : Int32).toNatClampNeg (vp_nar .byte ((((a1 : Int32).toUInt32 >>> ((8 : Int32).toUInt32 &&& Int32.toUInt32 31)).toInt32).toInt8.toInt32))) = f_5 at h
  refine lv_aload_n hx hb dE_write_20 rfl (lv_at hl 1 rfl) ?_
  refine lv_dup hx hb dE_write_21 rfl ?_
  refine og C h laysE 0 rfl rfl 1 (by decide) flE_17 rfl (v := .int 2) rfl dE_write_22 ?_
  refine lv_iconst (v := 1) hx hb dE_write_25 (by decide) ?_
  refine lv_iadd hx hb dE_write_26 ?_
  refine lv_topi (fun n_6 en_6 => ?_)
  have en_6 : n_6 = 3 := en_6.trans (by decide)
  subst en_6
  refine op C h laysE tyE tyE_ok nmE 0 rfl rfl 1 (by decide) flE_17 rfl rfl (v := .int 3) rfl rfl (Nat.le_of_ble_eq_true rfl) (w' := [(x, .inr (1, [.ref q, .int 3, .null, .null, .null, .null, .null, .null, .null, .null, .int 0, .int (-1)])), (q, .inl (g.2.2 0, 5000, .inl f_5))]) rfl dE_write_27 (fun H locs h => ?_)
  refine lv_iinc (v := 0) (lv' := [(2, .int (0)), (0, .ref x), (1, .int (a1))]) hx hb dE_write_30 hl (k := 0) rfl (by decide) (by decide) rfl (fun ls hl => ?_)
  refine lv_goto (tgt := 3) hx hb dE_write_33 (by decide) ?_
  refine lv_iload_n hx hb dE_write_3 rfl (lv_at hl 0 rfl) ?_
  refine lv_if_lt (tgt := 36) hx hb dE_write_4 (by decide) (fun c4 => absurd c4 (by decide)) (fun c4 => ?_)
  refine lv_aload_n hx hb dE_write_7 rfl (lv_at hl 1 rfl) ?_
  refine og C h laysE 0 rfl rfl 0 (by decide) flE_7 rfl (v := .ref q) rfl dE_write_8 ?_
  refine lv_aload_n hx hb dE_write_11 rfl (lv_at hl 1 rfl) ?_
  refine og C h laysE 0 rfl rfl 1 (by decide) flE_17 rfl (v := .int 3) rfl dE_write_12 ?_
  refine lv_iload_n hx hb dE_write_15 rfl (lv_at hl 2 rfl) ?_
  refine lv_iload_n hx hb dE_write_16 rfl (lv_at hl 0 rfl) ?_
  refine lv_iushr hx hb dE_write_17 rfl ?_
  refine lv_i2b hx hb dE_write_18 rfl ?_
  refine va_bast C.1.1 C.1.2.1 C.2 h.1 h.2.1 h.2.2.1 1 0 rfl rfl (pk_in 3 5000 (by decide) rfl) dE_write_19 (fun H locs hP hD hS => ?_)
  have h : Hx g [(x, .inr (1, [.ref q, .int 3, .null, .null, .null, .null, .null, .null, .null, .null, .int 0, .int (-1)])), (q, .inl (g.2.2 0, 5000, .inl (upd f_5 (3 : Int32).toNatClampNeg (vp_nar .byte ((((a1 : Int32).toUInt32 >>> ((0 : Int32).toUInt32 &&& Int32.toUInt32 31)).toInt32).toInt8.toInt32)))))] A s.heap _ _ := ⟨hP, hD, hS, h.2.2.2⟩
  generalize (upd f_5 (3 : Int32).toNatClampNeg (vp_nar .byte ((((a1 : Int32).toUInt32 >>> ((0 : Int32).toUInt32 &&& Int32.toUInt32 31)).toInt32).toInt8.toInt32))) = f_7 at h
  refine lv_aload_n hx hb dE_write_20 rfl (lv_at hl 1 rfl) ?_
  refine lv_dup hx hb dE_write_21 rfl ?_
  refine og C h laysE 0 rfl rfl 1 (by decide) flE_17 rfl (v := .int 3) rfl dE_write_22 ?_
  refine lv_iconst (v := 1) hx hb dE_write_25 (by decide) ?_
  refine lv_iadd hx hb dE_write_26 ?_
  refine lv_topi (fun n_8 en_8 => ?_)
  have en_8 : n_8 = 4 := en_8.trans (by decide)
  subst en_8
  refine op C h laysE tyE tyE_ok nmE 0 rfl rfl 1 (by decide) flE_17 rfl rfl (v := .int 4) rfl rfl (Nat.le_of_ble_eq_true rfl) (w' := [(x, .inr (1, [.ref q, .int 4, .null, .null, .null, .null, .null, .null, .null, .null, .int 0, .int (-1)])), (q, .inl (g.2.2 0, 5000, .inl f_7))]) rfl dE_write_27 (fun H locs h => ?_)
  refine lv_iinc (v := -8) (lv' := [(2, .int (-8)), (0, .ref x), (1, .int (a1))]) hx hb dE_write_30 hl (k := 0) rfl (by decide) (by decide) rfl (fun ls hl => ?_)
  refine lv_goto (tgt := 3) hx hb dE_write_33 (by decide) ?_
  refine lv_iload_n hx hb dE_write_3 rfl (lv_at hl 0 rfl) ?_
  refine lv_if_lt (tgt := 36) hx hb dE_write_4 (by decide) (fun c4 => ?_) (fun c4 => absurd c4 (by decide))
  exact KV.ret C hr hlk f_7 h trivial (by decide) (by decide) dE_write_36

set_option maxHeartbeats 4000000 in
set_option maxRecDepth 100000 in
/-- write() -/
theorem e_write4 (l : Launch) (g : GG) (x q : Nat) (f : Nat → Int32) (a1 : Int32) : KV l yE_write cE_write 3 (rD 0 0 0) g [(x, .inr (1, [.ref q, .int 4, .null, .null, .null, .null, .null, .null, .null, .null, .int 0, .int (-1)])), (q, .inl (g.2.2 0, 5000, .inl f))] (fun u : Nat → Int32 => [(x, .inr (1, [.ref q, .int 8, .null, .null, .null, .null, .null, .null, .null, .null, .int 0, .int (-1)])), (q, .inl (g.2.2 0, 5000, .inl u))]) [.ref x, .int a1] (fun u : Nat → Int32 => True) := by
  refine KV.of (by decide) (Nat.le_of_ble_eq_true rfl) ?_
  intro p e s m below meth c A ls C hr hlk hnm h hl
  have hx := C.1.1
  have hb := C.1.2.1
  have hl : lv_has ls 3 [(0, .ref x), (1, .int a1)] := hl
  refine lv_bipush (v := 24) hx hb dE_write_0 (by decide) ?_
  refine lv_istore_n (lv' := [(2, .int (24)), (0, .ref x), (1, .int (a1))]) hx hb dE_write_2 rfl hl (by decide) rfl (fun ls hl => ?_)
  refine lv_iload_n hx hb dE_write_3 rfl (lv_at hl 0 rfl) ?_
  refine lv_if_lt (tgt := 36) hx hb dE_write_4 (by decide) (fun c4 => absurd c4 (by decide)) (fun c4 => ?_)
  refine lv_aload_n hx hb dE_write_7 rfl (lv_at hl 1 rfl) ?_
  refine og C h laysE 0 rfl rfl 0 (by decide) flE_7 rfl (v := .ref q) rfl dE_write_8 ?_
  refine lv_aload_n hx hb dE_write_11 rfl (lv_at hl 1 rfl) ?_
  refine og C h laysE 0 rfl rfl 1 (by decide) flE_17 rfl (v := .int 4) rfl dE_write_12 ?_
  refine lv_iload_n hx hb dE_write_15 rfl (lv_at hl 2 rfl) ?_
  refine lv_iload_n hx hb dE_write_16 rfl (lv_at hl 0 rfl) ?_
  refine lv_iushr hx hb dE_write_17 rfl ?_
  refine lv_i2b hx hb dE_write_18 rfl ?_
  refine va_bast C.1.1 C.1.2.1 C.2 h.1 h.2.1 h.2.2.1 1 0 rfl rfl (pk_in 4 5000 (by decide) rfl) dE_write_19 (fun H locs hP hD hS => ?_)
  have h : Hx g [(x, .inr (1, [.ref q, .int 4, .null, .null, .null, .null, .null, .null, .null, .null, .int 0, .int (-1)])), (q, .inl (g.2.2 0, 5000, .inl (upd f (4 : Int32).toNatClampNeg (vp_nar .byte ((((a1 : Int32).toUInt32 >>> ((24 : Int32).toUInt32 &&& Int32.toUInt32 31)).toInt32).toInt8.toInt32)))))] A s.heap _ _ := ⟨hP, hD, hS, h.2.2.2⟩
  generalize (upd f (4 : Int32).toNatClampNeg (vp_nar .byte ((((a1 : Int32).toUInt32 >>> ((24 : Int32).toUInt32 &&& Int32.toUInt32 31)).toInt32).toInt8.toInt32))) = f_1 at h
  refine lv_aload_n hx hb dE_write_20 rfl (lv_at hl 1 rfl) ?_
  refine lv_dup hx hb dE_write_21 rfl ?_
  refine og C h laysE 0 rfl rfl 1 (by decide) flE_17 rfl (v := .int 4) rfl dE_write_22 ?_
  refine lv_iconst (v := 1) hx hb dE_write_25 (by decide) ?_
  refine lv_iadd hx hb dE_write_26 ?_
  refine lv_topi (fun n_2 en_2 => ?_)
  have en_2 : n_2 = 5 := en_2.trans (by decide)
  subst en_2
  refine op C h laysE tyE tyE_ok nmE 0 rfl rfl 1 (by decide) flE_17 rfl rfl (v := .int 5) rfl rfl (Nat.le_of_ble_eq_true rfl) (w' := [(x, .inr (1, [.ref q, .int 5, .null, .null, .null, .null, .null, .null, .null, .null, .int 0, .int (-1)])), (q, .inl (g.2.2 0, 5000, .inl f_1))]) rfl dE_write_27 (fun H locs h => ?_)
  refine lv_iinc (v := 16) (lv' := [(2, .int (16)), (0, .ref x), (1, .int (a1))]) hx hb dE_write_30 hl (k := 0) rfl (by decide) (by decide) rfl (fun ls hl => ?_)
  refine lv_goto (tgt := 3) hx hb dE_write_33 (by decide) ?_
  refine lv_iload_n hx hb dE_write_3 rfl (lv_at hl 0 rfl) ?_
  refine lv_if_lt (tgt := 36) hx hb dE_write_4 (by decide) (fun c4 => absurd c4 (by decide)) (fun c4 => ?_)
  refine lv_aload_n hx hb dE_write_7 rfl (lv_at hl 1 rfl) ?_
  refine og C h laysE 0 rfl rfl 0 (by decide) flE_7 rfl (v := .ref q) rfl dE_write_8 ?_
  refine lv_aload_n hx hb dE_write_11 rfl (lv_at hl 1 rfl) ?_
  refine og C h laysE 0 rfl rfl 1 (by decide) flE_17 rfl (v := .int 5) rfl dE_write_12 ?_
  refine lv_iload_n hx hb dE_write_15 rfl (lv_at hl 2 rfl) ?_
  refine lv_iload_n hx hb dE_write_16 rfl (lv_at hl 0 rfl) ?_
  refine lv_iushr hx hb dE_write_17 rfl ?_
  refine lv_i2b hx hb dE_write_18 rfl ?_
  refine va_bast C.1.1 C.1.2.1 C.2 h.1 h.2.1 h.2.2.1 1 0 rfl rfl (pk_in 5 5000 (by decide) rfl) dE_write_19 (fun H locs hP hD hS => ?_)
  have h : Hx g [(x, .inr (1, [.ref q, .int 5, .null, .null, .null, .null, .null, .null, .null, .null, .int 0, .int (-1)])), (q, .inl (g.2.2 0, 5000, .inl (upd f_1 (5 : Int32).toNatClampNeg (vp_nar .byte ((((a1 : Int32).toUInt32 >>> ((16 : Int32).toUInt32 &&& Int32.toUInt32 31)).toInt32).toInt8.toInt32)))))] A s.heap _ _ := ⟨hP, hD, hS, h.2.2.2⟩
  generalize (upd f_1 (5 : Int32).toNatClampNeg (vp_nar .byte ((((a1 : Int32).toUInt32 >>> ((16 : Int32).toUInt32 &&& Int32.toUInt32 31)).toInt32).toInt8.toInt32))) = f_3 at h
  refine lv_aload_n hx hb dE_write_20 rfl (lv_at hl 1 rfl) ?_
  refine lv_dup hx hb dE_write_21 rfl ?_
  refine og C h laysE 0 rfl rfl 1 (by decide) flE_17 rfl (v := .int 5) rfl dE_write_22 ?_
  refine lv_iconst (v := 1) hx hb dE_write_25 (by decide) ?_
  refine lv_iadd hx hb dE_write_26 ?_
  refine lv_topi (fun n_4 en_4 => ?_)
  have en_4 : n_4 = 6 := en_4.trans (by decide)
  subst en_4
  refine op C h laysE tyE tyE_ok nmE 0 rfl rfl 1 (by decide) flE_17 rfl rfl (v := .int 6) rfl rfl (Nat.le_of_ble_eq_true rfl) (w' := [(x, .inr (1, [.ref q, .int 6, .null, .null, .null, .null, .null, .null, .null, .null, .int 0, .int (-1)])), (q, .inl (g.2.2 0, 5000, .inl f_3))]) rfl dE_write_27 (fun H locs h => ?_)
  refine lv_iinc (v := 8) (lv' := [(2, .int (8)), (0, .ref x), (1, .int (a1))]) hx hb dE_write_30 hl (k := 0) rfl (by decide) (by decide) rfl (fun ls hl => ?_)
  refine lv_goto (tgt := 3) hx hb dE_write_33 (by decide) ?_
  refine lv_iload_n hx hb dE_write_3 rfl (lv_at hl 0 rfl) ?_
  refine lv_if_lt (tgt := 36) hx hb dE_write_4 (by decide) (fun c4 => absurd c4 (by decide)) (fun c4 => ?_)
  refine lv_aload_n hx hb dE_write_7 rfl (lv_at hl 1 rfl) ?_
  refine og C h laysE 0 rfl rfl 0 (by decide) flE_7 rfl (v := .ref q) rfl dE_write_8 ?_
  refine lv_aload_n hx hb dE_write_11 rfl (lv_at hl 1 rfl) ?_
  refine og C h laysE 0 rfl rfl 1 (by decide) flE_17 rfl (v := .int 6) rfl dE_write_12 ?_
  refine lv_iload_n hx hb dE_write_15 rfl (lv_at hl 2 rfl) ?_
  refine lv_iload_n hx hb dE_write_16 rfl (lv_at hl 0 rfl) ?_
  refine lv_iushr hx hb dE_write_17 rfl ?_
  refine lv_i2b hx hb dE_write_18 rfl ?_
  refine va_bast C.1.1 C.1.2.1 C.2 h.1 h.2.1 h.2.2.1 1 0 rfl rfl (pk_in 6 5000 (by decide) rfl) dE_write_19 (fun H locs hP hD hS => ?_)
  have h : Hx g [(x, .inr (1, [.ref q, .int 6, .null, .null, .null, .null, .null, .null, .null, .null, .int 0, .int (-1)])), (q, .inl (g.2.2 0, 5000, .inl (upd f_3 (6 : Int32).toNatClampNeg (vp_nar .byte ((((a1 : Int32).toUInt32 >>> ((8 : Int32).toUInt32 &&& Int32.toUInt32 31)).toInt32).toInt8.toInt32)))))] A s.heap _ _ := ⟨hP, hD, hS, h.2.2.2⟩
  generalize (upd f_3 (6 : Int32).toNatClampNeg (vp_nar .byte ((((a1 : Int32).toUInt32 >>> ((8 : Int32).toUInt32 &&& Int32.toUInt32 31)).toInt32).toInt8.toInt32))) = f_5 at h
  refine lv_aload_n hx hb dE_write_20 rfl (lv_at hl 1 rfl) ?_
  refine lv_dup hx hb dE_write_21 rfl ?_
  refine og C h laysE 0 rfl rfl 1 (by decide) flE_17 rfl (v := .int 6) rfl dE_write_22 ?_
  refine lv_iconst (v := 1) hx hb dE_write_25 (by decide) ?_
  refine lv_iadd hx hb dE_write_26 ?_
  refine lv_topi (fun n_6 en_6 => ?_)
  have en_6 : n_6 = 7 := en_6.trans (by decide)
  subst en_6
  refine op C h laysE tyE tyE_ok nmE 0 rfl rfl 1 (by decide) flE_17 rfl rfl (v := .int 7) rfl rfl (Nat.le_of_ble_eq_true rfl) (w' := [(x, .inr (1, [.ref q, .int 7, .null, .null, .null, .null, .null, .null, .null, .null, .int 0, .int (-1)])), (q, .inl (g.2.2 0, 5000, .inl f_5))]) rfl dE_write_27 (fun H locs h => ?_)
  refine lv_iinc (v := 0) (lv' := [(2, .int (0)), (0, .ref x), (1, .int (a1))]) hx hb dE_write_30 hl (k := 0) rfl (by decide) (by decide) rfl (fun ls hl => ?_)
  refine lv_goto (tgt := 3) hx hb dE_write_33 (by decide) ?_
  refine lv_iload_n hx hb dE_write_3 rfl (lv_at hl 0 rfl) ?_
  refine lv_if_lt (tgt := 36) hx hb dE_write_4 (by decide) (fun c4 => absurd c4 (by decide)) (fun c4 => ?_)
  refine lv_aload_n hx hb dE_write_7 rfl (lv_at hl 1 rfl) ?_
  refine og C h laysE 0 rfl rfl 0 (by decide) flE_7 rfl (v := .ref q) rfl dE_write_8 ?_
  refine lv_aload_n hx hb dE_write_11 rfl (lv_at hl 1 rfl) ?_
  refine og C h laysE 0 rfl rfl 1 (by decide) flE_17 rfl (v := .int 7) rfl dE_write_12 ?_
  refine lv_iload_n hx hb dE_write_15 rfl (lv_at hl 2 rfl) ?_
  refine lv_iload_n hx hb dE_write_16 rfl (lv_at hl 0 rfl) ?_
  refine lv_iushr hx hb dE_write_17 rfl ?_
  refine lv_i2b hx hb dE_write_18 rfl ?_
  refine va_bast C.1.1 C.1.2.1 C.2 h.1 h.2.1 h.2.2.1 1 0 rfl rfl (pk_in 7 5000 (by decide) rfl) dE_write_19 (fun H locs hP hD hS => ?_)
  have h : Hx g [(x, .inr (1, [.ref q, .int 7, .null, .null, .null, .null, .null, .null, .null, .null, .int 0, .int (-1)])), (q, .inl (g.2.2 0, 5000, .inl (upd f_5 (7 : Int32).toNatClampNeg (vp_nar .byte ((((a1 : Int32).toUInt32 >>> ((0 : Int32).toUInt32 &&& Int32.toUInt32 31)).toInt32).toInt8.toInt32)))))] A s.heap _ _ := ⟨hP, hD, hS, h.2.2.2⟩
  generalize (upd f_5 (7 : Int32).toNatClampNeg (vp_nar .byte ((((a1 : Int32).toUInt32 >>> ((0 : Int32).toUInt32 &&& Int32.toUInt32 31)).toInt32).toInt8.toInt32))) = f_7 at h
  refine lv_aload_n hx hb dE_write_20 rfl (lv_at hl 1 rfl) ?_
  refine lv_dup hx hb dE_write_21 rfl ?_
  refine og C h laysE 0 rfl rfl 1 (by decide) flE_17 rfl (v := .int 7) rfl dE_write_22 ?_
  refine lv_iconst (v := 1) hx hb dE_write_25 (by decide) ?_
  refine lv_iadd hx hb dE_write_26 ?_
  refine lv_topi (fun n_8 en_8 => ?_)
  have en_8 : n_8 = 8 := en_8.trans (by decide)
  subst en_8
  refine op C h laysE tyE tyE_ok nmE 0 rfl rfl 1 (by decide) flE_17 rfl rfl (v := .int 8) rfl rfl (Nat.le_of_ble_eq_true rfl) (w' := [(x, .inr (1, [.ref q, .int 8, .null, .null, .null, .null, .null, .null, .null, .null, .int 0, .int (-1)])), (q, .inl (g.2.2 0, 5000, .inl f_7))]) rfl dE_write_27 (fun H locs h => ?_)
  refine lv_iinc (v := -8) (lv' := [(2, .int (-8)), (0, .ref x), (1, .int (a1))]) hx hb dE_write_30 hl (k := 0) rfl (by decide) (by decide) rfl (fun ls hl => ?_)
  refine lv_goto (tgt := 3) hx hb dE_write_33 (by decide) ?_
  refine lv_iload_n hx hb dE_write_3 rfl (lv_at hl 0 rfl) ?_
  refine lv_if_lt (tgt := 36) hx hb dE_write_4 (by decide) (fun c4 => ?_) (fun c4 => absurd c4 (by decide))
  exact KV.ret C hr hlk f_7 h trivial (by decide) (by decide) dE_write_36

set_option maxHeartbeats 4000000 in
set_option maxRecDepth 100000 in
/-- write() -/
theorem e_write8 (l : Launch) (g : GG) (x q : Nat) (f : Nat → Int32) (a1 : Int32) : KV l yE_write cE_write 3 (rD 0 0 0) g [(x, .inr (1, [.ref q, .int 8, .null, .null, .null, .null, .null, .null, .null, .null, .int 0, .int (-1)])), (q, .inl (g.2.2 0, 5000, .inl f))] (fun u : Nat → Int32 => [(x, .inr (1, [.ref q, .int 12, .null, .null, .null, .null, .null, .null, .null, .null, .int 0, .int (-1)])), (q, .inl (g.2.2 0, 5000, .inl u))]) [.ref x, .int a1] (fun u : Nat → Int32 => True) := by
  refine KV.of (by decide) (Nat.le_of_ble_eq_true rfl) ?_
  intro p e s m below meth c A ls C hr hlk hnm h hl
  have hx := C.1.1
  have hb := C.1.2.1
  have hl : lv_has ls 3 [(0, .ref x), (1, .int a1)] := hl
  refine lv_bipush (v := 24) hx hb dE_write_0 (by decide) ?_
  refine lv_istore_n (lv' := [(2, .int (24)), (0, .ref x), (1, .int (a1))]) hx hb dE_write_2 rfl hl (by decide) rfl (fun ls hl => ?_)
  refine lv_iload_n hx hb dE_write_3 rfl (lv_at hl 0 rfl) ?_
  refine lv_if_lt (tgt := 36) hx hb dE_write_4 (by decide) (fun c4 => absurd c4 (by decide)) (fun c4 => ?_)
  refine lv_aload_n hx hb dE_write_7 rfl (lv_at hl 1 rfl) ?_
  refine og C h laysE 0 rfl rfl 0 (by decide) flE_7 rfl (v := .ref q) rfl dE_write_8 ?_
  refine lv_aload_n hx hb dE_write_11 rfl (lv_at hl 1 rfl) ?_
  refine og C h laysE 0 rfl rfl 1 (by decide) flE_17 rfl (v := .int 8) rfl dE_write_12 ?_
  refine lv_iload_n hx hb dE_write_15 rfl (lv_at hl 2 rfl) ?_
  refine lv_iload_n hx hb dE_write_16 rfl (lv_at hl 0 rfl) ?_
  refine lv_iushr hx hb dE_write_17 rfl ?_
  refine lv_i2b hx hb dE_write_18 rfl ?_
  refine va_bast C.1.1 C.1.2.1 C.2 h.1 h.2.1 h.2.2.1 1 0 rfl rfl (pk_in 8 5000 (by decide) rfl) dE_write_19 (fun H locs hP hD hS => ?_)
  have h : Hx g [(x, .inr (1, [.ref q, .int 8, .null, .null, .null, .null, .null, .null, .null, .null, .int 0, .int (-1)])), (q, .inl (g.2.2 0, 5000, .inl (upd f (8 : Int32).toNatClampNeg (vp_nar .byte ((((a1 : Int32).toUInt32 >>> ((24 : Int32).toUInt32 &&& Int32.toUInt32 31)).toInt32).toInt8.toInt32)))))] A s.heap _ _ := ⟨hP, hD, hS, h.2.2.2⟩
  generalize (upd f (8 : Int32).toNatClampNeg (vp_nar .byte ((((a1 : Int32).toUInt32 >>> ((24 : Int32).toUInt32 &&& Int32.toUInt32 31)).toInt32).toInt8.toInt32))) = f_1 at h
  refine lv_aload_n hx hb dE_write_20 rfl (lv_at hl 1 rfl) ?_
  refine lv_dup hx hb dE_write_21 rfl ?_
  refine og C h laysE 0 rfl rfl 1 (by decide) flE_17 rfl (v := .int 8) rfl dE_write_22 ?_
  refine lv_iconst (v := 1) hx hb dE_write_25 (by decide) ?_
  refine lv_iadd hx hb dE_write_26 ?_
  refine lv_topi (fun n_2 en_2 => ?_)
  have en_2 : n_2 = 9 := en_2.trans (by decide)
  subst en_2
  refine op C h laysE tyE tyE_ok nmE 0 rfl rfl 1 (by decide) flE_17 rfl rfl (v := .int 9) rfl rfl (Nat.le_of_ble_eq_true rfl) (w' := [(x, .inr (1, [.ref q, .int 9, .null, .null, .null, .null, .null, .null, .null, .null, .int 0, .int (-1)])), (q, .inl (g.2.2 0, 5000, .inl f_1))]) rfl dE_write_27 (fun H locs h => ?_)
  refine lv_iinc (v := 16) (lv' := [(2, .int (16)), (0, .ref x), (1, .int (a1))]) hx hb dE_write_30 hl (k := 0) rfl (by decide) (by decide) rfl (fun ls hl => ?_)
  refine lv_goto (tgt := 3) hx hb dE_write_33 (by decide) ?_
  refine lv_iload_n hx hb dE_write_3 rfl (lv_at hl 0 rfl) ?_
  refine lv_if_lt (tgt := 36) hx hb dE_write_4 (by decide) (fun c4 => absurd c4 (by decide)) (fun c4 => ?_)
  refine lv_aload_n hx hb dE_write_7 rfl (lv_at hl 1 rfl) ?_
  refine og C h laysE 0 rfl rfl 0 (by decide) flE_7 rfl (v := .ref q) rfl dE_write_8 ?_
  refine lv_aload_n hx hb dE_write_11 rfl (lv_at hl 1 rfl) ?_
  refine og C h laysE 0 rfl rfl 1 (by decide) flE_17 rfl (v := .int 9) rfl dE_write_12 ?_
  refine lv_iload_n hx hb dE_write_15 rfl (lv_at hl 2 rfl) ?_
  refine lv_iload_n hx hb dE_write_16 rfl (lv_at hl 0 rfl) ?_
  refine lv_iushr hx hb dE_write_17 rfl ?_
  refine lv_i2b hx hb dE_write_18 rfl ?_
  refine va_bast C.1.1 C.1.2.1 C.2 h.1 h.2.1 h.2.2.1 1 0 rfl rfl (pk_in 9 5000 (by decide) rfl) dE_write_19 (fun H locs hP hD hS => ?_)
  have h : Hx g [(x, .inr (1, [.ref q, .int 9, .null, .null, .null, .null, .null, .null, .null, .null, .int 0, .int (-1)])), (q, .inl (g.2.2 0, 5000, .inl (upd f_1 (9 : Int32).toNatClampNeg (vp_nar .byte ((((a1 : Int32).toUInt32 >>> ((16 : Int32).toUInt32 &&& Int32.toUInt32 31)).toInt32).toInt8.toInt32)))))] A s.heap _ _ := ⟨hP, hD, hS, h.2.2.2⟩
  generalize (upd f_1 (9 : Int32).toNatClampNeg (vp_nar .byte ((((a1 : Int32).toUInt32 >>> ((16 : Int32).toUInt32 &&& Int32.toUInt32 31)).toInt32).toInt8.toInt32))) = f_3 at h
  refine lv_aload_n hx hb dE_write_20 rfl (lv_at hl 1 rfl) ?_
  refine lv_dup hx hb dE_write_21 rfl ?_
  refine og C h laysE 0 rfl rfl 1 (by decide) flE_17 rfl (v := .int 9) rfl dE_write_22 ?_
  refine lv_iconst (v := 1) hx hb dE_write_25 (by decide) ?_
  refine lv_iadd hx hb dE_write_26 ?_
  refine lv_topi (fun n_4 en_4 => ?_)
  have en_4 : n_4 = 10 := en_4.trans (by decide)
  subst en_4
  refine op C h laysE tyE tyE_ok nmE 0 rfl rfl 1 (by decide) flE_17 rfl rfl (v := .int 10) rfl rfl (Nat.le_of_ble_eq_true rfl) (w' := [(x, .inr (1, [.ref q, .int 10, .null, .null, .null, .null, .null, .null, .null, .null, .int 0, .int (-1)])), (q, .inl (g.2.2 0, 5000, .inl f_3))]) rfl dE_write_27 (fun H locs h => ?_)
  refine lv_iinc (v := 8) (lv' := [(2, .int (8)), (0, .ref x), (1, .int (a1))]) hx hb dE_write_30 hl (k := 0) rfl (by decide) (by decide) rfl (fun ls hl => ?_)
  refine lv_goto (tgt := 3) hx hb dE_write_33 (by decide) ?_
  refine lv_iload_n hx hb dE_write_3 rfl (lv_at hl 0 rfl) ?_
  refine lv_if_lt (tgt := 36) hx hb dE_write_4 (by decide) (fun c4 => absurd c4 (by decide)) (fun c4 => ?_)
  refine lv_aload_n hx hb dE_write_7 rfl (lv_at hl 1 rfl) ?_
  refine og C h laysE 0 rfl rfl 0 (by decide) flE_7 rfl (v := .ref q) rfl dE_write_8 ?_
  refine lv_aload_n hx hb dE_write_11 rfl (lv_at hl 1 rfl) ?_
  refine og C h laysE 0 rfl rfl 1 (by decide) flE_17 rfl (v := .int 10) rfl dE_write_12 ?_
  refine lv_iload_n hx hb dE_write_15 rfl (lv_at hl 2 rfl) ?_
  refine lv_iload_n hx hb dE_write_16 rfl (lv_at hl 0 rfl) ?_
  refine lv_iushr hx hb dE_write_17 rfl ?_
  refine lv_i2b hx hb dE_write_18 rfl ?_
  refine va_bast C.1.1 C.1.2.1 C.2 h.1 h.2.1 h.2.2.1 1 0 rfl rfl (pk_in 10 5000 (by decide) rfl) dE_write_19 (fun H locs hP hD hS => ?_)
  have h : Hx g [(x, .inr (1, [.ref q, .int 10, .null, .null, .null, .null, .null, .null, .null, .null, .int 0, .int (-1)])), (q, .inl (g.2.2 0, 5000, .inl (upd f_3 (10 : Int32).toNatClampNeg (vp_nar .byte ((((a1 : Int32).toUInt32 >>> ((8 : Int32).toUInt32 &&& Int32.toUInt32 31)).toInt32).toInt8.toInt32)))))] A s.heap _ _ := ⟨hP, hD, hS, h.2.2.2⟩
  generalize (upd f_3 (10 : Int32).toNatClampNeg (vp_nar .byte ((((a1 : Int32).toUInt32 >>> ((8 : Int32).toUInt32 &&& Int32.toUInt32 31)).toInt32).toInt8.toInt32))) = f_5 at h
  refine lv_aload_n hx hb dE_write_20 rfl (lv_at hl 1 rfl) ?_
  refine lv_dup hx hb dE_write_21 rfl ?_
  refine og C h laysE 0 rfl rfl 1 (by decide) flE_17 rfl (v := .int 10) rfl dE_write_22 ?_
  refine lv_iconst (v := 1) hx hb dE_write_25 (by decide) ?_
  refine lv_iadd hx hb dE_write_26 ?_
  refine lv_topi (fun n_6 en_6 => ?_)
  have en_6 : n_6 = 11 := en_6.trans (by decide)
  subst en_6
  refine op C h laysE tyE tyE_ok nmE 0 rfl rfl 1 (by decide) flE_17 rfl rfl (v := .int 11) rfl rfl (Nat.le_of_ble_eq_true rfl) (w' := [(x, .inr (1, [.ref q, .int 11, .null, .null, .null, .null, .null, .null, .null, .null, .int 0, .int (-1)])), (q, .inl (g.2.2 0, 5000, .inl f_5))]) rfl dE_write_27 (fun H locs h => ?_)
  refine lv_iinc (v := 0) (lv' := [(2, .int (0)), (0, .ref x), (1, .int (a1))]) hx hb dE_write_30 hl (k := 0) rfl (by decide) (by decide) rfl (fun ls hl => ?_)
  refine lv_goto (tgt := 3) hx hb dE_write_33 (by decide) ?_
  refine lv_iload_n hx hb dE_write_3 rfl (lv_at hl 0 rfl) ?_
  refine lv_if_lt (tgt := 36) hx hb dE_write_4 (by decide) (fun c4 => absurd c4 (by decide)) (fun c4 => ?_)
  refine lv_aload_n hx hb dE_write_7 rfl (lv_at hl 1 rfl) ?_
  refine og C h laysE 0 rfl rfl 0 (by decide) flE_7 rfl (v := .ref q) rfl dE_write_8 ?_
  refine lv_aload_n hx hb dE_write_11 rfl (lv_at hl 1 rfl) ?_
  refine og C h laysE 0 rfl rfl 1 (by decide) flE_17 rfl (v := .int 11) rfl dE_write_12 ?_
  refine lv_iload_n hx hb dE_write_15 rfl (lv_at hl 2 rfl) ?_
  refine lv_iload_n hx hb dE_write_16 rfl (lv_at hl 0 rfl) ?_
  refine lv_iushr hx hb dE_write_17 rfl ?_
  refine lv_i2b hx hb dE_write_18 rfl ?_
  refine va_bast C.1.1 C.1.2.1 C.2 h.1 h.2.1 h.2.2.1 1 0 rfl rfl (pk_in 11 5000 (by decide) rfl) dE_write_19 (fun H locs hP hD hS => ?_)
  have h : Hx g [(x, .inr (1, [.ref q, .int 11, .null, .null, .null, .null, .null, .null, .null, .null, .int 0, .int (-1)])), (q, .inl (g.2.2 0, 5000, .inl (upd f_5 (11 : Int32).toNatClampNeg (vp_nar .byte ((((a1 : Int32).toUInt32 >>> ((0 : Int32).toUInt32 &&& Int32.toUInt32 31)).toInt32).toInt8.toInt32)))))] A s.heap _ _ := ⟨hP, hD, hS, h.2.2.2⟩
  generalize (upd f_5 (11 : Int32).toNatClampNeg (vp_nar .byte ((((a1 : Int32).toUInt32 >>> ((0 : Int32).toUInt32 &&& Int32.toUInt32 31)).toInt32).toInt8.toInt32))) = f_7 at h
  refine lv_aload_n hx hb dE_write_20 rfl (lv_at hl 1 rfl) ?_
  refine lv_dup hx hb dE_write_21 rfl ?_
  refine og C h laysE 0 rfl rfl 1 (by decide) flE_17 rfl (v := .int 11) rfl dE_write_22 ?_
  refine lv_iconst (v := 1) hx hb dE_write_25 (by decide) ?_
  refine lv_iadd hx hb dE_write_26 ?_
  refine lv_topi (fun n_8 en_8 => ?_)
  have en_8 : n_8 = 12 := en_8.trans (by decide)
  subst en_8
  refine op C h laysE tyE tyE_ok nmE 0 rfl rfl 1 (by decide) flE_17 rfl rfl (v := .int 12) rfl rfl (Nat.le_of_ble_eq_true rfl) (w' := [(x, .inr (1, [.ref q, .int 12, .null, .null, .null, .null, .null, .null, .null, .null, .int 0, .int (-1)])), (q, .inl (g.2.2 0, 5000, .inl f_7))]) rfl dE_write_27 (fun H locs h => ?_)
  refine lv_iinc (v := -8) (lv' := [(2, .int (-8)), (0, .ref x), (1, .int (a1))]) hx hb dE_write_30 hl (k := 0) rfl (by decide) (by decide) rfl (fun ls hl => ?_)
  refine lv_goto (tgt := 3) hx hb dE_write_33 (by decide) ?_
  refine lv_iload_n hx hb dE_write_3 rfl (lv_at hl 0 rfl) ?_
  refine lv_if_lt (tgt := 36) hx hb dE_write_4 (by decide) (fun c4 => ?_) (fun c4 => absurd c4 (by decide))
  exact KV.ret C hr hlk f_7 h trivial (by decide) (by decide) dE_write_36

set_option maxHeartbeats 4000000 in
set_option maxRecDepth 100000 in
/-- write() -/
theorem e_write12 (l : Launch) (g : GG) (x q : Nat) (f : Nat → Int32) (a1 : Int32) : KV l yE_write cE_write 3 (rD 0 0 0) g [(x, .inr (1, [.ref q, .int 12, .null, .null, .null, .null, .null, .null, .null, .null, .int 0, .int (-1)])), (q, .inl (g.2.2 0, 5000, .inl f))] (fun u : Nat → Int32 => [(x, .inr (1, [.ref q, .int 16, .null, .null, .null, .null, .null, .null, .null, .null, .int 0, .int (-1)])), (q, .inl (g.2.2 0, 5000, .inl u))]) [.ref x, .int a1] (fun u : Nat → Int32 => True) := by
  refine KV.of (by decide) (Nat.le_of_ble_eq_true rfl) ?_
  intro p e s m below meth c A ls C hr hlk hnm h hl
  have hx := C.1.1
  have hb := C.1.2.1
  have hl : lv_has ls 3 [(0, .ref x), (1, .int a1)] := hl
  refine lv_bipush (v := 24) hx hb dE_write_0 (by decide) ?_
  refine lv_istore_n (lv' := [(2, .int (24)), (0, .ref x), (1, .int (a1))]) hx hb dE_write_2 rfl hl (by decide) rfl (fun ls hl => ?_)
  refine lv_iload_n hx hb dE_write_3 rfl (lv_at hl 0 rfl) ?_
  refine lv_if_lt (tgt := 36) hx hb dE_write_4 (by decide) (fun c4 => absurd c4 (by decide)) (fun c4 => ?_)
  refine lv_aload_n hx hb dE_write_7 rfl (lv_at hl 1 rfl) ?_
  refine og C h laysE 0 rfl rfl 0 (by decide) flE_7 rfl (v := .ref q) rfl dE_write_8 ?_
  refine lv_aload_n hx hb dE_write_11 rfl (lv_at hl 1 rfl) ?_
  refine og C h laysE 0 rfl rfl 1 (by decide) flE_17 rfl (v := .int 12) rfl dE_write_12 ?_
  refine lv_iload_n hx hb dE_write_15 rfl (lv_at hl 2 rfl) ?_
  refine lv_iload_n hx hb dE_write_16 rfl (lv_at hl 0 rfl) ?_
  refine lv_iushr hx hb dE_write_17 rfl ?_
  refine lv_i2b hx hb dE_write_18 rfl ?_
  refine va_bast C.1.1 C.1.2.1 C.2 h.1 h.2.1 h.2.2.1 1 0 rfl rfl (pk_in 12 5000 (by decide) rfl) dE_write_19 (fun H locs hP hD hS => ?_)
  have h : Hx g [(x, .inr (1, [.ref q, .int 12, .null, .null, .null, .null, .null, .null, .null, .null, .int 0, .int (-1)])), (q, .inl (g.2.2 0, 5000, .inl (upd f (12 : Int32).toNatClampNeg (vp_nar .byte ((((a1 : Int32).toUInt32 >>> ((24 : Int32).toUInt32 &&& Int32.toUInt32 31)).toInt32).toInt8.toInt32)))))] A s.heap _ _ := ⟨hP, hD, hS, h.2.2.2⟩
  generalize (upd f (12 : Int32).toNatClampNeg (vp_nar .byte ((((a1 : Int32).toUInt32 >>> ((24 : Int32).toUInt32 &&& Int32.toUInt32 31)).toInt32).toInt8.toInt32))) = f_1 at h
  refine lv_aload_n hx hb dE_write_20 rfl (lv_at hl 1 rfl) ?_
  refine lv_dup hx hb dE_write_21 rfl ?_
  refine og C h laysE 0 rfl rfl 1 (by decide) flE_17 rfl (v := .int 12) rfl dE_write_22 ?_
  refine lv_iconst (v := 1) hx hb dE_write_25 (by decide) ?_
  refine lv_iadd hx hb dE_write_26 ?_
  refine lv_topi (fun n_2 en_2 => ?_)
  have en_2 : n_2 = 13 := en_2.trans (by decide)
  subst en_2
  refine op C h laysE tyE tyE_ok nmE 0 rfl rfl 1 (by decide) flE_17 rfl rfl (v := .int 13) rfl rfl (Nat.le_of_ble_eq_true rfl) (w' := [(x, .inr (1, [.ref q, .int 13, .null, .null, .null, .null, .null, .null, .null, .null, .int 0, .int (-1)])), (q, .inl (g.2.2 0, 5000, .inl f_1))]) rfl dE_write_27 (fun H locs h => ?_)
  refine lv_iinc (v := 16) (lv' := [(2, .int (16)), (0, .ref x), (1, .int (a1))]) hx hb dE_write_30 hl (k := 0) rfl (by decide) (by decide) rfl (fun ls hl => ?_)
  refine lv_goto (tgt := 3) hx hb dE_write_33 (by decide) ?_
  refine lv_iload_n hx hb dE_write_3 rfl (lv_at hl 0 rfl) ?_
  refine lv_if_lt (tgt := 36) hx hb dE_write_4 (by decide) (fun c4 => absurd c4 (by decide)) (fun c4 => ?_)
  refine lv_aload_n hx hb dE_write_7 rfl (lv_at hl 1 rfl) ?_
  refine og C h laysE 0 rfl rfl 0 (by decide) flE_7 rfl (v := .ref q) rfl dE_write_8 ?_
  refine lv_aload_n hx hb dE_write_11 rfl (lv_at hl 1 rfl) ?_
  refine og C h laysE 0 rfl rfl 1 (by decide) flE_17 rfl (v := .int 13) rfl dE_write_12 ?_
  refine lv_iload_n hx hb dE_write_15 rfl (lv_at hl 2 rfl) ?_
  refine lv_iload_n hx hb dE_write_16 rfl (lv_at hl 0 rfl) ?_
  refine lv_iushr hx hb dE_write_17 rfl ?_
  refine lv_i2b hx hb dE_write_18 rfl ?_
  refine va_bast C.1.1 C.1.2.1 C.2 h.1 h.2.1 h.2.2.1 1 0 rfl rfl (pk_in 13 5000 (by decide) rfl) dE_write_19 (fun H locs hP hD hS => ?_)
  have h : Hx g [(x, .inr (1, [.ref q, .int 13, .null, .null, .null, .null, .null, .null, .null, .null, .int 0, .int (-1)])), (q, .inl (g.2.2 0, 5000, .inl (upd f_1 (13 : Int32).toNatClampNeg (vp_nar .byte ((((a1 : Int32).toUInt32 >>> ((16 : Int32).toUInt32 &&& Int32.toUInt32 31)).toInt32).toInt8.toInt32)))))] A s.heap _ _ := ⟨hP, hD, hS, h.2.2.2⟩
  generalize (upd f_1 (13 : Int32).toNatClampNeg (vp_nar .byte ((((a1 : Int32).toUInt32 >>> ((16 : Int32).toUInt32 &&& Int32.toUInt32 31)).toInt32).toInt8.toInt32))) = f_3 at h
  refine lv_aload_n hx hb dE_write_20 rfl (lv_at hl 1 rfl) ?_
  refine lv_dup hx hb dE_write_21 rfl ?_
  refine og C h laysE 0 rfl rfl 1 (by decide) flE_17 rfl (v := .int 13) rfl dE_write_22 ?_
  refine lv_iconst (v := 1) hx hb dE_write_25 (by decide) ?_
  refine lv_iadd hx hb dE_write_26 ?_
  refine lv_topi (fun n_4 en_4 => ?_)
  have en_4 : n_4 = 14 := en_4.trans (by decide)
  subst en_4
  refine op C h laysE tyE tyE_ok nmE 0 rfl rfl 1 (by decide) flE_17 rfl rfl (v := .int 14) rfl rfl (Nat.le_of_ble_eq_true rfl) (w' := [(x, .inr (1, [.ref q, .int 14, .null, .null, .null, .null, .null, .null, .null, .null, .int 0, .int (-1)])), (q, .inl (g.2.2 0, 5000, .inl f_3))]) rfl dE_write_27 (fun H locs h => ?_)
  refine lv_iinc (v := 8) (lv' := [(2, .int (8)), (0, .ref x), (1, .int (a1))]) hx hb dE_write_30 hl (k := 0) rfl (by decide) (by decide) rfl (fun ls hl => ?_)
  refine lv_goto (tgt := 3) hx hb dE_write_33 (by decide) ?_
  refine lv_iload_n hx hb dE_write_3 rfl (lv_at hl 0 rfl) ?_
  refine lv_if_lt (tgt := 36) hx hb dE_write_4 (by decide) (fun c4 => absurd c4 (by decide)) (fun c4 => ?_)
  refine lv_aload_n hx hb dE_write_7 rfl (lv_at hl 1 rfl) ?_
  refine og C h laysE 0 rfl rfl 0 (by decide) flE_7 rfl (v := .ref q) rfl dE_write_8 ?_
  refine lv_aload_n hx hb dE_write_11 rfl (lv_at hl 1 rfl) ?_
  refine og C h laysE 0 rfl rfl 1 (by decide) flE_17 rfl (v := .int 14) rfl dE_write_12 ?_
  refine lv_iload_n hx hb dE_write_15 rfl (lv_at hl 2 rfl) ?_
  refine lv_iload_n hx hb dE_write_16 rfl (lv_at hl 0 rfl) ?_
  refine lv_iushr hx hb dE_write_17 rfl ?_
  refine lv_i2b hx hb dE_write_18 rfl ?_
  refine va_bast C.1.1 C.1.2.1 C.2 h.1 h.2.1 h.2.2.1 1 0 rfl rfl (pk_in 14 5000 (by decide) rfl) dE_write_19 (fun H locs hP hD hS => ?_)
  have h : Hx g [(x, .inr (1, [.ref q, .int 14, .null, .null, .null, .null, .null, .null, .null, .null, .int 0, .int (-1)])), (q, .inl (g.2.2 0, 5000, .inl (upd f_3 (14 : Int32).toNatClampNeg (vp_nar .byte ((((a1 : Int32).toUInt32 >>> ((8 : Int32).toUInt32 &&& Int32.toUInt32 31)).toInt32).toInt8.toInt32)))))] A s.heap _ _ := ⟨hP, hD, hS, h.2.2.2⟩
  generalize (upd f_3 (14 : Int32).toNatClampNeg (vp_nar .byte ((((a1 : Int32).toUInt32 >>> ((8 : Int32).toUInt32 &&& Int32.toUInt32 31)).toInt32).toInt8.toInt32))) = f_5 at h
  refine lv_aload_n hx hb dE_write_20 rfl (lv_at hl 1 rfl) ?_
  refine lv_dup hx hb dE_write_21 rfl ?_
  refine og C h laysE 0 rfl rfl 1 (by decide) flE_17 rfl (v := .int 14) rfl dE_write_22 ?_
  refine lv_iconst (v := 1) hx hb dE_write_25 (by decide) ?_
  refine lv_iadd hx hb dE_write_26 ?_
  refine lv_topi (fun n_6 en_6 => ?_)
  have en_6 : n_6 = 15 := en_6.trans (by decide)
  subst en_6
  refine op C h laysE tyE tyE_ok nmE 0 rfl rfl 1 (by decide) flE_17 rfl rfl (v := .int 15) rfl rfl (Nat.le_of_ble_eq_true rfl) (w' := [(x, .inr (1, [.ref q, .int 15, .null, .null, .null, .null, .null, .null, .null, .null, .int 0, .int (-1)])), (q, .inl (g.2.2 0, 5000, .inl f_5))]) rfl dE_write_27 (fun H locs h => ?_)
  refine lv_iinc (v := 0) (lv' := [(2, .int (0)), (0, .ref x), (1, .int (a1))]) hx hb dE_write_30 hl (k := 0) rfl (by decide) (by decide) rfl (fun ls hl => ?_)
  refine lv_goto (tgt := 3) hx hb dE_write_33 (by decide) ?_
  refine lv_iload_n hx hb dE_write_3 rfl (lv_at hl 0 rfl) ?_
  refine lv_if_lt (tgt := 36) hx hb dE_write_4 (by decide) (fun c4 => absurd c4 (by decide)) (fun c4 => ?_)
  refine lv_aload_n hx hb dE_write_7 rfl (lv_at hl 1 rfl) ?_
  refine og C h laysE 0 rfl rfl 0 (by decide) flE_7 rfl (v := .ref q) rfl dE_write_8 ?_
  refine lv_aload_n hx hb dE_write_11 rfl (lv_at hl 1 rfl) ?_
  refine og C h laysE 0 rfl rfl 1 (by decide) flE_17 rfl (v := .int 15) rfl dE_write_12 ?_
  refine lv_iload_n hx hb dE_write_15 rfl (lv_at hl 2 rfl) ?_
  refine lv_iload_n hx hb dE_write_16 rfl (lv_at hl 0 rfl) ?_
  refine lv_iushr hx hb dE_write_17 rfl ?_
  refine lv_i2b hx hb dE_write_18 rfl ?_
  refine va_bast C.1.1 C.1.2.1 C.2 h.1 h.2.1 h.2.2.1 1 0 rfl rfl (pk_in 15 5000 (by decide) rfl) dE_write_19 (fun H locs hP hD hS => ?_)
  have h : Hx g [(x, .inr (1, [.ref q, .int 15, .null, .null, .null, .null, .null, .null, .null, .null, .int 0, .int (-1)])), (q, .inl (g.2.2 0, 5000, .inl (upd f_5 (15 : Int32).toNatClampNeg (vp_nar .byte ((((a1 : Int32).toUInt32 >>> ((0 : Int32).toUInt32 &&& Int32.toUInt32 31)).toInt32).toInt8.toInt32)))))] A s.heap _ _ := ⟨hP, hD, hS, h.2.2.2⟩
  generalize (upd f_5 (15 : Int32).toNatClampNeg (vp_nar .byte ((((a1 : Int32).toUInt32 >>> ((0 : Int32).toUInt32 &&& Int32.toUInt32 31)).toInt32).toInt8.toInt32))) = f_7 at h
  refine lv_aload_n hx hb dE_write_20 rfl (lv_at hl 1 rfl) ?_
  refine lv_dup hx hb dE_write_21 rfl ?_
  refine og C h laysE 0 rfl rfl 1 (by decide) flE_17 rfl (v := .int 15) rfl dE_write_22 ?_
  refine lv_iconst (v := 1) hx hb dE_write_25 (by decide) ?_
  refine lv_iadd hx hb dE_write_26 ?_
  refine lv_topi (fun n_8 en_8 => ?_)
  have en_8 : n_8 = 16 := en_8.trans (by decide)
  subst en_8
  refine op C h laysE tyE tyE_ok nmE 0 rfl rfl 1 (by decide) flE_17 rfl rfl (v := .int 16) rfl rfl (Nat.le_of_ble_eq_true rfl) (w' := [(x, .inr (1, [.ref q, .int 16, .null, .null, .null, .null, .null, .null, .null, .null, .int 0, .int (-1)])), (q, .inl (g.2.2 0, 5000, .inl f_7))]) rfl dE_write_27 (fun H locs h => ?_)
  refine lv_iinc (v := -8) (lv' := [(2, .int (-8)), (0, .ref x), (1, .int (a1))]) hx hb dE_write_30 hl (k := 0) rfl (by decide) (by decide) rfl (fun ls hl => ?_)
  refine lv_goto (tgt := 3) hx hb dE_write_33 (by decide) ?_
  refine lv_iload_n hx hb dE_write_3 rfl (lv_at hl 0 rfl) ?_
  refine lv_if_lt (tgt := 36) hx hb dE_write_4 (by decide) (fun c4 => ?_) (fun c4 => absurd c4 (by decide))
  exact KV.ret C hr hlk f_7 h trivial (by decide) (by decide) dE_write_36

set_option maxHeartbeats 4000000 in
set_option maxRecDepth 100000 in
/-- write() -/
theorem e_write16 (l : Launch) (g : GG) (x q : Nat) (f : Nat → Int32) (a1 : Int32) : KV l yE_write cE_write 3 (rD 0 0 0) g [(x, .inr (1, [.ref q, .int 16, .null, .null, .null, .null, .null, .null, .null, .null, .int 0, .int (-1)])), (q, .inl (g.2.2 0, 5000, .inl f))] (fun u : Nat → Int32 => [(x, .inr (1, [.ref q, .int 20, .null, .null, .null, .null, .null, .null, .null, .null, .int 0, .int (-1)])), (q, .inl (g.2.2 0, 5000, .inl u))]) [.ref x, .int a1] (fun u : Nat → Int32 => True) := by
  refine KV.of (by decide) (Nat.le_of_ble_eq_true rfl) ?_
  intro p e s m below meth c A ls C hr hlk hnm h hl
  have hx := C.1.1
  have hb := C.1.2.1
  have hl : lv_has ls 3 [(0, .ref x), (1, .int a1)] := hl
  refine lv_bipush (v := 24) hx hb dE_write_0 (by decide) ?_
  refine lv_istore_n (lv' := [(2, .int (24)), (0, .ref x), (1, .int (a1))]) hx hb dE_write_2 rfl hl (by decide) rfl (fun ls hl => ?_)
  refine lv_iload_n hx hb dE_write_3 rfl (lv_at hl 0 rfl) ?_
  refine lv_if_lt (tgt := 36) hx hb dE_write_4 (by decide) (fun c4 => absurd c4 (by decide)) (fun c4 => ?_)
  refine lv_aload_n hx hb dE_write_7 rfl (lv_at hl 1 rfl) ?_
  refine og C h laysE 0 rfl rfl 0 (by decide) flE_7 rfl (v := .ref q) rfl dE_write_8 ?_
  refine lv_aload_n hx hb dE_write_11 rfl (lv_at hl 1 rfl) ?_
  refine og C h laysE 0 rfl rfl 1 (by decide) flE_17 rfl (v := .int 16) rfl dE_write_12 ?_
  refine lv_iload_n hx hb dE_write_15 rfl (lv_at hl 2 rfl) ?_
  refine lv_iload_n hx hb dE_write_16 rfl (lv_at hl 0 rfl) ?_
  refine lv_iushr hx hb dE_write_17 rfl ?_
  refine lv_i2b hx hb dE_write_18 rfl ?_
  refine va_bast C.1.1 C.1.2.1 C.2 h.1 h.2.1 h.2.2.1 1 0 rfl rfl (pk_in 16 5000 (by decide) rfl) dE_write_19 (fun H locs hP hD hS => ?_)
  have h : Hx g [(x, .inr (1, [.ref q, .int 16, .null, .null, .null, .null, .null, .null, .null, .null, .int 0, .int (-1)])), (q, .inl (g.2.2 0, 5000, .inl (upd f (16 : Int32).toNatClampNeg (vp_nar .byte ((((a1 : Int32).toUInt32 >>> ((24 : Int32).toUInt32 &&& Int32.toUInt32 31)).toInt32).toInt8.toInt32)))))] A s.heap _ _ := ⟨hP, hD, hS, h.2.2.2⟩
  generalize (upd f (16 : Int32).toNatClampNeg (vp_nar .byte ((((a1 : Int32).toUInt32 >>> ((24 : Int32).toUInt32 &&& Int32.toUInt32 31)).toInt32).toInt8.toInt32))) = f_1 at h
  refine lv_aload_n hx hb dE_write_20 rfl (lv_at hl 1 rfl) ?_
  refine lv_dup hx hb dE_write_21 rfl ?_
  refine og C h laysE 0 rfl rfl 1 (by decide) flE_17 rfl (v := .int 16) rfl dE_write_22 ?_
  refine lv_iconst (v := 1) hx hb dE_write_25 (by decide) ?_
  refine lv_iadd hx hb dE_write_26 ?_
  refine lv_topi (fun n_2 en_2 => ?_)
  have en_2 : n_2 = 17 := en_2.trans (by decide)
  subst en_2
  refine op C h laysE tyE tyE_ok nmE 0 rfl rfl 1 (by decide) flE_17 rfl rfl (v := .int 17) rfl rfl (Nat.le_of_ble_eq_true rfl) (w' := [(x, .inr (1, [.ref q, .int 17, .null, .null, .null, .null, .null, .null, .null, .null, .int 0, .int (-1)])), (q, .inl (g.2.2 0, 5000, .inl f_1))]) rfl dE_write_27 (fun H locs h => ?_)
  refine lv_iinc (v := 16) (lv' := [(2, .int (16)), (0, .ref x), (1, .int (a1))]) hx hb dE_write_30 hl (k := 0) rfl (by decide) (by decide) rfl (fun ls hl => ?_)
  refine lv_goto (tgt := 3) hx hb dE_write_33 (by decide) ?_
  refine lv_iload_n hx hb dE_write_3 rfl (lv_at hl 0 rfl) ?_
  refine lv_if_lt (tgt := 36) hx hb dE_write_4 (by decide) (fun c4 => absurd c4 (by decide)) (fun c4 => ?_)
  refine lv_aload_n hx hb dE_write_7 rfl (lv_at hl 1 rfl) ?_
  refine og C h laysE 0 rfl rfl 0 (by decide) flE_7 rfl (v := .ref q) rfl dE_write_8 ?_
  refine lv_aload_n hx hb dE_write_11 rfl (lv_at hl 1 rfl) ?_
  refine og C h laysE 0 rfl rfl 1 (by decide) flE_17 rfl (v := .int 17) rfl dE_write_12 ?_
  refine lv_iload_n hx hb dE_write_15 rfl (lv_at hl 2 rfl) ?_
  refine lv_iload_n hx hb dE_write_16 rfl (lv_at hl 0 rfl) ?_
  refine lv_iushr hx hb dE_write_17 rfl ?_
  refine lv_i2b hx hb dE_write_18 rfl ?_
  refine va_bast C.1.1 C.1.2.1 C.2 h.1 h.2.1 h.2.2.1 1 0 rfl rfl (pk_in 17 5000 (by decide) rfl) dE_write_19 (fun H locs hP hD hS => ?_)
  have h : Hx g [(x, .inr (1, [.ref q, .int 17, .null, .null, .null, .null, .null, .null, .null, .null, .int 0, .int (-1)])), (q, .inl (g.2.2 0, 5000, .inl (upd f_1 (17 : Int32).toNatClampNeg (vp_nar .byte ((((a1 : Int32).toUInt32 >>> ((16 : Int32).toUInt32 &&& Int32.toUInt32 31)).toInt32).toInt8.toInt32)))))] A s.heap _ _ := ⟨hP, hD, hS, h.2.2.2⟩
  generalize (upd f_1 (17 : Int32).toNatClampNeg (vp_nar .byte ((((a1 : Int32).toUInt32 >>> ((16 : Int32).toUInt32 &&& Int32.toUInt32 31)).toInt32).toInt8.toInt32))) = f_3 at h
  refine lv_aload_n hx hb dE_write_20 rfl (lv_at hl 1 rfl) ?_
  refine lv_dup hx hb dE_write_21 rfl ?_
  refine og C h laysE 0 rfl rfl 1 (by decide) flE_17 rfl (v := .int 17) rfl dE_write_22 ?_
  refine lv_iconst (v := 1) hx hb dE_write_25 (by decide) ?_
  refine lv_iadd hx hb dE_write_26 ?_
  refine lv_topi (fun n_4 en_4 => ?_)
  have en_4 : n_4 = 18 := en_4.trans (by decide)
  subst en_4
  refine op C h laysE tyE tyE_ok nmE 0 rfl rfl 1 (by decide) flE_17 rfl rfl (v := .int 18) rfl rfl (Nat.le_of_ble_eq_true rfl) (w' := [(x, .inr (1, [.ref q, .int 18, .null, .null, .null, .null, .null, .null, .null, .null, .int 0, .int (-1)])), (q, .inl (g.2.2 0, 5000, .inl f_3))]) rfl dE_write_27 (fun H locs h => ?_)
  refine lv_iinc (v := 8) (lv' := [(2, .int (8)), (0, .ref x), (1, .int (a1))]) hx hb dE_write_30 hl (k := 0) rfl (by decide) (by decide) rfl (fun ls hl => ?_)
  refine lv_goto (tgt := 3) hx hb dE_write_33 (by decide) ?_
  refine lv_iload_n hx hb dE_write_3 rfl (lv_at hl 0 rfl) ?_
  refine lv_if_lt (tgt := 36) hx hb dE_write_4 (by decide) (fun c4 => absurd c4 (by decide)) (fun c4 => ?_)
  refine lv_aload_n hx hb dE_write_7 rfl (lv_at hl 1 rfl) ?_
  refine og C h laysE 0 rfl rfl 0 (by decide) flE_7 rfl (v := .ref q) rfl dE_write_8 ?_
  refine lv_aload_n hx hb dE_write_11 rfl (lv_at hl 1 rfl) ?_
  refine og C h laysE 0 rfl rfl 1 (by decide) flE_17 rfl (v := .int 18) rfl dE_write_12 ?_
  refine lv_iload_n hx hb dE_write_15 rfl (lv_at hl 2 rfl) ?_
  refine lv_iload_n hx hb dE_write_16 rfl (lv_at hl 0 rfl) ?_
  refine lv_iushr hx hb dE_write_17 rfl ?_
  refine lv_i2b hx hb dE_write_18 rfl ?_
  refine va_bast C.1.1 C.1.2.1 C.2 h.1 h.2.1 h.2.2.1 1 0 rfl rfl (pk_in 18 5000 (by decide) rfl) dE_write_19 (fun H locs hP hD hS => ?_)
  have h : Hx g [(x, .inr (1, [.ref q, .int 18, .null, .null, .null, .null, .null, .null, .null, .null, .int 0, .int (-1)])), (q, .inl (g.2.2 0, 5000, .inl (upd f_3 (18 : Int32).toNatClampNeg (vp_nar .byte ((((a1 : Int32).toUInt32 >>> ((8 : Int32).toUInt32 &&& Int32.toUInt32 31)).toInt32).toInt8.toInt32)))))] A s.heap _ _ := ⟨hP, hD, hS, h.2.2.2⟩
  generalize (upd f_3 (18 : Int32).toNatClampNeg (vp_nar .byte ((((a1 : Int32).toUInt32 >>> ((8 : Int32).toUInt32 &&& Int32.toUInt32 31)).toInt32).toInt8.toInt32))) = f_5 at h
  refine lv_aload_n hx hb dE_write_20 rfl (lv_at hl 1 rfl) ?_
  refine lv_dup hx hb dE_write_21 rfl ?_
  refine og C h laysE 0 rfl rfl 1 (by decide) flE_17 rfl (v := .int 18) rfl dE_write_22 ?_
  refine lv_iconst (v := 1) hx hb dE_write_25 (by decide) ?_
  refine lv_iadd hx hb dE_write_26 ?_
  refine lv_topi (fun n_6 en_6 => ?_)
  have en_6 : n_6 = 19 := en_6.trans (by decide)
  subst en_6
  refine op C h laysE tyE tyE_ok nmE 0 rfl rfl 1 (by decide) flE_17 rfl rfl (v := .int 19) rfl rfl (Nat.le_of_ble_eq_true rfl) (w' := [(x, .inr (1, [.ref q, .int 19, .null, .null, .null, .null, .null, .null, .null, .null, .int 0, .int (-1)])), (q, .inl (g.2.2 0, 5000, .inl f_5))]) rfl dE_write_27 (fun H locs h => ?_)
  refine lv_iinc (v := 0) (lv' := [(2, .int (0)), (0, .ref x), (1, .int (a1))]) hx hb dE_write_30 hl (k := 0) rfl (by decide) (by decide) rfl (fun ls hl => ?_)
  refine lv_goto (tgt := 3) hx hb dE_write_33 (by decide) ?_
  refine lv_iload_n hx hb dE_write_3 rfl (lv_at hl 0 rfl) ?_
  refine lv_if_lt (tgt := 36) hx hb dE_write_4 (by decide) (fun c4 => absurd c4 (by decide)) (fun c4 => ?_)
  refine lv_aload_n hx hb dE_write_7 rfl (lv_at hl 1 rfl) ?_
  refine og C h laysE 0 rfl rfl 0 (by decide) flE_7 rfl (v := .ref q) rfl dE_write_8 ?_
  refine lv_aload_n hx hb dE_write_11 rfl (lv_at hl 1 rfl) ?_
  refine og C h laysE 0 rfl rfl 1 (by decide) flE_17 rfl (v := .int 19) rfl dE_write_12 ?_
  refine lv_iload_n hx hb dE_write_15 rfl (lv_at hl 2 rfl) ?_
  refine lv_iload_n hx hb dE_write_16 rfl (lv_at hl 0 rfl) ?_
  refine lv_iushr hx hb dE_write_17 rfl ?_
  refine lv_i2b hx hb dE_write_18 rfl ?_
  refine va_bast C.1.1 C.1.2.1 C.2 h.1 h.2.1 h.2.2.1 1 0 rfl rfl (pk_in 19 5000 (by decide) rfl) dE_write_19 (fun H locs hP hD hS => ?_)
  have h : Hx g [(x, .inr (1, [.ref q, .int 19, .null, .null, .null, .null, .null, .null, .null, .null, .int 0, .int (-1)])), (q, .inl (g.2.2 0, 5000, .inl (upd f_5 (19 : Int32).toNatClampNeg (vp_nar .byte ((((a1 : Int32).toUInt32 >>> ((0 : Int32).toUInt32 &&& Int32.toUInt32 31)).toInt32).toInt8.toInt32)))))] A s.heap _ _ := ⟨hP, hD, hS, h.2.2.2⟩
  generalize (upd f_5 (19 : Int32).toNatClampNeg (vp_nar .byte ((((a1 : Int32).toUInt32 >>> ((0 : Int32).toUInt32 &&& Int32.toUInt32 31)).toInt32).toInt8.toInt32))) = f_7 at h
  refine lv_aload_n hx hb dE_write_20 rfl (lv_at hl 1 rfl) ?_
  refine lv_dup hx hb dE_write_21 rfl ?_
  refine og C h laysE 0 rfl rfl 1 (by decide) flE_17 rfl (v := .int 19) rfl dE_write_22 ?_
  refine lv_iconst (v := 1) hx hb dE_write_25 (by decide) ?_
  refine lv_iadd hx hb dE_write_26 ?_
  refine lv_topi (fun n_8 en_8 => ?_)
  have en_8 : n_8 = 20 := en_8.trans (by decide)
  subst en_8
  refine op C h laysE tyE tyE_ok nmE 0 rfl rfl 1 (by decide) flE_17 rfl rfl (v := .int 20) rfl rfl (Nat.le_of_ble_eq_true rfl) (w' := [(x, .inr (1, [.ref q, .int 20, .null, .null, .null, .null, .null, .null, .null, .null, .int 0, .int (-1)])), (q, .inl (g.2.2 0, 5000, .inl f_7))]) rfl dE_write_27 (fun H locs h => ?_)
  refine lv_iinc (v := -8) (lv' := [(2, .int (-8)), (0, .ref x), (1, .int (a1))]) hx hb dE_write_30 hl (k := 0) rfl (by decide) (by decide) rfl (fun ls hl => ?_)
  refine lv_goto (tgt := 3) hx hb dE_write_33 (by decide) ?_
  refine lv_iload_n hx hb dE_write_3 rfl (lv_at hl 0 rfl) ?_
  refine lv_if_lt (tgt := 36) hx hb dE_write_4 (by decide) (fun c4 => ?_) (fun c4 => absurd c4 (by decide))
  exact KV.ret C hr hlk f_7 h trivial (by decide) (by decide) dE_write_36

set_option maxHeartbeats 4000000 in
set_option maxRecDepth 100000 in
/-- feed() on a fresh object -/
theorem e_feed (l : Launch) (g : GG) (x t : Nat) (a1 a2 a3 a4 a5 : Int32) : KI l yE_feed cE_feed 6 (some .boolean) (rD 1 1 5000) g [(x, .inr (1, [.ref t, .int 0, .null, .null, .null, .null, .null, .null, .null, .null, .int 0, .int (-1)])), (t, .inl (g.2.2 0, 0, .inl (fun _ => 0)))] (fun u : Unit => []) [.ref x, .int a1, .int a2, .int a3, .int a4, .int a5] (fun (r : Int32) (u : Unit) => r = 1) := by
  refine KI.of (by decide) (Nat.le_of_ble_eq_true rfl) ?_
  intro p e s m below meth c A ls C hr hlk hnm h hl
  have hx := C.1.1
  have hb := C.1.2.1
  have hl : lv_has ls 6 [(0, .ref x), (1, .int a1), (2, .int a2), (3, .int a3), (4, .int a4), (5, .int a5)] := hl
  refine lv_aload_n hx hb dE_feed_0 rfl (lv_at hl 0 rfl) ?_
  refine og C h laysE 0 rfl rfl 1 (by decide) flE_17 rfl (v := .int 0) rfl dE_feed_1 ?_
  refine lv_bipush (v := 20) hx hb dE_feed_4 (by decide) ?_
  refine lv_iadd hx hb dE_feed_6 ?_
  refine lv_topi (fun n_1 en_1 => ?_)
  have en_1 : n_1 = 20 := en_1.trans (by decide)
  subst en_1
  refine lv_sipush (v := 5000) hx hb dE_feed_7 (by decide) ?_
  refine lv_icmp_le (tgt := 15) hx hb dE_feed_10 (by decide) (fun c10 => ?_) (fun c10 => absurd c10 (by decide))
  refine lv_aload_n hx hb dE_feed_15 rfl (lv_at hl 0 rfl) ?_
  refine og C h laysE 0 rfl rfl 0 (by decide) flE_7 rfl (v := .ref t) rfl dE_feed_16 ?_
  refine va_alen (v := 0) C.1.1 C.1.2.1 C.2 h.1 1 0 rfl rfl rfl dE_feed_19 ?_
  refine lv_if_ne (tgt := 32) hx hb dE_feed_20 (by decide) (fun c20 => absurd c20 (by decide)) (fun c20 => ?_)
  refine lv_aload_n hx hb dE_feed_23 rfl (lv_at hl 0 rfl) ?_
  refine lv_sipush (v := 5000) hx hb dE_feed_24 (by decide) ?_
  refine newA_b C h (N := 5000) (by decide) (by decide) (by decide) (by decide) (by decide) dE_feed_27 (fun q_2 H h => ?_)
  have h : Hx g [(x, .inr (1, [.ref t, .int 0, .null, .null, .null, .null, .null, .null, .null, .null, .int 0, .int (-1)])), (t, .inl (g.2.2 0, 0, .inl (fun _ => 0))), (q_2, .inl (g.2.2 0, 5000, .inl (fun _ => 0)))] A s.heap _ _ := h
  refine W.widen (k := 1) (n := 5000) (by decide) (by decide) ?_
  refine op C h laysE tyE tyE_ok nmE 0 rfl rfl 0 (by decide) flE_7 rfl rfl (v := .ref q_2) rfl rfl (Nat.le_of_ble_eq_true rfl) (w' := [(x, .inr (1, [.ref q_2, .int 0, .null, .null, .null, .null, .null, .null, .null, .null, .int 0, .int (-1)])), (t, .inl (g.2.2 0, 0, .inl (fun _ => 0))), (q_2, .inl (g.2.2 0, 5000, .inl (fun _ => 0)))]) rfl dE_feed_29 (fun H locs h => ?_)
  refine lv_aload_n hx hb dE_feed_32 rfl (lv_at hl 0 rfl) ?_
  refine lv_iload_n hx hb dE_feed_33 rfl (lv_at hl 1 rfl) ?_
  refine KV.callVs (As := [.int a1]) (q0 := 0) (ci := 1) (wc := [(x, .inr (1, [.ref q_2, .int 0, .null, .null, .null, .null, .null, .null, .null, .null, .int 0, .int (-1)])), (q_2, .inl (g.2.2 0, 5000, .inl (fun _ => 0)))]) (wr := [(t, .inl (g.2.2 0, 0, .inl (fun _ => 0)))]) C h [0, 2] [1] rfl rfl (by decide) (by decide) (by decide) (e_write0 l g x q_2 (fun _ => 0) a1) vE_feed_20 ⟨by decide, by decide⟩ rfl rfl hl.1 rfl (Nat.le_of_ble_eq_true rfl) dE_feed_34 ⟨by decide, by decide⟩ (fun u_3 H locs hp h => ?_)
  have h : Hx g [(t, .inl (g.2.2 0, 0, .inl (fun _ => 0))), (x, .inr (1, [.ref q_2, .int 4, .null, .null, .null, .null, .null, .null, .null, .null, .int 0, .int (-1)])), (q_2, .inl (g.2.2 0, 5000, .inl u_3))] A s.heap _ _ := h
  refine lv_aload_n hx hb dE_feed_37 rfl (lv_at hl 0 rfl) ?_
  refine lv_iload_n hx hb dE_feed_38 rfl (lv_at hl 2 rfl) ?_
  refine KV.callVs (As := [.int a2]) (q0 := 1) (ci := 1) (wc := [(x, .inr (1, [.ref q_2, .int 4, .null, .null, .null, .null, .null, .null, .null, .null, .int 0, .int (-1)])), (q_2, .inl (g.2.2 0, 5000, .inl u_3))]) (wr := [(t, .inl (g.2.2 0, 0, .inl (fun _ => 0)))]) C h [1, 2] [0] rfl rfl (by decide) (by decide) (by decide) (e_write4 l g x q_2 u_3 a2) vE_feed_20 ⟨by decide, by decide⟩ rfl rfl hl.1 rfl (Nat.le_of_ble_eq_true rfl) dE_feed_39 ⟨by decide, by decide⟩ (fun u_5 H locs hp h => ?_)
  have h : Hx g [(t, .inl (g.2.2 0, 0, .inl (fun _ => 0))), (x, .inr (1, [.ref q_2, .int 8, .null, .null, .null, .null, .null, .null, .null, .null, .int 0, .int (-1)])), (q_2, .inl (g.2.2 0, 5000, .inl u_5))] A s.heap _ _ := h
  refine lv_aload_n hx hb dE_feed_42 rfl (lv_at hl 0 rfl) ?_
  refine lv_iload_n hx hb dE_feed_43 rfl (lv_at hl 3 rfl) ?_
  refine KV.callVs (As := [.int a3]) (q0 := 1) (ci := 1) (wc := [(x, .inr (1, [.ref q_2, .int 8, .null, .null, .null, .null, .null, .null, .null, .null, .int 0, .int (-1)])), (q_2, .inl (g.2.2 0, 5000, .inl u_5))]) (wr := [(t, .inl (g.2.2 0, 0, .inl (fun _ => 0)))]) C h [1, 2] [0] rfl rfl (by decide) (by decide) (by decide) (e_write8 l g x q_2 u_5 a3) vE_feed_20 ⟨by decide, by decide⟩ rfl rfl hl.1 rfl (Nat.le_of_ble_eq_true rfl) dE_feed_44 ⟨by decide, by decide⟩ (fun u_7 H locs hp h => ?_)
  have h : Hx g [(t, .inl (g.2.2 0, 0, .inl (fun _ => 0))), (x, .inr (1, [.ref q_2, .int 12, .null, .null, .null, .null, .null, .null, .null, .null, .int 0, .int (-1)])), (q_2, .inl (g.2.2 0, 5000, .inl u_7))] A s.heap _ _ := h
  refine lv_aload_n hx hb dE_feed_47 rfl (lv_at hl 0 rfl) ?_
  refine lv_iload hx hb dE_feed_48 (lv_at hl 4 rfl) ?_
  refine KV.callVs (As := [.int a4]) (q0 := 1) (ci := 1) (wc := [(x, .inr (1, [.ref q_2, .int 12, .null, .null, .null, .null, .null, .null, .null, .null, .int 0, .int (-1)])), (q_2, .inl (g.2.2 0, 5000, .inl u_7))]) (wr := [(t, .inl (g.2.2 0, 0, .inl (fun _ => 0)))]) C h [1, 2] [0] rfl rfl (by decide) (by decide) (by decide) (e_write12 l g x q_2 u_7 a4) vE_feed_20 ⟨by decide, by decide⟩ rfl rfl hl.1 rfl (Nat.le_of_ble_eq_true rfl) dE_feed_50 ⟨by decide, by decide⟩ (fun u_9 H locs hp h => ?_)
  have h : Hx g [(t, .inl (g.2.2 0, 0, .inl (fun _ => 0))), (x, .inr (1, [.ref q_2, .int 16, .null, .null, .null, .null, .null, .null, .null, .null, .int 0, .int (-1)])), (q_2, .inl (g.2.2 0, 5000, .inl u_9))] A s.heap _ _ := h
  refine lv_aload_n hx hb dE_feed_53 rfl (lv_at hl 0 rfl) ?_
  refine lv_iload hx hb dE_feed_54 (lv_at hl 5 rfl) ?_
  refine KV.callVs (As := [.int a5]) (q0 := 1) (ci := 1) (wc := [(x, .inr (1, [.ref q_2, .int 16, .null, .null, .null, .null, .null, .null, .null, .null, .int 0, .int (-1)])), (q_2, .inl (g.2.2 0, 5000, .inl u_9))]) (wr := [(t, .inl (g.2.2 0, 0, .inl (fun _ => 0)))]) C h [1, 2] [0] rfl rfl (by decide) (by decide) (by decide) (e_write16 l g x q_2 u_9 a5) vE_feed_20 ⟨by decide, by decide⟩ rfl rfl hl.1 rfl (Nat.le_of_ble_eq_true rfl) dE_feed_56 ⟨by decide, by decide⟩ (fun u_11 H locs hp h => ?_)
  have h : Hx g [(t, .inl (g.2.2 0, 0, .inl (fun _ => 0))), (x, .inr (1, [.ref q_2, .int 20, .null, .null, .null, .null, .null, .null, .null, .null, .int 0, .int (-1)])), (q_2, .inl (g.2.2 0, 5000, .inl u_11))] A s.heap _ _ := h
  refine lv_iconst (v := 1) hx hb dE_feed_59 (by decide) ?_
  have h : Hx g [] A s.heap _ _ := h.cut [] (by decide) rfl
  exact KI.ret C hr hlk () h rfl rfl (by decide) (by decide) dE_feed_60

set_option maxHeartbeats 4000000 in
set_option maxRecDepth 100000 in
/-- Names -/
theorem i_Na20 (l : Launch) (g : GG) (o : Nat) : KV l yNa_init cNa_init 2 (rD 1 2 40) g [(o, .inr (7, [.null, .null, .int 0]))] (fun u : Nat × Nat => [(o, .inr (7, [.ref u.1, .ref u.2, .int 0]))]) [.ref o, .int 20] (fun u : Nat × Nat => True) := by
  refine KV.of (by decide) (Nat.le_of_ble_eq_true rfl) ?_
  intro p e s m below meth c A ls C hr hlk hnm h hl
  have hx := C.1.1
  have hb := C.1.2.1
  have hl : lv_has ls 2 [(0, .ref o), (1, .int 20)] := hl
  refine lv_aload_n hx hb dNa_init_0 rfl (lv_at hl 0 rfl) ?_
  refine W.objInit hx hb C.1.2.2.2.1 (C.1.2.2.2.2 _ koNa) (C.1.2.2.2.2 _ k_objI) (C.1.2.2.2.2 _ k_objC) rfl (by rw [C.1.2.2.1]; exact hl.1) rfl dNa_init_1 (Nat.le_of_ble_eq_true rfl) (Nat.le_of_ble_eq_true rfl) ?_
  refine W.eq (g2 := F0 m 4 ls []) rfl ?_
  refine lv_aload_n hx hb dNa_init_4 rfl (lv_at hl 0 rfl) ?_
  refine lv_iload_n hx hb dNa_init_5 rfl (lv_at hl 1 rfl) ?_
  refine newA_j C h (N := 20) (by decide) (by decide) (by decide) (by decide) (by decide) dNa_init_6 (fun q_1 H h => ?_)
  have h : Hx g [(o, .inr (7, [.null, .null, .int 0])), (q_1, .inl (g.2.2 2, 20, .inr (.inl (fun _ => 0))))] A s.heap _ _ := h
  refine W.widen (k := 1) (n := 20) (by decide) (by decide) ?_
  refine opF C h laysNa tyNa tyNa_ok nmNa hnm rfl 0 rfl rfl 0 (by decide) flNa_9 rfl rfl (v := .ref q_1) rfl rfl (Nat.le_of_ble_eq_true rfl) (w' := [(o, .inr (7, [.ref q_1, .null, .int 0])), (q_1, .inl (g.2.2 2, 20, .inr (.inl (fun _ => 0))))]) rfl dNa_init_8 (fun H locs h => ?_)
  refine lv_aload_n hx hb dNa_init_11 rfl (lv_at hl 0 rfl) ?_
  refine lv_iload_n hx hb dNa_init_12 rfl (lv_at hl 1 rfl) ?_
  refine newA_i C h (N := 20) (by decide) (by decide) (by decide) (by decide) (by decide) dNa_init_13 (fun q_2 H h => ?_)
  have h : Hx g [(o, .inr (7, [.ref q_1, .null, .int 0])), (q_1, .inl (g.2.2 2, 20, .inr (.inl (fun _ => 0)))), (q_2, .inl (g.2.2 1, 20, .inl (fun _ => 0)))] A s.heap _ _ := h
  refine W.widen (k := 2) (n := 40) (by decide) (by decide) ?_
  refine opF C h laysNa tyNa tyNa_ok nmNa hnm rfl 0 rfl rfl 1 (by decide) flNa_15 rfl rfl (v := .ref q_2) rfl rfl (Nat.le_of_ble_eq_true rfl) (w' := [(o, .inr (7, [.ref q_1, .ref q_2, .int 0])), (q_1, .inl (g.2.2 2, 20, .inr (.inl (fun _ => 0)))), (q_2, .inl (g.2.2 1, 20, .inl (fun _ => 0)))]) rfl dNa_init_15 (fun H locs h => ?_)
  have h : Hx g [(o, .inr (7, [.ref q_1, .ref q_2, .int 0]))] A s.heap _ _ := h.cut [0] (by decide) rfl
  exact KV.ret C hr hlk (q_1, q_2) h trivial (by decide) (by decide) dNa_init_18

set_option maxHeartbeats 4000000 in
set_option maxRecDepth 100000 in
/-- Names -/
theorem i_Na10 (l : Launch) (g : GG) (o : Nat) : KV l yNa_init cNa_init 2 (rD 1 2 20) g [(o, .inr (7, [.null, .null, .int 0]))] (fun u : Nat × Nat => [(o, .inr (7, [.ref u.1, .ref u.2, .int 0]))]) [.ref o, .int 10] (fun u : Nat × Nat => True) := by
  refine KV.of (by decide) (Nat.le_of_ble_eq_true rfl) ?_
  intro p e s m below meth c A ls C hr hlk hnm h hl
  have hx := C.1.1
  have hb := C.1.2.1
  have hl : lv_has ls 2 [(0, .ref o), (1, .int 10)] := hl
  refine lv_aload_n hx hb dNa_init_0 rfl (lv_at hl 0 rfl) ?_
  refine W.objInit hx hb C.1.2.2.2.1 (C.1.2.2.2.2 _ koNa) (C.1.2.2.2.2 _ k_objI) (C.1.2.2.2.2 _ k_objC) rfl (by rw [C.1.2.2.1]; exact hl.1) rfl dNa_init_1 (Nat.le_of_ble_eq_true rfl) (Nat.le_of_ble_eq_true rfl) ?_
  refine W.eq (g2 := F0 m 4 ls []) rfl ?_
  refine lv_aload_n hx hb dNa_init_4 rfl (lv_at hl 0 rfl) ?_
  refine lv_iload_n hx hb dNa_init_5 rfl (lv_at hl 1 rfl) ?_
  refine newA_j C h (N := 10) (by decide) (by decide) (by decide) (by decide) (by decide) dNa_init_6 (fun q_1 H h => ?_)
  have h : Hx g [(o, .inr (7, [.null, .null, .int 0])), (q_1, .inl (g.2.2 2, 10, .inr (.inl (fun _ => 0))))] A s.heap _ _ := h
  refine W.widen (k := 1) (n := 10) (by decide) (by decide) ?_
  refine opF C h laysNa tyNa tyNa_ok nmNa hnm rfl 0 rfl rfl 0 (by decide) flNa_9 rfl rfl (v := .ref q_1) rfl rfl (Nat.le_of_ble_eq_true rfl) (w' := [(o, .inr (7, [.ref q_1, .null, .int 0])), (q_1, .inl (g.2.2 2, 10, .inr (.inl (fun _ => 0))))]) rfl dNa_init_8 (fun H locs h => ?_)
  refine lv_aload_n hx hb dNa_init_11 rfl (lv_at hl 0 rfl) ?_
  refine lv_iload_n hx hb dNa_init_12 rfl (lv_at hl 1 rfl) ?_
  refine newA_i C h (N := 10) (by decide) (by decide) (by decide) (by decide) (by decide) dNa_init_13 (fun q_2 H h => ?_)
  have h : Hx g [(o, .inr (7, [.ref q_1, .null, .int 0])), (q_1, .inl (g.2.2 2, 10, .inr (.inl (fun _ => 0)))), (q_2, .inl (g.2.2 1, 10, .inl (fun _ => 0)))] A s.heap _ _ := h
  refine W.widen (k := 2) (n := 20) (by decide) (by decide) ?_
  refine opF C h laysNa tyNa tyNa_ok nmNa hnm rfl 0 rfl rfl 1 (by decide) flNa_15 rfl rfl (v := .ref q_2) rfl rfl (Nat.le_of_ble_eq_true rfl) (w' := [(o, .inr (7, [.ref q_1, .ref q_2, .int 0])), (q_1, .inl (g.2.2 2, 10, .inr (.inl (fun _ => 0)))), (q_2, .inl (g.2.2 1, 10, .inl (fun _ => 0)))]) rfl dNa_init_15 (fun H locs h => ?_)
  have h : Hx g [(o, .inr (7, [.ref q_1, .ref q_2, .int 0]))] A s.heap _ _ := h.cut [0] (by decide) rfl
  exact KV.ret C hr hlk (q_1, q_2) h trivial (by decide) (by decide) dNa_init_18

set_option maxHeartbeats 4000000 in
set_option maxRecDepth 100000 in
/-- Names -/
theorem i_Na6 (l : Launch) (g : GG) (o : Nat) : KV l yNa_init cNa_init 2 (rD 1 2 12) g [(o, .inr (7, [.null, .null, .int 0]))] (fun u : Nat × Nat => [(o, .inr (7, [.ref u.1, .ref u.2, .int 0]))]) [.ref o, .int 6] (fun u : Nat × Nat => True) := by
  refine KV.of (by decide) (Nat.le_of_ble_eq_true rfl) ?_
  intro p e s m below meth c A ls C hr hlk hnm h hl
  have hx := C.1.1
  have hb := C.1.2.1
  have hl : lv_has ls 2 [(0, .ref o), (1, .int 6)] := hl
  refine lv_aload_n hx hb dNa_init_0 rfl (lv_at hl 0 rfl) ?_
  refine W.objInit hx hb C.1.2.2.2.1 (C.1.2.2.2.2 _ koNa) (C.1.2.2.2.2 _ k_objI) (C.1.2.2.2.2 _ k_objC) rfl (by rw [C.1.2.2.1]; exact hl.1) rfl dNa_init_1 (Nat.le_of_ble_eq_true rfl) (Nat.le_of_ble_eq_true rfl) ?_
  refine W.eq (g2 := F0 m 4 ls []) rfl ?_
  refine lv_aload_n hx hb dNa_init_4 rfl (lv_at hl 0 rfl) ?_
  refine lv_iload_n hx hb dNa_init_5 rfl (lv_at hl 1 rfl) ?_
  refine newA_j C h (N := 6) (by decide) (by decide) (by decide) (by decide) (by decide) dNa_init_6 (fun q_1 H h => ?_)
  have h : Hx g [(o, .inr (7, [.null, .null, .int 0])), (q_1, .inl (g.2.2 2, 6, .inr (.inl (fun _ => 0))))] A s.heap _ _ := h
  refine W.widen (k := 1) (n := 6) (by decide) (by decide) ?_
  refine opF C h laysNa tyNa tyNa_ok nmNa hnm rfl 0 rfl rfl 0 (by decide) flNa_9 rfl rfl (v := .ref q_1) rfl rfl (Nat.le_of_ble_eq_true rfl) (w' := [(o, .inr (7, [.ref q_1, .null, .int 0])), (q_1, .inl (g.2.2 2, 6, .inr (.inl (fun _ => 0))))]) rfl dNa_init_8 (fun H locs h => ?_)
  refine lv_aload_n hx hb dNa_init_11 rfl (lv_at hl 0 rfl) ?_
  refine lv_iload_n hx hb dNa_init_12 rfl (lv_at hl 1 rfl) ?_
  refine newA_i C h (N := 6) (by decide) (by decide) (by decide) (by decide) (by decide) dNa_init_13 (fun q_2 H h => ?_)
  have h : Hx g [(o, .inr (7, [.ref q_1, .null, .int 0])), (q_1, .inl (g.2.2 2, 6, .inr (.inl (fun _ => 0)))), (q_2, .inl (g.2.2 1, 6, .inl (fun _ => 0)))] A s.heap _ _ := h
  refine W.widen (k := 2) (n := 12) (by decide) (by decide) ?_
  refine opF C h laysNa tyNa tyNa_ok nmNa hnm rfl 0 rfl rfl 1 (by decide) flNa_15 rfl rfl (v := .ref q_2) rfl rfl (Nat.le_of_ble_eq_true rfl) (w' := [(o, .inr (7, [.ref q_1, .ref q_2, .int 0])), (q_1, .inl (g.2.2 2, 6, .inr (.inl (fun _ => 0)))), (q_2, .inl (g.2.2 1, 6, .inl (fun _ => 0)))]) rfl dNa_init_15 (fun H locs h => ?_)
  have h : Hx g [(o, .inr (7, [.ref q_1, .ref q_2, .int 0]))] A s.heap _ _ := h.cut [0] (by decide) rfl
  exact KV.ret C hr hlk (q_1, q_2) h trivial (by decide) (by decide) dNa_init_18

set_option maxHeartbeats 4000000 in
set_option maxRecDepth 100000 in
/-- Names -/
theorem i_Na8 (l : Launch) (g : GG) (o : Nat) : KV l yNa_init cNa_init 2 (rD 1 2 16) g [(o, .inr (7, [.null, .null, .int 0]))] (fun u : Nat × Nat => [(o, .inr (7, [.ref u.1, .ref u.2, .int 0]))]) [.ref o, .int 8] (fun u : Nat × Nat => True) := by
  refine KV.of (by decide) (Nat.le_of_ble_eq_true rfl) ?_
  intro p e s m below meth c A ls C hr hlk hnm h hl
  have hx := C.1.1
  have hb := C.1.2.1
  have hl : lv_has ls 2 [(0, .ref o), (1, .int 8)] := hl
  refine lv_aload_n hx hb dNa_init_0 rfl (lv_at hl 0 rfl) ?_
  refine W.objInit hx hb C.1.2.2.2.1 (C.1.2.2.2.2 _ koNa) (C.1.2.2.2.2 _ k_objI) (C.1.2.2.2.2 _ k_objC) rfl (by rw [C.1.2.2.1]; exact hl.1) rfl dNa_init_1 (Nat.le_of_ble_eq_true rfl) (Nat.le_of_ble_eq_true rfl) ?_
  refine W.eq (g2 := F0 m 4 ls []) rfl ?_
  refine lv_aload_n hx hb dNa_init_4 rfl (lv_at hl 0 rfl) ?_
  refine lv_iload_n hx hb dNa_init_5 rfl (lv_at hl 1 rfl) ?_
  refine newA_j C h (N := 8) (by decide) (by decide) (by decide) (by decide) (by decide) dNa_init_6 (fun q_1 H h => ?_)
  have h : Hx g [(o, .inr (7, [.null, .null, .int 0])), (q_1, .inl (g.2.2 2, 8, .inr (.inl (fun _ => 0))))] A s.heap _ _ := h
  refine W.widen (k := 1) (n := 8) (by decide) (by decide) ?_
  refine opF C h laysNa tyNa tyNa_ok nmNa hnm rfl 0 rfl rfl 0 (by decide) flNa_9 rfl rfl (v := .ref q_1) rfl rfl (Nat.le_of_ble_eq_true rfl) (w' := [(o, .inr (7, [.ref q_1, .null, .int 0])), (q_1, .inl (g.2.2 2, 8, .inr (.inl (fun _ => 0))))]) rfl dNa_init_8 (fun H locs h => ?_)
  refine lv_aload_n hx hb dNa_init_11 rfl (lv_at hl 0 rfl) ?_
  refine lv_iload_n hx hb dNa_init_12 rfl (lv_at hl 1 rfl) ?_
  refine newA_i C h (N := 8) (by decide) (by decide) (by decide) (by decide) (by decide) dNa_init_13 (fun q_2 H h => ?_)
  have h : Hx g [(o, .inr (7, [.ref q_1, .null, .int 0])), (q_1, .inl (g.2.2 2, 8, .inr (.inl (fun _ => 0)))), (q_2, .inl (g.2.2 1, 8, .inl (fun _ => 0)))] A s.heap _ _ := h
  refine W.widen (k := 2) (n := 16) (by decide) (by decide) ?_
  refine opF C h laysNa tyNa tyNa_ok nmNa hnm rfl 0 rfl rfl 1 (by decide) flNa_15 rfl rfl (v := .ref q_2) rfl rfl (Nat.le_of_ble_eq_true rfl) (w' := [(o, .inr (7, [.ref q_1, .ref q_2, .int 0])), (q_1, .inl (g.2.2 2, 8, .inr (.inl (fun _ => 0)))), (q_2, .inl (g.2.2 1, 8, .inl (fun _ => 0)))]) rfl dNa_init_15 (fun H locs h => ?_)
  have h : Hx g [(o, .inr (7, [.ref q_1, .ref q_2, .int 0]))] A s.heap _ _ := h.cut [0] (by decide) rfl
  exact KV.ret C hr hlk (q_1, q_2) h trivial (by decide) (by decide) dNa_init_18

set_option maxHeartbeats 4000000 in
set_option maxRecDepth 100000 in
/-- Names -/
theorem i_Na3 (l : Launch) (g : GG) (o : Nat) : KV l yNa_init cNa_init 2 (rD 1 2 6) g [(o, .inr (7, [.null, .null, .int 0]))] (fun u : Nat × Nat => [(o, .inr (7, [.ref u.1, .ref u.2, .int 0]))]) [.ref o, .int 3] (fun u : Nat × Nat => True) := by
  refine KV.of (by decide) (Nat.le_of_ble_eq_true rfl) ?_
  intro p e s m below meth c A ls C hr hlk hnm h hl
  have hx := C.1.1
  have hb := C.1.2.1
  have hl : lv_has ls 2 [(0, .ref o), (1, .int 3)] := hl
  refine lv_aload_n hx hb dNa_init_0 rfl (lv_at hl 0 rfl) ?_
  refine W.objInit hx hb C.1.2.2.2.1 (C.1.2.2.2.2 _ koNa) (C.1.2.2.2.2 _ k_objI) (C.1.2.2.2.2 _ k_objC) rfl (by rw [C.1.2.2.1]; exact hl.1) rfl dNa_init_1 (Nat.le_of_ble_eq_true rfl) (Nat.le_of_ble_eq_true rfl) ?_
  refine W.eq (g2 := F0 m 4 ls []) rfl ?_
  refine lv_aload_n hx hb dNa_init_4 rfl (lv_at hl 0 rfl) ?_
  refine lv_iload_n hx hb dNa_init_5 rfl (lv_at hl 1 rfl) ?_
  refine newA_j C h (N := 3) (by decide) (by decide) (by decide) (by decide) (by decide) dNa_init_6 (fun q_1 H h => ?_)
  have h : Hx g [(o, .inr (7, [.null, .null, .int 0])), (q_1, .inl (g.2.2 2, 3, .inr (.inl (fun _ => 0))))] A s.heap _ _ := h
  refine W.widen (k := 1) (n := 3) (by decide) (by decide) ?_
  refine opF C h laysNa tyNa tyNa_ok nmNa hnm rfl 0 rfl rfl 0 (by decide) flNa_9 rfl rfl (v := .ref q_1) rfl rfl (Nat.le_of_ble_eq_true rfl) (w' := [(o, .inr (7, [.ref q_1, .null, .int 0])), (q_1, .inl (g.2.2 2, 3, .inr (.inl (fun _ => 0))))]) rfl dNa_init_8 (fun H locs h => ?_)
  refine lv_aload_n hx hb dNa_init_11 rfl (lv_at hl 0 rfl) ?_
  refine lv_iload_n hx hb dNa_init_12 rfl (lv_at hl 1 rfl) ?_
  refine newA_i C h (N := 3) (by decide) (by decide) (by decide) (by decide) (by decide) dNa_init_13 (fun q_2 H h => ?_)
  have h : Hx g [(o, .inr (7, [.ref q_1, .null, .int 0])), (q_1, .inl (g.2.2 2, 3, .inr (.inl (fun _ => 0)))), (q_2, .inl (g.2.2 1, 3, .inl (fun _ => 0)))] A s.heap _ _ := h
  refine W.widen (k := 2) (n := 6) (by decide) (by decide) ?_
  refine opF C h laysNa tyNa tyNa_ok nmNa hnm rfl 0 rfl rfl 1 (by decide) flNa_15 rfl rfl (v := .ref q_2) rfl rfl (Nat.le_of_ble_eq_true rfl) (w' := [(o, .inr (7, [.ref q_1, .ref q_2, .int 0])), (q_1, .inl (g.2.2 2, 3, .inr (.inl (fun _ => 0)))), (q_2, .inl (g.2.2 1, 3, .inl (fun _ => 0)))]) rfl dNa_init_15 (fun H locs h => ?_)
  have h : Hx g [(o, .inr (7, [.ref q_1, .ref q_2, .int 0]))] A s.heap _ _ := h.cut [0] (by decide) rfl
  exact KV.ret C hr hlk (q_1, q_2) h trivial (by decide) (by decide) dNa_init_18

set_option maxHeartbeats 4000000 in
set_option maxRecDepth 100000 in
/-- Names -/
theorem i_Na12 (l : Launch) (g : GG) (o : Nat) : KV l yNa_init cNa_init 2 (rD 1 2 24) g [(o, .inr (7, [.null, .null, .int 0]))] (fun u : Nat × Nat => [(o, .inr (7, [.ref u.1, .ref u.2, .int 0]))]) [.ref o, .int 12] (fun u : Nat × Nat => True) := by
  refine KV.of (by decide) (Nat.le_of_ble_eq_true rfl) ?_
  intro p e s m below meth c A ls C hr hlk hnm h hl
  have hx := C.1.1
  have hb := C.1.2.1
  have hl : lv_has ls 2 [(0, .ref o), (1, .int 12)] := hl
  refine lv_aload_n hx hb dNa_init_0 rfl (lv_at hl 0 rfl) ?_
  refine W.objInit hx hb C.1.2.2.2.1 (C.1.2.2.2.2 _ koNa) (C.1.2.2.2.2 _ k_objI) (C.1.2.2.2.2 _ k_objC) rfl (by rw [C.1.2.2.1]; exact hl.1) rfl dNa_init_1 (Nat.le_of_ble_eq_true rfl) (Nat.le_of_ble_eq_true rfl) ?_
  refine W.eq (g2 := F0 m 4 ls []) rfl ?_
  refine lv_aload_n hx hb dNa_init_4 rfl (lv_at hl 0 rfl) ?_
  refine lv_iload_n hx hb dNa_init_5 rfl (lv_at hl 1 rfl) ?_
  refine newA_j C h (N := 12) (by decide) (by decide) (by decide) (by decide) (by decide) dNa_init_6 (fun q_1 H h => ?_)
  have h : Hx g [(o, .inr (7, [.null, .null, .int 0])), (q_1, .inl (g.2.2 2, 12, .inr (.inl (fun _ => 0))))] A s.heap _ _ := h
  refine W.widen (k := 1) (n := 12) (by decide) (by decide) ?_
  refine opF C h laysNa tyNa tyNa_ok nmNa hnm rfl 0 rfl rfl 0 (by decide) flNa_9 rfl rfl (v := .ref q_1) rfl rfl (Nat.le_of_ble_eq_true rfl) (w' := [(o, .inr (7, [.ref q_1, .null, .int 0])), (q_1, .inl (g.2.2 2, 12, .inr (.inl (fun _ => 0))))]) rfl dNa_init_8 (fun H locs h => ?_)
  refine lv_aload_n hx hb dNa_init_11 rfl (lv_at hl 0 rfl) ?_
  refine lv_iload_n hx hb dNa_init_12 rfl (lv_at hl 1 rfl) ?_
  refine newA_i C h (N := 12) (by decide) (by decide) (by decide) (by decide) (by decide) dNa_init_13 (fun q_2 H h => ?_)
  have h : Hx g [(o, .inr (7, [.ref q_1, .null, .int 0])), (q_1, .inl (g.2.2 2, 12, .inr (.inl (fun _ => 0)))), (q_2, .inl (g.2.2 1, 12, .inl (fun _ => 0)))] A s.heap _ _ := h
  refine W.widen (k := 2) (n := 24) (by decide) (by decide) ?_
  refine opF C h laysNa tyNa tyNa_ok nmNa hnm rfl 0 rfl rfl 1 (by decide) flNa_15 rfl rfl (v := .ref q_2) rfl rfl (Nat.le_of_ble_eq_true rfl) (w' := [(o, .inr (7, [.ref q_1, .ref q_2, .int 0])), (q_1, .inl (g.2.2 2, 12, .inr (.inl (fun _ => 0)))), (q_2, .inl (g.2.2 1, 12, .inl (fun _ => 0)))]) rfl dNa_init_15 (fun H locs h => ?_)
  have h : Hx g [(o, .inr (7, [.ref q_1, .ref q_2, .int 0]))] A s.heap _ _ := h.cut [0] (by decide) rfl
  exact KV.ret C hr hlk (q_1, q_2) h trivial (by decide) (by decide) dNa_init_18

set_option maxHeartbeats 4000000 in
set_option maxRecDepth 100000 in
/-- Kind -/
theorem i_Kd (l : Launch) (g : GG) (o : Nat) : KV l yKd_init cKd_init 1 (rD 2 16 112) g [(o, .inr (6, [.null, .null, .null, .null, .null, .null, .null, .null, .int 0, .int 0, .int 0, .int 0, .int 0, .int 0, .int 0, .int 0, .int 0]))] (fun u : Nat → Nat => [(o, .inr (6, [.ref (u 0), .ref (u 1), .ref (u 2), .ref (u 3), .ref (u 4), .ref (u 5), .ref (u 6), .ref (u 7), .int 0, .int 0, .int 0, .int 0, .int 0, .int 0, .int 0, .int 0, .int 0]))]) [.ref o] (fun u : Nat → Nat => True) := by
  refine KV.of (by decide) (Nat.le_of_ble_eq_true rfl) ?_
  intro p e s m below meth c A ls C hr hlk hnm h hl
  have hx := C.1.1
  have hb := C.1.2.1
  have hl : lv_has ls 1 [(0, .ref o)] := hl
  refine lv_aload_n hx hb dKd_init_0 rfl (lv_at hl 0 rfl) ?_
  refine W.objInit hx hb C.1.2.2.2.1 (C.1.2.2.2.2 _ koKd) (C.1.2.2.2.2 _ k_objI) (C.1.2.2.2.2 _ k_objC) rfl (by rw [C.1.2.2.1]; exact hl.1) rfl dKd_init_1 (Nat.le_of_ble_eq_true rfl) (Nat.le_of_ble_eq_true rfl) ?_
  refine W.eq (g2 := F0 m 4 ls []) rfl ?_
  refine lv_aload_n hx hb dKd_init_4 rfl (lv_at hl 0 rfl) ?_
  refine on C h laysNa tyNa tyNa_ok clKd_7 kiNa knNa rfl dfNa (by decide) (by decide) dKd_init_5 (fun q_1 H h => ?_)
  have h : Hx g [(o, .inr (6, [.null, .null, .null, .null, .null, .null, .null, .null, .int 0, .int 0, .int 0, .int 0, .int 0, .int 0, .int 0, .int 0, .int 0])), (q_1, .inr (7, [.null, .null, .int 0]))] A s.heap _ _ := h
  refine W.widen (k := 1) (n := 3) (by decide) (by decide) ?_
  refine lv_dup hx hb dKd_init_8 rfl ?_
  refine lv_bipush (v := 8) hx hb dKd_init_9 (by decide) ?_
  refine KV.callI (As := [.int 8]) (wc := [(q_1, .inr (7, [.null, .null, .int 0]))]) (wr := [(o, .inr (6, [.null, .null, .null, .null, .null, .null, .null, .null, .int 0, .int 0, .int 0, .int 0, .int 0, .int 0, .int 0, .int 0, .int 0]))]) C h [1] [0] rfl rfl (by decide) (by decide) (by decide) (i_Na8 l g q_1) mlKd_11 imNa_init iiNa_init icNa_init npNa_init rfl ⟨by decide, by decide⟩ hl.1 rfl (Nat.le_of_ble_eq_true rfl) dKd_init_11 ⟨by decide, by decide⟩ (fun u_2 H locs hp h => ?_)
  have h : Hx g [(o, .inr (6, [.null, .null, .null, .null, .null, .null, .null, .null, .int 0, .int 0, .int 0, .int 0, .int 0, .int 0, .int 0, .int 0, .int 0])), (q_1, .inr (7, [.ref u_2.1, .ref u_2.2, .int 0]))] A s.heap _ _ := h
  refine W.widen (k := 3) (n := 19) (by decide) (by decide) ?_
  refine opF C h laysKd tyKd tyKd_ok nmKd hnm rfl 0 rfl rfl 0 (by decide) flKd_14 rfl rfl (v := .ref q_1) rfl rfl (Nat.le_of_ble_eq_true rfl) (w' := [(o, .inr (6, [.ref q_1, .null, .null, .null, .null, .null, .null, .null, .int 0, .int 0, .int 0, .int 0, .int 0, .int 0, .int 0, .int 0, .int 0])), (q_1, .inr (7, [.ref u_2.1, .ref u_2.2, .int 0]))]) rfl dKd_init_14 (fun H locs h => ?_)
  refine lv_aload_n hx hb dKd_init_17 rfl (lv_at hl 0 rfl) ?_
  refine on C h laysNa tyNa tyNa_ok clKd_7 kiNa knNa rfl dfNa (by decide) (by decide) dKd_init_18 (fun q_3 H h => ?_)
  have h : Hx g [(o, .inr (6, [.ref q_1, .null, .null, .null, .null, .null, .null, .null, .int 0, .int 0, .int 0, .int 0, .int 0, .int 0, .int 0, .int 0, .int 0])), (q_1, .inr (7, [.ref u_2.1, .ref u_2.2, .int 0])), (q_3, .inr (7, [.null, .null, .int 0]))] A s.heap _ _ := h
  refine W.widen (k := 4) (n := 22) (by decide) (by decide) ?_
  refine lv_dup hx hb dKd_init_21 rfl ?_
  refine lv_iconst (v := 3) hx hb dKd_init_22 (by decide) ?_
  refine KV.callI (As := [.int 3]) (wc := [(q_3, .inr (7, [.null, .null, .int 0]))]) (wr := [(o, .inr (6, [.ref q_1, .null, .null, .null, .null, .null, .null, .null, .int 0, .int 0, .int 0, .int 0, .int 0, .int 0, .int 0, .int 0, .int 0])), (q_1, .inr (7, [.ref u_2.1, .ref u_2.2, .int 0]))]) C h [2] [0, 1] rfl rfl (by decide) (by decide) (by decide) (i_Na3 l g q_3) mlKd_11 imNa_init iiNa_init icNa_init npNa_init rfl ⟨by decide, by decide⟩ hl.1 rfl (Nat.le_of_ble_eq_true rfl) dKd_init_23 ⟨by decide, by decide⟩ (fun u_4 H locs hp h => ?_)
  have h : Hx g [(o, .inr (6, [.ref q_1, .null, .null, .null, .null, .null, .null, .null, .int 0, .int 0, .int 0, .int 0, .int 0, .int 0, .int 0, .int 0, .int 0])), (q_1, .inr (7, [.ref u_2.1, .ref u_2.2, .int 0])), (q_3, .inr (7, [.ref u_4.1, .ref u_4.2, .int 0]))] A s.heap _ _ := h
  refine W.widen (k := 6) (n := 28) (by decide) (by decide) ?_
  refine opF C h laysKd tyKd tyKd_ok nmKd hnm rfl 0 rfl rfl 1 (by decide) flKd_20 rfl rfl (v := .ref q_3) rfl rfl (Nat.le_of_ble_eq_true rfl) (w' := [(o, .inr (6, [.ref q_1, .ref q_3, .null, .null, .null, .null, .null, .null, .int 0, .int 0, .int 0, .int 0, .int 0, .int 0, .int 0, .int 0, .int 0])), (q_1, .inr (7, [.ref u_2.1, .ref u_2.2, .int 0])), (q_3, .inr (7, [.ref u_4.1, .ref u_4.2, .int 0]))]) rfl dKd_init_26 (fun H locs h => ?_)
  refine lv_aload_n hx hb dKd_init_29 rfl (lv_at hl 0 rfl) ?_
  refine on C h laysNa tyNa tyNa_ok clKd_7 kiNa knNa rfl dfNa (by decide) (by decide) dKd_init_30 (fun q_5 H h => ?_)
  have h : Hx g [(o, .inr (6, [.ref q_1, .ref q_3, .null, .null, .null, .null, .null, .null, .int 0, .int 0, .int 0, .int 0, .int 0, .int 0, .int 0, .int 0, .int 0])), (q_1, .inr (7, [.ref u_2.1, .ref u_2.2, .int 0])), (q_3, .inr (7, [.ref u_4.1, .ref u_4.2, .int 0])), (q_5, .inr (7, [.null, .null, .int 0]))] A s.heap _ _ := h
  refine W.widen (k := 7) (n := 31) (by decide) (by decide) ?_
  refine lv_dup hx hb dKd_init_33 rfl ?_
  refine lv_bipush (v := 12) hx hb dKd_init_34 (by decide) ?_
  refine KV.callI (As := [.int 12]) (wc := [(q_5, .inr (7, [.null, .null, .int 0]))]) (wr := [(o, .inr (6, [.ref q_1, .ref q_3, .null, .null, .null, .null, .null, .null, .int 0, .int 0, .int 0, .int 0, .int 0, .int 0, .int 0, .int 0, .int 0])), (q_1, .inr (7, [.ref u_2.1, .ref u_2.2, .int 0])), (q_3, .inr (7, [.ref u_4.1, .ref u_4.2, .int 0]))]) C h [3] [0, 1, 2] rfl rfl (by decide) (by decide) (by decide) (i_Na12 l g q_5) mlKd_11 imNa_init iiNa_init icNa_init npNa_init rfl ⟨by decide, by decide⟩ hl.1 rfl (Nat.le_of_ble_eq_true rfl) dKd_init_36 ⟨by decide, by decide⟩ (fun u_6 H locs hp h => ?_)
  have h : Hx g [(o, .inr (6, [.ref q_1, .ref q_3, .null, .null, .null, .null, .null, .null, .int 0, .int 0, .int 0, .int 0, .int 0, .int 0, .int 0, .int 0, .int 0])), (q_1, .inr (7, [.ref u_2.1, .ref u_2.2, .int 0])), (q_3, .inr (7, [.ref u_4.1, .ref u_4.2, .int 0])), (q_5, .inr (7, [.ref u_6.1, .ref u_6.2, .int 0]))] A s.heap _ _ := h
  refine W.widen (k := 9) (n := 55) (by decide) (by decide) ?_
  refine opF C h laysKd tyKd tyKd_ok nmKd hnm rfl 0 rfl rfl 2 (by decide) flKd_23 rfl rfl (v := .ref q_5) rfl rfl (Nat.le_of_ble_eq_true rfl) (w' := [(o, .inr (6, [.ref q_1, .ref q_3, .ref q_5, .null, .null, .null, .null, .null, .int 0, .int 0, .int 0, .int 0, .int 0, .int 0, .int 0, .int 0, .int 0])), (q_1, .inr (7, [.ref u_2.1, .ref u_2.2, .int 0])), (q_3, .inr (7, [.ref u_4.1, .ref u_4.2, .int 0])), (q_5, .inr (7, [.ref u_6.1, .ref u_6.2, .int 0]))]) rfl dKd_init_39 (fun H locs h => ?_)
  refine lv_aload_n hx hb dKd_init_42 rfl (lv_at hl 0 rfl) ?_
  refine on C h laysNa tyNa tyNa_ok clKd_7 kiNa knNa rfl dfNa (by decide) (by decide) dKd_init_43 (fun q_7 H h => ?_)
  have h : Hx g [(o, .inr (6, [.ref q_1, .ref q_3, .ref q_5, .null, .null, .null, .null, .null, .int 0, .int 0, .int 0, .int 0, .int 0, .int 0, .int 0, .int 0, .int 0])), (q_1, .inr (7, [.ref u_2.1, .ref u_2.2, .int 0])), (q_3, .inr (7, [.ref u_4.1, .ref u_4.2, .int 0])), (q_5, .inr (7, [.ref u_6.1, .ref u_6.2, .int 0])), (q_7, .inr (7, [.null, .null, .int 0]))] A s.heap _ _ := h
  refine W.widen (k := 10) (n := 58) (by decide) (by decide) ?_
  refine lv_dup hx hb dKd_init_46 rfl ?_
  refine lv_bipush (v := 10) hx hb dKd_init_47 (by decide) ?_
  refine KV.callI (As := [.int 10]) (wc := [(q_7, .inr (7, [.null, .null, .int 0]))]) (wr := [(o, .inr (6, [.ref q_1, .ref q_3, .ref q_5, .null, .null, .null, .null, .null, .int 0, .int 0, .int 0, .int 0, .int 0, .int 0, .int 0, .int 0, .int 0])), (q_1, .inr (7, [.ref u_2.1, .ref u_2.2, .int 0])), (q_3, .inr (7, [.ref u_4.1, .ref u_4.2, .int 0])), (q_5, .inr (7, [.ref u_6.1, .ref u_6.2, .int 0]))]) C h [4] [0, 1, 2, 3] rfl rfl (by decide) (by decide) (by decide) (i_Na10 l g q_7) mlKd_11 imNa_init iiNa_init icNa_init npNa_init rfl ⟨by decide, by decide⟩ hl.1 rfl (Nat.le_of_ble_eq_true rfl) dKd_init_49 ⟨by decide, by decide⟩ (fun u_8 H locs hp h => ?_)
  have h : Hx g [(o, .inr (6, [.ref q_1, .ref q_3, .ref q_5, .null, .null, .null, .null, .null, .int 0, .int 0, .int 0, .int 0, .int 0, .int 0, .int 0, .int 0, .int 0])), (q_1, .inr (7, [.ref u_2.1, .ref u_2.2, .int 0])), (q_3, .inr (7, [.ref u_4.1, .ref u_4.2, .int 0])), (q_5, .inr (7, [.ref u_6.1, .ref u_6.2, .int 0])), (q_7, .inr (7, [.ref u_8.1, .ref u_8.2, .int 0]))] A s.heap _ _ := h
  refine W.widen (k := 12) (n := 78) (by decide) (by decide) ?_
  refine opF C h laysKd tyKd tyKd_ok nmKd hnm rfl 0 rfl rfl 3 (by decide) flKd_26 rfl rfl (v := .ref q_7) rfl rfl (Nat.le_of_ble_eq_true rfl) (w' := [(o, .inr (6, [.ref q_1, .ref q_3, .ref q_5, .ref q_7, .null, .null, .null, .null, .int 0, .int 0, .int 0, .int 0, .int 0, .int 0, .int 0, .int 0, .int 0])), (q_1, .inr (7, [.ref u_2.1, .ref u_2.2, .int 0])), (q_3, .inr (7, [.ref u_4.1, .ref u_4.2, .int 0])), (q_5, .inr (7, [.ref u_6.1, .ref u_6.2, .int 0])), (q_7, .inr (7, [.ref u_8.1, .ref u_8.2, .int 0]))]) rfl dKd_init_52 (fun H locs h => ?_)
  refine lv_aload_n hx hb dKd_init_55 rfl (lv_at hl 0 rfl) ?_
  refine lv_bipush (v := 8) hx hb dKd_init_56 (by decide) ?_
  refine newA_i C h (N := 8) (by decide) (by decide) (by decide) (by decide) (by decide) dKd_init_58 (fun q_9 H h => ?_)
  have h : Hx g [(o, .inr (6, [.ref q_1, .ref q_3, .ref q_5, .ref q_7, .null, .null, .null, .null, .int 0, .int 0, .int 0, .int 0, .int 0, .int 0, .int 0, .int 0, .int 0])), (q_1, .inr (7, [.ref u_2.1, .ref u_2.2, .int 0])), (q_3, .inr (7, [.ref u_4.1, .ref u_4.2, .int 0])), (q_5, .inr (7, [.ref u_6.1, .ref u_6.2, .int 0])), (q_7, .inr (7, [.ref u_8.1, .ref u_8.2, .int 0])), (q_9, .inl (g.2.2 1, 8, .inl (fun _ => 0)))] A s.heap _ _ := h
  refine W.widen (k := 13) (n := 86) (by decide) (by decide) ?_
  refine opF C h laysKd tyKd tyKd_ok nmKd hnm rfl 0 rfl rfl 4 (by decide) flKd_29 rfl rfl (v := .ref q_9) rfl rfl (Nat.le_of_ble_eq_true rfl) (w' := [(o, .inr (6, [.ref q_1, .ref q_3, .ref q_5, .ref q_7, .ref q_9, .null, .null, .null, .int 0, .int 0, .int 0, .int 0, .int 0, .int 0, .int 0, .int 0, .int 0])), (q_1, .inr (7, [.ref u_2.1, .ref u_2.2, .int 0])), (q_3, .inr (7, [.ref u_4.1, .ref u_4.2, .int 0])), (q_5, .inr (7, [.ref u_6.1, .ref u_6.2, .int 0])), (q_7, .inr (7, [.ref u_8.1, .ref u_8.2, .int 0])), (q_9, .inl (g.2.2 1, 8, .inl (fun _ => 0)))]) rfl dKd_init_60 (fun H locs h => ?_)
  refine lv_aload_n hx hb dKd_init_63 rfl (lv_at hl 0 rfl) ?_
  refine lv_bipush (v := 8) hx hb dKd_init_64 (by decide) ?_
  refine newA_i C h (N := 8) (by decide) (by decide) (by decide) (by decide) (by decide) dKd_init_66 (fun q_10 H h => ?_)
  have h : Hx g [(o, .inr (6, [.ref q_1, .ref q_3, .ref q_5, .ref q_7, .ref q_9, .null, .null, .null, .int 0, .int 0, .int 0, .int 0, .int 0, .int 0, .int 0, .int 0, .int 0])), (q_1, .inr (7, [.ref u_2.1, .ref u_2.2, .int 0])), (q_3, .inr (7, [.ref u_4.1, .ref u_4.2, .int 0])), (q_5, .inr (7, [.ref u_6.1, .ref u_6.2, .int 0])), (q_7, .inr (7, [.ref u_8.1, .ref u_8.2, .int 0])), (q_9, .inl (g.2.2 1, 8, .inl (fun _ => 0))), (q_10, .inl (g.2.2 1, 8, .inl (fun _ => 0)))] A s.heap _ _ := h
  refine W.widen (k := 14) (n := 94) (by decide) (by decide) ?_
  refine opF C h laysKd tyKd tyKd_ok nmKd hnm rfl 0 rfl rfl 5 (by decide) flKd_33 rfl rfl (v := .ref q_10) rfl rfl (Nat.le_of_ble_eq_true rfl) (w' := [(o, .inr (6, [.ref q_1, .ref q_3, .ref q_5, .ref q_7, .ref q_9, .ref q_10, .null, .null, .int 0, .int 0, .int 0, .int 0, .int 0, .int 0, .int 0, .int 0, .int 0])), (q_1, .inr (7, [.ref u_2.1, .ref u_2.2, .int 0])), (q_3, .inr (7, [.ref u_4.1, .ref u_4.2, .int 0])), (q_5, .inr (7, [.ref u_6.1, .ref u_6.2, .int 0])), (q_7, .inr (7, [.ref u_8.1, .ref u_8.2, .int 0])), (q_9, .inl (g.2.2 1, 8, .inl (fun _ => 0))), (q_10, .inl (g.2.2 1, 8, .inl (fun _ => 0)))]) rfl dKd_init_68 (fun H locs h => ?_)
  refine lv_aload_n hx hb dKd_init_71 rfl (lv_at hl 0 rfl) ?_
  refine lv_bipush (v := 8) hx hb dKd_init_72 (by decide) ?_
  refine newA_i C h (N := 8) (by decide) (by decide) (by decide) (by decide) (by decide) dKd_init_74 (fun q_11 H h => ?_)
  have h : Hx g [(o, .inr (6, [.ref q_1, .ref q_3, .ref q_5, .ref q_7, .ref q_9, .ref q_10, .null, .null, .int 0, .int 0, .int 0, .int 0, .int 0, .int 0, .int 0, .int 0, .int 0])), (q_1, .inr (7, [.ref u_2.1, .ref u_2.2, .int 0])), (q_3, .inr (7, [.ref u_4.1, .ref u_4.2, .int 0])), (q_5, .inr (7, [.ref u_6.1, .ref u_6.2, .int 0])), (q_7, .inr (7, [.ref u_8.1, .ref u_8.2, .int 0])), (q_9, .inl (g.2.2 1, 8, .inl (fun _ => 0))), (q_10, .inl (g.2.2 1, 8, .inl (fun _ => 0))), (q_11, .inl (g.2.2 1, 8, .inl (fun _ => 0)))] A s.heap _ _ := h
  refine W.widen (k := 15) (n := 102) (by decide) (by decide) ?_
  refine opF C h laysKd tyKd tyKd_ok nmKd hnm rfl 0 rfl rfl 6 (by decide) flKd_36 rfl rfl (v := .ref q_11) rfl rfl (Nat.le_of_ble_eq_true rfl) (w' := [(o, .inr (6, [.ref q_1, .ref q_3, .ref q_5, .ref q_7, .ref q_9, .ref q_10, .ref q_11, .null, .int 0, .int 0, .int 0, .int 0, .int 0, .int 0, .int 0, .int 0, .int 0])), (q_1, .inr (7, [.ref u_2.1, .ref u_2.2, .int 0])), (q_3, .inr (7, [.ref u_4.1, .ref u_4.2, .int 0])), (q_5, .inr (7, [.ref u_6.1, .ref u_6.2, .int 0])), (q_7, .inr (7, [.ref u_8.1, .ref u_8.2, .int 0])), (q_9, .inl (g.2.2 1, 8, .inl (fun _ => 0))), (q_10, .inl (g.2.2 1, 8, .inl (fun _ => 0))), (q_11, .inl (g.2.2 1, 8, .inl (fun _ => 0)))]) rfl dKd_init_76 (fun H locs h => ?_)
  refine lv_aload_n hx hb dKd_init_79 rfl (lv_at hl 0 rfl) ?_
  refine lv_bipush (v := 10) hx hb dKd_init_80 (by decide) ?_
  refine newA_i C h (N := 10) (by decide) (by decide) (by decide) (by decide) (by decide) dKd_init_82 (fun q_12 H h => ?_)
  have h : Hx g [(o, .inr (6, [.ref q_1, .ref q_3, .ref q_5, .ref q_7, .ref q_9, .ref q_10, .ref q_11, .null, .int 0, .int 0, .int 0, .int 0, .int 0, .int 0, .int 0, .int 0, .int 0])), (q_1, .inr (7, [.ref u_2.1, .ref u_2.2, .int 0])), (q_3, .inr (7, [.ref u_4.1, .ref u_4.2, .int 0])), (q_5, .inr (7, [.ref u_6.1, .ref u_6.2, .int 0])), (q_7, .inr (7, [.ref u_8.1, .ref u_8.2, .int 0])), (q_9, .inl (g.2.2 1, 8, .inl (fun _ => 0))), (q_10, .inl (g.2.2 1, 8, .inl (fun _ => 0))), (q_11, .inl (g.2.2 1, 8, .inl (fun _ => 0))), (q_12, .inl (g.2.2 1, 10, .inl (fun _ => 0)))] A s.heap _ _ := h
  refine W.widen (k := 16) (n := 112) (by decide) (by decide) ?_
  refine opF C h laysKd tyKd tyKd_ok nmKd hnm rfl 0 rfl rfl 7 (by decide) flKd_39 rfl rfl (v := .ref q_12) rfl rfl (Nat.le_of_ble_eq_true rfl) (w' := [(o, .inr (6, [.ref q_1, .ref q_3, .ref q_5, .ref q_7, .ref q_9, .ref q_10, .ref q_11, .ref q_12, .int 0, .int 0, .int 0, .int 0, .int 0, .int 0, .int 0, .int 0, .int 0])), (q_1, .inr (7, [.ref u_2.1, .ref u_2.2, .int 0])), (q_3, .inr (7, [.ref u_4.1, .ref u_4.2, .int 0])), (q_5, .inr (7, [.ref u_6.1, .ref u_6.2, .int 0])), (q_7, .inr (7, [.ref u_8.1, .ref u_8.2, .int 0])), (q_9, .inl (g.2.2 1, 8, .inl (fun _ => 0))), (q_10, .inl (g.2.2 1, 8, .inl (fun _ => 0))), (q_11, .inl (g.2.2 1, 8, .inl (fun _ => 0))), (q_12, .inl (g.2.2 1, 10, .inl (fun _ => 0)))]) rfl dKd_init_84 (fun H locs h => ?_)
  have h : Hx g [(o, .inr (6, [.ref q_1, .ref q_3, .ref q_5, .ref q_7, .ref q_9, .ref q_10, .ref q_11, .ref q_12, .int 0, .int 0, .int 0, .int 0, .int 0, .int 0, .int 0, .int 0, .int 0]))] A s.heap _ _ := h.cut [0] (by decide) rfl
  exact KV.ret C hr hlk (fun i => ([q_1, q_3, q_5, q_7, q_9, q_10, q_11, q_12] : List Nat).getD i 0) h trivial (by decide) (by decide) dKd_init_87

set_option maxHeartbeats 4000000 in
set_option maxRecDepth 100000 in
/-- Judge -/
theorem i_Ju {ak sv : Nat → Nat} (l : Launch) (g : GG) (o tk : Nat) : KVx ak sv l yJu_init cJu_init 2 (rD 3 20 398) g [(o, .inr (4, [.null, .null, .null, .int 0, .null, .null, .int 0, .null, .int 0, .int 0]))] (fun u : Unit => []) [.ref o, .ref tk] (fun u : Unit => True) := by
  refine KVx.of (by decide) (Nat.le_of_ble_eq_true rfl) ?_
  intro p e s m below meth c A ls C hr hlk hnm h hE hl
  have hx := C.1.1
  have hb := C.1.2.1
  have hl : lv_has ls 2 [(0, .ref o), (1, .ref tk)] := hl
  refine lv_aload_n hx hb dJu_init_0 rfl (lv_at hl 0 rfl) ?_
  refine W.objInit hx hb C.1.2.2.2.1 (C.1.2.2.2.2 _ koJu) (C.1.2.2.2.2 _ k_objI) (C.1.2.2.2.2 _ k_objC) rfl (by rw [C.1.2.2.1]; exact hl.1) rfl dJu_init_1 (Nat.le_of_ble_eq_true rfl) (Nat.le_of_ble_eq_true rfl) ?_
  refine W.eq (g2 := F0 m 4 ls []) rfl ?_
  refine lv_aload_n hx hb dJu_init_4 rfl (lv_at hl 0 rfl) ?_
  refine on C h laysKd tyKd tyKd_ok clJu_9 kiKd knKd rfl dfKd (by decide) (by decide) dJu_init_5 (fun q_1 H h => ?_)
  have h : Hx g [(o, .inr (4, [.null, .null, .null, .int 0, .null, .null, .int 0, .null, .int 0, .int 0])), (q_1, .inr (6, [.null, .null, .null, .null, .null, .null, .null, .null, .int 0, .int 0, .int 0, .int 0, .int 0, .int 0, .int 0, .int 0, .int 0]))] A s.heap _ _ := h
  refine W.widen (k := 1) (n := 17) (by decide) (by decide) ?_
  refine lv_dup hx hb dJu_init_8 rfl ?_
  refine KV.callIN (As := []) (wc := [(q_1, .inr (6, [.null, .null, .null, .null, .null, .null, .null, .null, .int 0, .int 0, .int 0, .int 0, .int 0, .int 0, .int 0, .int 0, .int 0]))]) (wr := [(o, .inr (4, [.null, .null, .null, .int 0, .null, .null, .int 0, .null, .int 0, .int 0]))]) C h [1] [0] rfl rfl (by decide) (by decide) (by decide) (i_Kd l g q_1) (hE.2.2.2.2.1 _ (by decide)) imKd_init iiKd_init icKd_init npKd_init rfl ⟨by decide, by decide⟩ hl.1 rfl (Nat.le_of_ble_eq_true rfl) dJu_init_9 ⟨by decide, by decide⟩ (fun u_2 H locs hp h => ?_)
  have h : Hx g [(o, .inr (4, [.null, .null, .null, .int 0, .null, .null, .int 0, .null, .int 0, .int 0])), (q_1, .inr (6, [.ref (u_2 0), .ref (u_2 1), .ref (u_2 2), .ref (u_2 3), .ref (u_2 4), .ref (u_2 5), .ref (u_2 6), .ref (u_2 7), .int 0, .int 0, .int 0, .int 0, .int 0, .int 0, .int 0, .int 0, .int 0]))] A s.heap _ _ := h
  refine W.widen (k := 17) (n := 129) (by decide) (by decide) ?_
  refine op C h laysJu tyJu tyJu_ok nmJu 0 rfl rfl 2 (by decide) flJu_12 rfl rfl (v := .ref q_1) rfl rfl (Nat.le_of_ble_eq_true rfl) (w' := [(o, .inr (4, [.null, .null, .ref q_1, .int 0, .null, .null, .int 0, .null, .int 0, .int 0])), (q_1, .inr (6, [.ref (u_2 0), .ref (u_2 1), .ref (u_2 2), .ref (u_2 3), .ref (u_2 4), .ref (u_2 5), .ref (u_2 6), .ref (u_2 7), .int 0, .int 0, .int 0, .int 0, .int 0, .int 0, .int 0, .int 0, .int 0]))]) rfl dJu_init_12 (fun H locs h => ?_)
  refine lv_aload_n hx hb dJu_init_15 rfl (lv_at hl 0 rfl) ?_
  refine lv_sipush (v := 128) hx hb dJu_init_16 (by decide) ?_
  refine newA_i C h (N := 128) (by decide) (by decide) (by decide) (by decide) (by decide) dJu_init_19 (fun q_3 H h => ?_)
  have h : Hx g [(o, .inr (4, [.null, .null, .ref q_1, .int 0, .null, .null, .int 0, .null, .int 0, .int 0])), (q_1, .inr (6, [.ref (u_2 0), .ref (u_2 1), .ref (u_2 2), .ref (u_2 3), .ref (u_2 4), .ref (u_2 5), .ref (u_2 6), .ref (u_2 7), .int 0, .int 0, .int 0, .int 0, .int 0, .int 0, .int 0, .int 0, .int 0])), (q_3, .inl (g.2.2 1, 128, .inl (fun _ => 0)))] A s.heap _ _ := h
  refine W.widen (k := 18) (n := 257) (by decide) (by decide) ?_
  refine opF C h laysJu tyJu tyJu_ok nmJu hnm rfl 0 rfl rfl 4 (by decide) flJu_18 rfl rfl (v := .ref q_3) rfl rfl (Nat.le_of_ble_eq_true rfl) (w' := [(o, .inr (4, [.null, .null, .ref q_1, .int 0, .ref q_3, .null, .int 0, .null, .int 0, .int 0])), (q_1, .inr (6, [.ref (u_2 0), .ref (u_2 1), .ref (u_2 2), .ref (u_2 3), .ref (u_2 4), .ref (u_2 5), .ref (u_2 6), .ref (u_2 7), .int 0, .int 0, .int 0, .int 0, .int 0, .int 0, .int 0, .int 0, .int 0])), (q_3, .inl (g.2.2 1, 128, .inl (fun _ => 0)))]) rfl dJu_init_21 (fun H locs h => ?_)
  refine lv_aload_n hx hb dJu_init_24 rfl (lv_at hl 0 rfl) ?_
  refine lv_sipush (v := 128) hx hb dJu_init_25 (by decide) ?_
  refine newA_i C h (N := 128) (by decide) (by decide) (by decide) (by decide) (by decide) dJu_init_28 (fun q_4 H h => ?_)
  have h : Hx g [(o, .inr (4, [.null, .null, .ref q_1, .int 0, .ref q_3, .null, .int 0, .null, .int 0, .int 0])), (q_1, .inr (6, [.ref (u_2 0), .ref (u_2 1), .ref (u_2 2), .ref (u_2 3), .ref (u_2 4), .ref (u_2 5), .ref (u_2 6), .ref (u_2 7), .int 0, .int 0, .int 0, .int 0, .int 0, .int 0, .int 0, .int 0, .int 0])), (q_3, .inl (g.2.2 1, 128, .inl (fun _ => 0))), (q_4, .inl (g.2.2 1, 128, .inl (fun _ => 0)))] A s.heap _ _ := h
  refine W.widen (k := 19) (n := 385) (by decide) (by decide) ?_
  refine opF C h laysJu tyJu tyJu_ok nmJu hnm rfl 0 rfl rfl 5 (by decide) flJu_22 rfl rfl (v := .ref q_4) rfl rfl (Nat.le_of_ble_eq_true rfl) (w' := [(o, .inr (4, [.null, .null, .ref q_1, .int 0, .ref q_3, .ref q_4, .int 0, .null, .int 0, .int 0])), (q_1, .inr (6, [.ref (u_2 0), .ref (u_2 1), .ref (u_2 2), .ref (u_2 3), .ref (u_2 4), .ref (u_2 5), .ref (u_2 6), .ref (u_2 7), .int 0, .int 0, .int 0, .int 0, .int 0, .int 0, .int 0, .int 0, .int 0])), (q_3, .inl (g.2.2 1, 128, .inl (fun _ => 0))), (q_4, .inl (g.2.2 1, 128, .inl (fun _ => 0)))]) rfl dJu_init_30 (fun H locs h => ?_)
  refine lv_aload_n hx hb dJu_init_33 rfl (lv_at hl 0 rfl) ?_
  refine lv_bipush (v := 13) hx hb dJu_init_34 (by decide) ?_
  refine newA_i C h (N := 13) (by decide) (by decide) (by decide) (by decide) (by decide) dJu_init_36 (fun q_5 H h => ?_)
  have h : Hx g [(o, .inr (4, [.null, .null, .ref q_1, .int 0, .ref q_3, .ref q_4, .int 0, .null, .int 0, .int 0])), (q_1, .inr (6, [.ref (u_2 0), .ref (u_2 1), .ref (u_2 2), .ref (u_2 3), .ref (u_2 4), .ref (u_2 5), .ref (u_2 6), .ref (u_2 7), .int 0, .int 0, .int 0, .int 0, .int 0, .int 0, .int 0, .int 0, .int 0])), (q_3, .inl (g.2.2 1, 128, .inl (fun _ => 0))), (q_4, .inl (g.2.2 1, 128, .inl (fun _ => 0))), (q_5, .inl (g.2.2 1, 13, .inl (fun _ => 0)))] A s.heap _ _ := h
  refine W.widen (k := 20) (n := 398) (by decide) (by decide) ?_
  refine opF C h laysJu tyJu tyJu_ok nmJu hnm rfl 0 rfl rfl 7 (by decide) flJu_27 rfl rfl (v := .ref q_5) rfl rfl (Nat.le_of_ble_eq_true rfl) (w' := [(o, .inr (4, [.null, .null, .ref q_1, .int 0, .ref q_3, .ref q_4, .int 0, .ref q_5, .int 0, .int 0])), (q_1, .inr (6, [.ref (u_2 0), .ref (u_2 1), .ref (u_2 2), .ref (u_2 3), .ref (u_2 4), .ref (u_2 5), .ref (u_2 6), .ref (u_2 7), .int 0, .int 0, .int 0, .int 0, .int 0, .int 0, .int 0, .int 0, .int 0])), (q_3, .inl (g.2.2 1, 128, .inl (fun _ => 0))), (q_4, .inl (g.2.2 1, 128, .inl (fun _ => 0))), (q_5, .inl (g.2.2 1, 13, .inl (fun _ => 0)))]) rfl dJu_init_38 (fun H locs h => ?_)
  refine lv_aload_n hx hb dJu_init_41 rfl (lv_at hl 0 rfl) ?_
  refine lv_aload_n hx hb dJu_init_42 rfl (lv_at hl 1 rfl) ?_
  refine opF C h laysJu tyJu tyJu_ok nmJu hnm rfl 0 rfl rfl 0 (by decide) flJu_30 rfl rfl (v := .ref tk) rfl rfl (Nat.le_of_ble_eq_true rfl) (w' := [(o, .inr (4, [.ref tk, .null, .ref q_1, .int 0, .ref q_3, .ref q_4, .int 0, .ref q_5, .int 0, .int 0])), (q_1, .inr (6, [.ref (u_2 0), .ref (u_2 1), .ref (u_2 2), .ref (u_2 3), .ref (u_2 4), .ref (u_2 5), .ref (u_2 6), .ref (u_2 7), .int 0, .int 0, .int 0, .int 0, .int 0, .int 0, .int 0, .int 0, .int 0])), (q_3, .inl (g.2.2 1, 128, .inl (fun _ => 0))), (q_4, .inl (g.2.2 1, 128, .inl (fun _ => 0))), (q_5, .inl (g.2.2 1, 13, .inl (fun _ => 0)))]) rfl dJu_init_43 (fun H locs h => ?_)
  have h : Hx g [] A s.heap _ _ := h.cut [] (by decide) rfl
  exact KV.ret C hr hlk () h trivial (by decide) (by decide) dJu_init_46

set_option maxHeartbeats 4000000 in
set_option maxRecDepth 100000 in
/-- Parser -/
theorem i_Pa {ak sv : Nat → Nat} (l : Launch) (g : GG) (o tk : Nat) : KVx ak sv l yPa_init cPa_init 2 (rD 3 17 129) g [(o, .inr (3, [.null, .null, .null, .int 0, .int 0, .int 0]))] (fun u : Nat => [(o, .inr (3, [.ref tk, .null, .ref u, .int 0, .int 0, .int 0]))]) [.ref o, .ref tk] (fun u : Nat => True) := by
  refine KVx.of (by decide) (Nat.le_of_ble_eq_true rfl) ?_
  intro p e s m below meth c A ls C hr hlk hnm h hE hl
  have hx := C.1.1
  have hb := C.1.2.1
  have hl : lv_has ls 2 [(0, .ref o), (1, .ref tk)] := hl
  refine lv_aload_n hx hb dPa_init_0 rfl (lv_at hl 0 rfl) ?_
  refine W.objInit hx hb C.1.2.2.2.1 (C.1.2.2.2.2 _ koPa) (C.1.2.2.2.2 _ k_objI) (C.1.2.2.2.2 _ k_objC) rfl (by rw [C.1.2.2.1]; exact hl.1) rfl dPa_init_1 (Nat.le_of_ble_eq_true rfl) (Nat.le_of_ble_eq_true rfl) ?_
  refine W.eq (g2 := F0 m 4 ls []) rfl ?_
  refine lv_aload_n hx hb dPa_init_4 rfl (lv_at hl 0 rfl) ?_
  refine on C h laysKd tyKd tyKd_ok clPa_1 kiKd knKd rfl dfKd (by decide) (by decide) dPa_init_5 (fun q_1 H h => ?_)
  have h : Hx g [(o, .inr (3, [.null, .null, .null, .int 0, .int 0, .int 0])), (q_1, .inr (6, [.null, .null, .null, .null, .null, .null, .null, .null, .int 0, .int 0, .int 0, .int 0, .int 0, .int 0, .int 0, .int 0, .int 0]))] A s.heap _ _ := h
  refine W.widen (k := 1) (n := 17) (by decide) (by decide) ?_
  refine lv_dup hx hb dPa_init_8 rfl ?_
  refine KV.callIN (As := []) (wc := [(q_1, .inr (6, [.null, .null, .null, .null, .null, .null, .null, .null, .int 0, .int 0, .int 0, .int 0, .int 0, .int 0, .int 0, .int 0, .int 0]))]) (wr := [(o, .inr (3, [.null, .null, .null, .int 0, .int 0, .int 0]))]) C h [1] [0] rfl rfl (by decide) (by decide) (by decide) (i_Kd l g q_1) (hE.2.2.2.2.1 _ (by decide)) imKd_init iiKd_init icKd_init npKd_init rfl ⟨by decide, by decide⟩ hl.1 rfl (Nat.le_of_ble_eq_true rfl) dPa_init_9 ⟨by decide, by decide⟩ (fun u_2 H locs hp h => ?_)
  have h : Hx g [(o, .inr (3, [.null, .null, .null, .int 0, .int 0, .int 0])), (q_1, .inr (6, [.ref (u_2 0), .ref (u_2 1), .ref (u_2 2), .ref (u_2 3), .ref (u_2 4), .ref (u_2 5), .ref (u_2 6), .ref (u_2 7), .int 0, .int 0, .int 0, .int 0, .int 0, .int 0, .int 0, .int 0, .int 0]))] A s.heap _ _ := h
  refine W.widen (k := 17) (n := 129) (by decide) (by decide) ?_
  refine op C h laysPa tyPa tyPa_ok nmPa 0 rfl rfl 2 (by decide) flPa_14 rfl rfl (v := .ref q_1) rfl rfl (Nat.le_of_ble_eq_true rfl) (w' := [(o, .inr (3, [.null, .null, .ref q_1, .int 0, .int 0, .int 0])), (q_1, .inr (6, [.ref (u_2 0), .ref (u_2 1), .ref (u_2 2), .ref (u_2 3), .ref (u_2 4), .ref (u_2 5), .ref (u_2 6), .ref (u_2 7), .int 0, .int 0, .int 0, .int 0, .int 0, .int 0, .int 0, .int 0, .int 0]))]) rfl dPa_init_12 (fun H locs h => ?_)
  refine lv_aload_n hx hb dPa_init_15 rfl (lv_at hl 0 rfl) ?_
  refine lv_aload_n hx hb dPa_init_16 rfl (lv_at hl 1 rfl) ?_
  refine opF C h laysPa tyPa tyPa_ok nmPa hnm rfl 0 rfl rfl 0 (by decide) flPa_18 rfl rfl (v := .ref tk) rfl rfl (Nat.le_of_ble_eq_true rfl) (w' := [(o, .inr (3, [.ref tk, .null, .ref q_1, .int 0, .int 0, .int 0])), (q_1, .inr (6, [.ref (u_2 0), .ref (u_2 1), .ref (u_2 2), .ref (u_2 3), .ref (u_2 4), .ref (u_2 5), .ref (u_2 6), .ref (u_2 7), .int 0, .int 0, .int 0, .int 0, .int 0, .int 0, .int 0, .int 0, .int 0]))]) rfl dPa_init_17 (fun H locs h => ?_)
  have h : Hx g [(o, .inr (3, [.ref tk, .null, .ref q_1, .int 0, .int 0, .int 0]))] A s.heap _ _ := h.cut [0] (by decide) rfl
  exact KV.ret C hr hlk q_1 h trivial (by decide) (by decide) dPa_init_20

set_option maxHeartbeats 4000000 in
set_option maxRecDepth 100000 in
/-- Tokens -/
theorem i_Tk {ak sv : Nat → Nat} (l : Launch) (g : GG) (o : Nat) : KVx ak sv l yTk_init cTk_init 1 (rD 5 5 3654) g [(o, .inr (2, [.null, .null, .null, .int 0, .int 0, .int 0, .int 0, .int 0, .int 0, .null, .null, .int 0]))] (fun u : Nat → Nat => [(o, .inr (2, [.ref (u 0), .ref (u 1), .ref (u 2), .int 0, .int 0, .int 0, .int 0, .int 0, .int 0, .ref (u 3), .ref (u 4), .int 0])), (u 0, .inl (g.2.2 1, 1202, .inl (fun _ => 0))), (u 1, .inl (g.2.2 1, 1202, .inl (fun _ => 0)))]) [.ref o] (fun u : Nat → Nat => True) := by
  refine KVx.of (by decide) (Nat.le_of_ble_eq_true rfl) ?_
  intro p e s m below meth c A ls C hr hlk hnm h hE hl
  have hx := C.1.1
  have hb := C.1.2.1
  have hl : lv_has ls 1 [(0, .ref o)] := hl
  refine lv_aload_n hx hb dTk_init_0 rfl (lv_at hl 0 rfl) ?_
  refine W.objInit hx hb C.1.2.2.2.1 (C.1.2.2.2.2 _ koTk) (C.1.2.2.2.2 _ k_objI) (C.1.2.2.2.2 _ k_objC) rfl (by rw [C.1.2.2.1]; exact hl.1) rfl dTk_init_1 (Nat.le_of_ble_eq_true rfl) (Nat.le_of_ble_eq_true rfl) ?_
  refine W.eq (g2 := F0 m 4 ls []) rfl ?_
  refine lv_aload_n hx hb dTk_init_4 rfl (lv_at hl 0 rfl) ?_
  refine lv_sipush (v := 1202) hx hb dTk_init_5 (by decide) ?_
  refine newA_i C h (N := 1202) (by decide) (by decide) (by decide) (by decide) (by decide) dTk_init_8 (fun q_1 H h => ?_)
  have h : Hx g [(o, .inr (2, [.null, .null, .null, .int 0, .int 0, .int 0, .int 0, .int 0, .int 0, .null, .null, .int 0])), (q_1, .inl (g.2.2 1, 1202, .inl (fun _ => 0)))] A s.heap _ _ := h
  refine W.widen (k := 1) (n := 1202) (by decide) (by decide) ?_
  refine opF C h laysTk tyTk tyTk_ok nmTk hnm rfl 0 rfl rfl 0 (by decide) flTk_9 rfl rfl (v := .ref q_1) rfl rfl (Nat.le_of_ble_eq_true rfl) (w' := [(o, .inr (2, [.ref q_1, .null, .null, .int 0, .int 0, .int 0, .int 0, .int 0, .int 0, .null, .null, .int 0])), (q_1, .inl (g.2.2 1, 1202, .inl (fun _ => 0)))]) rfl dTk_init_10 (fun H locs h => ?_)
  refine lv_aload_n hx hb dTk_init_13 rfl (lv_at hl 0 rfl) ?_
  refine lv_sipush (v := 1202) hx hb dTk_init_14 (by decide) ?_
  refine newA_i C h (N := 1202) (by decide) (by decide) (by decide) (by decide) (by decide) dTk_init_17 (fun q_2 H h => ?_)
  have h : Hx g [(o, .inr (2, [.ref q_1, .null, .null, .int 0, .int 0, .int 0, .int 0, .int 0, .int 0, .null, .null, .int 0])), (q_1, .inl (g.2.2 1, 1202, .inl (fun _ => 0))), (q_2, .inl (g.2.2 1, 1202, .inl (fun _ => 0)))] A s.heap _ _ := h
  refine W.widen (k := 2) (n := 2404) (by decide) (by decide) ?_
  refine opF C h laysTk tyTk tyTk_ok nmTk hnm rfl 0 rfl rfl 1 (by decide) flTk_13 rfl rfl (v := .ref q_2) rfl rfl (Nat.le_of_ble_eq_true rfl) (w' := [(o, .inr (2, [.ref q_1, .ref q_2, .null, .int 0, .int 0, .int 0, .int 0, .int 0, .int 0, .null, .null, .int 0])), (q_1, .inl (g.2.2 1, 1202, .inl (fun _ => 0))), (q_2, .inl (g.2.2 1, 1202, .inl (fun _ => 0)))]) rfl dTk_init_19 (fun H locs h => ?_)
  refine lv_aload_n hx hb dTk_init_22 rfl (lv_at hl 0 rfl) ?_
  refine lv_sipush (v := 1202) hx hb dTk_init_23 (by decide) ?_
  refine newA_j C h (N := 1202) (by decide) (by decide) (by decide) (by decide) (by decide) dTk_init_26 (fun q_3 H h => ?_)
  have h : Hx g [(o, .inr (2, [.ref q_1, .ref q_2, .null, .int 0, .int 0, .int 0, .int 0, .int 0, .int 0, .null, .null, .int 0])), (q_1, .inl (g.2.2 1, 1202, .inl (fun _ => 0))), (q_2, .inl (g.2.2 1, 1202, .inl (fun _ => 0))), (q_3, .inl (g.2.2 2, 1202, .inr (.inl (fun _ => 0))))] A s.heap _ _ := h
  refine W.widen (k := 3) (n := 3606) (by decide) (by decide) ?_
  refine opF C h laysTk tyTk tyTk_ok nmTk hnm rfl 0 rfl rfl 2 (by decide) flTk_16 rfl rfl (v := .ref q_3) rfl rfl (Nat.le_of_ble_eq_true rfl) (w' := [(o, .inr (2, [.ref q_1, .ref q_2, .ref q_3, .int 0, .int 0, .int 0, .int 0, .int 0, .int 0, .null, .null, .int 0])), (q_1, .inl (g.2.2 1, 1202, .inl (fun _ => 0))), (q_2, .inl (g.2.2 1, 1202, .inl (fun _ => 0))), (q_3, .inl (g.2.2 2, 1202, .inr (.inl (fun _ => 0))))]) rfl dTk_init_28 (fun H locs h => ?_)
  refine lv_aload_n hx hb dTk_init_31 rfl (lv_at hl 0 rfl) ?_
  refine lv_bipush (v := 48) hx hb dTk_init_32 (by decide) ?_
  refine newA_j C h (N := 48) (by decide) (by decide) (by decide) (by decide) (by decide) dTk_init_34 (fun q_4 H h => ?_)
  have h : Hx g [(o, .inr (2, [.ref q_1, .ref q_2, .ref q_3, .int 0, .int 0, .int 0, .int 0, .int 0, .int 0, .null, .null, .int 0])), (q_1, .inl (g.2.2 1, 1202, .inl (fun _ => 0))), (q_2, .inl (g.2.2 1, 1202, .inl (fun _ => 0))), (q_3, .inl (g.2.2 2, 1202, .inr (.inl (fun _ => 0)))), (q_4, .inl (g.2.2 2, 48, .inr (.inl (fun _ => 0))))] A s.heap _ _ := h
  refine W.widen (k := 4) (n := 3654) (by decide) (by decide) ?_
  refine opF C h laysTk tyTk tyTk_ok nmTk hnm rfl 0 rfl rfl 9 (by decide) flTk_20 rfl rfl (v := .ref q_4) rfl rfl (Nat.le_of_ble_eq_true rfl) (w' := [(o, .inr (2, [.ref q_1, .ref q_2, .ref q_3, .int 0, .int 0, .int 0, .int 0, .int 0, .int 0, .ref q_4, .null, .int 0])), (q_1, .inl (g.2.2 1, 1202, .inl (fun _ => 0))), (q_2, .inl (g.2.2 1, 1202, .inl (fun _ => 0))), (q_3, .inl (g.2.2 2, 1202, .inr (.inl (fun _ => 0)))), (q_4, .inl (g.2.2 2, 48, .inr (.inl (fun _ => 0))))]) rfl dTk_init_36 (fun H locs h => ?_)
  refine lv_aload_n hx hb dTk_init_39 rfl (lv_at hl 0 rfl) ?_
  refine lv_iconst (v := 0) hx hb dTk_init_40 (by decide) ?_
  refine newA_b C h (N := 0) (by decide) (by decide) (by decide) (by decide) (by decide) dTk_init_41 (fun q_5 H h => ?_)
  have h : Hx g [(o, .inr (2, [.ref q_1, .ref q_2, .ref q_3, .int 0, .int 0, .int 0, .int 0, .int 0, .int 0, .ref q_4, .null, .int 0])), (q_1, .inl (g.2.2 1, 1202, .inl (fun _ => 0))), (q_2, .inl (g.2.2 1, 1202, .inl (fun _ => 0))), (q_3, .inl (g.2.2 2, 1202, .inr (.inl (fun _ => 0)))), (q_4, .inl (g.2.2 2, 48, .inr (.inl (fun _ => 0)))), (q_5, .inl (g.2.2 0, 0, .inl (fun _ => 0)))] A s.heap _ _ := h
  refine W.widen (k := 5) (n := 3654) (by decide) (by decide) ?_
  refine op C h laysTk tyTk tyTk_ok nmTk 0 rfl rfl 10 (by decide) flTk_23 rfl rfl (v := .ref q_5) rfl rfl (Nat.le_of_ble_eq_true rfl) (w' := [(o, .inr (2, [.ref q_1, .ref q_2, .ref q_3, .int 0, .int 0, .int 0, .int 0, .int 0, .int 0, .ref q_4, .ref q_5, .int 0])), (q_1, .inl (g.2.2 1, 1202, .inl (fun _ => 0))), (q_2, .inl (g.2.2 1, 1202, .inl (fun _ => 0))), (q_3, .inl (g.2.2 2, 1202, .inr (.inl (fun _ => 0)))), (q_4, .inl (g.2.2 2, 48, .inr (.inl (fun _ => 0)))), (q_5, .inl (g.2.2 0, 0, .inl (fun _ => 0)))]) rfl dTk_init_43 (fun H locs h => ?_)
  refine lv_aload_n hx hb dTk_init_46 rfl (lv_at hl 0 rfl) ?_
  refine va_ldcS hx hb C.1.2.2.2.1 (hE.2.2.2.1 0 (by decide)) dTk_init_47 ?_
  refine lv_aload_n hx hb dTk_init_49 rfl (lv_at hl 0 rfl) ?_
  refine va_ldcS hx hb C.1.2.2.2.1 (hE.2.2.2.1 1 (by decide)) dTk_init_50 ?_
  refine lv_aload_n hx hb dTk_init_52 rfl (lv_at hl 0 rfl) ?_
  refine va_ldcS hx hb C.1.2.2.2.1 (hE.2.2.2.1 2 (by decide)) dTk_init_53 ?_
  refine lv_aload_n hx hb dTk_init_55 rfl (lv_at hl 0 rfl) ?_
  refine va_ldcS hx hb C.1.2.2.2.1 (hE.2.2.2.1 3 (by decide)) dTk_init_56 ?_
  refine lv_iconst (v := 0) hx hb dTk_init_58 (by decide) ?_
  refine KIx.callVs (As := [.ref (ak 3), .int 0]) (q0 := 0) (ci := 2) (wc := [(o, .inr (2, [.ref q_1, .ref q_2, .ref q_3, .int 0, .int 0, .int 0, .int 0, .int 0, .int 0, .ref q_4, .ref q_5, .int 0])), (q_4, .inl (g.2.2 2, 48, .inr (.inl (fun _ => 0))))]) (wr := [(q_1, .inl (g.2.2 1, 1202, .inl (fun _ => 0))), (q_2, .inl (g.2.2 1, 1202, .inl (fun _ => 0))), (q_3, .inl (g.2.2 2, 1202, .inr (.inl (fun _ => 0)))), (q_5, .inl (g.2.2 0, 0, .inl (fun _ => 0)))]) C h hE [0, 4] [1, 2, 3, 5] rfl rfl (by decide) (by decide) (by decide) (t_learn l g o q_1 q_2 q_3 q_4 q_5 3 (by decide) (fun _ => 0) 0 ⟨0, rfl, by decide⟩) vTk_init_35 ⟨by decide, by decide⟩ rfl rfl hl.1 rfl (Nat.le_of_ble_eq_true rfl) dTk_init_59 ⟨by decide, by decide⟩ (fun r_7 u_6 H locs hp h => ?_)
  have h : Hx g [(q_1, .inl (g.2.2 1, 1202, .inl (fun _ => 0))), (q_2, .inl (g.2.2 1, 1202, .inl (fun _ => 0))), (q_3, .inl (g.2.2 2, 1202, .inr (.inl (fun _ => 0)))), (q_5, .inl (g.2.2 0, 0, .inl (fun _ => 0))), (o, .inr (2, [.ref q_1, .ref q_2, .ref q_3, .int 0, .int 0, .int 0, .int 0, .int 0, .int 0, .ref q_4, .ref q_5, .int 0])), (q_4, .inl (g.2.2 2, 48, .inr (.inl u_6)))] A s.heap _ _ := h
  have hr_7 := hp
  refine KIx.callVs (As := [.ref (ak 2), .int r_7]) (q0 := 4) (ci := 2) (wc := [(o, .inr (2, [.ref q_1, .ref q_2, .ref q_3, .int 0, .int 0, .int 0, .int 0, .int 0, .int 0, .ref q_4, .ref q_5, .int 0])), (q_4, .inl (g.2.2 2, 48, .inr (.inl u_6)))]) (wr := [(q_1, .inl (g.2.2 1, 1202, .inl (fun _ => 0))), (q_2, .inl (g.2.2 1, 1202, .inl (fun _ => 0))), (q_3, .inl (g.2.2 2, 1202, .inr (.inl (fun _ => 0)))), (q_5, .inl (g.2.2 0, 0, .inl (fun _ => 0)))]) C h hE [4, 5] [0, 1, 2, 3] rfl rfl (by decide) (by decide) (by decide) (t_learn l g o q_1 q_2 q_3 q_4 q_5 2 (by decide) u_6 r_7 hr_7) vTk_init_35 ⟨by decide, by decide⟩ rfl rfl hl.1 rfl (Nat.le_of_ble_eq_true rfl) dTk_init_62 ⟨by decide, by decide⟩ (fun r_9 u_8 H locs hp h => ?_)
  have h : Hx g [(q_1, .inl (g.2.2 1, 1202, .inl (fun _ => 0))), (q_2, .inl (g.2.2 1, 1202, .inl (fun _ => 0))), (q_3, .inl (g.2.2 2, 1202, .inr (.inl (fun _ => 0)))), (q_5, .inl (g.2.2 0, 0, .inl (fun _ => 0))), (o, .inr (2, [.ref q_1, .ref q_2, .ref q_3, .int 0, .int 0, .int 0, .int 0, .int 0, .int 0, .ref q_4, .ref q_5, .int 0])), (q_4, .inl (g.2.2 2, 48, .inr (.inl u_8)))] A s.heap _ _ := h
  have hr_9 := hp
  refine KIx.callVs (As := [.ref (ak 1), .int r_9]) (q0 := 4) (ci := 2) (wc := [(o, .inr (2, [.ref q_1, .ref q_2, .ref q_3, .int 0, .int 0, .int 0, .int 0, .int 0, .int 0, .ref q_4, .ref q_5, .int 0])), (q_4, .inl (g.2.2 2, 48, .inr (.inl u_8)))]) (wr := [(q_1, .inl (g.2.2 1, 1202, .inl (fun _ => 0))), (q_2, .inl (g.2.2 1, 1202, .inl (fun _ => 0))), (q_3, .inl (g.2.2 2, 1202, .inr (.inl (fun _ => 0)))), (q_5, .inl (g.2.2 0, 0, .inl (fun _ => 0)))]) C h hE [4, 5] [0, 1, 2, 3] rfl rfl (by decide) (by decide) (by decide) (t_learn l g o q_1 q_2 q_3 q_4 q_5 1 (by decide) u_8 r_9 hr_9) vTk_init_35 ⟨by decide, by decide⟩ rfl rfl hl.1 rfl (Nat.le_of_ble_eq_true rfl) dTk_init_65 ⟨by decide, by decide⟩ (fun r_11 u_10 H locs hp h => ?_)
  have h : Hx g [(q_1, .inl (g.2.2 1, 1202, .inl (fun _ => 0))), (q_2, .inl (g.2.2 1, 1202, .inl (fun _ => 0))), (q_3, .inl (g.2.2 2, 1202, .inr (.inl (fun _ => 0)))), (q_5, .inl (g.2.2 0, 0, .inl (fun _ => 0))), (o, .inr (2, [.ref q_1, .ref q_2, .ref q_3, .int 0, .int 0, .int 0, .int 0, .int 0, .int 0, .ref q_4, .ref q_5, .int 0])), (q_4, .inl (g.2.2 2, 48, .inr (.inl u_10)))] A s.heap _ _ := h
  have hr_11 := hp
  refine KIx.callVs (As := [.ref (ak 0), .int r_11]) (q0 := 4) (ci := 2) (wc := [(o, .inr (2, [.ref q_1, .ref q_2, .ref q_3, .int 0, .int 0, .int 0, .int 0, .int 0, .int 0, .ref q_4, .ref q_5, .int 0])), (q_4, .inl (g.2.2 2, 48, .inr (.inl u_10)))]) (wr := [(q_1, .inl (g.2.2 1, 1202, .inl (fun _ => 0))), (q_2, .inl (g.2.2 1, 1202, .inl (fun _ => 0))), (q_3, .inl (g.2.2 2, 1202, .inr (.inl (fun _ => 0)))), (q_5, .inl (g.2.2 0, 0, .inl (fun _ => 0)))]) C h hE [4, 5] [0, 1, 2, 3] rfl rfl (by decide) (by decide) (by decide) (t_learn l g o q_1 q_2 q_3 q_4 q_5 0 (by decide) u_10 r_11 hr_11) vTk_init_35 ⟨by decide, by decide⟩ rfl rfl hl.1 rfl (Nat.le_of_ble_eq_true rfl) dTk_init_68 ⟨by decide, by decide⟩ (fun r_13 u_12 H locs hp h => ?_)
  have h : Hx g [(q_1, .inl (g.2.2 1, 1202, .inl (fun _ => 0))), (q_2, .inl (g.2.2 1, 1202, .inl (fun _ => 0))), (q_3, .inl (g.2.2 2, 1202, .inr (.inl (fun _ => 0)))), (q_5, .inl (g.2.2 0, 0, .inl (fun _ => 0))), (o, .inr (2, [.ref q_1, .ref q_2, .ref q_3, .int 0, .int 0, .int 0, .int 0, .int 0, .int 0, .ref q_4, .ref q_5, .int 0])), (q_4, .inl (g.2.2 2, 48, .inr (.inl u_12)))] A s.heap _ _ := h
  have hr_13 := hp
  refine lv_pop hx hb dTk_init_71 rfl ?_
  have h : Hx g [(o, .inr (2, [.ref q_1, .ref q_2, .ref q_3, .int 0, .int 0, .int 0, .int 0, .int 0, .int 0, .ref q_4, .ref q_5, .int 0])), (q_1, .inl (g.2.2 1, 1202, .inl (fun _ => 0))), (q_2, .inl (g.2.2 1, 1202, .inl (fun _ => 0)))] A s.heap _ _ := h.cut [4, 0, 1] (by decide) rfl
  exact KV.ret C hr hlk (fun i => ([q_1, q_2, q_3, q_4, q_5] : List Nat).getD i 0) h trivial (by decide) (by decide) dTk_init_72

set_option maxHeartbeats 4000000 in
set_option maxRecDepth 100000 in
/-- gap(0) of an empty text -/
theorem t_gap0 (l : Launch) (g : GG) (o k pp v kw tx : Nat) : KI l yTk_gap cTk_gap 5 (some .int) (rD 0 0 0) g [(o, .inr (2, [.ref k, .ref pp, .ref v, .int 0, .int 0, .int 0, .int 0, .int 0, .int 0, .ref kw, .ref tx, .int 0]))] (fun u : Unit => [(o, .inr (2, [.ref k, .ref pp, .ref v, .int 0, .int 0, .int 0, .int 0, .int 0, .int 0, .ref kw, .ref tx, .int 0]))]) [.ref o, .int 0] (fun (r : Int32) (u : Unit) => r = 0) := by
  refine KI.of (by decide) (Nat.le_of_ble_eq_true rfl) ?_
  intro p e s m below meth c A ls C hr hlk hnm h hl
  have hx := C.1.1
  have hb := C.1.2.1
  have hl : lv_has ls 5 [(0, .ref o), (1, .int 0)] := hl
  refine lv_iconst (v := 0) hx hb dTk_gap_0 (by decide) ?_
  refine lv_istore_n (lv' := [(2, .int (0)), (0, .ref o), (1, .int (0))]) hx hb dTk_gap_1 rfl hl (by decide) rfl (fun ls hl => ?_)
  refine lv_iload_n hx hb dTk_gap_2 rfl (lv_at hl 2 rfl) ?_
  refine lv_istore_n (lv' := [(3, .int (0)), (2, .int (0)), (0, .ref o), (1, .int (0))]) hx hb dTk_gap_3 rfl hl (by decide) rfl (fun ls hl => ?_)
  refine lv_iload_n hx hb dTk_gap_4 rfl (lv_at hl 0 rfl) ?_
  refine lv_aload_n hx hb dTk_gap_5 rfl (lv_at hl 2 rfl) ?_
  refine og C h laysTk 0 rfl rfl 11 (by decide) flTk_55 rfl (v := .int 0) rfl dTk_gap_6 ?_
  refine lv_icmp_ge (tgt := 88) hx hb dTk_gap_9 (by decide) (fun c9 => ?_) (fun c9 => absurd c9 (by decide))
  refine lv_iload_n hx hb dTk_gap_88 rfl (lv_at hl 0 rfl) ?_
  exact KI.ret C hr hlk () h rfl rfl (by decide) (by decide) dTk_gap_89

set_option maxHeartbeats 4000000 in
set_option maxRecDepth 100000 in
/-- read() of an empty text -/
theorem t_read0 (l : Launch) (g : GG) (o k pp v kw tx : Nat) (t : Nat) : KV l yTk_read cTk_read 7 (rD 1 0 0) g [(o, .inr (2, [.ref k, .ref pp, .ref v, .int 0, .int 0, .int 0, .int 0, .int 0, .int 0, .ref kw, .ref tx, .int 0])), (k, .inl (g.2.2 1, 1202, .inl (fun _ => 0))), (pp, .inl (g.2.2 1, 1202, .inl (fun _ => 0)))] (fun u : Unit => [(o, .inr (2, [.ref k, .ref pp, .ref v, .int 0, .int 0, .int 0, .int 0, .int 0, .int 0, .ref kw, .ref t, .int 0])), (k, .inl (g.2.2 1, 1202, .inl (upd (fun _ => 0) (0 : Int32).toNatClampNeg 0))), (pp, .inl (g.2.2 1, 1202, .inl (upd (fun _ => 0) (0 : Int32).toNatClampNeg 0)))]) [.ref o, .ref t, .int 0] (fun u : Unit => True) := by
  refine KV.of (by decide) (Nat.le_of_ble_eq_true rfl) ?_
  intro p e s m below meth c A ls C hr hlk hnm h hl
  have hx := C.1.1
  have hb := C.1.2.1
  have hl : lv_has ls 7 [(0, .ref o), (1, .ref t), (2, .int 0)] := hl
  refine lv_aload_n hx hb dTk_read_0 rfl (lv_at hl 0 rfl) ?_
  refine lv_aload_n hx hb dTk_read_1 rfl (lv_at hl 1 rfl) ?_
  refine op C h laysTk tyTk tyTk_ok nmTk 0 rfl rfl 10 (by decide) flTk_23 rfl rfl (v := .ref t) rfl rfl (Nat.le_of_ble_eq_true rfl) (w' := [(o, .inr (2, [.ref k, .ref pp, .ref v, .int 0, .int 0, .int 0, .int 0, .int 0, .int 0, .ref kw, .ref t, .int 0])), (k, .inl (g.2.2 1, 1202, .inl (fun _ => 0))), (pp, .inl (g.2.2 1, 1202, .inl (fun _ => 0)))]) rfl dTk_read_2 (fun H locs h => ?_)
  refine lv_aload_n hx hb dTk_read_5 rfl (lv_at hl 0 rfl) ?_
  refine lv_iload_n hx hb dTk_read_6 rfl (lv_at hl 2 rfl) ?_
  refine op C h laysTk tyTk tyTk_ok nmTk 0 rfl rfl 11 (by decide) flTk_55 rfl rfl (v := .int 0) rfl rfl (Nat.le_of_ble_eq_true rfl) (w' := [(o, .inr (2, [.ref k, .ref pp, .ref v, .int 0, .int 0, .int 0, .int 0, .int 0, .int 0, .ref kw, .ref t, .int 0])), (k, .inl (g.2.2 1, 1202, .inl (fun _ => 0))), (pp, .inl (g.2.2 1, 1202, .inl (fun _ => 0)))]) rfl dTk_read_7 (fun H locs h => ?_)
  refine lv_aload_n hx hb dTk_read_10 rfl (lv_at hl 0 rfl) ?_
  refine lv_iconst (v := 0) hx hb dTk_read_11 (by decide) ?_
  refine op C h laysTk tyTk tyTk_ok nmTk 0 rfl rfl 3 (by decide) flTk_58 rfl rfl (v := .int 0) rfl rfl (Nat.le_of_ble_eq_true rfl) (w' := [(o, .inr (2, [.ref k, .ref pp, .ref v, .int 0, .int 0, .int 0, .int 0, .int 0, .int 0, .ref kw, .ref t, .int 0])), (k, .inl (g.2.2 1, 1202, .inl (fun _ => 0))), (pp, .inl (g.2.2 1, 1202, .inl (fun _ => 0)))]) rfl dTk_read_12 (fun H locs h => ?_)
  refine lv_aload_n hx hb dTk_read_15 rfl (lv_at hl 0 rfl) ?_
  refine lv_iconst (v := 0) hx hb dTk_read_16 (by decide) ?_
  refine op C h laysTk tyTk tyTk_ok nmTk 0 rfl rfl 4 (by decide) flTk_61 rfl rfl (v := .int 0) rfl rfl (Nat.le_of_ble_eq_true rfl) (w' := [(o, .inr (2, [.ref k, .ref pp, .ref v, .int 0, .int 0, .int 0, .int 0, .int 0, .int 0, .ref kw, .ref t, .int 0])), (k, .inl (g.2.2 1, 1202, .inl (fun _ => 0))), (pp, .inl (g.2.2 1, 1202, .inl (fun _ => 0)))]) rfl dTk_read_17 (fun H locs h => ?_)
  refine lv_aload_n hx hb dTk_read_20 rfl (lv_at hl 0 rfl) ?_
  refine lv_iconst (v := 0) hx hb dTk_read_21 (by decide) ?_
  refine op C h laysTk tyTk tyTk_ok nmTk 0 rfl rfl 5 (by decide) flTk_64 rfl rfl (v := .int 0) rfl rfl (Nat.le_of_ble_eq_true rfl) (w' := [(o, .inr (2, [.ref k, .ref pp, .ref v, .int 0, .int 0, .int 0, .int 0, .int 0, .int 0, .ref kw, .ref t, .int 0])), (k, .inl (g.2.2 1, 1202, .inl (fun _ => 0))), (pp, .inl (g.2.2 1, 1202, .inl (fun _ => 0)))]) rfl dTk_read_22 (fun H locs h => ?_)
  refine lv_aload_n hx hb dTk_read_25 rfl (lv_at hl 0 rfl) ?_
  refine lv_iconst (v := 0) hx hb dTk_read_26 (by decide) ?_
  refine op C h laysTk tyTk tyTk_ok nmTk 0 rfl rfl 7 (by decide) flTk_67 rfl rfl (v := .int 0) rfl rfl (Nat.le_of_ble_eq_true rfl) (w' := [(o, .inr (2, [.ref k, .ref pp, .ref v, .int 0, .int 0, .int 0, .int 0, .int 0, .int 0, .ref kw, .ref t, .int 0])), (k, .inl (g.2.2 1, 1202, .inl (fun _ => 0))), (pp, .inl (g.2.2 1, 1202, .inl (fun _ => 0)))]) rfl dTk_read_27 (fun H locs h => ?_)
  refine lv_iconst (v := 0) hx hb dTk_read_30 (by decide) ?_
  refine lv_istore_n (lv' := [(3, .int (0)), (0, .ref o), (1, .ref t), (2, .int (0))]) hx hb dTk_read_31 rfl hl (by decide) rfl (fun ls hl => ?_)
  refine lv_aload_n hx hb dTk_read_32 rfl (lv_at hl 1 rfl) ?_
  refine lv_iconst (v := 0) hx hb dTk_read_33 (by decide) ?_
  refine KI.callVs (As := [.int 0]) (q0 := 0) (ci := 2) (wc := [(o, .inr (2, [.ref k, .ref pp, .ref v, .int 0, .int 0, .int 0, .int 0, .int 0, .int 0, .ref kw, .ref t, .int 0]))]) (wr := [(k, .inl (g.2.2 1, 1202, .inl (fun _ => 0))), (pp, .inl (g.2.2 1, 1202, .inl (fun _ => 0)))]) C h [0] [1, 2] rfl rfl (by decide) (by decide) (by decide) (t_gap0 l g o k pp v kw t) vTk_read_70 ⟨by decide, by decide⟩ rfl rfl hl.1 rfl (Nat.le_of_ble_eq_true rfl) dTk_read_34 ⟨by decide, by decide⟩ (fun r_1 _ H locs hp h => ?_)
  have h : Hx g [(k, .inl (g.2.2 1, 1202, .inl (fun _ => 0))), (pp, .inl (g.2.2 1, 1202, .inl (fun _ => 0))), (o, .inr (2, [.ref k, .ref pp, .ref v, .int 0, .int 0, .int 0, .int 0, .int 0, .int 0, .ref kw, .ref t, .int 0]))] A s.heap _ _ := h
  subst hp
  refine lv_istore (lv' := [(4, .int (0)), (3, .int (0)), (0, .ref o), (1, .ref t), (2, .int (0))]) hx hb dTk_read_37 hl (by decide) rfl (fun ls hl => ?_)
  refine lv_iconst (v := 1) hx hb dTk_read_39 (by decide) ?_
  refine lv_istore (lv' := [(5, .int (1)), (4, .int (0)), (3, .int (0)), (0, .ref o), (1, .ref t), (2, .int (0))]) hx hb dTk_read_40 hl (by decide) rfl (fun ls hl => ?_)
  refine lv_iconst (v := 0) hx hb dTk_read_42 (by decide) ?_
  refine lv_istore (lv' := [(6, .int (0)), (5, .int (1)), (4, .int (0)), (3, .int (0)), (0, .ref o), (1, .ref t), (2, .int (0))]) hx hb dTk_read_43 hl (by decide) rfl (fun ls hl => ?_)
  refine lv_iload hx hb dTk_read_45 (lv_at hl 0 rfl) ?_
  refine lv_sipush (v := 1200) hx hb dTk_read_47 (by decide) ?_
  refine lv_icmp_gt (tgt := 116) hx hb dTk_read_50 (by decide) (fun c50 => absurd c50 (by decide)) (fun c50 => ?_)
  refine lv_iload hx hb dTk_read_53 (lv_at hl 1 rfl) ?_
  refine lv_if_eq (tgt := 116) hx hb dTk_read_55 (by decide) (fun c55 => absurd c55 (by decide)) (fun c55 => ?_)
  refine lv_iload hx hb dTk_read_58 (lv_at hl 2 rfl) ?_
  refine lv_iload_n hx hb dTk_read_60 rfl (lv_at hl 6 rfl) ?_
  refine lv_icmp_ge (tgt := 116) hx hb dTk_read_61 (by decide) (fun c61 => ?_) (fun c61 => absurd c61 (by decide))
  refine lv_iload hx hb dTk_read_116 (lv_at hl 1 rfl) ?_
  refine lv_if_eq (tgt := 135) hx hb dTk_read_118 (by decide) (fun c118 => absurd c118 (by decide)) (fun c118 => ?_)
  refine lv_aload_n hx hb dTk_read_121 rfl (lv_at hl 4 rfl) ?_
  refine og C h laysTk 2 rfl rfl 0 (by decide) flTk_9 rfl (v := .ref k) rfl dTk_read_122 ?_
  refine lv_iload_n hx hb dTk_read_125 rfl (lv_at hl 3 rfl) ?_
  refine lv_iconst (v := 0) hx hb dTk_read_126 (by decide) ?_
  refine va_iast C.1.1 C.1.2.1 C.2 h.1 h.2.1 h.2.2.1 0 1 rfl rfl (pk_in 0 1202 (by decide) rfl) dTk_read_127 (fun H locs hP hD hS => ?_)
  have h : Hx g [(k, .inl (g.2.2 1, 1202, .inl (upd (fun _ => 0) (0 : Int32).toNatClampNeg 0))), (pp, .inl (g.2.2 1, 1202, .inl (fun _ => 0))), (o, .inr (2, [.ref k, .ref pp, .ref v, .int 0, .int 0, .int 0, .int 0, .int 0, .int 0, .ref kw, .ref t, .int 0]))] A s.heap _ _ := ⟨hP, hD, hS, h.2.2.2⟩
  refine lv_aload_n hx hb dTk_read_128 rfl (lv_at hl 4 rfl) ?_
  refine og C h laysTk 2 rfl rfl 1 (by decide) flTk_13 rfl (v := .ref pp) rfl dTk_read_129 ?_
  refine lv_iload_n hx hb dTk_read_132 rfl (lv_at hl 3 rfl) ?_
  refine lv_iload_n hx hb dTk_read_133 rfl (lv_at hl 6 rfl) ?_
  refine va_iast C.1.1 C.1.2.1 C.2 h.1 h.2.1 h.2.2.1 1 1 rfl rfl (pk_in 0 1202 (by decide) rfl) dTk_read_134 (fun H locs hP hD hS => ?_)
  have h : Hx g [(k, .inl (g.2.2 1, 1202, .inl (upd (fun _ => 0) (0 : Int32).toNatClampNeg 0))), (pp, .inl (g.2.2 1, 1202, .inl (upd (fun _ => 0) (0 : Int32).toNatClampNeg 0))), (o, .inr (2, [.ref k, .ref pp, .ref v, .int 0, .int 0, .int 0, .int 0, .int 0, .int 0, .ref kw, .ref t, .int 0]))] A s.heap _ _ := ⟨hP, hD, hS, h.2.2.2⟩
  have h : Hx g [(o, .inr (2, [.ref k, .ref pp, .ref v, .int 0, .int 0, .int 0, .int 0, .int 0, .int 0, .ref kw, .ref t, .int 0])), (k, .inl (g.2.2 1, 1202, .inl (upd (fun _ => 0) (0 : Int32).toNatClampNeg 0))), (pp, .inl (g.2.2 1, 1202, .inl (upd (fun _ => 0) (0 : Int32).toNatClampNeg 0)))] A s.heap _ _ := h.cut [2, 0, 1] (by decide) rfl
  exact KV.ret C hr hlk () h trivial (by decide) (by decide) dTk_read_135

set_option maxHeartbeats 4000000 in
set_option maxRecDepth 100000 in
/-- seen() at the end of an empty text -/
theorem t_seen0 (l : Launch) (g : GG) (o k pp v kw t : Nat) : KI l yTk_seen cTk_seen 1 (some .int) (rD 0 0 0) g [(o, .inr (2, [.ref k, .ref pp, .ref v, .int 0, .int 0, .int 0, .int 0, .int 0, .int 0, .ref kw, .ref t, .int 0])), (k, .inl (g.2.2 1, 1202, .inl (upd (fun _ => 0) (0 : Int32).toNatClampNeg 0))), (pp, .inl (g.2.2 1, 1202, .inl (upd (fun _ => 0) (0 : Int32).toNatClampNeg 0)))] (fun u : Unit => [(o, .inr (2, [.ref k, .ref pp, .ref v, .int 0, .int 0, .int 0, .int 0, .int 0, .int 0, .ref kw, .ref t, .int 0])), (k, .inl (g.2.2 1, 1202, .inl (upd (fun _ => 0) (0 : Int32).toNatClampNeg 0))), (pp, .inl (g.2.2 1, 1202, .inl (upd (fun _ => 0) (0 : Int32).toNatClampNeg 0)))]) [.ref o] (fun (r : Int32) (u : Unit) => r = 0) := by
  refine KI.of (by decide) (Nat.le_of_ble_eq_true rfl) ?_
  intro p e s m below meth c A ls C hr hlk hnm h hl
  have hx := C.1.1
  have hb := C.1.2.1
  have hl : lv_has ls 1 [(0, .ref o)] := hl
  refine lv_aload_n hx hb dTk_seen_0 rfl (lv_at hl 0 rfl) ?_
  refine og C h laysTk 0 rfl rfl 5 (by decide) flTk_64 rfl (v := .int 0) rfl dTk_seen_1 ?_
  refine lv_if_eq (tgt := 11) hx hb dTk_seen_4 (by decide) (fun c4 => ?_) (fun c4 => absurd c4 (by decide))
  refine lv_aload_n hx hb dTk_seen_11 rfl (lv_at hl 0 rfl) ?_
  refine og C h laysTk 0 rfl rfl 0 (by decide) flTk_9 rfl (v := .ref k) rfl dTk_seen_12 ?_
  refine lv_aload_n hx hb dTk_seen_15 rfl (lv_at hl 0 rfl) ?_
  refine og C h laysTk 0 rfl rfl 3 (by decide) flTk_58 rfl (v := .int 0) rfl dTk_seen_16 ?_
  refine va_iald C.1.1 C.1.2.1 C.2 h.1 1 1 rfl rfl (pk_in 0 1202 (by decide) rfl) dTk_seen_19 ?_
  refine lv_topi (fun z ez => ?_)
  have ez : z = 0 := ez
  subst ez
  exact KI.ret C hr hlk () h rfl rfl (by decide) (by decide) dTk_seen_20

set_option maxHeartbeats 4000000 in
set_option maxRecDepth 100000 in
/-- the first fault -/
theorem t_fail0 (l : Launch) (g : GG) (o k pp v kw t : Nat) : KV l yTk_fail cTk_fail 3 (rD 0 0 0) g [(o, .inr (2, [.ref k, .ref pp, .ref v, .int 0, .int 0, .int 0, .int 0, .int 0, .int 0, .ref kw, .ref t, .int 0])), (k, .inl (g.2.2 1, 1202, .inl (upd (fun _ => 0) (0 : Int32).toNatClampNeg 0))), (pp, .inl (g.2.2 1, 1202, .inl (upd (fun _ => 0) (0 : Int32).toNatClampNeg 0)))] (fun u : Unit => [(o, .inr (2, [.ref k, .ref pp, .ref v, .int 0, .int 0, .int 1, .int 0, .int 0, .int 0, .ref kw, .ref t, .int 0])), (k, .inl (g.2.2 1, 1202, .inl (upd (fun _ => 0) (0 : Int32).toNatClampNeg 0))), (pp, .inl (g.2.2 1, 1202, .inl (upd (fun _ => 0) (0 : Int32).toNatClampNeg 0)))]) [.ref o, .int 1, .int 0] (fun u : Unit => True) := by
  refine KV.of (by decide) (Nat.le_of_ble_eq_true rfl) ?_
  intro p e s m below meth c A ls C hr hlk hnm h hl
  have hx := C.1.1
  have hb := C.1.2.1
  have hl : lv_has ls 3 [(0, .ref o), (1, .int 1), (2, .int 0)] := hl
  refine lv_aload_n hx hb dTk_fail_0 rfl (lv_at hl 0 rfl) ?_
  refine og C h laysTk 0 rfl rfl 5 (by decide) flTk_64 rfl (v := .int 0) rfl dTk_fail_1 ?_
  refine lv_if_ne (tgt := 22) hx hb dTk_fail_4 (by decide) (fun c4 => absurd c4 (by decide)) (fun c4 => ?_)
  refine lv_aload_n hx hb dTk_fail_7 rfl (lv_at hl 0 rfl) ?_
  refine lv_iload_n hx hb dTk_fail_8 rfl (lv_at hl 1 rfl) ?_
  refine op C h laysTk tyTk tyTk_ok nmTk 0 rfl rfl 5 (by decide) flTk_64 rfl rfl (v := .int 1) rfl rfl (Nat.le_of_ble_eq_true rfl) (w' := [(o, .inr (2, [.ref k, .ref pp, .ref v, .int 0, .int 0, .int 1, .int 0, .int 0, .int 0, .ref kw, .ref t, .int 0])), (k, .inl (g.2.2 1, 1202, .inl (upd (fun _ => 0) (0 : Int32).toNatClampNeg 0))), (pp, .inl (g.2.2 1, 1202, .inl (upd (fun _ => 0) (0 : Int32).toNatClampNeg 0)))]) rfl dTk_fail_9 (fun H locs h => ?_)
  refine lv_aload_n hx hb dTk_fail_12 rfl (lv_at hl 0 rfl) ?_
  refine lv_aload_n hx hb dTk_fail_13 rfl (lv_at hl 0 rfl) ?_
  refine og C h laysTk 0 rfl rfl 1 (by decide) flTk_13 rfl (v := .ref pp) rfl dTk_fail_14 ?_
  refine lv_iload_n hx hb dTk_fail_17 rfl (lv_at hl 2 rfl) ?_
  refine va_iald C.1.1 C.1.2.1 C.2 h.1 2 1 rfl rfl (pk_in 0 1202 (by decide) rfl) dTk_fail_18 ?_
  refine lv_topi (fun z ez => ?_)
  have ez : z = 0 := ez
  subst ez
  refine op C h laysTk tyTk tyTk_ok nmTk 0 rfl rfl 6 (by decide) flTk_103 rfl rfl (v := .int 0) rfl rfl (Nat.le_of_ble_eq_true rfl) (w' := [(o, .inr (2, [.ref k, .ref pp, .ref v, .int 0, .int 0, .int 1, .int 0, .int 0, .int 0, .ref kw, .ref t, .int 0])), (k, .inl (g.2.2 1, 1202, .inl (upd (fun _ => 0) (0 : Int32).toNatClampNeg 0))), (pp, .inl (g.2.2 1, 1202, .inl (upd (fun _ => 0) (0 : Int32).toNatClampNeg 0)))]) rfl dTk_fail_19 (fun H locs h => ?_)
  exact KV.ret C hr hlk () h trivial (by decide) (by decide) dTk_fail_22

set_option maxHeartbeats 4000000 in
set_option maxRecDepth 100000 in
/-- take() behind a fault -/
theorem t_take1 (l : Launch) (g : GG) (o k pp v kw t : Nat) : KI l yTk_take cTk_take 2 (some .boolean) (rD 0 0 0) g [(o, .inr (2, [.ref k, .ref pp, .ref v, .int 0, .int 0, .int 1, .int 0, .int 0, .int 0, .ref kw, .ref t, .int 0])), (k, .inl (g.2.2 1, 1202, .inl (upd (fun _ => 0) (0 : Int32).toNatClampNeg 0))), (pp, .inl (g.2.2 1, 1202, .inl (upd (fun _ => 0) (0 : Int32).toNatClampNeg 0)))] (fun u : Unit => [(o, .inr (2, [.ref k, .ref pp, .ref v, .int 0, .int 0, .int 1, .int 0, .int 0, .int 0, .ref kw, .ref t, .int 0])), (k, .inl (g.2.2 1, 1202, .inl (upd (fun _ => 0) (0 : Int32).toNatClampNeg 0))), (pp, .inl (g.2.2 1, 1202, .inl (upd (fun _ => 0) (0 : Int32).toNatClampNeg 0)))]) [.ref o, .int 0] (fun (r : Int32) (u : Unit) => r = 0) := by
  refine KI.of (by decide) (Nat.le_of_ble_eq_true rfl) ?_
  intro p e s m below meth c A ls C hr hlk hnm h hl
  have hx := C.1.1
  have hb := C.1.2.1
  have hl : lv_has ls 2 [(0, .ref o), (1, .int 0)] := hl
  refine lv_aload_n hx hb dTk_take_0 rfl (lv_at hl 0 rfl) ?_
  refine og C h laysTk 0 rfl rfl 5 (by decide) flTk_64 rfl (v := .int 1) rfl dTk_take_1 ?_
  refine lv_if_ne (tgt := 20) hx hb dTk_take_4 (by decide) (fun c4 => ?_) (fun c4 => absurd c4 (by decide))
  refine lv_iconst (v := 0) hx hb dTk_take_20 (by decide) ?_
  exact KI.ret C hr hlk () h rfl rfl (by decide) (by decide) dTk_take_21

set_option maxHeartbeats 4000000 in
set_option maxRecDepth 100000 in
/-- fault() -/
theorem t_fault1 (l : Launch) (g : GG) (o k pp v kw t : Nat) : KI l yTk_fault cTk_fault 1 (some .int) (rD 0 0 0) g [(o, .inr (2, [.ref k, .ref pp, .ref v, .int 0, .int 0, .int 1, .int 0, .int 0, .int 0, .ref kw, .ref t, .int 0])), (k, .inl (g.2.2 1, 1202, .inl (upd (fun _ => 0) (0 : Int32).toNatClampNeg 0))), (pp, .inl (g.2.2 1, 1202, .inl (upd (fun _ => 0) (0 : Int32).toNatClampNeg 0)))] (fun u : Unit => [(o, .inr (2, [.ref k, .ref pp, .ref v, .int 0, .int 0, .int 1, .int 0, .int 0, .int 0, .ref kw, .ref t, .int 0])), (k, .inl (g.2.2 1, 1202, .inl (upd (fun _ => 0) (0 : Int32).toNatClampNeg 0))), (pp, .inl (g.2.2 1, 1202, .inl (upd (fun _ => 0) (0 : Int32).toNatClampNeg 0)))]) [.ref o] (fun (r : Int32) (u : Unit) => r = 1) := by
  refine KI.of (by decide) (Nat.le_of_ble_eq_true rfl) ?_
  intro p e s m below meth c A ls C hr hlk hnm h hl
  have hx := C.1.1
  have hb := C.1.2.1
  have hl : lv_has ls 1 [(0, .ref o)] := hl
  refine lv_aload_n hx hb dTk_fault_0 rfl (lv_at hl 0 rfl) ?_
  refine og C h laysTk 0 rfl rfl 5 (by decide) flTk_64 rfl (v := .int 1) rfl dTk_fault_1 ?_
  refine lv_if_eq (tgt := 14) hx hb dTk_fault_4 (by decide) (fun c4 => absurd c4 (by decide)) (fun c4 => ?_)
  refine lv_aload_n hx hb dTk_fault_7 rfl (lv_at hl 0 rfl) ?_
  refine og C h laysTk 0 rfl rfl 5 (by decide) flTk_64 rfl (v := .int 1) rfl dTk_fault_8 ?_
  refine lv_goto (tgt := 18) hx hb dTk_fault_11 (by decide) ?_
  exact KI.ret C hr hlk () h rfl rfl (by decide) (by decide) dTk_fault_18

set_option maxHeartbeats 4000000 in
set_option maxRecDepth 100000 in
/-- faultPlace() -/
theorem t_faultPlace1 (l : Launch) (g : GG) (o k pp v kw t : Nat) : KI l yTk_faultPlace cTk_faultPlace 1 (some .int) (rD 0 0 0) g [(o, .inr (2, [.ref k, .ref pp, .ref v, .int 0, .int 0, .int 1, .int 0, .int 0, .int 0, .ref kw, .ref t, .int 0])), (k, .inl (g.2.2 1, 1202, .inl (upd (fun _ => 0) (0 : Int32).toNatClampNeg 0))), (pp, .inl (g.2.2 1, 1202, .inl (upd (fun _ => 0) (0 : Int32).toNatClampNeg 0)))] (fun u : Unit => [(o, .inr (2, [.ref k, .ref pp, .ref v, .int 0, .int 0, .int 1, .int 0, .int 0, .int 0, .ref kw, .ref t, .int 0])), (k, .inl (g.2.2 1, 1202, .inl (upd (fun _ => 0) (0 : Int32).toNatClampNeg 0))), (pp, .inl (g.2.2 1, 1202, .inl (upd (fun _ => 0) (0 : Int32).toNatClampNeg 0)))]) [.ref o] (fun (r : Int32) (u : Unit) => r = 0) := by
  refine KI.of (by decide) (Nat.le_of_ble_eq_true rfl) ?_
  intro p e s m below meth c A ls C hr hlk hnm h hl
  have hx := C.1.1
  have hb := C.1.2.1
  have hl : lv_has ls 1 [(0, .ref o)] := hl
  refine lv_aload_n hx hb dTk_faultPlace_0 rfl (lv_at hl 0 rfl) ?_
  refine og C h laysTk 0 rfl rfl 5 (by decide) flTk_64 rfl (v := .int 1) rfl dTk_faultPlace_1 ?_
  refine lv_if_eq (tgt := 14) hx hb dTk_faultPlace_4 (by decide) (fun c4 => absurd c4 (by decide)) (fun c4 => ?_)
  refine lv_aload_n hx hb dTk_faultPlace_7 rfl (lv_at hl 0 rfl) ?_
  refine og C h laysTk 0 rfl rfl 6 (by decide) flTk_103 rfl (v := .int 0) rfl dTk_faultPlace_8 ?_
  refine lv_goto (tgt := 18) hx hb dTk_faultPlace_11 (by decide) ?_
  exact KI.ret C hr hlk () h rfl rfl (by decide) (by decide) dTk_faultPlace_18

set_option maxHeartbeats 4000000 in
set_option maxRecDepth 100000 in
/-- Plan -/
theorem i_Pl {ak sv : Nat → Nat} (l : Launch) (g : GG) (o : Nat) : KVx ak sv l yPl_init cPl_init 2 (rD 3 125 14879) g [(o, .inr (5, [.null, .null, .null, .null, .null, .null, .null, .null, .null, .null, .null, .null, .null, .null, .int 0, .null, .int 0, .null, .null, .int 0]))] (fun u : Nat → Nat => [(o, .inr (5, [.ref (u 0), .ref (u 1), .ref (u 2), .ref (u 3), .ref (u 4), .ref (u 5), .ref (u 6), .ref (u 7), .ref (u 8), .ref (u 9), .ref (u 10), .ref (u 11), .ref (u 12), .ref (u 13), .int 0, .ref (u 14), .int 0, .ref (u 15), .ref (u 16), .int 0])), (u 0, .inr (7, [.ref (u 17), .ref (u 18), .int 0])), (u 1, .inr (7, [.ref (u 19), .ref (u 20), .int 0])), (u 2, .inr (7, [.ref (u 21), .ref (u 22), .int 0])), (u 4, .inl (g.2.2 1, 80, .inl (fun _ => 0))), (u 7, .inl (g.2.2 1, 10, .inl (fun _ => 0))), (u 15, .inl (g.2.2 1, 1728, .inl (fun _ => 0)))]) [.ref o] (fun u : Nat → Nat => True) := by
  refine KVx.of (by decide) (Nat.le_of_ble_eq_true rfl) ?_
  intro p e s m below meth c A ls C hr hlk hnm h hE hl
  have hx := C.1.1
  have hb := C.1.2.1
  have hl : lv_has ls 2 [(0, .ref o)] := hl
  refine lv_aload_n hx hb dPl_init_0 rfl (lv_at hl 0 rfl) ?_
  refine W.objInit hx hb C.1.2.2.2.1 (C.1.2.2.2.2 _ koPl) (C.1.2.2.2.2 _ k_objI) (C.1.2.2.2.2 _ k_objC) rfl (by rw [C.1.2.2.1]; exact hl.1) rfl dPl_init_1 (Nat.le_of_ble_eq_true rfl) (Nat.le_of_ble_eq_true rfl) ?_
  refine W.eq (g2 := F0 m 4 ls []) rfl ?_
  refine lv_aload_n hx hb dPl_init_4 rfl (lv_at hl 0 rfl) ?_
  refine on C h laysNa tyNa tyNa_ok clPl_13 kiNa knNa rfl dfNa (by decide) (by decide) dPl_init_5 (fun q_1 H h => ?_)
  have h : Hx g [(o, .inr (5, [.null, .null, .null, .null, .null, .null, .null, .null, .null, .null, .null, .null, .null, .null, .int 0, .null, .int 0, .null, .null, .int 0])), (q_1, .inr (7, [.null, .null, .int 0]))] A s.heap _ _ := h
  refine W.widen (k := 1) (n := 3) (by decide) (by decide) ?_
  refine lv_dup hx hb dPl_init_8 rfl ?_
  refine lv_bipush (v := 20) hx hb dPl_init_9 (by decide) ?_
  refine KV.callI (As := [.int 20]) (wc := [(q_1, .inr (7, [.null, .null, .int 0]))]) (wr := [(o, .inr (5, [.null, .null, .null, .null, .null, .null, .null, .null, .null, .null, .null, .null, .null, .null, .int 0, .null, .int 0, .null, .null, .int 0]))]) C h [1] [0] rfl rfl (by decide) (by decide) (by decide) (i_Na20 l g q_1) mlPl_15 imNa_init iiNa_init icNa_init npNa_init rfl ⟨by decide, by decide⟩ hl.1 rfl (Nat.le_of_ble_eq_true rfl) dPl_init_11 ⟨by decide, by decide⟩ (fun u_2 H locs hp h => ?_)
  have h : Hx g [(o, .inr (5, [.null, .null, .null, .null, .null, .null, .null, .null, .null, .null, .null, .null, .null, .null, .int 0, .null, .int 0, .null, .null, .int 0])), (q_1, .inr (7, [.ref u_2.1, .ref u_2.2, .int 0]))] A s.heap _ _ := h
  refine W.widen (k := 3) (n := 43) (by decide) (by decide) ?_
  refine opF C h laysPl tyPl tyPl_ok nmPl hnm rfl 0 rfl rfl 0 (by decide) flPl_18 rfl rfl (v := .ref q_1) rfl rfl (Nat.le_of_ble_eq_true rfl) (w' := [(o, .inr (5, [.ref q_1, .null, .null, .null, .null, .null, .null, .null, .null, .null, .null, .null, .null, .null, .int 0, .null, .int 0, .null, .null, .int 0])), (q_1, .inr (7, [.ref u_2.1, .ref u_2.2, .int 0]))]) rfl dPl_init_14 (fun H locs h => ?_)
  refine lv_aload_n hx hb dPl_init_17 rfl (lv_at hl 0 rfl) ?_
  refine on C h laysNa tyNa tyNa_ok clPl_13 kiNa knNa rfl dfNa (by decide) (by decide) dPl_init_18 (fun q_3 H h => ?_)
  have h : Hx g [(o, .inr (5, [.ref q_1, .null, .null, .null, .null, .null, .null, .null, .null, .null, .null, .null, .null, .null, .int 0, .null, .int 0, .null, .null, .int 0])), (q_1, .inr (7, [.ref u_2.1, .ref u_2.2, .int 0])), (q_3, .inr (7, [.null, .null, .int 0]))] A s.heap _ _ := h
  refine W.widen (k := 4) (n := 46) (by decide) (by decide) ?_
  refine lv_dup hx hb dPl_init_21 rfl ?_
  refine lv_bipush (v := 10) hx hb dPl_init_22 (by decide) ?_
  refine KV.callI (As := [.int 10]) (wc := [(q_3, .inr (7, [.null, .null, .int 0]))]) (wr := [(o, .inr (5, [.ref q_1, .null, .null, .null, .null, .null, .null, .null, .null, .null, .null, .null, .null, .null, .int 0, .null, .int 0, .null, .null, .int 0])), (q_1, .inr (7, [.ref u_2.1, .ref u_2.2, .int 0]))]) C h [2] [0, 1] rfl rfl (by decide) (by decide) (by decide) (i_Na10 l g q_3) mlPl_15 imNa_init iiNa_init icNa_init npNa_init rfl ⟨by decide, by decide⟩ hl.1 rfl (Nat.le_of_ble_eq_true rfl) dPl_init_24 ⟨by decide, by decide⟩ (fun u_4 H locs hp h => ?_)
  have h : Hx g [(o, .inr (5, [.ref q_1, .null, .null, .null, .null, .null, .null, .null, .null, .null, .null, .null, .null, .null, .int 0, .null, .int 0, .null, .null, .int 0])), (q_1, .inr (7, [.ref u_2.1, .ref u_2.2, .int 0])), (q_3, .inr (7, [.ref u_4.1, .ref u_4.2, .int 0]))] A s.heap _ _ := h
  refine W.widen (k := 6) (n := 66) (by decide) (by decide) ?_
  refine opF C h laysPl tyPl tyPl_ok nmPl hnm rfl 0 rfl rfl 1 (by decide) flPl_22 rfl rfl (v := .ref q_3) rfl rfl (Nat.le_of_ble_eq_true rfl) (w' := [(o, .inr (5, [.ref q_1, .ref q_3, .null, .null, .null, .null, .null, .null, .null, .null, .null, .null, .null, .null, .int 0, .null, .int 0, .null, .null, .int 0])), (q_1, .inr (7, [.ref u_2.1, .ref u_2.2, .int 0])), (q_3, .inr (7, [.ref u_4.1, .ref u_4.2, .int 0]))]) rfl dPl_init_27 (fun H locs h => ?_)
  refine lv_aload_n hx hb dPl_init_30 rfl (lv_at hl 0 rfl) ?_
  refine on C h laysNa tyNa tyNa_ok clPl_13 kiNa knNa rfl dfNa (by decide) (by decide) dPl_init_31 (fun q_5 H h => ?_)
  have h : Hx g [(o, .inr (5, [.ref q_1, .ref q_3, .null, .null, .null, .null, .null, .null, .null, .null, .null, .null, .null, .null, .int 0, .null, .int 0, .null, .null, .int 0])), (q_1, .inr (7, [.ref u_2.1, .ref u_2.2, .int 0])), (q_3, .inr (7, [.ref u_4.1, .ref u_4.2, .int 0])), (q_5, .inr (7, [.null, .null, .int 0]))] A s.heap _ _ := h
  refine W.widen (k := 7) (n := 69) (by decide) (by decide) ?_
  refine lv_dup hx hb dPl_init_34 rfl ?_
  refine lv_bipush (v := 6) hx hb dPl_init_35 (by decide) ?_
  refine KV.callI (As := [.int 6]) (wc := [(q_5, .inr (7, [.null, .null, .int 0]))]) (wr := [(o, .inr (5, [.ref q_1, .ref q_3, .null, .null, .null, .null, .null, .null, .null, .null, .null, .null, .null, .null, .int 0, .null, .int 0, .null, .null, .int 0])), (q_1, .inr (7, [.ref u_2.1, .ref u_2.2, .int 0])), (q_3, .inr (7, [.ref u_4.1, .ref u_4.2, .int 0]))]) C h [3] [0, 1, 2] rfl rfl (by decide) (by decide) (by decide) (i_Na6 l g q_5) mlPl_15 imNa_init iiNa_init icNa_init npNa_init rfl ⟨by decide, by decide⟩ hl.1 rfl (Nat.le_of_ble_eq_true rfl) dPl_init_37 ⟨by decide, by decide⟩ (fun u_6 H locs hp h => ?_)
  have h : Hx g [(o, .inr (5, [.ref q_1, .ref q_3, .null, .null, .null, .null, .null, .null, .null, .null, .null, .null, .null, .null, .int 0, .null, .int 0, .null, .null, .int 0])), (q_1, .inr (7, [.ref u_2.1, .ref u_2.2, .int 0])), (q_3, .inr (7, [.ref u_4.1, .ref u_4.2, .int 0])), (q_5, .inr (7, [.ref u_6.1, .ref u_6.2, .int 0]))] A s.heap _ _ := h
  refine W.widen (k := 9) (n := 81) (by decide) (by decide) ?_
  refine opF C h laysPl tyPl tyPl_ok nmPl hnm rfl 0 rfl rfl 2 (by decide) flPl_25 rfl rfl (v := .ref q_5) rfl rfl (Nat.le_of_ble_eq_true rfl) (w' := [(o, .inr (5, [.ref q_1, .ref q_3, .ref q_5, .null, .null, .null, .null, .null, .null, .null, .null, .null, .null, .null, .int 0, .null, .int 0, .null, .null, .int 0])), (q_1, .inr (7, [.ref u_2.1, .ref u_2.2, .int 0])), (q_3, .inr (7, [.ref u_4.1, .ref u_4.2, .int 0])), (q_5, .inr (7, [.ref u_6.1, .ref u_6.2, .int 0]))]) rfl dPl_init_40 (fun H locs h => ?_)
  refine lv_aload_n hx hb dPl_init_43 rfl (lv_at hl 0 rfl) ?_
  refine lv_bipush (v := 6) hx hb dPl_init_44 (by decide) ?_
  refine newA_q C h clPl_28 hE.2.2.2.2.2 (N := 6) (by decide) (by decide) (by decide) (by decide) (by decide) dPl_init_46 (fun q_7 H h => ?_)
  have h : Hx g [(o, .inr (5, [.ref q_1, .ref q_3, .ref q_5, .null, .null, .null, .null, .null, .null, .null, .null, .null, .null, .null, .int 0, .null, .int 0, .null, .null, .int 0])), (q_1, .inr (7, [.ref u_2.1, .ref u_2.2, .int 0])), (q_3, .inr (7, [.ref u_4.1, .ref u_4.2, .int 0])), (q_5, .inr (7, [.ref u_6.1, .ref u_6.2, .int 0])), (q_7, .inl (g.2.2 4, 6, .inr (.inr (.inr (.inr (fun _ => none))))))] A s.heap _ _ := h
  refine W.widen (k := 10) (n := 87) (by decide) (by decide) ?_
  refine opF C h laysPl tyPl tyPl_ok nmPl hnm rfl 0 rfl rfl 3 (by decide) flPl_30 rfl rfl (v := .ref q_7) rfl rfl (Nat.le_of_ble_eq_true rfl) (w' := [(o, .inr (5, [.ref q_1, .ref q_3, .ref q_5, .ref q_7, .null, .null, .null, .null, .null, .null, .null, .null, .null, .null, .int 0, .null, .int 0, .null, .null, .int 0])), (q_1, .inr (7, [.ref u_2.1, .ref u_2.2, .int 0])), (q_3, .inr (7, [.ref u_4.1, .ref u_4.2, .int 0])), (q_5, .inr (7, [.ref u_6.1, .ref u_6.2, .int 0])), (q_7, .inl (g.2.2 4, 6, .inr (.inr (.inr (.inr (fun _ => none))))))]) rfl dPl_init_49 (fun H locs h => ?_)
  refine lv_aload_n hx hb dPl_init_52 rfl (lv_at hl 0 rfl) ?_
  refine lv_bipush (v := 80) hx hb dPl_init_53 (by decide) ?_
  refine newA_i C h (N := 80) (by decide) (by decide) (by decide) (by decide) (by decide) dPl_init_55 (fun q_8 H h => ?_)
  have h : Hx g [(o, .inr (5, [.ref q_1, .ref q_3, .ref q_5, .ref q_7, .null, .null, .null, .null, .null, .null, .null, .null, .null, .null, .int 0, .null, .int 0, .null, .null, .int 0])), (q_1, .inr (7, [.ref u_2.1, .ref u_2.2, .int 0])), (q_3, .inr (7, [.ref u_4.1, .ref u_4.2, .int 0])), (q_5, .inr (7, [.ref u_6.1, .ref u_6.2, .int 0])), (q_7, .inl (g.2.2 4, 6, .inr (.inr (.inr (.inr (fun _ => none)))))), (q_8, .inl (g.2.2 1, 80, .inl (fun _ => 0)))] A s.heap _ _ := h
  refine W.widen (k := 11) (n := 167) (by decide) (by decide) ?_
  refine opF C h laysPl tyPl tyPl_ok nmPl hnm rfl 0 rfl rfl 4 (by decide) flPl_34 rfl rfl (v := .ref q_8) rfl rfl (Nat.le_of_ble_eq_true rfl) (w' := [(o, .inr (5, [.ref q_1, .ref q_3, .ref q_5, .ref q_7, .ref q_8, .null, .null, .null, .null, .null, .null, .null, .null, .null, .int 0, .null, .int 0, .null, .null, .int 0])), (q_1, .inr (7, [.ref u_2.1, .ref u_2.2, .int 0])), (q_3, .inr (7, [.ref u_4.1, .ref u_4.2, .int 0])), (q_5, .inr (7, [.ref u_6.1, .ref u_6.2, .int 0])), (q_7, .inl (g.2.2 4, 6, .inr (.inr (.inr (.inr (fun _ => none)))))), (q_8, .inl (g.2.2 1, 80, .inl (fun _ => 0)))]) rfl dPl_init_57 (fun H locs h => ?_)
  refine lv_aload_n hx hb dPl_init_60 rfl (lv_at hl 0 rfl) ?_
  refine lv_bipush (v := 10) hx hb dPl_init_61 (by decide) ?_
  refine newA_i C h (N := 10) (by decide) (by decide) (by decide) (by decide) (by decide) dPl_init_63 (fun q_9 H h => ?_)
  have h : Hx g [(o, .inr (5, [.ref q_1, .ref q_3, .ref q_5, .ref q_7, .ref q_8, .null, .null, .null, .null, .null, .null, .null, .null, .null, .int 0, .null, .int 0, .null, .null, .int 0])), (q_1, .inr (7, [.ref u_2.1, .ref u_2.2, .int 0])), (q_3, .inr (7, [.ref u_4.1, .ref u_4.2, .int 0])), (q_5, .inr (7, [.ref u_6.1, .ref u_6.2, .int 0])), (q_7, .inl (g.2.2 4, 6, .inr (.inr (.inr (.inr (fun _ => none)))))), (q_8, .inl (g.2.2 1, 80, .inl (fun _ => 0))), (q_9, .inl (g.2.2 1, 10, .inl (fun _ => 0)))] A s.heap _ _ := h
  refine W.widen (k := 12) (n := 177) (by decide) (by decide) ?_
  refine opF C h laysPl tyPl tyPl_ok nmPl hnm rfl 0 rfl rfl 5 (by decide) flPl_38 rfl rfl (v := .ref q_9) rfl rfl (Nat.le_of_ble_eq_true rfl) (w' := [(o, .inr (5, [.ref q_1, .ref q_3, .ref q_5, .ref q_7, .ref q_8, .ref q_9, .null, .null, .null, .null, .null, .null, .null, .null, .int 0, .null, .int 0, .null, .null, .int 0])), (q_1, .inr (7, [.ref u_2.1, .ref u_2.2, .int 0])), (q_3, .inr (7, [.ref u_4.1, .ref u_4.2, .int 0])), (q_5, .inr (7, [.ref u_6.1, .ref u_6.2, .int 0])), (q_7, .inl (g.2.2 4, 6, .inr (.inr (.inr (.inr (fun _ => none)))))), (q_8, .inl (g.2.2 1, 80, .inl (fun _ => 0))), (q_9, .inl (g.2.2 1, 10, .inl (fun _ => 0)))]) rfl dPl_init_65 (fun H locs h => ?_)
  refine lv_aload_n hx hb dPl_init_68 rfl (lv_at hl 0 rfl) ?_
  refine lv_bipush (v := 10) hx hb dPl_init_69 (by decide) ?_
  refine newA_i C h (N := 10) (by decide) (by decide) (by decide) (by decide) (by decide) dPl_init_71 (fun q_10 H h => ?_)
  have h : Hx g [(o, .inr (5, [.ref q_1, .ref q_3, .ref q_5, .ref q_7, .ref q_8, .ref q_9, .null, .null, .null, .null, .null, .null, .null, .null, .int 0, .null, .int 0, .null, .null, .int 0])), (q_1, .inr (7, [.ref u_2.1, .ref u_2.2, .int 0])), (q_3, .inr (7, [.ref u_4.1, .ref u_4.2, .int 0])), (q_5, .inr (7, [.ref u_6.1, .ref u_6.2, .int 0])), (q_7, .inl (g.2.2 4, 6, .inr (.inr (.inr (.inr (fun _ => none)))))), (q_8, .inl (g.2.2 1, 80, .inl (fun _ => 0))), (q_9, .inl (g.2.2 1, 10, .inl (fun _ => 0))), (q_10, .inl (g.2.2 1, 10, .inl (fun _ => 0)))] A s.heap _ _ := h
  refine W.widen (k := 13) (n := 187) (by decide) (by decide) ?_
  refine opF C h laysPl tyPl tyPl_ok nmPl hnm rfl 0 rfl rfl 6 (by decide) flPl_41 rfl rfl (v := .ref q_10) rfl rfl (Nat.le_of_ble_eq_true rfl) (w' := [(o, .inr (5, [.ref q_1, .ref q_3, .ref q_5, .ref q_7, .ref q_8, .ref q_9, .ref q_10, .null, .null, .null, .null, .null, .null, .null, .int 0, .null, .int 0, .null, .null, .int 0])), (q_1, .inr (7, [.ref u_2.1, .ref u_2.2, .int 0])), (q_3, .inr (7, [.ref u_4.1, .ref u_4.2, .int 0])), (q_5, .inr (7, [.ref u_6.1, .ref u_6.2, .int 0])), (q_7, .inl (g.2.2 4, 6, .inr (.inr (.inr (.inr (fun _ => none)))))), (q_8, .inl (g.2.2 1, 80, .inl (fun _ => 0))), (q_9, .inl (g.2.2 1, 10, .inl (fun _ => 0))), (q_10, .inl (g.2.2 1, 10, .inl (fun _ => 0)))]) rfl dPl_init_73 (fun H locs h => ?_)
  refine lv_aload_n hx hb dPl_init_76 rfl (lv_at hl 0 rfl) ?_
  refine lv_bipush (v := 10) hx hb dPl_init_77 (by decide) ?_
  refine newA_i C h (N := 10) (by decide) (by decide) (by decide) (by decide) (by decide) dPl_init_79 (fun q_11 H h => ?_)
  have h : Hx g [(o, .inr (5, [.ref q_1, .ref q_3, .ref q_5, .ref q_7, .ref q_8, .ref q_9, .ref q_10, .null, .null, .null, .null, .null, .null, .null, .int 0, .null, .int 0, .null, .null, .int 0])), (q_1, .inr (7, [.ref u_2.1, .ref u_2.2, .int 0])), (q_3, .inr (7, [.ref u_4.1, .ref u_4.2, .int 0])), (q_5, .inr (7, [.ref u_6.1, .ref u_6.2, .int 0])), (q_7, .inl (g.2.2 4, 6, .inr (.inr (.inr (.inr (fun _ => none)))))), (q_8, .inl (g.2.2 1, 80, .inl (fun _ => 0))), (q_9, .inl (g.2.2 1, 10, .inl (fun _ => 0))), (q_10, .inl (g.2.2 1, 10, .inl (fun _ => 0))), (q_11, .inl (g.2.2 1, 10, .inl (fun _ => 0)))] A s.heap _ _ := h
  refine W.widen (k := 14) (n := 197) (by decide) (by decide) ?_
  refine opF C h laysPl tyPl tyPl_ok nmPl hnm rfl 0 rfl rfl 7 (by decide) flPl_44 rfl rfl (v := .ref q_11) rfl rfl (Nat.le_of_ble_eq_true rfl) (w' := [(o, .inr (5, [.ref q_1, .ref q_3, .ref q_5, .ref q_7, .ref q_8, .ref q_9, .ref q_10, .ref q_11, .null, .null, .null, .null, .null, .null, .int 0, .null, .int 0, .null, .null, .int 0])), (q_1, .inr (7, [.ref u_2.1, .ref u_2.2, .int 0])), (q_3, .inr (7, [.ref u_4.1, .ref u_4.2, .int 0])), (q_5, .inr (7, [.ref u_6.1, .ref u_6.2, .int 0])), (q_7, .inl (g.2.2 4, 6, .inr (.inr (.inr (.inr (fun _ => none)))))), (q_8, .inl (g.2.2 1, 80, .inl (fun _ => 0))), (q_9, .inl (g.2.2 1, 10, .inl (fun _ => 0))), (q_10, .inl (g.2.2 1, 10, .inl (fun _ => 0))), (q_11, .inl (g.2.2 1, 10, .inl (fun _ => 0)))]) rfl dPl_init_81 (fun H locs h => ?_)
  refine lv_aload_n hx hb dPl_init_84 rfl (lv_at hl 0 rfl) ?_
  refine lv_bipush (v := 10) hx hb dPl_init_85 (by decide) ?_
  refine newA_i C h (N := 10) (by decide) (by decide) (by decide) (by decide) (by decide) dPl_init_87 (fun q_12 H h => ?_)
  have h : Hx g [(o, .inr (5, [.ref q_1, .ref q_3, .ref q_5, .ref q_7, .ref q_8, .ref q_9, .ref q_10, .ref q_11, .null, .null, .null, .null, .null, .null, .int 0, .null, .int 0, .null, .null, .int 0])), (q_1, .inr (7, [.ref u_2.1, .ref u_2.2, .int 0])), (q_3, .inr (7, [.ref u_4.1, .ref u_4.2, .int 0])), (q_5, .inr (7, [.ref u_6.1, .ref u_6.2, .int 0])), (q_7, .inl (g.2.2 4, 6, .inr (.inr (.inr (.inr (fun _ => none)))))), (q_8, .inl (g.2.2 1, 80, .inl (fun _ => 0))), (q_9, .inl (g.2.2 1, 10, .inl (fun _ => 0))), (q_10, .inl (g.2.2 1, 10, .inl (fun _ => 0))), (q_11, .inl (g.2.2 1, 10, .inl (fun _ => 0))), (q_12, .inl (g.2.2 1, 10, .inl (fun _ => 0)))] A s.heap _ _ := h
  refine W.widen (k := 15) (n := 207) (by decide) (by decide) ?_
  refine opF C h laysPl tyPl tyPl_ok nmPl hnm rfl 0 rfl rfl 8 (by decide) flPl_47 rfl rfl (v := .ref q_12) rfl rfl (Nat.le_of_ble_eq_true rfl) (w' := [(o, .inr (5, [.ref q_1, .ref q_3, .ref q_5, .ref q_7, .ref q_8, .ref q_9, .ref q_10, .ref q_11, .ref q_12, .null, .null, .null, .null, .null, .int 0, .null, .int 0, .null, .null, .int 0])), (q_1, .inr (7, [.ref u_2.1, .ref u_2.2, .int 0])), (q_3, .inr (7, [.ref u_4.1, .ref u_4.2, .int 0])), (q_5, .inr (7, [.ref u_6.1, .ref u_6.2, .int 0])), (q_7, .inl (g.2.2 4, 6, .inr (.inr (.inr (.inr (fun _ => none)))))), (q_8, .inl (g.2.2 1, 80, .inl (fun _ => 0))), (q_9, .inl (g.2.2 1, 10, .inl (fun _ => 0))), (q_10, .inl (g.2.2 1, 10, .inl (fun _ => 0))), (q_11, .inl (g.2.2 1, 10, .inl (fun _ => 0))), (q_12, .inl (g.2.2 1, 10, .inl (fun _ => 0)))]) rfl dPl_init_89 (fun H locs h => ?_)
  refine lv_aload_n hx hb dPl_init_92 rfl (lv_at hl 0 rfl) ?_
  refine lv_bipush (v := 10) hx hb dPl_init_93 (by decide) ?_
  refine newA_i C h (N := 10) (by decide) (by decide) (by decide) (by decide) (by decide) dPl_init_95 (fun q_13 H h => ?_)
  have h : Hx g [(o, .inr (5, [.ref q_1, .ref q_3, .ref q_5, .ref q_7, .ref q_8, .ref q_9, .ref q_10, .ref q_11, .ref q_12, .null, .null, .null, .null, .null, .int 0, .null, .int 0, .null, .null, .int 0])), (q_1, .inr (7, [.ref u_2.1, .ref u_2.2, .int 0])), (q_3, .inr (7, [.ref u_4.1, .ref u_4.2, .int 0])), (q_5, .inr (7, [.ref u_6.1, .ref u_6.2, .int 0])), (q_7, .inl (g.2.2 4, 6, .inr (.inr (.inr (.inr (fun _ => none)))))), (q_8, .inl (g.2.2 1, 80, .inl (fun _ => 0))), (q_9, .inl (g.2.2 1, 10, .inl (fun _ => 0))), (q_10, .inl (g.2.2 1, 10, .inl (fun _ => 0))), (q_11, .inl (g.2.2 1, 10, .inl (fun _ => 0))), (q_12, .inl (g.2.2 1, 10, .inl (fun _ => 0))), (q_13, .inl (g.2.2 1, 10, .inl (fun _ => 0)))] A s.heap _ _ := h
  refine W.widen (k := 16) (n := 217) (by decide) (by decide) ?_
  refine opF C h laysPl tyPl tyPl_ok nmPl hnm rfl 0 rfl rfl 9 (by decide) flPl_50 rfl rfl (v := .ref q_13) rfl rfl (Nat.le_of_ble_eq_true rfl) (w' := [(o, .inr (5, [.ref q_1, .ref q_3, .ref q_5, .ref q_7, .ref q_8, .ref q_9, .ref q_10, .ref q_11, .ref q_12, .ref q_13, .null, .null, .null, .null, .int 0, .null, .int 0, .null, .null, .int 0])), (q_1, .inr (7, [.ref u_2.1, .ref u_2.2, .int 0])), (q_3, .inr (7, [.ref u_4.1, .ref u_4.2, .int 0])), (q_5, .inr (7, [.ref u_6.1, .ref u_6.2, .int 0])), (q_7, .inl (g.2.2 4, 6, .inr (.inr (.inr (.inr (fun _ => none)))))), (q_8, .inl (g.2.2 1, 80, .inl (fun _ => 0))), (q_9, .inl (g.2.2 1, 10, .inl (fun _ => 0))), (q_10, .inl (g.2.2 1, 10, .inl (fun _ => 0))), (q_11, .inl (g.2.2 1, 10, .inl (fun _ => 0))), (q_12, .inl (g.2.2 1, 10, .inl (fun _ => 0))), (q_13, .inl (g.2.2 1, 10, .inl (fun _ => 0)))]) rfl dPl_init_97 (fun H locs h => ?_)
  refine lv_aload_n hx hb dPl_init_100 rfl (lv_at hl 0 rfl) ?_
  refine lv_sipush (v := 1700) hx hb dPl_init_101 (by decide) ?_
  refine newA_i C h (N := 1700) (by decide) (by decide) (by decide) (by decide) (by decide) dPl_init_104 (fun q_14 H h => ?_)
  have h : Hx g [(o, .inr (5, [.ref q_1, .ref q_3, .ref q_5, .ref q_7, .ref q_8, .ref q_9, .ref q_10, .ref q_11, .ref q_12, .ref q_13, .null, .null, .null, .null, .int 0, .null, .int 0, .null, .null, .int 0])), (q_1, .inr (7, [.ref u_2.1, .ref u_2.2, .int 0])), (q_3, .inr (7, [.ref u_4.1, .ref u_4.2, .int 0])), (q_5, .inr (7, [.ref u_6.1, .ref u_6.2, .int 0])), (q_7, .inl (g.2.2 4, 6, .inr (.inr (.inr (.inr (fun _ => none)))))), (q_8, .inl (g.2.2 1, 80, .inl (fun _ => 0))), (q_9, .inl (g.2.2 1, 10, .inl (fun _ => 0))), (q_10, .inl (g.2.2 1, 10, .inl (fun _ => 0))), (q_11, .inl (g.2.2 1, 10, .inl (fun _ => 0))), (q_12, .inl (g.2.2 1, 10, .inl (fun _ => 0))), (q_13, .inl (g.2.2 1, 10, .inl (fun _ => 0))), (q_14, .inl (g.2.2 1, 1700, .inl (fun _ => 0)))] A s.heap _ _ := h
  refine W.widen (k := 17) (n := 1917) (by decide) (by decide) ?_
  refine opF C h laysPl tyPl tyPl_ok nmPl hnm rfl 0 rfl rfl 10 (by decide) flPl_53 rfl rfl (v := .ref q_14) rfl rfl (Nat.le_of_ble_eq_true rfl) (w' := [(o, .inr (5, [.ref q_1, .ref q_3, .ref q_5, .ref q_7, .ref q_8, .ref q_9, .ref q_10, .ref q_11, .ref q_12, .ref q_13, .ref q_14, .null, .null, .null, .int 0, .null, .int 0, .null, .null, .int 0])), (q_1, .inr (7, [.ref u_2.1, .ref u_2.2, .int 0])), (q_3, .inr (7, [.ref u_4.1, .ref u_4.2, .int 0])), (q_5, .inr (7, [.ref u_6.1, .ref u_6.2, .int 0])), (q_7, .inl (g.2.2 4, 6, .inr (.inr (.inr (.inr (fun _ => none)))))), (q_8, .inl (g.2.2 1, 80, .inl (fun _ => 0))), (q_9, .inl (g.2.2 1, 10, .inl (fun _ => 0))), (q_10, .inl (g.2.2 1, 10, .inl (fun _ => 0))), (q_11, .inl (g.2.2 1, 10, .inl (fun _ => 0))), (q_12, .inl (g.2.2 1, 10, .inl (fun _ => 0))), (q_13, .inl (g.2.2 1, 10, .inl (fun _ => 0))), (q_14, .inl (g.2.2 1, 1700, .inl (fun _ => 0)))]) rfl dPl_init_106 (fun H locs h => ?_)
  refine lv_aload_n hx hb dPl_init_109 rfl (lv_at hl 0 rfl) ?_
  refine lv_sipush (v := 1700) hx hb dPl_init_110 (by decide) ?_
  refine newA_i C h (N := 1700) (by decide) (by decide) (by decide) (by decide) (by decide) dPl_init_113 (fun q_15 H h => ?_)
  have h : Hx g [(o, .inr (5, [.ref q_1, .ref q_3, .ref q_5, .ref q_7, .ref q_8, .ref q_9, .ref q_10, .ref q_11, .ref q_12, .ref q_13, .ref q_14, .null, .null, .null, .int 0, .null, .int 0, .null, .null, .int 0])), (q_1, .inr (7, [.ref u_2.1, .ref u_2.2, .int 0])), (q_3, .inr (7, [.ref u_4.1, .ref u_4.2, .int 0])), (q_5, .inr (7, [.ref u_6.1, .ref u_6.2, .int 0])), (q_7, .inl (g.2.2 4, 6, .inr (.inr (.inr (.inr (fun _ => none)))))), (q_8, .inl (g.2.2 1, 80, .inl (fun _ => 0))), (q_9, .inl (g.2.2 1, 10, .inl (fun _ => 0))), (q_10, .inl (g.2.2 1, 10, .inl (fun _ => 0))), (q_11, .inl (g.2.2 1, 10, .inl (fun _ => 0))), (q_12, .inl (g.2.2 1, 10, .inl (fun _ => 0))), (q_13, .inl (g.2.2 1, 10, .inl (fun _ => 0))), (q_14, .inl (g.2.2 1, 1700, .inl (fun _ => 0))), (q_15, .inl (g.2.2 1, 1700, .inl (fun _ => 0)))] A s.heap _ _ := h
  refine W.widen (k := 18) (n := 3617) (by decide) (by decide) ?_
  refine opF C h laysPl tyPl tyPl_ok nmPl hnm rfl 0 rfl rfl 11 (by decide) flPl_56 rfl rfl (v := .ref q_15) rfl rfl (Nat.le_of_ble_eq_true rfl) (w' := [(o, .inr (5, [.ref q_1, .ref q_3, .ref q_5, .ref q_7, .ref q_8, .ref q_9, .ref q_10, .ref q_11, .ref q_12, .ref q_13, .ref q_14, .ref q_15, .null, .null, .int 0, .null, .int 0, .null, .null, .int 0])), (q_1, .inr (7, [.ref u_2.1, .ref u_2.2, .int 0])), (q_3, .inr (7, [.ref u_4.1, .ref u_4.2, .int 0])), (q_5, .inr (7, [.ref u_6.1, .ref u_6.2, .int 0])), (q_7, .inl (g.2.2 4, 6, .inr (.inr (.inr (.inr (fun _ => none)))))), (q_8, .inl (g.2.2 1, 80, .inl (fun _ => 0))), (q_9, .inl (g.2.2 1, 10, .inl (fun _ => 0))), (q_10, .inl (g.2.2 1, 10, .inl (fun _ => 0))), (q_11, .inl (g.2.2 1, 10, .inl (fun _ => 0))), (q_12, .inl (g.2.2 1, 10, .inl (fun _ => 0))), (q_13, .inl (g.2.2 1, 10, .inl (fun _ => 0))), (q_14, .inl (g.2.2 1, 1700, .inl (fun _ => 0))), (q_15, .inl (g.2.2 1, 1700, .inl (fun _ => 0)))]) rfl dPl_init_115 (fun H locs h => ?_)
  refine lv_aload_n hx hb dPl_init_118 rfl (lv_at hl 0 rfl) ?_
  refine lv_sipush (v := 1700) hx hb dPl_init_119 (by decide) ?_
  refine newA_i C h (N := 1700) (by decide) (by decide) (by decide) (by decide) (by decide) dPl_init_122 (fun q_16 H h => ?_)
  have h : Hx g [(o, .inr (5, [.ref q_1, .ref q_3, .ref q_5, .ref q_7, .ref q_8, .ref q_9, .ref q_10, .ref q_11, .ref q_12, .ref q_13, .ref q_14, .ref q_15, .null, .null, .int 0, .null, .int 0, .null, .null, .int 0])), (q_1, .inr (7, [.ref u_2.1, .ref u_2.2, .int 0])), (q_3, .inr (7, [.ref u_4.1, .ref u_4.2, .int 0])), (q_5, .inr (7, [.ref u_6.1, .ref u_6.2, .int 0])), (q_7, .inl (g.2.2 4, 6, .inr (.inr (.inr (.inr (fun _ => none)))))), (q_8, .inl (g.2.2 1, 80, .inl (fun _ => 0))), (q_9, .inl (g.2.2 1, 10, .inl (fun _ => 0))), (q_10, .inl (g.2.2 1, 10, .inl (fun _ => 0))), (q_11, .inl (g.2.2 1, 10, .inl (fun _ => 0))), (q_12, .inl (g.2.2 1, 10, .inl (fun _ => 0))), (q_13, .inl (g.2.2 1, 10, .inl (fun _ => 0))), (q_14, .inl (g.2.2 1, 1700, .inl (fun _ => 0))), (q_15, .inl (g.2.2 1, 1700, .inl (fun _ => 0))), (q_16, .inl (g.2.2 1, 1700, .inl (fun _ => 0)))] A s.heap _ _ := h
  refine W.widen (k := 19) (n := 5317) (by decide) (by decide) ?_
  refine opF C h laysPl tyPl tyPl_ok nmPl hnm rfl 0 rfl rfl 12 (by decide) flPl_59 rfl rfl (v := .ref q_16) rfl rfl (Nat.le_of_ble_eq_true rfl) (w' := [(o, .inr (5, [.ref q_1, .ref q_3, .ref q_5, .ref q_7, .ref q_8, .ref q_9, .ref q_10, .ref q_11, .ref q_12, .ref q_13, .ref q_14, .ref q_15, .ref q_16, .null, .int 0, .null, .int 0, .null, .null, .int 0])), (q_1, .inr (7, [.ref u_2.1, .ref u_2.2, .int 0])), (q_3, .inr (7, [.ref u_4.1, .ref u_4.2, .int 0])), (q_5, .inr (7, [.ref u_6.1, .ref u_6.2, .int 0])), (q_7, .inl (g.2.2 4, 6, .inr (.inr (.inr (.inr (fun _ => none)))))), (q_8, .inl (g.2.2 1, 80, .inl (fun _ => 0))), (q_9, .inl (g.2.2 1, 10, .inl (fun _ => 0))), (q_10, .inl (g.2.2 1, 10, .inl (fun _ => 0))), (q_11, .inl (g.2.2 1, 10, .inl (fun _ => 0))), (q_12, .inl (g.2.2 1, 10, .inl (fun _ => 0))), (q_13, .inl (g.2.2 1, 10, .inl (fun _ => 0))), (q_14, .inl (g.2.2 1, 1700, .inl (fun _ => 0))), (q_15, .inl (g.2.2 1, 1700, .inl (fun _ => 0))), (q_16, .inl (g.2.2 1, 1700, .inl (fun _ => 0)))]) rfl dPl_init_124 (fun H locs h => ?_)
  refine lv_aload_n hx hb dPl_init_127 rfl (lv_at hl 0 rfl) ?_
  refine lv_sipush (v := 1700) hx hb dPl_init_128 (by decide) ?_
  refine newA_i C h (N := 1700) (by decide) (by decide) (by decide) (by decide) (by decide) dPl_init_131 (fun q_17 H h => ?_)
  have h : Hx g [(o, .inr (5, [.ref q_1, .ref q_3, .ref q_5, .ref q_7, .ref q_8, .ref q_9, .ref q_10, .ref q_11, .ref q_12, .ref q_13, .ref q_14, .ref q_15, .ref q_16, .null, .int 0, .null, .int 0, .null, .null, .int 0])), (q_1, .inr (7, [.ref u_2.1, .ref u_2.2, .int 0])), (q_3, .inr (7, [.ref u_4.1, .ref u_4.2, .int 0])), (q_5, .inr (7, [.ref u_6.1, .ref u_6.2, .int 0])), (q_7, .inl (g.2.2 4, 6, .inr (.inr (.inr (.inr (fun _ => none)))))), (q_8, .inl (g.2.2 1, 80, .inl (fun _ => 0))), (q_9, .inl (g.2.2 1, 10, .inl (fun _ => 0))), (q_10, .inl (g.2.2 1, 10, .inl (fun _ => 0))), (q_11, .inl (g.2.2 1, 10, .inl (fun _ => 0))), (q_12, .inl (g.2.2 1, 10, .inl (fun _ => 0))), (q_13, .inl (g.2.2 1, 10, .inl (fun _ => 0))), (q_14, .inl (g.2.2 1, 1700, .inl (fun _ => 0))), (q_15, .inl (g.2.2 1, 1700, .inl (fun _ => 0))), (q_16, .inl (g.2.2 1, 1700, .inl (fun _ => 0))), (q_17, .inl (g.2.2 1, 1700, .inl (fun _ => 0)))] A s.heap _ _ := h
  refine W.widen (k := 20) (n := 7017) (by decide) (by decide) ?_
  refine opF C h laysPl tyPl tyPl_ok nmPl hnm rfl 0 rfl rfl 13 (by decide) flPl_62 rfl rfl (v := .ref q_17) rfl rfl (Nat.le_of_ble_eq_true rfl) (w' := [(o, .inr (5, [.ref q_1, .ref q_3, .ref q_5, .ref q_7, .ref q_8, .ref q_9, .ref q_10, .ref q_11, .ref q_12, .ref q_13, .ref q_14, .ref q_15, .ref q_16, .ref q_17, .int 0, .null, .int 0, .null, .null, .int 0])), (q_1, .inr (7, [.ref u_2.1, .ref u_2.2, .int 0])), (q_3, .inr (7, [.ref u_4.1, .ref u_4.2, .int 0])), (q_5, .inr (7, [.ref u_6.1, .ref u_6.2, .int 0])), (q_7, .inl (g.2.2 4, 6, .inr (.inr (.inr (.inr (fun _ => none)))))), (q_8, .inl (g.2.2 1, 80, .inl (fun _ => 0))), (q_9, .inl (g.2.2 1, 10, .inl (fun _ => 0))), (q_10, .inl (g.2.2 1, 10, .inl (fun _ => 0))), (q_11, .inl (g.2.2 1, 10, .inl (fun _ => 0))), (q_12, .inl (g.2.2 1, 10, .inl (fun _ => 0))), (q_13, .inl (g.2.2 1, 10, .inl (fun _ => 0))), (q_14, .inl (g.2.2 1, 1700, .inl (fun _ => 0))), (q_15, .inl (g.2.2 1, 1700, .inl (fun _ => 0))), (q_16, .inl (g.2.2 1, 1700, .inl (fun _ => 0))), (q_17, .inl (g.2.2 1, 1700, .inl (fun _ => 0)))]) rfl dPl_init_133 (fun H locs h => ?_)
  refine lv_aload_n hx hb dPl_init_136 rfl (lv_at hl 0 rfl) ?_
  refine lv_sipush (v := 4960) hx hb dPl_init_137 (by decide) ?_
  refine newA_i C h (N := 4960) (by decide) (by decide) (by decide) (by decide) (by decide) dPl_init_140 (fun q_18 H h => ?_)
  have h : Hx g [(o, .inr (5, [.ref q_1, .ref q_3, .ref q_5, .ref q_7, .ref q_8, .ref q_9, .ref q_10, .ref q_11, .ref q_12, .ref q_13, .ref q_14, .ref q_15, .ref q_16, .ref q_17, .int 0, .null, .int 0, .null, .null, .int 0])), (q_1, .inr (7, [.ref u_2.1, .ref u_2.2, .int 0])), (q_3, .inr (7, [.ref u_4.1, .ref u_4.2, .int 0])), (q_5, .inr (7, [.ref u_6.1, .ref u_6.2, .int 0])), (q_7, .inl (g.2.2 4, 6, .inr (.inr (.inr (.inr (fun _ => none)))))), (q_8, .inl (g.2.2 1, 80, .inl (fun _ => 0))), (q_9, .inl (g.2.2 1, 10, .inl (fun _ => 0))), (q_10, .inl (g.2.2 1, 10, .inl (fun _ => 0))), (q_11, .inl (g.2.2 1, 10, .inl (fun _ => 0))), (q_12, .inl (g.2.2 1, 10, .inl (fun _ => 0))), (q_13, .inl (g.2.2 1, 10, .inl (fun _ => 0))), (q_14, .inl (g.2.2 1, 1700, .inl (fun _ => 0))), (q_15, .inl (g.2.2 1, 1700, .inl (fun _ => 0))), (q_16, .inl (g.2.2 1, 1700, .inl (fun _ => 0))), (q_17, .inl (g.2.2 1, 1700, .inl (fun _ => 0))), (q_18, .inl (g.2.2 1, 4960, .inl (fun _ => 0)))] A s.heap _ _ := h
  refine W.widen (k := 21) (n := 11977) (by decide) (by decide) ?_
  refine opF C h laysPl tyPl tyPl_ok nmPl hnm rfl 0 rfl rfl 15 (by decide) flPl_65 rfl rfl (v := .ref q_18) rfl rfl (Nat.le_of_ble_eq_true rfl) (w' := [(o, .inr (5, [.ref q_1, .ref q_3, .ref q_5, .ref q_7, .ref q_8, .ref q_9, .ref q_10, .ref q_11, .ref q_12, .ref q_13, .ref q_14, .ref q_15, .ref q_16, .ref q_17, .int 0, .ref q_18, .int 0, .null, .null, .int 0])), (q_1, .inr (7, [.ref u_2.1, .ref u_2.2, .int 0])), (q_3, .inr (7, [.ref u_4.1, .ref u_4.2, .int 0])), (q_5, .inr (7, [.ref u_6.1, .ref u_6.2, .int 0])), (q_7, .inl (g.2.2 4, 6, .inr (.inr (.inr (.inr (fun _ => none)))))), (q_8, .inl (g.2.2 1, 80, .inl (fun _ => 0))), (q_9, .inl (g.2.2 1, 10, .inl (fun _ => 0))), (q_10, .inl (g.2.2 1, 10, .inl (fun _ => 0))), (q_11, .inl (g.2.2 1, 10, .inl (fun _ => 0))), (q_12, .inl (g.2.2 1, 10, .inl (fun _ => 0))), (q_13, .inl (g.2.2 1, 10, .inl (fun _ => 0))), (q_14, .inl (g.2.2 1, 1700, .inl (fun _ => 0))), (q_15, .inl (g.2.2 1, 1700, .inl (fun _ => 0))), (q_16, .inl (g.2.2 1, 1700, .inl (fun _ => 0))), (q_17, .inl (g.2.2 1, 1700, .inl (fun _ => 0))), (q_18, .inl (g.2.2 1, 4960, .inl (fun _ => 0)))]) rfl dPl_init_142 (fun H locs h => ?_)
  refine lv_aload_n hx hb dPl_init_145 rfl (lv_at hl 0 rfl) ?_
  refine lv_sipush (v := 1728) hx hb dPl_init_146 (by decide) ?_
  refine newA_i C h (N := 1728) (by decide) (by decide) (by decide) (by decide) (by decide) dPl_init_149 (fun q_19 H h => ?_)
  have h : Hx g [(o, .inr (5, [.ref q_1, .ref q_3, .ref q_5, .ref q_7, .ref q_8, .ref q_9, .ref q_10, .ref q_11, .ref q_12, .ref q_13, .ref q_14, .ref q_15, .ref q_16, .ref q_17, .int 0, .ref q_18, .int 0, .null, .null, .int 0])), (q_1, .inr (7, [.ref u_2.1, .ref u_2.2, .int 0])), (q_3, .inr (7, [.ref u_4.1, .ref u_4.2, .int 0])), (q_5, .inr (7, [.ref u_6.1, .ref u_6.2, .int 0])), (q_7, .inl (g.2.2 4, 6, .inr (.inr (.inr (.inr (fun _ => none)))))), (q_8, .inl (g.2.2 1, 80, .inl (fun _ => 0))), (q_9, .inl (g.2.2 1, 10, .inl (fun _ => 0))), (q_10, .inl (g.2.2 1, 10, .inl (fun _ => 0))), (q_11, .inl (g.2.2 1, 10, .inl (fun _ => 0))), (q_12, .inl (g.2.2 1, 10, .inl (fun _ => 0))), (q_13, .inl (g.2.2 1, 10, .inl (fun _ => 0))), (q_14, .inl (g.2.2 1, 1700, .inl (fun _ => 0))), (q_15, .inl (g.2.2 1, 1700, .inl (fun _ => 0))), (q_16, .inl (g.2.2 1, 1700, .inl (fun _ => 0))), (q_17, .inl (g.2.2 1, 1700, .inl (fun _ => 0))), (q_18, .inl (g.2.2 1, 4960, .inl (fun _ => 0))), (q_19, .inl (g.2.2 1, 1728, .inl (fun _ => 0)))] A s.heap _ _ := h
  refine W.widen (k := 22) (n := 13705) (by decide) (by decide) ?_
  refine opF C h laysPl tyPl tyPl_ok nmPl hnm rfl 0 rfl rfl 17 (by decide) flPl_68 rfl rfl (v := .ref q_19) rfl rfl (Nat.le_of_ble_eq_true rfl) (w' := [(o, .inr (5, [.ref q_1, .ref q_3, .ref q_5, .ref q_7, .ref q_8, .ref q_9, .ref q_10, .ref q_11, .ref q_12, .ref q_13, .ref q_14, .ref q_15, .ref q_16, .ref q_17, .int 0, .ref q_18, .int 0, .ref q_19, .null, .int 0])), (q_1, .inr (7, [.ref u_2.1, .ref u_2.2, .int 0])), (q_3, .inr (7, [.ref u_4.1, .ref u_4.2, .int 0])), (q_5, .inr (7, [.ref u_6.1, .ref u_6.2, .int 0])), (q_7, .inl (g.2.2 4, 6, .inr (.inr (.inr (.inr (fun _ => none)))))), (q_8, .inl (g.2.2 1, 80, .inl (fun _ => 0))), (q_9, .inl (g.2.2 1, 10, .inl (fun _ => 0))), (q_10, .inl (g.2.2 1, 10, .inl (fun _ => 0))), (q_11, .inl (g.2.2 1, 10, .inl (fun _ => 0))), (q_12, .inl (g.2.2 1, 10, .inl (fun _ => 0))), (q_13, .inl (g.2.2 1, 10, .inl (fun _ => 0))), (q_14, .inl (g.2.2 1, 1700, .inl (fun _ => 0))), (q_15, .inl (g.2.2 1, 1700, .inl (fun _ => 0))), (q_16, .inl (g.2.2 1, 1700, .inl (fun _ => 0))), (q_17, .inl (g.2.2 1, 1700, .inl (fun _ => 0))), (q_18, .inl (g.2.2 1, 4960, .inl (fun _ => 0))), (q_19, .inl (g.2.2 1, 1728, .inl (fun _ => 0)))]) rfl dPl_init_151 (fun H locs h => ?_)
  refine lv_aload_n hx hb dPl_init_154 rfl (lv_at hl 0 rfl) ?_
  refine lv_sipush (v := 400) hx hb dPl_init_155 (by decide) ?_
  refine newA_i C h (N := 400) (by decide) (by decide) (by decide) (by decide) (by decide) dPl_init_158 (fun q_20 H h => ?_)
  have h : Hx g [(o, .inr (5, [.ref q_1, .ref q_3, .ref q_5, .ref q_7, .ref q_8, .ref q_9, .ref q_10, .ref q_11, .ref q_12, .ref q_13, .ref q_14, .ref q_15, .ref q_16, .ref q_17, .int 0, .ref q_18, .int 0, .ref q_19, .null, .int 0])), (q_1, .inr (7, [.ref u_2.1, .ref u_2.2, .int 0])), (q_3, .inr (7, [.ref u_4.1, .ref u_4.2, .int 0])), (q_5, .inr (7, [.ref u_6.1, .ref u_6.2, .int 0])), (q_7, .inl (g.2.2 4, 6, .inr (.inr (.inr (.inr (fun _ => none)))))), (q_8, .inl (g.2.2 1, 80, .inl (fun _ => 0))), (q_9, .inl (g.2.2 1, 10, .inl (fun _ => 0))), (q_10, .inl (g.2.2 1, 10, .inl (fun _ => 0))), (q_11, .inl (g.2.2 1, 10, .inl (fun _ => 0))), (q_12, .inl (g.2.2 1, 10, .inl (fun _ => 0))), (q_13, .inl (g.2.2 1, 10, .inl (fun _ => 0))), (q_14, .inl (g.2.2 1, 1700, .inl (fun _ => 0))), (q_15, .inl (g.2.2 1, 1700, .inl (fun _ => 0))), (q_16, .inl (g.2.2 1, 1700, .inl (fun _ => 0))), (q_17, .inl (g.2.2 1, 1700, .inl (fun _ => 0))), (q_18, .inl (g.2.2 1, 4960, .inl (fun _ => 0))), (q_19, .inl (g.2.2 1, 1728, .inl (fun _ => 0))), (q_20, .inl (g.2.2 1, 400, .inl (fun _ => 0)))] A s.heap _ _ := h
  refine W.widen (k := 23) (n := 14105) (by decide) (by decide) ?_
  refine opF C h laysPl tyPl tyPl_ok nmPl hnm rfl 0 rfl rfl 18 (by decide) flPl_71 rfl rfl (v := .ref q_20) rfl rfl (Nat.le_of_ble_eq_true rfl) (w' := [(o, .inr (5, [.ref q_1, .ref q_3, .ref q_5, .ref q_7, .ref q_8, .ref q_9, .ref q_10, .ref q_11, .ref q_12, .ref q_13, .ref q_14, .ref q_15, .ref q_16, .ref q_17, .int 0, .ref q_18, .int 0, .ref q_19, .ref q_20, .int 0])), (q_1, .inr (7, [.ref u_2.1, .ref u_2.2, .int 0])), (q_3, .inr (7, [.ref u_4.1, .ref u_4.2, .int 0])), (q_5, .inr (7, [.ref u_6.1, .ref u_6.2, .int 0])), (q_7, .inl (g.2.2 4, 6, .inr (.inr (.inr (.inr (fun _ => none)))))), (q_8, .inl (g.2.2 1, 80, .inl (fun _ => 0))), (q_9, .inl (g.2.2 1, 10, .inl (fun _ => 0))), (q_10, .inl (g.2.2 1, 10, .inl (fun _ => 0))), (q_11, .inl (g.2.2 1, 10, .inl (fun _ => 0))), (q_12, .inl (g.2.2 1, 10, .inl (fun _ => 0))), (q_13, .inl (g.2.2 1, 10, .inl (fun _ => 0))), (q_14, .inl (g.2.2 1, 1700, .inl (fun _ => 0))), (q_15, .inl (g.2.2 1, 1700, .inl (fun _ => 0))), (q_16, .inl (g.2.2 1, 1700, .inl (fun _ => 0))), (q_17, .inl (g.2.2 1, 1700, .inl (fun _ => 0))), (q_18, .inl (g.2.2 1, 4960, .inl (fun _ => 0))), (q_19, .inl (g.2.2 1, 1728, .inl (fun _ => 0))), (q_20, .inl (g.2.2 1, 400, .inl (fun _ => 0)))]) rfl dPl_init_160 (fun H locs h => ?_)
  refine lv_iconst (v := 0) hx hb dPl_init_163 (by decide) ?_
  refine lv_istore_n (lv' := [(1, .int (0)), (0, .ref o)]) hx hb dPl_init_164 rfl hl (by decide) rfl (fun ls hl => ?_)
  refine lv_iload_n hx hb dPl_init_165 rfl (lv_at hl 0 rfl) ?_
  refine lv_bipush (v := 6) hx hb dPl_init_166 (by decide) ?_
  refine lv_icmp_ge (tgt := 190) hx hb dPl_init_168 (by decide) (fun c168 => absurd c168 (by decide)) (fun c168 => ?_)
  refine lv_aload_n hx hb dPl_init_171 rfl (lv_at hl 1 rfl) ?_
  refine og C h laysPl 0 rfl rfl 3 (by decide) flPl_30 rfl (v := .ref q_7) rfl dPl_init_172 ?_
  refine lv_iload_n hx hb dPl_init_175 rfl (lv_at hl 0 rfl) ?_
  refine on C h laysKd tyKd tyKd_ok clPl_28 kiKd knKd rfl dfKd (by decide) (by decide) dPl_init_176 (fun q_21 H h => ?_)
  have h : Hx g [(o, .inr (5, [.ref q_1, .ref q_3, .ref q_5, .ref q_7, .ref q_8, .ref q_9, .ref q_10, .ref q_11, .ref q_12, .ref q_13, .ref q_14, .ref q_15, .ref q_16, .ref q_17, .int 0, .ref q_18, .int 0, .ref q_19, .ref q_20, .int 0])), (q_1, .inr (7, [.ref u_2.1, .ref u_2.2, .int 0])), (q_3, .inr (7, [.ref u_4.1, .ref u_4.2, .int 0])), (q_5, .inr (7, [.ref u_6.1, .ref u_6.2, .int 0])), (q_7, .inl (g.2.2 4, 6, .inr (.inr (.inr (.inr (fun _ => none)))))), (q_8, .inl (g.2.2 1, 80, .inl (fun _ => 0))), (q_9, .inl (g.2.2 1, 10, .inl (fun _ => 0))), (q_10, .inl (g.2.2 1, 10, .inl (fun _ => 0))), (q_11, .inl (g.2.2 1, 10, .inl (fun _ => 0))), (q_12, .inl (g.2.2 1, 10, .inl (fun _ => 0))), (q_13, .inl (g.2.2 1, 10, .inl (fun _ => 0))), (q_14, .inl (g.2.2 1, 1700, .inl (fun _ => 0))), (q_15, .inl (g.2.2 1, 1700, .inl (fun _ => 0))), (q_16, .inl (g.2.2 1, 1700, .inl (fun _ => 0))), (q_17, .inl (g.2.2 1, 1700, .inl (fun _ => 0))), (q_18, .inl (g.2.2 1, 4960, .inl (fun _ => 0))), (q_19, .inl (g.2.2 1, 1728, .inl (fun _ => 0))), (q_20, .inl (g.2.2 1, 400, .inl (fun _ => 0))), (q_21, .inr (6, [.null, .null, .null, .null, .null, .null, .null, .null, .int 0, .int 0, .int 0, .int 0, .int 0, .int 0, .int 0, .int 0, .int 0]))] A s.heap _ _ := h
  refine W.widen (k := 24) (n := 14122) (by decide) (by decide) ?_
  refine lv_dup hx hb dPl_init_179 rfl ?_
  refine KV.callIN (As := []) (wc := [(q_21, .inr (6, [.null, .null, .null, .null, .null, .null, .null, .null, .int 0, .int 0, .int 0, .int 0, .int 0, .int 0, .int 0, .int 0, .int 0]))]) (wr := [(o, .inr (5, [.ref q_1, .ref q_3, .ref q_5, .ref q_7, .ref q_8, .ref q_9, .ref q_10, .ref q_11, .ref q_12, .ref q_13, .ref q_14, .ref q_15, .ref q_16, .ref q_17, .int 0, .ref q_18, .int 0, .ref q_19, .ref q_20, .int 0])), (q_1, .inr (7, [.ref u_2.1, .ref u_2.2, .int 0])), (q_3, .inr (7, [.ref u_4.1, .ref u_4.2, .int 0])), (q_5, .inr (7, [.ref u_6.1, .ref u_6.2, .int 0])), (q_7, .inl (g.2.2 4, 6, .inr (.inr (.inr (.inr (fun _ => none)))))), (q_8, .inl (g.2.2 1, 80, .inl (fun _ => 0))), (q_9, .inl (g.2.2 1, 10, .inl (fun _ => 0))), (q_10, .inl (g.2.2 1, 10, .inl (fun _ => 0))), (q_11, .inl (g.2.2 1, 10, .inl (fun _ => 0))), (q_12, .inl (g.2.2 1, 10, .inl (fun _ => 0))), (q_13, .inl (g.2.2 1, 10, .inl (fun _ => 0))), (q_14, .inl (g.2.2 1, 1700, .inl (fun _ => 0))), (q_15, .inl (g.2.2 1, 1700, .inl (fun _ => 0))), (q_16, .inl (g.2.2 1, 1700, .inl (fun _ => 0))), (q_17, .inl (g.2.2 1, 1700, .inl (fun _ => 0))), (q_18, .inl (g.2.2 1, 4960, .inl (fun _ => 0))), (q_19, .inl (g.2.2 1, 1728, .inl (fun _ => 0))), (q_20, .inl (g.2.2 1, 400, .inl (fun _ => 0)))]) C h [18] [0, 1, 2, 3, 4, 5, 6, 7, 8, 9, 10, 11, 12, 13, 14, 15, 16, 17] rfl rfl (by decide) (by decide) (by decide) (i_Kd l g q_21) (hE.2.2.2.2.1 _ (by decide)) imKd_init iiKd_init icKd_init npKd_init rfl ⟨by decide, by decide⟩ hl.1 rfl (Nat.le_of_ble_eq_true rfl) dPl_init_180 ⟨by decide, by decide⟩ (fun u_22 H locs hp h => ?_)
  have h : Hx g [(o, .inr (5, [.ref q_1, .ref q_3, .ref q_5, .ref q_7, .ref q_8, .ref q_9, .ref q_10, .ref q_11, .ref q_12, .ref q_13, .ref q_14, .ref q_15, .ref q_16, .ref q_17, .int 0, .ref q_18, .int 0, .ref q_19, .ref q_20, .int 0])), (q_1, .inr (7, [.ref u_2.1, .ref u_2.2, .int 0])), (q_3, .inr (7, [.ref u_4.1, .ref u_4.2, .int 0])), (q_5, .inr (7, [.ref u_6.1, .ref u_6.2, .int 0])), (q_7, .inl (g.2.2 4, 6, .inr (.inr (.inr (.inr (fun _ => none)))))), (q_8, .inl (g.2.2 1, 80, .inl (fun _ => 0))), (q_9, .inl (g.2.2 1, 10, .inl (fun _ => 0))), (q_10, .inl (g.2.2 1, 10, .inl (fun _ => 0))), (q_11, .inl (g.2.2 1, 10, .inl (fun _ => 0))), (q_12, .inl (g.2.2 1, 10, .inl (fun _ => 0))), (q_13, .inl (g.2.2 1, 10, .inl (fun _ => 0))), (q_14, .inl (g.2.2 1, 1700, .inl (fun _ => 0))), (q_15, .inl (g.2.2 1, 1700, .inl (fun _ => 0))), (q_16, .inl (g.2.2 1, 1700, .inl (fun _ => 0))), (q_17, .inl (g.2.2 1, 1700, .inl (fun _ => 0))), (q_18, .inl (g.2.2 1, 4960, .inl (fun _ => 0))), (q_19, .inl (g.2.2 1, 1728, .inl (fun _ => 0))), (q_20, .inl (g.2.2 1, 400, .inl (fun _ => 0))), (q_21, .inr (6, [.ref (u_22 0), .ref (u_22 1), .ref (u_22 2), .ref (u_22 3), .ref (u_22 4), .ref (u_22 5), .ref (u_22 6), .ref (u_22 7), .int 0, .int 0, .int 0, .int 0, .int 0, .int 0, .int 0, .int 0, .int 0]))] A s.heap _ _ := h
  refine W.widen (k := 40) (n := 14234) (by decide) (by decide) ?_
  refine va_astq C.1.1 C.1.2.1 C.2 h.1 h.2.1 h.2.2.1 4 4 18 6 rfl rfl rfl rfl (pk_in 0 6 (by decide) rfl) dPl_init_183 (fun H locs hP hD hS => ?_)
  have h : Hx g [(o, .inr (5, [.ref q_1, .ref q_3, .ref q_5, .ref q_7, .ref q_8, .ref q_9, .ref q_10, .ref q_11, .ref q_12, .ref q_13, .ref q_14, .ref q_15, .ref q_16, .ref q_17, .int 0, .ref q_18, .int 0, .ref q_19, .ref q_20, .int 0])), (q_1, .inr (7, [.ref u_2.1, .ref u_2.2, .int 0])), (q_3, .inr (7, [.ref u_4.1, .ref u_4.2, .int 0])), (q_5, .inr (7, [.ref u_6.1, .ref u_6.2, .int 0])), (q_7, .inl (g.2.2 4, 6, .inr (.inr (.inr (.inr (va_up (fun _ => none) (0 : Int32).toNatClampNeg (some q_21))))))), (q_8, .inl (g.2.2 1, 80, .inl (fun _ => 0))), (q_9, .inl (g.2.2 1, 10, .inl (fun _ => 0))), (q_10, .inl (g.2.2 1, 10, .inl (fun _ => 0))), (q_11, .inl (g.2.2 1, 10, .inl (fun _ => 0))), (q_12, .inl (g.2.2 1, 10, .inl (fun _ => 0))), (q_13, .inl (g.2.2 1, 10, .inl (fun _ => 0))), (q_14, .inl (g.2.2 1, 1700, .inl (fun _ => 0))), (q_15, .inl (g.2.2 1, 1700, .inl (fun _ => 0))), (q_16, .inl (g.2.2 1, 1700, .inl (fun _ => 0))), (q_17, .inl (g.2.2 1, 1700, .inl (fun _ => 0))), (q_18, .inl (g.2.2 1, 4960, .inl (fun _ => 0))), (q_19, .inl (g.2.2 1, 1728, .inl (fun _ => 0))), (q_20, .inl (g.2.2 1, 400, .inl (fun _ => 0))), (q_21, .inr (6, [.ref (u_22 0), .ref (u_22 1), .ref (u_22 2), .ref (u_22 3), .ref (u_22 4), .ref (u_22 5), .ref (u_22 6), .ref (u_22 7), .int 0, .int 0, .int 0, .int 0, .int 0, .int 0, .int 0, .int 0, .int 0]))] A s.heap _ _ := ⟨hP, hD, hS, h.2.2.2⟩
  generalize (va_up (fun _ => none) (0 : Int32).toNatClampNeg (some q_21)) = f_23 at h
  have h : Hx g [(o, .inr (5, [.ref q_1, .ref q_3, .ref q_5, .ref q_7, .ref q_8, .ref q_9, .ref q_10, .ref q_11, .ref q_12, .ref q_13, .ref q_14, .ref q_15, .ref q_16, .ref q_17, .int 0, .ref q_18, .int 0, .ref q_19, .ref q_20, .int 0])), (q_1, .inr (7, [.ref u_2.1, .ref u_2.2, .int 0])), (q_3, .inr (7, [.ref u_4.1, .ref u_4.2, .int 0])), (q_5, .inr (7, [.ref u_6.1, .ref u_6.2, .int 0])), (q_7, .inl (g.2.2 4, 6, .inr (.inr (.inr (.inr f_23))))), (q_8, .inl (g.2.2 1, 80, .inl (fun _ => 0))), (q_9, .inl (g.2.2 1, 10, .inl (fun _ => 0))), (q_10, .inl (g.2.2 1, 10, .inl (fun _ => 0))), (q_11, .inl (g.2.2 1, 10, .inl (fun _ => 0))), (q_12, .inl (g.2.2 1, 10, .inl (fun _ => 0))), (q_13, .inl (g.2.2 1, 10, .inl (fun _ => 0))), (q_14, .inl (g.2.2 1, 1700, .inl (fun _ => 0))), (q_15, .inl (g.2.2 1, 1700, .inl (fun _ => 0))), (q_16, .inl (g.2.2 1, 1700, .inl (fun _ => 0))), (q_17, .inl (g.2.2 1, 1700, .inl (fun _ => 0))), (q_18, .inl (g.2.2 1, 4960, .inl (fun _ => 0))), (q_19, .inl (g.2.2 1, 1728, .inl (fun _ => 0))), (q_20, .inl (g.2.2 1, 400, .inl (fun _ => 0)))] A s.heap _ _ := h.cut [0, 1, 2, 3, 4, 5, 6, 7, 8, 9, 10, 11, 12, 13, 14, 15, 16, 17] (by decide) rfl
  refine lv_iinc (v := 1) (lv' := [(1, .int (1)), (0, .ref o)]) hx hb dPl_init_184 hl (k := 0) rfl (by decide) (by decide) rfl (fun ls hl => ?_)
  refine lv_goto (tgt := 165) hx hb dPl_init_187 (by decide) ?_
  refine lv_iload_n hx hb dPl_init_165 rfl (lv_at hl 0 rfl) ?_
  refine lv_bipush (v := 6) hx hb dPl_init_166 (by decide) ?_
  refine lv_icmp_ge (tgt := 190) hx hb dPl_init_168 (by decide) (fun c168 => absurd c168 (by decide)) (fun c168 => ?_)
  refine lv_aload_n hx hb dPl_init_171 rfl (lv_at hl 1 rfl) ?_
  refine og C h laysPl 0 rfl rfl 3 (by decide) flPl_30 rfl (v := .ref q_7) rfl dPl_init_172 ?_
  refine lv_iload_n hx hb dPl_init_175 rfl (lv_at hl 0 rfl) ?_
  refine on C h laysKd tyKd tyKd_ok clPl_28 kiKd knKd rfl dfKd (by decide) (by decide) dPl_init_176 (fun q_24 H h => ?_)
  have h : Hx g [(o, .inr (5, [.ref q_1, .ref q_3, .ref q_5, .ref q_7, .ref q_8, .ref q_9, .ref q_10, .ref q_11, .ref q_12, .ref q_13, .ref q_14, .ref q_15, .ref q_16, .ref q_17, .int 0, .ref q_18, .int 0, .ref q_19, .ref q_20, .int 0])), (q_1, .inr (7, [.ref u_2.1, .ref u_2.2, .int 0])), (q_3, .inr (7, [.ref u_4.1, .ref u_4.2, .int 0])), (q_5, .inr (7, [.ref u_6.1, .ref u_6.2, .int 0])), (q_7, .inl (g.2.2 4, 6, .inr (.inr (.inr (.inr f_23))))), (q_8, .inl (g.2.2 1, 80, .inl (fun _ => 0))), (q_9, .inl (g.2.2 1, 10, .inl (fun _ => 0))), (q_10, .inl (g.2.2 1, 10, .inl (fun _ => 0))), (q_11, .inl (g.2.2 1, 10, .inl (fun _ => 0))), (q_12, .inl (g.2.2 1, 10, .inl (fun _ => 0))), (q_13, .inl (g.2.2 1, 10, .inl (fun _ => 0))), (q_14, .inl (g.2.2 1, 1700, .inl (fun _ => 0))), (q_15, .inl (g.2.2 1, 1700, .inl (fun _ => 0))), (q_16, .inl (g.2.2 1, 1700, .inl (fun _ => 0))), (q_17, .inl (g.2.2 1, 1700, .inl (fun _ => 0))), (q_18, .inl (g.2.2 1, 4960, .inl (fun _ => 0))), (q_19, .inl (g.2.2 1, 1728, .inl (fun _ => 0))), (q_20, .inl (g.2.2 1, 400, .inl (fun _ => 0))), (q_24, .inr (6, [.null, .null, .null, .null, .null, .null, .null, .null, .int 0, .int 0, .int 0, .int 0, .int 0, .int 0, .int 0, .int 0, .int 0]))] A s.heap _ _ := h
  refine W.widen (k := 41) (n := 14251) (by decide) (by decide) ?_
  refine lv_dup hx hb dPl_init_179 rfl ?_
  refine KV.callIN (As := []) (wc := [(q_24, .inr (6, [.null, .null, .null, .null, .null, .null, .null, .null, .int 0, .int 0, .int 0, .int 0, .int 0, .int 0, .int 0, .int 0, .int 0]))]) (wr := [(o, .inr (5, [.ref q_1, .ref q_3, .ref q_5, .ref q_7, .ref q_8, .ref q_9, .ref q_10, .ref q_11, .ref q_12, .ref q_13, .ref q_14, .ref q_15, .ref q_16, .ref q_17, .int 0, .ref q_18, .int 0, .ref q_19, .ref q_20, .int 0])), (q_1, .inr (7, [.ref u_2.1, .ref u_2.2, .int 0])), (q_3, .inr (7, [.ref u_4.1, .ref u_4.2, .int 0])), (q_5, .inr (7, [.ref u_6.1, .ref u_6.2, .int 0])), (q_7, .inl (g.2.2 4, 6, .inr (.inr (.inr (.inr f_23))))), (q_8, .inl (g.2.2 1, 80, .inl (fun _ => 0))), (q_9, .inl (g.2.2 1, 10, .inl (fun _ => 0))), (q_10, .inl (g.2.2 1, 10, .inl (fun _ => 0))), (q_11, .inl (g.2.2 1, 10, .inl (fun _ => 0))), (q_12, .inl (g.2.2 1, 10, .inl (fun _ => 0))), (q_13, .inl (g.2.2 1, 10, .inl (fun _ => 0))), (q_14, .inl (g.2.2 1, 1700, .inl (fun _ => 0))), (q_15, .inl (g.2.2 1, 1700, .inl (fun _ => 0))), (q_16, .inl (g.2.2 1, 1700, .inl (fun _ => 0))), (q_17, .inl (g.2.2 1, 1700, .inl (fun _ => 0))), (q_18, .inl (g.2.2 1, 4960, .inl (fun _ => 0))), (q_19, .inl (g.2.2 1, 1728, .inl (fun _ => 0))), (q_20, .inl (g.2.2 1, 400, .inl (fun _ => 0)))]) C h [18] [0, 1, 2, 3, 4, 5, 6, 7, 8, 9, 10, 11, 12, 13, 14, 15, 16, 17] rfl rfl (by decide) (by decide) (by decide) (i_Kd l g q_24) (hE.2.2.2.2.1 _ (by decide)) imKd_init iiKd_init icKd_init npKd_init rfl ⟨by decide, by decide⟩ hl.1 rfl (Nat.le_of_ble_eq_true rfl) dPl_init_180 ⟨by decide, by decide⟩ (fun u_25 H locs hp h => ?_)
  have h : Hx g [(o, .inr (5, [.ref q_1, .ref q_3, .ref q_5, .ref q_7, .ref q_8, .ref q_9, .ref q_10, .ref q_11, .ref q_12, .ref q_13, .ref q_14, .ref q_15, .ref q_16, .ref q_17, .int 0, .ref q_18, .int 0, .ref q_19, .ref q_20, .int 0])), (q_1, .inr (7, [.ref u_2.1, .ref u_2.2, .int 0])), (q_3, .inr (7, [.ref u_4.1, .ref u_4.2, .int 0])), (q_5, .inr (7, [.ref u_6.1, .ref u_6.2, .int 0])), (q_7, .inl (g.2.2 4, 6, .inr (.inr (.inr (.inr f_23))))), (q_8, .inl (g.2.2 1, 80, .inl (fun _ => 0))), (q_9, .inl (g.2.2 1, 10, .inl (fun _ => 0))), (q_10, .inl (g.2.2 1, 10, .inl (fun _ => 0))), (q_11, .inl (g.2.2 1, 10, .inl (fun _ => 0))), (q_12, .inl (g.2.2 1, 10, .inl (fun _ => 0))), (q_13, .inl (g.2.2 1, 10, .inl (fun _ => 0))), (q_14, .inl (g.2.2 1, 1700, .inl (fun _ => 0))), (q_15, .inl (g.2.2 1, 1700, .inl (fun _ => 0))), (q_16, .inl (g.2.2 1, 1700, .inl (fun _ => 0))), (q_17, .inl (g.2.2 1, 1700, .inl (fun _ => 0))), (q_18, .inl (g.2.2 1, 4960, .inl (fun _ => 0))), (q_19, .inl (g.2.2 1, 1728, .inl (fun _ => 0))), (q_20, .inl (g.2.2 1, 400, .inl (fun _ => 0))), (q_24, .inr (6, [.ref (u_25 0), .ref (u_25 1), .ref (u_25 2), .ref (u_25 3), .ref (u_25 4), .ref (u_25 5), .ref (u_25 6), .ref (u_25 7), .int 0, .int 0, .int 0, .int 0, .int 0, .int 0, .int 0, .int 0, .int 0]))] A s.heap _ _ := h
  refine W.widen (k := 57) (n := 14363) (by decide) (by decide) ?_
  refine va_astq C.1.1 C.1.2.1 C.2 h.1 h.2.1 h.2.2.1 4 4 18 6 rfl rfl rfl rfl (pk_in 1 6 (by decide) rfl) dPl_init_183 (fun H locs hP hD hS => ?_)
  have h : Hx g [(o, .inr (5, [.ref q_1, .ref q_3, .ref q_5, .ref q_7, .ref q_8, .ref q_9, .ref q_10, .ref q_11, .ref q_12, .ref q_13, .ref q_14, .ref q_15, .ref q_16, .ref q_17, .int 0, .ref q_18, .int 0, .ref q_19, .ref q_20, .int 0])), (q_1, .inr (7, [.ref u_2.1, .ref u_2.2, .int 0])), (q_3, .inr (7, [.ref u_4.1, .ref u_4.2, .int 0])), (q_5, .inr (7, [.ref u_6.1, .ref u_6.2, .int 0])), (q_7, .inl (g.2.2 4, 6, .inr (.inr (.inr (.inr (va_up f_23 (1 : Int32).toNatClampNeg (some q_24))))))), (q_8, .inl (g.2.2 1, 80, .inl (fun _ => 0))), (q_9, .inl (g.2.2 1, 10, .inl (fun _ => 0))), (q_10, .inl (g.2.2 1, 10, .inl (fun _ => 0))), (q_11, .inl (g.2.2 1, 10, .inl (fun _ => 0))), (q_12, .inl (g.2.2 1, 10, .inl (fun _ => 0))), (q_13, .inl (g.2.2 1, 10, .inl (fun _ => 0))), (q_14, .inl (g.2.2 1, 1700, .inl (fun _ => 0))), (q_15, .inl (g.2.2 1, 1700, .inl (fun _ => 0))), (q_16, .inl (g.2.2 1, 1700, .inl (fun _ => 0))), (q_17, .inl (g.2.2 1, 1700, .inl (fun _ => 0))), (q_18, .inl (g.2.2 1, 4960, .inl (fun _ => 0))), (q_19, .inl (g.2.2 1, 1728, .inl (fun _ => 0))), (q_20, .inl (g.2.2 1, 400, .inl (fun _ => 0))), (q_24, .inr (6, [.ref (u_25 0), .ref (u_25 1), .ref (u_25 2), .ref (u_25 3), .ref (u_25 4), .ref (u_25 5), .ref (u_25 6), .ref (u_25 7), .int 0, .int 0, .int 0, .int 0, .int 0, .int 0, .int 0, .int 0, .int 0]))] A s.heap _ _ := ⟨hP, hD, hS, h.2.2.2⟩
  generalize (va_up f_23 (1 : Int32).toNatClampNeg (some q_24)) = f_26 at h
  have h : Hx g [(o, .inr (5, [.ref q_1, .ref q_3, .ref q_5, .ref q_7, .ref q_8, .ref q_9, .ref q_10, .ref q_11, .ref q_12, .ref q_13, .ref q_14, .ref q_15, .ref q_16, .ref q_17, .int 0, .ref q_18, .int 0, .ref q_19, .ref q_20, .int 0])), (q_1, .inr (7, [.ref u_2.1, .ref u_2.2, .int 0])), (q_3, .inr (7, [.ref u_4.1, .ref u_4.2, .int 0])), (q_5, .inr (7, [.ref u_6.1, .ref u_6.2, .int 0])), (q_7, .inl (g.2.2 4, 6, .inr (.inr (.inr (.inr f_26))))), (q_8, .inl (g.2.2 1, 80, .inl (fun _ => 0))), (q_9, .inl (g.2.2 1, 10, .inl (fun _ => 0))), (q_10, .inl (g.2.2 1, 10, .inl (fun _ => 0))), (q_11, .inl (g.2.2 1, 10, .inl (fun _ => 0))), (q_12, .inl (g.2.2 1, 10, .inl (fun _ => 0))), (q_13, .inl (g.2.2 1, 10, .inl (fun _ => 0))), (q_14, .inl (g.2.2 1, 1700, .inl (fun _ => 0))), (q_15, .inl (g.2.2 1, 1700, .inl (fun _ => 0))), (q_16, .inl (g.2.2 1, 1700, .inl (fun _ => 0))), (q_17, .inl (g.2.2 1, 1700, .inl (fun _ => 0))), (q_18, .inl (g.2.2 1, 4960, .inl (fun _ => 0))), (q_19, .inl (g.2.2 1, 1728, .inl (fun _ => 0))), (q_20, .inl (g.2.2 1, 400, .inl (fun _ => 0)))] A s.heap _ _ := h.cut [0, 1, 2, 3, 4, 5, 6, 7, 8, 9, 10, 11, 12, 13, 14, 15, 16, 17] (by decide) rfl
  refine lv_iinc (v := 2) (lv' := [(1, .int (2)), (0, .ref o)]) hx hb dPl_init_184 hl (k := 0) rfl (by decide) (by decide) rfl (fun ls hl => ?_)
  refine lv_goto (tgt := 165) hx hb dPl_init_187 (by decide) ?_
  refine lv_iload_n hx hb dPl_init_165 rfl (lv_at hl 0 rfl) ?_
  refine lv_bipush (v := 6) hx hb dPl_init_166 (by decide) ?_
  refine lv_icmp_ge (tgt := 190) hx hb dPl_init_168 (by decide) (fun c168 => absurd c168 (by decide)) (fun c168 => ?_)
  refine lv_aload_n hx hb dPl_init_171 rfl (lv_at hl 1 rfl) ?_
  refine og C h laysPl 0 rfl rfl 3 (by decide) flPl_30 rfl (v := .ref q_7) rfl dPl_init_172 ?_
  refine lv_iload_n hx hb dPl_init_175 rfl (lv_at hl 0 rfl) ?_
  refine on C h laysKd tyKd tyKd_ok clPl_28 kiKd knKd rfl dfKd (by decide) (by decide) dPl_init_176 (fun q_27 H h => ?_)
  have h : Hx g [(o, .inr (5, [.ref q_1, .ref q_3, .ref q_5, .ref q_7, .ref q_8, .ref q_9, .ref q_10, .ref q_11, .ref q_12, .ref q_13, .ref q_14, .ref q_15, .ref q_16, .ref q_17, .int 0, .ref q_18, .int 0, .ref q_19, .ref q_20, .int 0])), (q_1, .inr (7, [.ref u_2.1, .ref u_2.2, .int 0])), (q_3, .inr (7, [.ref u_4.1, .ref u_4.2, .int 0])), (q_5, .inr (7, [.ref u_6.1, .ref u_6.2, .int 0])), (q_7, .inl (g.2.2 4, 6, .inr (.inr (.inr (.inr f_26))))), (q_8, .inl (g.2.2 1, 80, .inl (fun _ => 0))), (q_9, .inl (g.2.2 1, 10, .inl (fun _ => 0))), (q_10, .inl (g.2.2 1, 10, .inl (fun _ => 0))), (q_11, .inl (g.2.2 1, 10, .inl (fun _ => 0))), (q_12, .inl (g.2.2 1, 10, .inl (fun _ => 0))), (q_13, .inl (g.2.2 1, 10, .inl (fun _ => 0))), (q_14, .inl (g.2.2 1, 1700, .inl (fun _ => 0))), (q_15, .inl (g.2.2 1, 1700, .inl (fun _ => 0))), (q_16, .inl (g.2.2 1, 1700, .inl (fun _ => 0))), (q_17, .inl (g.2.2 1, 1700, .inl (fun _ => 0))), (q_18, .inl (g.2.2 1, 4960, .inl (fun _ => 0))), (q_19, .inl (g.2.2 1, 1728, .inl (fun _ => 0))), (q_20, .inl (g.2.2 1, 400, .inl (fun _ => 0))), (q_27, .inr (6, [.null, .null, .null, .null, .null, .null, .null, .null, .int 0, .int 0, .int 0, .int 0, .int 0, .int 0, .int 0, .int 0, .int 0]))] A s.heap _ _ := h
  refine W.widen (k := 58) (n := 14380) (by decide) (by decide) ?_
  refine lv_dup hx hb dPl_init_179 rfl ?_
  refine KV.callIN (As := []) (wc := [(q_27, .inr (6, [.null, .null, .null, .null, .null, .null, .null, .null, .int 0, .int 0, .int 0, .int 0, .int 0, .int 0, .int 0, .int 0, .int 0]))]) (wr := [(o, .inr (5, [.ref q_1, .ref q_3, .ref q_5, .ref q_7, .ref q_8, .ref q_9, .ref q_10, .ref q_11, .ref q_12, .ref q_13, .ref q_14, .ref q_15, .ref q_16, .ref q_17, .int 0, .ref q_18, .int 0, .ref q_19, .ref q_20, .int 0])), (q_1, .inr (7, [.ref u_2.1, .ref u_2.2, .int 0])), (q_3, .inr (7, [.ref u_4.1, .ref u_4.2, .int 0])), (q_5, .inr (7, [.ref u_6.1, .ref u_6.2, .int 0])), (q_7, .inl (g.2.2 4, 6, .inr (.inr (.inr (.inr f_26))))), (q_8, .inl (g.2.2 1, 80, .inl (fun _ => 0))), (q_9, .inl (g.2.2 1, 10, .inl (fun _ => 0))), (q_10, .inl (g.2.2 1, 10, .inl (fun _ => 0))), (q_11, .inl (g.2.2 1, 10, .inl (fun _ => 0))), (q_12, .inl (g.2.2 1, 10, .inl (fun _ => 0))), (q_13, .inl (g.2.2 1, 10, .inl (fun _ => 0))), (q_14, .inl (g.2.2 1, 1700, .inl (fun _ => 0))), (q_15, .inl (g.2.2 1, 1700, .inl (fun _ => 0))), (q_16, .inl (g.2.2 1, 1700, .inl (fun _ => 0))), (q_17, .inl (g.2.2 1, 1700, .inl (fun _ => 0))), (q_18, .inl (g.2.2 1, 4960, .inl (fun _ => 0))), (q_19, .inl (g.2.2 1, 1728, .inl (fun _ => 0))), (q_20, .inl (g.2.2 1, 400, .inl (fun _ => 0)))]) C h [18] [0, 1, 2, 3, 4, 5, 6, 7, 8, 9, 10, 11, 12, 13, 14, 15, 16, 17] rfl rfl (by decide) (by decide) (by decide) (i_Kd l g q_27) (hE.2.2.2.2.1 _ (by decide)) imKd_init iiKd_init icKd_init npKd_init rfl ⟨by decide, by decide⟩ hl.1 rfl (Nat.le_of_ble_eq_true rfl) dPl_init_180 ⟨by decide, by decide⟩ (fun u_28 H locs hp h => ?_)
  have h : Hx g [(o, .inr (5, [.ref q_1, .ref q_3, .ref q_5, .ref q_7, .ref q_8, .ref q_9, .ref q_10, .ref q_11, .ref q_12, .ref q_13, .ref q_14, .ref q_15, .ref q_16, .ref q_17, .int 0, .ref q_18, .int 0, .ref q_19, .ref q_20, .int 0])), (q_1, .inr (7, [.ref u_2.1, .ref u_2.2, .int 0])), (q_3, .inr (7, [.ref u_4.1, .ref u_4.2, .int 0])), (q_5, .inr (7, [.ref u_6.1, .ref u_6.2, .int 0])), (q_7, .inl (g.2.2 4, 6, .inr (.inr (.inr (.inr f_26))))), (q_8, .inl (g.2.2 1, 80, .inl (fun _ => 0))), (q_9, .inl (g.2.2 1, 10, .inl (fun _ => 0))), (q_10, .inl (g.2.2 1, 10, .inl (fun _ => 0))), (q_11, .inl (g.2.2 1, 10, .inl (fun _ => 0))), (q_12, .inl (g.2.2 1, 10, .inl (fun _ => 0))), (q_13, .inl (g.2.2 1, 10, .inl (fun _ => 0))), (q_14, .inl (g.2.2 1, 1700, .inl (fun _ => 0))), (q_15, .inl (g.2.2 1, 1700, .inl (fun _ => 0))), (q_16, .inl (g.2.2 1, 1700, .inl (fun _ => 0))), (q_17, .inl (g.2.2 1, 1700, .inl (fun _ => 0))), (q_18, .inl (g.2.2 1, 4960, .inl (fun _ => 0))), (q_19, .inl (g.2.2 1, 1728, .inl (fun _ => 0))), (q_20, .inl (g.2.2 1, 400, .inl (fun _ => 0))), (q_27, .inr (6, [.ref (u_28 0), .ref (u_28 1), .ref (u_28 2), .ref (u_28 3), .ref (u_28 4), .ref (u_28 5), .ref (u_28 6), .ref (u_28 7), .int 0, .int 0, .int 0, .int 0, .int 0, .int 0, .int 0, .int 0, .int 0]))] A s.heap _ _ := h
  refine W.widen (k := 74) (n := 14492) (by decide) (by decide) ?_
  refine va_astq C.1.1 C.1.2.1 C.2 h.1 h.2.1 h.2.2.1 4 4 18 6 rfl rfl rfl rfl (pk_in 2 6 (by decide) rfl) dPl_init_183 (fun H locs hP hD hS => ?_)
  have h : Hx g [(o, .inr (5, [.ref q_1, .ref q_3, .ref q_5, .ref q_7, .ref q_8, .ref q_9, .ref q_10, .ref q_11, .ref q_12, .ref q_13, .ref q_14, .ref q_15, .ref q_16, .ref q_17, .int 0, .ref q_18, .int 0, .ref q_19, .ref q_20, .int 0])), (q_1, .inr (7, [.ref u_2.1, .ref u_2.2, .int 0])), (q_3, .inr (7, [.ref u_4.1, .ref u_4.2, .int 0])), (q_5, .inr (7, [.ref u_6.1, .ref u_6.2, .int 0])), (q_7, .inl (g.2.2 4, 6, .inr (.inr (.inr (.inr (va_up f_26 (2 : Int32).toNatClampNeg (some q_27))))))), (q_8, .inl (g.2.2 1, 80, .inl (fun _ => 0))), (q_9, .inl (g.2.2 1, 10, .inl (fun _ => 0))), (q_10, .inl (g.2.2 1, 10, .inl (fun _ => 0))), (q_11, .inl (g.2.2 1, 10, .inl (fun _ => 0))), (q_12, .inl (g.2.2 1, 10, .inl (fun _ => 0))), (q_13, .inl (g.2.2 1, 10, .inl (fun _ => 0))), (q_14, .inl (g.2.2 1, 1700, .inl (fun _ => 0))), (q_15, .inl (g.2.2 1, 1700, .inl (fun _ => 0))), (q_16, .inl (g.2.2 1, 1700, .inl (fun _ => 0))), (q_17, .inl (g.2.2 1, 1700, .inl (fun _ => 0))), (q_18, .inl (g.2.2 1, 4960, .inl (fun _ => 0))), (q_19, .inl (g.2.2 1, 1728, .inl (fun _ => 0))), (q_20, .inl (g.2.2 1, 400, .inl (fun _ => 0))), (q_27, .inr (6, [.ref (u_28 0), .ref (u_28 1), .ref (u_28 2), .ref (u_28 3), .ref (u_28 4), .ref (u_28 5), .ref (u_28 6), .ref (u_28 7), .int 0, .int 0, .int 0, .int 0, .int 0, .int 0, .int 0, .int 0, .int 0]))] A s.heap _ _ := ⟨hP, hD, hS, h.2.2.2⟩
  generalize (va_up f_26 (2 : Int32).toNatClampNeg (some q_27)) = f_29 at h
  have h : Hx g [(o, .inr (5, [.ref q_1, .ref q_3, .ref q_5, .ref q_7, .ref q_8, .ref q_9, .ref q_10, .ref q_11, .ref q_12, .ref q_13, .ref q_14, .ref q_15, .ref q_16, .ref q_17, .int 0, .ref q_18, .int 0, .ref q_19, .ref q_20, .int 0])), (q_1, .inr (7, [.ref u_2.1, .ref u_2.2, .int 0])), (q_3, .inr (7, [.ref u_4.1, .ref u_4.2, .int 0])), (q_5, .inr (7, [.ref u_6.1, .ref u_6.2, .int 0])), (q_7, .inl (g.2.2 4, 6, .inr (.inr (.inr (.inr f_29))))), (q_8, .inl (g.2.2 1, 80, .inl (fun _ => 0))), (q_9, .inl (g.2.2 1, 10, .inl (fun _ => 0))), (q_10, .inl (g.2.2 1, 10, .inl (fun _ => 0))), (q_11, .inl (g.2.2 1, 10, .inl (fun _ => 0))), (q_12, .inl (g.2.2 1, 10, .inl (fun _ => 0))), (q_13, .inl (g.2.2 1, 10, .inl (fun _ => 0))), (q_14, .inl (g.2.2 1, 1700, .inl (fun _ => 0))), (q_15, .inl (g.2.2 1, 1700, .inl (fun _ => 0))), (q_16, .inl (g.2.2 1, 1700, .inl (fun _ => 0))), (q_17, .inl (g.2.2 1, 1700, .inl (fun _ => 0))), (q_18, .inl (g.2.2 1, 4960, .inl (fun _ => 0))), (q_19, .inl (g.2.2 1, 1728, .inl (fun _ => 0))), (q_20, .inl (g.2.2 1, 400, .inl (fun _ => 0)))] A s.heap _ _ := h.cut [0, 1, 2, 3, 4, 5, 6, 7, 8, 9, 10, 11, 12, 13, 14, 15, 16, 17] (by decide) rfl
  refine lv_iinc (v := 3) (lv' := [(1, .int (3)), (0, .ref o)]) hx hb dPl_init_184 hl (k := 0) rfl (by decide) (by decide) rfl (fun ls hl => ?_)
  refine lv_goto (tgt := 165) hx hb dPl_init_187 (by decide) ?_
  refine lv_iload_n hx hb dPl_init_165 rfl (lv_at hl 0 rfl) ?_
  refine lv_bipush (v := 6) hx hb dPl_init_166 (by decide) ?_
  refine lv_icmp_ge (tgt := 190) hx hb dPl_init_168 (by decide) (fun c168 => absurd c168 (by decide)) (fun c168 => ?_)
  refine lv_aload_n hx hb dPl_init_171 rfl (lv_at hl 1 rfl) ?_
  refine og C h laysPl 0 rfl rfl 3 (by decide) flPl_30 rfl (v := .ref q_7) rfl dPl_init_172 ?_
  refine lv_iload_n hx hb dPl_init_175 rfl (lv_at hl 0 rfl) ?_
  refine on C h laysKd tyKd tyKd_ok clPl_28 kiKd knKd rfl dfKd (by decide) (by decide) dPl_init_176 (fun q_30 H h => ?_)
  have h : Hx g [(o, .inr (5, [.ref q_1, .ref q_3, .ref q_5, .ref q_7, .ref q_8, .ref q_9, .ref q_10, .ref q_11, .ref q_12, .ref q_13, .ref q_14, .ref q_15, .ref q_16, .ref q_17, .int 0, .ref q_18, .int 0, .ref q_19, .ref q_20, .int 0])), (q_1, .inr (7, [.ref u_2.1, .ref u_2.2, .int 0])), (q_3, .inr (7, [.ref u_4.1, .ref u_4.2, .int 0])), (q_5, .inr (7, [.ref u_6.1, .ref u_6.2, .int 0])), (q_7, .inl (g.2.2 4, 6, .inr (.inr (.inr (.inr f_29))))), (q_8, .inl (g.2.2 1, 80, .inl (fun _ => 0))), (q_9, .inl (g.2.2 1, 10, .inl (fun _ => 0))), (q_10, .inl (g.2.2 1, 10, .inl (fun _ => 0))), (q_11, .inl (g.2.2 1, 10, .inl (fun _ => 0))), (q_12, .inl (g.2.2 1, 10, .inl (fun _ => 0))), (q_13, .inl (g.2.2 1, 10, .inl (fun _ => 0))), (q_14, .inl (g.2.2 1, 1700, .inl (fun _ => 0))), (q_15, .inl (g.2.2 1, 1700, .inl (fun _ => 0))), (q_16, .inl (g.2.2 1, 1700, .inl (fun _ => 0))), (q_17, .inl (g.2.2 1, 1700, .inl (fun _ => 0))), (q_18, .inl (g.2.2 1, 4960, .inl (fun _ => 0))), (q_19, .inl (g.2.2 1, 1728, .inl (fun _ => 0))), (q_20, .inl (g.2.2 1, 400, .inl (fun _ => 0))), (q_30, .inr (6, [.null, .null, .null, .null, .null, .null, .null, .null, .int 0, .int 0, .int 0, .int 0, .int 0, .int 0, .int 0, .int 0, .int 0]))] A s.heap _ _ := h
  refine W.widen (k := 75) (n := 14509) (by decide) (by decide) ?_
  refine lv_dup hx hb dPl_init_179 rfl ?_
  refine KV.callIN (As := []) (wc := [(q_30, .inr (6, [.null, .null, .null, .null, .null, .null, .null, .null, .int 0, .int 0, .int 0, .int 0, .int 0, .int 0, .int 0, .int 0, .int 0]))]) (wr := [(o, .inr (5, [.ref q_1, .ref q_3, .ref q_5, .ref q_7, .ref q_8, .ref q_9, .ref q_10, .ref q_11, .ref q_12, .ref q_13, .ref q_14, .ref q_15, .ref q_16, .ref q_17, .int 0, .ref q_18, .int 0, .ref q_19, .ref q_20, .int 0])), (q_1, .inr (7, [.ref u_2.1, .ref u_2.2, .int 0])), (q_3, .inr (7, [.ref u_4.1, .ref u_4.2, .int 0])), (q_5, .inr (7, [.ref u_6.1, .ref u_6.2, .int 0])), (q_7, .inl (g.2.2 4, 6, .inr (.inr (.inr (.inr f_29))))), (q_8, .inl (g.2.2 1, 80, .inl (fun _ => 0))), (q_9, .inl (g.2.2 1, 10, .inl (fun _ => 0))), (q_10, .inl (g.2.2 1, 10, .inl (fun _ => 0))), (q_11, .inl (g.2.2 1, 10, .inl (fun _ => 0))), (q_12, .inl (g.2.2 1, 10, .inl (fun _ => 0))), (q_13, .inl (g.2.2 1, 10, .inl (fun _ => 0))), (q_14, .inl (g.2.2 1, 1700, .inl (fun _ => 0))), (q_15, .inl (g.2.2 1, 1700, .inl (fun _ => 0))), (q_16, .inl (g.2.2 1, 1700, .inl (fun _ => 0))), (q_17, .inl (g.2.2 1, 1700, .inl (fun _ => 0))), (q_18, .inl (g.2.2 1, 4960, .inl (fun _ => 0))), (q_19, .inl (g.2.2 1, 1728, .inl (fun _ => 0))), (q_20, .inl (g.2.2 1, 400, .inl (fun _ => 0)))]) C h [18] [0, 1, 2, 3, 4, 5, 6, 7, 8, 9, 10, 11, 12, 13, 14, 15, 16, 17] rfl rfl (by decide) (by decide) (by decide) (i_Kd l g q_30) (hE.2.2.2.2.1 _ (by decide)) imKd_init iiKd_init icKd_init npKd_init rfl ⟨by decide, by decide⟩ hl.1 rfl (Nat.le_of_ble_eq_true rfl) dPl_init_180 ⟨by decide, by decide⟩ (fun u_31 H locs hp h => ?_)
  have h : Hx g [(o, .inr (5, [.ref q_1, .ref q_3, .ref q_5, .ref q_7, .ref q_8, .ref q_9, .ref q_10, .ref q_11, .ref q_12, .ref q_13, .ref q_14, .ref q_15, .ref q_16, .ref q_17, .int 0, .ref q_18, .int 0, .ref q_19, .ref q_20, .int 0])), (q_1, .inr (7, [.ref u_2.1, .ref u_2.2, .int 0])), (q_3, .inr (7, [.ref u_4.1, .ref u_4.2, .int 0])), (q_5, .inr (7, [.ref u_6.1, .ref u_6.2, .int 0])), (q_7, .inl (g.2.2 4, 6, .inr (.inr (.inr (.inr f_29))))), (q_8, .inl (g.2.2 1, 80, .inl (fun _ => 0))), (q_9, .inl (g.2.2 1, 10, .inl (fun _ => 0))), (q_10, .inl (g.2.2 1, 10, .inl (fun _ => 0))), (q_11, .inl (g.2.2 1, 10, .inl (fun _ => 0))), (q_12, .inl (g.2.2 1, 10, .inl (fun _ => 0))), (q_13, .inl (g.2.2 1, 10, .inl (fun _ => 0))), (q_14, .inl (g.2.2 1, 1700, .inl (fun _ => 0))), (q_15, .inl (g.2.2 1, 1700, .inl (fun _ => 0))), (q_16, .inl (g.2.2 1, 1700, .inl (fun _ => 0))), (q_17, .inl (g.2.2 1, 1700, .inl (fun _ => 0))), (q_18, .inl (g.2.2 1, 4960, .inl (fun _ => 0))), (q_19, .inl (g.2.2 1, 1728, .inl (fun _ => 0))), (q_20, .inl (g.2.2 1, 400, .inl (fun _ => 0))), (q_30, .inr (6, [.ref (u_31 0), .ref (u_31 1), .ref (u_31 2), .ref (u_31 3), .ref (u_31 4), .ref (u_31 5), .ref (u_31 6), .ref (u_31 7), .int 0, .int 0, .int 0, .int 0, .int 0, .int 0, .int 0, .int 0, .int 0]))] A s.heap _ _ := h
  refine W.widen (k := 91) (n := 14621) (by decide) (by decide) ?_
  refine va_astq C.1.1 C.1.2.1 C.2 h.1 h.2.1 h.2.2.1 4 4 18 6 rfl rfl rfl rfl (pk_in 3 6 (by decide) rfl) dPl_init_183 (fun H locs hP hD hS => ?_)
  have h : Hx g [(o, .inr (5, [.ref q_1, .ref q_3, .ref q_5, .ref q_7, .ref q_8, .ref q_9, .ref q_10, .ref q_11, .ref q_12, .ref q_13, .ref q_14, .ref q_15, .ref q_16, .ref q_17, .int 0, .ref q_18, .int 0, .ref q_19, .ref q_20, .int 0])), (q_1, .inr (7, [.ref u_2.1, .ref u_2.2, .int 0])), (q_3, .inr (7, [.ref u_4.1, .ref u_4.2, .int 0])), (q_5, .inr (7, [.ref u_6.1, .ref u_6.2, .int 0])), (q_7, .inl (g.2.2 4, 6, .inr (.inr (.inr (.inr (va_up f_29 (3 : Int32).toNatClampNeg (some q_30))))))), (q_8, .inl (g.2.2 1, 80, .inl (fun _ => 0))), (q_9, .inl (g.2.2 1, 10, .inl (fun _ => 0))), (q_10, .inl (g.2.2 1, 10, .inl (fun _ => 0))), (q_11, .inl (g.2.2 1, 10, .inl (fun _ => 0))), (q_12, .inl (g.2.2 1, 10, .inl (fun _ => 0))), (q_13, .inl (g.2.2 1, 10, .inl (fun _ => 0))), (q_14, .inl (g.2.2 1, 1700, .inl (fun _ => 0))), (q_15, .inl (g.2.2 1, 1700, .inl (fun _ => 0))), (q_16, .inl (g.2.2 1, 1700, .inl (fun _ => 0))), (q_17, .inl (g.2.2 1, 1700, .inl (fun _ => 0))), (q_18, .inl (g.2.2 1, 4960, .inl (fun _ => 0))), (q_19, .inl (g.2.2 1, 1728, .inl (fun _ => 0))), (q_20, .inl (g.2.2 1, 400, .inl (fun _ => 0))), (q_30, .inr (6, [.ref (u_31 0), .ref (u_31 1), .ref (u_31 2), .ref (u_31 3), .ref (u_31 4), .ref (u_31 5), .ref (u_31 6), .ref (u_31 7), .int 0, .int 0, .int 0, .int 0, .int 0, .int 0, .int 0, .int 0, .int 0]))] A s.heap _ _ := ⟨hP, hD, hS, h.2.2.2⟩
  generalize (va_up f_29 (3 : Int32).toNatClampNeg (some q_30)) = f_32 at h
  have h : Hx g [(o, .inr (5, [.ref q_1, .ref q_3, .ref q_5, .ref q_7, .ref q_8, .ref q_9, .ref q_10, .ref q_11, .ref q_12, .ref q_13, .ref q_14, .ref q_15, .ref q_16, .ref q_17, .int 0, .ref q_18, .int 0, .ref q_19, .ref q_20, .int 0])), (q_1, .inr (7, [.ref u_2.1, .ref u_2.2, .int 0])), (q_3, .inr (7, [.ref u_4.1, .ref u_4.2, .int 0])), (q_5, .inr (7, [.ref u_6.1, .ref u_6.2, .int 0])), (q_7, .inl (g.2.2 4, 6, .inr (.inr (.inr (.inr f_32))))), (q_8, .inl (g.2.2 1, 80, .inl (fun _ => 0))), (q_9, .inl (g.2.2 1, 10, .inl (fun _ => 0))), (q_10, .inl (g.2.2 1, 10, .inl (fun _ => 0))), (q_11, .inl (g.2.2 1, 10, .inl (fun _ => 0))), (q_12, .inl (g.2.2 1, 10, .inl (fun _ => 0))), (q_13, .inl (g.2.2 1, 10, .inl (fun _ => 0))), (q_14, .inl (g.2.2 1, 1700, .inl (fun _ => 0))), (q_15, .inl (g.2.2 1, 1700, .inl (fun _ => 0))), (q_16, .inl (g.2.2 1, 1700, .inl (fun _ => 0))), (q_17, .inl (g.2.2 1, 1700, .inl (fun _ => 0))), (q_18, .inl (g.2.2 1, 4960, .inl (fun _ => 0))), (q_19, .inl (g.2.2 1, 1728, .inl (fun _ => 0))), (q_20, .inl (g.2.2 1, 400, .inl (fun _ => 0)))] A s.heap _ _ := h.cut [0, 1, 2, 3, 4, 5, 6, 7, 8, 9, 10, 11, 12, 13, 14, 15, 16, 17] (by decide) rfl
  refine lv_iinc (v := 4) (lv' := [(1, .int (4)), (0, .ref o)]) hx hb dPl_init_184 hl (k := 0) rfl (by decide) (by decide) rfl (fun ls hl => ?_)
  refine lv_goto (tgt := 165) hx hb dPl_init_187 (by decide) ?_
  refine lv_iload_n hx hb dPl_init_165 rfl (lv_at hl 0 rfl) ?_
  refine lv_bipush (v := 6) hx hb dPl_init_166 (by decide) ?_
  refine lv_icmp_ge (tgt := 190) hx hb dPl_init_168 (by decide) (fun c168 => absurd c168 (by decide)) (fun c168 => ?_)
  refine lv_aload_n hx hb dPl_init_171 rfl (lv_at hl 1 rfl) ?_
  refine og C h laysPl 0 rfl rfl 3 (by decide) flPl_30 rfl (v := .ref q_7) rfl dPl_init_172 ?_
  refine lv_iload_n hx hb dPl_init_175 rfl (lv_at hl 0 rfl) ?_
  refine on C h laysKd tyKd tyKd_ok clPl_28 kiKd knKd rfl dfKd (by decide) (by decide) dPl_init_176 (fun q_33 H h => ?_)
  have h : Hx g [(o, .inr (5, [.ref q_1, .ref q_3, .ref q_5, .ref q_7, .ref q_8, .ref q_9, .ref q_10, .ref q_11, .ref q_12, .ref q_13, .ref q_14, .ref q_15, .ref q_16, .ref q_17, .int 0, .ref q_18, .int 0, .ref q_19, .ref q_20, .int 0])), (q_1, .inr (7, [.ref u_2.1, .ref u_2.2, .int 0])), (q_3, .inr (7, [.ref u_4.1, .ref u_4.2, .int 0])), (q_5, .inr (7, [.ref u_6.1, .ref u_6.2, .int 0])), (q_7, .inl (g.2.2 4, 6, .inr (.inr (.inr (.inr f_32))))), (q_8, .inl (g.2.2 1, 80, .inl (fun _ => 0))), (q_9, .inl (g.2.2 1, 10, .inl (fun _ => 0))), (q_10, .inl (g.2.2 1, 10, .inl (fun _ => 0))), (q_11, .inl (g.2.2 1, 10, .inl (fun _ => 0))), (q_12, .inl (g.2.2 1, 10, .inl (fun _ => 0))), (q_13, .inl (g.2.2 1, 10, .inl (fun _ => 0))), (q_14, .inl (g.2.2 1, 1700, .inl (fun _ => 0))), (q_15, .inl (g.2.2 1, 1700, .inl (fun _ => 0))), (q_16, .inl (g.2.2 1, 1700, .inl (fun _ => 0))), (q_17, .inl (g.2.2 1, 1700, .inl (fun _ => 0))), (q_18, .inl (g.2.2 1, 4960, .inl (fun _ => 0))), (q_19, .inl (g.2.2 1, 1728, .inl (fun _ => 0))), (q_20, .inl (g.2.2 1, 400, .inl (fun _ => 0))), (q_33, .inr (6, [.null, .null, .null, .null, .null, .null, .null, .null, .int 0, .int 0, .int 0, .int 0, .int 0, .int 0, .int 0, .int 0, .int 0]))] A s.heap _ _ := h
  refine W.widen (k := 92) (n := 14638) (by decide) (by decide) ?_
  refine lv_dup hx hb dPl_init_179 rfl ?_
  refine KV.callIN (As := []) (wc := [(q_33, .inr (6, [.null, .null, .null, .null, .null, .null, .null, .null, .int 0, .int 0, .int 0, .int 0, .int 0, .int 0, .int 0, .int 0, .int 0]))]) (wr := [(o, .inr (5, [.ref q_1, .ref q_3, .ref q_5, .ref q_7, .ref q_8, .ref q_9, .ref q_10, .ref q_11, .ref q_12, .ref q_13, .ref q_14, .ref q_15, .ref q_16, .ref q_17, .int 0, .ref q_18, .int 0, .ref q_19, .ref q_20, .int 0])), (q_1, .inr (7, [.ref u_2.1, .ref u_2.2, .int 0])), (q_3, .inr (7, [.ref u_4.1, .ref u_4.2, .int 0])), (q_5, .inr (7, [.ref u_6.1, .ref u_6.2, .int 0])), (q_7, .inl (g.2.2 4, 6, .inr (.inr (.inr (.inr f_32))))), (q_8, .inl (g.2.2 1, 80, .inl (fun _ => 0))), (q_9, .inl (g.2.2 1, 10, .inl (fun _ => 0))), (q_10, .inl (g.2.2 1, 10, .inl (fun _ => 0))), (q_11, .inl (g.2.2 1, 10, .inl (fun _ => 0))), (q_12, .inl (g.2.2 1, 10, .inl (fun _ => 0))), (q_13, .inl (g.2.2 1, 10, .inl (fun _ => 0))), (q_14, .inl (g.2.2 1, 1700, .inl (fun _ => 0))), (q_15, .inl (g.2.2 1, 1700, .inl (fun _ => 0))), (q_16, .inl (g.2.2 1, 1700, .inl (fun _ => 0))), (q_17, .inl (g.2.2 1, 1700, .inl (fun _ => 0))), (q_18, .inl (g.2.2 1, 4960, .inl (fun _ => 0))), (q_19, .inl (g.2.2 1, 1728, .inl (fun _ => 0))), (q_20, .inl (g.2.2 1, 400, .inl (fun _ => 0)))]) C h [18] [0, 1, 2, 3, 4, 5, 6, 7, 8, 9, 10, 11, 12, 13, 14, 15, 16, 17] rfl rfl (by decide) (by decide) (by decide) (i_Kd l g q_33) (hE.2.2.2.2.1 _ (by decide)) imKd_init iiKd_init icKd_init npKd_init rfl ⟨by decide, by decide⟩ hl.1 rfl (Nat.le_of_ble_eq_true rfl) dPl_init_180 ⟨by decide, by decide⟩ (fun u_34 H locs hp h => ?_)
  have h : Hx g [(o, .inr (5, [.ref q_1, .ref q_3, .ref q_5, .ref q_7, .ref q_8, .ref q_9, .ref q_10, .ref q_11, .ref q_12, .ref q_13, .ref q_14, .ref q_15, .ref q_16, .ref q_17, .int 0, .ref q_18, .int 0, .ref q_19, .ref q_20, .int 0])), (q_1, .inr (7, [.ref u_2.1, .ref u_2.2, .int 0])), (q_3, .inr (7, [.ref u_4.1, .ref u_4.2, .int 0])), (q_5, .inr (7, [.ref u_6.1, .ref u_6.2, .int 0])), (q_7, .inl (g.2.2 4, 6, .inr (.inr (.inr (.inr f_32))))), (q_8, .inl (g.2.2 1, 80, .inl (fun _ => 0))), (q_9, .inl (g.2.2 1, 10, .inl (fun _ => 0))), (q_10, .inl (g.2.2 1, 10, .inl (fun _ => 0))), (q_11, .inl (g.2.2 1, 10, .inl (fun _ => 0))), (q_12, .inl (g.2.2 1, 10, .inl (fun _ => 0))), (q_13, .inl (g.2.2 1, 10, .inl (fun _ => 0))), (q_14, .inl (g.2.2 1, 1700, .inl (fun _ => 0))), (q_15, .inl (g.2.2 1, 1700, .inl (fun _ => 0))), (q_16, .inl (g.2.2 1, 1700, .inl (fun _ => 0))), (q_17, .inl (g.2.2 1, 1700, .inl (fun _ => 0))), (q_18, .inl (g.2.2 1, 4960, .inl (fun _ => 0))), (q_19, .inl (g.2.2 1, 1728, .inl (fun _ => 0))), (q_20, .inl (g.2.2 1, 400, .inl (fun _ => 0))), (q_33, .inr (6, [.ref (u_34 0), .ref (u_34 1), .ref (u_34 2), .ref (u_34 3), .ref (u_34 4), .ref (u_34 5), .ref (u_34 6), .ref (u_34 7), .int 0, .int 0, .int 0, .int 0, .int 0, .int 0, .int 0, .int 0, .int 0]))] A s.heap _ _ := h
  refine W.widen (k := 108) (n := 14750) (by decide) (by decide) ?_
  refine va_astq C.1.1 C.1.2.1 C.2 h.1 h.2.1 h.2.2.1 4 4 18 6 rfl rfl rfl rfl (pk_in 4 6 (by decide) rfl) dPl_init_183 (fun H locs hP hD hS => ?_)
  have h : Hx g [(o, .inr (5, [.ref q_1, .ref q_3, .ref q_5, .ref q_7, .ref q_8, .ref q_9, .ref q_10, .ref q_11, .ref q_12, .ref q_13, .ref q_14, .ref q_15, .ref q_16, .ref q_17, .int 0, .ref q_18, .int 0, .ref q_19, .ref q_20, .int 0])), (q_1, .inr (7, [.ref u_2.1, .ref u_2.2, .int 0])), (q_3, .inr (7, [.ref u_4.1, .ref u_4.2, .int 0])), (q_5, .inr (7, [.ref u_6.1, .ref u_6.2, .int 0])), (q_7, .inl (g.2.2 4, 6, .inr (.inr (.inr (.inr (va_up f_32 (4 : Int32).toNatClampNeg (some q_33))))))), (q_8, .inl (g.2.2 1, 80, .inl (fun _ => 0))), (q_9, .inl (g.2.2 1, 10, .inl (fun _ => 0))), (q_10, .inl (g.2.2 1, 10, .inl (fun _ => 0))), (q_11, .inl (g.2.2 1, 10, .inl (fun _ => 0))), (q_12, .inl (g.2.2 1, 10, .inl (fun _ => 0))), (q_13, .inl (g.2.2 1, 10, .inl (fun _ => 0))), (q_14, .inl (g.2.2 1, 1700, .inl (fun _ => 0))), (q_15, .inl (g.2.2 1, 1700, .inl (fun _ => 0))), (q_16, .inl (g.2.2 1, 1700, .inl (fun _ => 0))), (q_17, .inl (g.2.2 1, 1700, .inl (fun _ => 0))), (q_18, .inl (g.2.2 1, 4960, .inl (fun _ => 0))), (q_19, .inl (g.2.2 1, 1728, .inl (fun _ => 0))), (q_20, .inl (g.2.2 1, 400, .inl (fun _ => 0))), (q_33, .inr (6, [.ref (u_34 0), .ref (u_34 1), .ref (u_34 2), .ref (u_34 3), .ref (u_34 4), .ref (u_34 5), .ref (u_34 6), .ref (u_34 7), .int 0, .int 0, .int 0, .int 0, .int 0, .int 0, .int 0, .int 0, .int 0]))] A s.heap _ _ := ⟨hP, hD, hS, h.2.2.2⟩
  generalize (va_up f_32 (4 : Int32).toNatClampNeg (some q_33)) = f_35 at h
  have h : Hx g [(o, .inr (5, [.ref q_1, .ref q_3, .ref q_5, .ref q_7, .ref q_8, .ref q_9, .ref q_10, .ref q_11, .ref q_12, .ref q_13, .ref q_14, .ref q_15, .ref q_16, .ref q_17, .int 0, .ref q_18, .int 0, .ref q_19, .ref q_20, .int 0])), (q_1, .inr (7, [.ref u_2.1, .ref u_2.2, .int 0])), (q_3, .inr (7, [.ref u_4.1, .ref u_4.2, .int 0])), (q_5, .inr (7, [.ref u_6.1, .ref u_6.2, .int 0])), (q_7, .inl (g.2.2 4, 6, .inr (.inr (.inr (.inr f_35))))), (q_8, .inl (g.2.2 1, 80, .inl (fun _ => 0))), (q_9, .inl (g.2.2 1, 10, .inl (fun _ => 0))), (q_10, .inl (g.2.2 1, 10, .inl (fun _ => 0))), (q_11, .inl (g.2.2 1, 10, .inl (fun _ => 0))), (q_12, .inl (g.2.2 1, 10, .inl (fun _ => 0))), (q_13, .inl (g.2.2 1, 10, .inl (fun _ => 0))), (q_14, .inl (g.2.2 1, 1700, .inl (fun _ => 0))), (q_15, .inl (g.2.2 1, 1700, .inl (fun _ => 0))), (q_16, .inl (g.2.2 1, 1700, .inl (fun _ => 0))), (q_17, .inl (g.2.2 1, 1700, .inl (fun _ => 0))), (q_18, .inl (g.2.2 1, 4960, .inl (fun _ => 0))), (q_19, .inl (g.2.2 1, 1728, .inl (fun _ => 0))), (q_20, .inl (g.2.2 1, 400, .inl (fun _ => 0)))] A s.heap _ _ := h.cut [0, 1, 2, 3, 4, 5, 6, 7, 8, 9, 10, 11, 12, 13, 14, 15, 16, 17] (by decide) rfl
  refine lv_iinc (v := 5) (lv' := [(1, .int (5)), (0, .ref o)]) hx hb dPl_init_184 hl (k := 0) rfl (by decide) (by decide) rfl (fun ls hl => ?_)
  refine lv_goto (tgt := 165) hx hb dPl_init_187 (by decide) ?_
  refine lv_iload_n hx hb dPl_init_165 rfl (lv_at hl 0 rfl) ?_
  refine lv_bipush (v := 6) hx hb dPl_init_166 (by decide) ?_
  refine lv_icmp_ge (tgt := 190) hx hb dPl_init_168 (by decide) (fun c168 => absurd c168 (by decide)) (fun c168 => ?_)
  refine lv_aload_n hx hb dPl_init_171 rfl (lv_at hl 1 rfl) ?_
  refine og C h laysPl 0 rfl rfl 3 (by decide) flPl_30 rfl (v := .ref q_7) rfl dPl_init_172 ?_
  refine lv_iload_n hx hb dPl_init_175 rfl (lv_at hl 0 rfl) ?_
  refine on C h laysKd tyKd tyKd_ok clPl_28 kiKd knKd rfl dfKd (by decide) (by decide) dPl_init_176 (fun q_36 H h => ?_)
  have h : Hx g [(o, .inr (5, [.ref q_1, .ref q_3, .ref q_5, .ref q_7, .ref q_8, .ref q_9, .ref q_10, .ref q_11, .ref q_12, .ref q_13, .ref q_14, .ref q_15, .ref q_16, .ref q_17, .int 0, .ref q_18, .int 0, .ref q_19, .ref q_20, .int 0])), (q_1, .inr (7, [.ref u_2.1, .ref u_2.2, .int 0])), (q_3, .inr (7, [.ref u_4.1, .ref u_4.2, .int 0])), (q_5, .inr (7, [.ref u_6.1, .ref u_6.2, .int 0])), (q_7, .inl (g.2.2 4, 6, .inr (.inr (.inr (.inr f_35))))), (q_8, .inl (g.2.2 1, 80, .inl (fun _ => 0))), (q_9, .inl (g.2.2 1, 10, .inl (fun _ => 0))), (q_10, .inl (g.2.2 1, 10, .inl (fun _ => 0))), (q_11, .inl (g.2.2 1, 10, .inl (fun _ => 0))), (q_12, .inl (g.2.2 1, 10, .inl (fun _ => 0))), (q_13, .inl (g.2.2 1, 10, .inl (fun _ => 0))), (q_14, .inl (g.2.2 1, 1700, .inl (fun _ => 0))), (q_15, .inl (g.2.2 1, 1700, .inl (fun _ => 0))), (q_16, .inl (g.2.2 1, 1700, .inl (fun _ => 0))), (q_17, .inl (g.2.2 1, 1700, .inl (fun _ => 0))), (q_18, .inl (g.2.2 1, 4960, .inl (fun _ => 0))), (q_19, .inl (g.2.2 1, 1728, .inl (fun _ => 0))), (q_20, .inl (g.2.2 1, 400, .inl (fun _ => 0))), (q_36, .inr (6, [.null, .null, .null, .null, .null, .null, .null, .null, .int 0, .int 0, .int 0, .int 0, .int 0, .int 0, .int 0, .int 0, .int 0]))] A s.heap _ _ := h
  refine W.widen (k := 109) (n := 14767) (by decide) (by decide) ?_
  refine lv_dup hx hb dPl_init_179 rfl ?_
  refine KV.callIN (As := []) (wc := [(q_36, .inr (6, [.null, .null, .null, .null, .null, .null, .null, .null, .int 0, .int 0, .int 0, .int 0, .int 0, .int 0, .int 0, .int 0, .int 0]))]) (wr := [(o, .inr (5, [.ref q_1, .ref q_3, .ref q_5, .ref q_7, .ref q_8, .ref q_9, .ref q_10, .ref q_11, .ref q_12, .ref q_13, .ref q_14, .ref q_15, .ref q_16, .ref q_17, .int 0, .ref q_18, .int 0, .ref q_19, .ref q_20, .int 0])), (q_1, .inr (7, [.ref u_2.1, .ref u_2.2, .int 0])), (q_3, .inr (7, [.ref u_4.1, .ref u_4.2, .int 0])), (q_5, .inr (7, [.ref u_6.1, .ref u_6.2, .int 0])), (q_7, .inl (g.2.2 4, 6, .inr (.inr (.inr (.inr f_35))))), (q_8, .inl (g.2.2 1, 80, .inl (fun _ => 0))), (q_9, .inl (g.2.2 1, 10, .inl (fun _ => 0))), (q_10, .inl (g.2.2 1, 10, .inl (fun _ => 0))), (q_11, .inl (g.2.2 1, 10, .inl (fun _ => 0))), (q_12, .inl (g.2.2 1, 10, .inl (fun _ => 0))), (q_13, .inl (g.2.2 1, 10, .inl (fun _ => 0))), (q_14, .inl (g.2.2 1, 1700, .inl (fun _ => 0))), (q_15, .inl (g.2.2 1, 1700, .inl (fun _ => 0))), (q_16, .inl (g.2.2 1, 1700, .inl (fun _ => 0))), (q_17, .inl (g.2.2 1, 1700, .inl (fun _ => 0))), (q_18, .inl (g.2.2 1, 4960, .inl (fun _ => 0))), (q_19, .inl (g.2.2 1, 1728, .inl (fun _ => 0))), (q_20, .inl (g.2.2 1, 400, .inl (fun _ => 0)))]) C h [18] [0, 1, 2, 3, 4, 5, 6, 7, 8, 9, 10, 11, 12, 13, 14, 15, 16, 17] rfl rfl (by decide) (by decide) (by decide) (i_Kd l g q_36) (hE.2.2.2.2.1 _ (by decide)) imKd_init iiKd_init icKd_init npKd_init rfl ⟨by decide, by decide⟩ hl.1 rfl (Nat.le_of_ble_eq_true rfl) dPl_init_180 ⟨by decide, by decide⟩ (fun u_37 H locs hp h => ?_)
  have h : Hx g [(o, .inr (5, [.ref q_1, .ref q_3, .ref q_5, .ref q_7, .ref q_8, .ref q_9, .ref q_10, .ref q_11, .ref q_12, .ref q_13, .ref q_14, .ref q_15, .ref q_16, .ref q_17, .int 0, .ref q_18, .int 0, .ref q_19, .ref q_20, .int 0])), (q_1, .inr (7, [.ref u_2.1, .ref u_2.2, .int 0])), (q_3, .inr (7, [.ref u_4.1, .ref u_4.2, .int 0])), (q_5, .inr (7, [.ref u_6.1, .ref u_6.2, .int 0])), (q_7, .inl (g.2.2 4, 6, .inr (.inr (.inr (.inr f_35))))), (q_8, .inl (g.2.2 1, 80, .inl (fun _ => 0))), (q_9, .inl (g.2.2 1, 10, .inl (fun _ => 0))), (q_10, .inl (g.2.2 1, 10, .inl (fun _ => 0))), (q_11, .inl (g.2.2 1, 10, .inl (fun _ => 0))), (q_12, .inl (g.2.2 1, 10, .inl (fun _ => 0))), (q_13, .inl (g.2.2 1, 10, .inl (fun _ => 0))), (q_14, .inl (g.2.2 1, 1700, .inl (fun _ => 0))), (q_15, .inl (g.2.2 1, 1700, .inl (fun _ => 0))), (q_16, .inl (g.2.2 1, 1700, .inl (fun _ => 0))), (q_17, .inl (g.2.2 1, 1700, .inl (fun _ => 0))), (q_18, .inl (g.2.2 1, 4960, .inl (fun _ => 0))), (q_19, .inl (g.2.2 1, 1728, .inl (fun _ => 0))), (q_20, .inl (g.2.2 1, 400, .inl (fun _ => 0))), (q_36, .inr (6, [.ref (u_37 0), .ref (u_37 1), .ref (u_37 2), .ref (u_37 3), .ref (u_37 4), .ref (u_37 5), .ref (u_37 6), .ref (u_37 7), .int 0, .int 0, .int 0, .int 0, .int 0, .int 0, .int 0, .int 0, .int 0]))] A s.heap _ _ := h
  refine W.widen (k := 125) (n := 14879) (by decide) (by decide) ?_
  refine va_astq C.1.1 C.1.2.1 C.2 h.1 h.2.1 h.2.2.1 4 4 18 6 rfl rfl rfl rfl (pk_in 5 6 (by decide) rfl) dPl_init_183 (fun H locs hP hD hS => ?_)
  have h : Hx g [(o, .inr (5, [.ref q_1, .ref q_3, .ref q_5, .ref q_7, .ref q_8, .ref q_9, .ref q_10, .ref q_11, .ref q_12, .ref q_13, .ref q_14, .ref q_15, .ref q_16, .ref q_17, .int 0, .ref q_18, .int 0, .ref q_19, .ref q_20, .int 0])), (q_1, .inr (7, [.ref u_2.1, .ref u_2.2, .int 0])), (q_3, .inr (7, [.ref u_4.1, .ref u_4.2, .int 0])), (q_5, .inr (7, [.ref u_6.1, .ref u_6.2, .int 0])), (q_7, .inl (g.2.2 4, 6, .inr (.inr (.inr (.inr (va_up f_35 (5 : Int32).toNatClampNeg (some q_36))))))), (q_8, .inl (g.2.2 1, 80, .inl (fun _ => 0))), (q_9, .inl (g.2.2 1, 10, .inl (fun _ => 0))), (q_10, .inl (g.2.2 1, 10, .inl (fun _ => 0))), (q_11, .inl (g.2.2 1, 10, .inl (fun _ => 0))), (q_12, .inl (g.2.2 1, 10, .inl (fun _ => 0))), (q_13, .inl (g.2.2 1, 10, .inl (fun _ => 0))), (q_14, .inl (g.2.2 1, 1700, .inl (fun _ => 0))), (q_15, .inl (g.2.2 1, 1700, .inl (fun _ => 0))), (q_16, .inl (g.2.2 1, 1700, .inl (fun _ => 0))), (q_17, .inl (g.2.2 1, 1700, .inl (fun _ => 0))), (q_18, .inl (g.2.2 1, 4960, .inl (fun _ => 0))), (q_19, .inl (g.2.2 1, 1728, .inl (fun _ => 0))), (q_20, .inl (g.2.2 1, 400, .inl (fun _ => 0))), (q_36, .inr (6, [.ref (u_37 0), .ref (u_37 1), .ref (u_37 2), .ref (u_37 3), .ref (u_37 4), .ref (u_37 5), .ref (u_37 6), .ref (u_37 7), .int 0, .int 0, .int 0, .int 0, .int 0, .int 0, .int 0, .int 0, .int 0]))] A s.heap _ _ := ⟨hP, hD, hS, h.2.2.2⟩
  generalize (va_up f_35 (5 : Int32).toNatClampNeg (some q_36)) = f_38 at h
  have h : Hx g [(o, .inr (5, [.ref q_1, .ref q_3, .ref q_5, .ref q_7, .ref q_8, .ref q_9, .ref q_10, .ref q_11, .ref q_12, .ref q_13, .ref q_14, .ref q_15, .ref q_16, .ref q_17, .int 0, .ref q_18, .int 0, .ref q_19, .ref q_20, .int 0])), (q_1, .inr (7, [.ref u_2.1, .ref u_2.2, .int 0])), (q_3, .inr (7, [.ref u_4.1, .ref u_4.2, .int 0])), (q_5, .inr (7, [.ref u_6.1, .ref u_6.2, .int 0])), (q_7, .inl (g.2.2 4, 6, .inr (.inr (.inr (.inr f_38))))), (q_8, .inl (g.2.2 1, 80, .inl (fun _ => 0))), (q_9, .inl (g.2.2 1, 10, .inl (fun _ => 0))), (q_10, .inl (g.2.2 1, 10, .inl (fun _ => 0))), (q_11, .inl (g.2.2 1, 10, .inl (fun _ => 0))), (q_12, .inl (g.2.2 1, 10, .inl (fun _ => 0))), (q_13, .inl (g.2.2 1, 10, .inl (fun _ => 0))), (q_14, .inl (g.2.2 1, 1700, .inl (fun _ => 0))), (q_15, .inl (g.2.2 1, 1700, .inl (fun _ => 0))), (q_16, .inl (g.2.2 1, 1700, .inl (fun _ => 0))), (q_17, .inl (g.2.2 1, 1700, .inl (fun _ => 0))), (q_18, .inl (g.2.2 1, 4960, .inl (fun _ => 0))), (q_19, .inl (g.2.2 1, 1728, .inl (fun _ => 0))), (q_20, .inl (g.2.2 1, 400, .inl (fun _ => 0)))] A s.heap _ _ := h.cut [0, 1, 2, 3, 4, 5, 6, 7, 8, 9, 10, 11, 12, 13, 14, 15, 16, 17] (by decide) rfl
  refine lv_iinc (v := 6) (lv' := [(1, .int (6)), (0, .ref o)]) hx hb dPl_init_184 hl (k := 0) rfl (by decide) (by decide) rfl (fun ls hl => ?_)
  refine lv_goto (tgt := 165) hx hb dPl_init_187 (by decide) ?_
  refine lv_iload_n hx hb dPl_init_165 rfl (lv_at hl 0 rfl) ?_
  refine lv_bipush (v := 6) hx hb dPl_init_166 (by decide) ?_
  refine lv_icmp_ge (tgt := 190) hx hb dPl_init_168 (by decide) (fun c168 => ?_) (fun c168 => absurd c168 (by decide))
  have h : Hx g [(o, .inr (5, [.ref q_1, .ref q_3, .ref q_5, .ref q_7, .ref q_8, .ref q_9, .ref q_10, .ref q_11, .ref q_12, .ref q_13, .ref q_14, .ref q_15, .ref q_16, .ref q_17, .int 0, .ref q_18, .int 0, .ref q_19, .ref q_20, .int 0])), (q_1, .inr (7, [.ref u_2.1, .ref u_2.2, .int 0])), (q_3, .inr (7, [.ref u_4.1, .ref u_4.2, .int 0])), (q_5, .inr (7, [.ref u_6.1, .ref u_6.2, .int 0])), (q_8, .inl (g.2.2 1, 80, .inl (fun _ => 0))), (q_11, .inl (g.2.2 1, 10, .inl (fun _ => 0))), (q_19, .inl (g.2.2 1, 1728, .inl (fun _ => 0)))] A s.heap _ _ := h.cut [0, 1, 2, 3, 5, 8, 16] (by decide) rfl
  exact KV.ret C hr hlk (fun i => ([q_1, q_3, q_5, q_7, q_8, q_9, q_10, q_11, q_12, q_13, q_14, q_15, q_16, q_17, q_18, q_19, q_20, u_2.1, u_2.2, u_4.1, u_4.2, u_6.1, u_6.2] : List Nat).getD i 0) h trivial (by decide) (by decide) dPl_init_190

set_option maxHeartbeats 4000000 in
set_option maxRecDepth 100000 in
/-- clear() -/
theorem t_clear (l : Launch) (g : GG) (o : Nat) (w : Nat → Nat) : KV l yPl_clear cPl_clear 1 (rD 1 0 0) g [(o, .inr (5, [.ref (w 0), .ref (w 1), .ref (w 2), .ref (w 3), .ref (w 4), .ref (w 5), .ref (w 6), .ref (w 7), .ref (w 8), .ref (w 9), .ref (w 10), .ref (w 11), .ref (w 12), .ref (w 13), .int 0, .ref (w 14), .int 0, .ref (w 15), .ref (w 16), .int 0])), (w 0, .inr (7, [.ref (w 17), .ref (w 18), .int 0])), (w 1, .inr (7, [.ref (w 19), .ref (w 20), .int 0])), (w 2, .inr (7, [.ref (w 21), .ref (w 22), .int 0])), (w 4, .inl (g.2.2 1, 80, .inl (fun _ => 0))), (w 7, .inl (g.2.2 1, 10, .inl (fun _ => 0))), (w 15, .inl (g.2.2 1, 1728, .inl (fun _ => 0)))] (fun u : Unit => []) [.ref o] (fun u : Unit => True) := by
  refine KV.of (by decide) (Nat.le_of_ble_eq_true rfl) ?_
  intro p e s m below meth c A ls C hr hlk hnm h hl
  have hx := C.1.1
  have hb := C.1.2.1
  have hl : lv_has ls 1 [(0, .ref o)] := hl
  refine lv_aload_n hx hb dPl_clear_0 rfl (lv_at hl 0 rfl) ?_
  refine og C h laysPl 0 rfl rfl 0 (by decide) flPl_18 rfl (v := .ref (w 0)) rfl dPl_clear_1 ?_
  refine lv_iconst (v := 0) hx hb dPl_clear_4 (by decide) ?_
  refine op C h laysNa tyNa tyNa_ok nmNa 1 rfl rfl 2 (by decide) flPl_75 rfl rfl (v := .int 0) rfl rfl (Nat.le_of_ble_eq_true rfl) (w' := [(o, .inr (5, [.ref (w 0), .ref (w 1), .ref (w 2), .ref (w 3), .ref (w 4), .ref (w 5), .ref (w 6), .ref (w 7), .ref (w 8), .ref (w 9), .ref (w 10), .ref (w 11), .ref (w 12), .ref (w 13), .int 0, .ref (w 14), .int 0, .ref (w 15), .ref (w 16), .int 0])), (w 0, .inr (7, [.ref (w 17), .ref (w 18), .int 0])), (w 1, .inr (7, [.ref (w 19), .ref (w 20), .int 0])), (w 2, .inr (7, [.ref (w 21), .ref (w 22), .int 0])), (w 4, .inl (g.2.2 1, 80, .inl (fun _ => 0))), (w 7, .inl (g.2.2 1, 10, .inl (fun _ => 0))), (w 15, .inl (g.2.2 1, 1728, .inl (fun _ => 0)))]) rfl dPl_clear_5 (fun H locs h => ?_)
  refine lv_aload_n hx hb dPl_clear_8 rfl (lv_at hl 0 rfl) ?_
  refine og C h laysPl 0 rfl rfl 1 (by decide) flPl_22 rfl (v := .ref (w 1)) rfl dPl_clear_9 ?_
  refine lv_iconst (v := 0) hx hb dPl_clear_12 (by decide) ?_
  refine op C h laysNa tyNa tyNa_ok nmNa 2 rfl rfl 2 (by decide) flPl_75 rfl rfl (v := .int 0) rfl rfl (Nat.le_of_ble_eq_true rfl) (w' := [(o, .inr (5, [.ref (w 0), .ref (w 1), .ref (w 2), .ref (w 3), .ref (w 4), .ref (w 5), .ref (w 6), .ref (w 7), .ref (w 8), .ref (w 9), .ref (w 10), .ref (w 11), .ref (w 12), .ref (w 13), .int 0, .ref (w 14), .int 0, .ref (w 15), .ref (w 16), .int 0])), (w 0, .inr (7, [.ref (w 17), .ref (w 18), .int 0])), (w 1, .inr (7, [.ref (w 19), .ref (w 20), .int 0])), (w 2, .inr (7, [.ref (w 21), .ref (w 22), .int 0])), (w 4, .inl (g.2.2 1, 80, .inl (fun _ => 0))), (w 7, .inl (g.2.2 1, 10, .inl (fun _ => 0))), (w 15, .inl (g.2.2 1, 1728, .inl (fun _ => 0)))]) rfl dPl_clear_13 (fun H locs h => ?_)
  refine lv_aload_n hx hb dPl_clear_16 rfl (lv_at hl 0 rfl) ?_
  refine og C h laysPl 0 rfl rfl 2 (by decide) flPl_25 rfl (v := .ref (w 2)) rfl dPl_clear_17 ?_
  refine lv_iconst (v := 0) hx hb dPl_clear_20 (by decide) ?_
  refine op C h laysNa tyNa tyNa_ok nmNa 3 rfl rfl 2 (by decide) flPl_75 rfl rfl (v := .int 0) rfl rfl (Nat.le_of_ble_eq_true rfl) (w' := [(o, .inr (5, [.ref (w 0), .ref (w 1), .ref (w 2), .ref (w 3), .ref (w 4), .ref (w 5), .ref (w 6), .ref (w 7), .ref (w 8), .ref (w 9), .ref (w 10), .ref (w 11), .ref (w 12), .ref (w 13), .int 0, .ref (w 14), .int 0, .ref (w 15), .ref (w 16), .int 0])), (w 0, .inr (7, [.ref (w 17), .ref (w 18), .int 0])), (w 1, .inr (7, [.ref (w 19), .ref (w 20), .int 0])), (w 2, .inr (7, [.ref (w 21), .ref (w 22), .int 0])), (w 4, .inl (g.2.2 1, 80, .inl (fun _ => 0))), (w 7, .inl (g.2.2 1, 10, .inl (fun _ => 0))), (w 15, .inl (g.2.2 1, 1728, .inl (fun _ => 0)))]) rfl dPl_clear_21 (fun H locs h => ?_)
  refine lv_aload_n hx hb dPl_clear_24 rfl (lv_at hl 0 rfl) ?_
  refine lv_iconst (v := 0) hx hb dPl_clear_25 (by decide) ?_
  refine op C h laysPl tyPl tyPl_ok nmPl 0 rfl rfl 14 (by decide) flPl_79 rfl rfl (v := .int 0) rfl rfl (Nat.le_of_ble_eq_true rfl) (w' := [(o, .inr (5, [.ref (w 0), .ref (w 1), .ref (w 2), .ref (w 3), .ref (w 4), .ref (w 5), .ref (w 6), .ref (w 7), .ref (w 8), .ref (w 9), .ref (w 10), .ref (w 11), .ref (w 12), .ref (w 13), .int 0, .ref (w 14), .int 0, .ref (w 15), .ref (w 16), .int 0])), (w 0, .inr (7, [.ref (w 17), .ref (w 18), .int 0])), (w 1, .inr (7, [.ref (w 19), .ref (w 20), .int 0])), (w 2, .inr (7, [.ref (w 21), .ref (w 22), .int 0])), (w 4, .inl (g.2.2 1, 80, .inl (fun _ => 0))), (w 7, .inl (g.2.2 1, 10, .inl (fun _ => 0))), (w 15, .inl (g.2.2 1, 1728, .inl (fun _ => 0)))]) rfl dPl_clear_26 (fun H locs h => ?_)
  refine lv_aload_n hx hb dPl_clear_29 rfl (lv_at hl 0 rfl) ?_
  refine lv_iconst (v := 0) hx hb dPl_clear_30 (by decide) ?_
  refine op C h laysPl tyPl tyPl_ok nmPl 0 rfl rfl 16 (by decide) flPl_80 rfl rfl (v := .int 0) rfl rfl (Nat.le_of_ble_eq_true rfl) (w' := [(o, .inr (5, [.ref (w 0), .ref (w 1), .ref (w 2), .ref (w 3), .ref (w 4), .ref (w 5), .ref (w 6), .ref (w 7), .ref (w 8), .ref (w 9), .ref (w 10), .ref (w 11), .ref (w 12), .ref (w 13), .int 0, .ref (w 14), .int 0, .ref (w 15), .ref (w 16), .int 0])), (w 0, .inr (7, [.ref (w 17), .ref (w 18), .int 0])), (w 1, .inr (7, [.ref (w 19), .ref (w 20), .int 0])), (w 2, .inr (7, [.ref (w 21), .ref (w 22), .int 0])), (w 4, .inl (g.2.2 1, 80, .inl (fun _ => 0))), (w 7, .inl (g.2.2 1, 10, .inl (fun _ => 0))), (w 15, .inl (g.2.2 1, 1728, .inl (fun _ => 0)))]) rfl dPl_clear_31 (fun H locs h => ?_)
  refine lv_aload_n hx hb dPl_clear_34 rfl (lv_at hl 0 rfl) ?_
  refine lv_iconst (v := 0) hx hb dPl_clear_35 (by decide) ?_
  refine op C h laysPl tyPl tyPl_ok nmPl 0 rfl rfl 19 (by decide) flPl_83 rfl rfl (v := .int 0) rfl rfl (Nat.le_of_ble_eq_true rfl) (w' := [(o, .inr (5, [.ref (w 0), .ref (w 1), .ref (w 2), .ref (w 3), .ref (w 4), .ref (w 5), .ref (w 6), .ref (w 7), .ref (w 8), .ref (w 9), .ref (w 10), .ref (w 11), .ref (w 12), .ref (w 13), .int 0, .ref (w 14), .int 0, .ref (w 15), .ref (w 16), .int 0])), (w 0, .inr (7, [.ref (w 17), .ref (w 18), .int 0])), (w 1, .inr (7, [.ref (w 19), .ref (w 20), .int 0])), (w 2, .inr (7, [.ref (w 21), .ref (w 22), .int 0])), (w 4, .inl (g.2.2 1, 80, .inl (fun _ => 0))), (w 7, .inl (g.2.2 1, 10, .inl (fun _ => 0))), (w 15, .inl (g.2.2 1, 1728, .inl (fun _ => 0)))]) rfl dPl_clear_36 (fun H locs h => ?_)
  refine lv_aload_n hx hb dPl_clear_39 rfl (lv_at hl 0 rfl) ?_
  refine og C h laysPl 0 rfl rfl 4 (by decide) flPl_34 rfl (v := .ref (w 4)) rfl dPl_clear_40 ?_
  refine lv_iconst (v := 0) hx hb dPl_clear_43 (by decide) ?_
  refine KV.callSs (As := [.ref (w 4), .int 0]) (wc := [(w 4, .inl (g.2.2 1, 80, .inl (fun _ => 0)))]) (wr := [(o, .inr (5, [.ref (w 0), .ref (w 1), .ref (w 2), .ref (w 3), .ref (w 4), .ref (w 5), .ref (w 6), .ref (w 7), .ref (w 8), .ref (w 9), .ref (w 10), .ref (w 11), .ref (w 12), .ref (w 13), .int 0, .ref (w 14), .int 0, .ref (w 15), .ref (w 16), .int 0])), (w 0, .inr (7, [.ref (w 17), .ref (w 18), .int 0])), (w 1, .inr (7, [.ref (w 19), .ref (w 20), .int 0])), (w 2, .inr (7, [.ref (w 21), .ref (w 22), .int 0])), (w 7, .inl (g.2.2 1, 10, .inl (fun _ => 0))), (w 15, .inl (g.2.2 1, 1728, .inl (fun _ => 0)))]) C h [4] [0, 1, 2, 3, 5, 6] rfl rfl (by decide) (by decide) (by decide) (j_fill l g (w 4) 80 (by decide) 0 (fun _ => 0)) mlPl_86 isJ7_fill_53178 iiJ7_fill_53178 icJ7_fill_53178 npJ7_fill_53178 ⟨by decide, by decide⟩ hl.1 rfl (Nat.le_of_ble_eq_true rfl) dPl_clear_44 ⟨by decide, by decide⟩ (fun u_1 H locs hp h => ?_)
  have h : Hx g [(o, .inr (5, [.ref (w 0), .ref (w 1), .ref (w 2), .ref (w 3), .ref (w 4), .ref (w 5), .ref (w 6), .ref (w 7), .ref (w 8), .ref (w 9), .ref (w 10), .ref (w 11), .ref (w 12), .ref (w 13), .int 0, .ref (w 14), .int 0, .ref (w 15), .ref (w 16), .int 0])), (w 0, .inr (7, [.ref (w 17), .ref (w 18), .int 0])), (w 1, .inr (7, [.ref (w 19), .ref (w 20), .int 0])), (w 2, .inr (7, [.ref (w 21), .ref (w 22), .int 0])), (w 7, .inl (g.2.2 1, 10, .inl (fun _ => 0))), (w 15, .inl (g.2.2 1, 1728, .inl (fun _ => 0))), ((w 4), .inl (g.2.2 1, 80, .inl u_1))] A s.heap _ _ := h
  refine lv_aload_n hx hb dPl_clear_47 rfl (lv_at hl 0 rfl) ?_
  refine og C h laysPl 0 rfl rfl 7 (by decide) flPl_44 rfl (v := .ref (w 7)) rfl dPl_clear_48 ?_
  refine lv_iconst (v := 0) hx hb dPl_clear_51 (by decide) ?_
  refine KV.callSs (As := [.ref (w 7), .int 0]) (wc := [(w 7, .inl (g.2.2 1, 10, .inl (fun _ => 0)))]) (wr := [(o, .inr (5, [.ref (w 0), .ref (w 1), .ref (w 2), .ref (w 3), .ref (w 4), .ref (w 5), .ref (w 6), .ref (w 7), .ref (w 8), .ref (w 9), .ref (w 10), .ref (w 11), .ref (w 12), .ref (w 13), .int 0, .ref (w 14), .int 0, .ref (w 15), .ref (w 16), .int 0])), (w 0, .inr (7, [.ref (w 17), .ref (w 18), .int 0])), (w 1, .inr (7, [.ref (w 19), .ref (w 20), .int 0])), (w 2, .inr (7, [.ref (w 21), .ref (w 22), .int 0])), (w 15, .inl (g.2.2 1, 1728, .inl (fun _ => 0))), ((w 4), .inl (g.2.2 1, 80, .inl u_1))]) C h [4] [0, 1, 2, 3, 5, 6] rfl rfl (by decide) (by decide) (by decide) (j_fill l g (w 7) 10 (by decide) 0 (fun _ => 0)) mlPl_86 isJ7_fill_53178 iiJ7_fill_53178 icJ7_fill_53178 npJ7_fill_53178 ⟨by decide, by decide⟩ hl.1 rfl (Nat.le_of_ble_eq_true rfl) dPl_clear_52 ⟨by decide, by decide⟩ (fun u_2 H locs hp h => ?_)
  have h : Hx g [(o, .inr (5, [.ref (w 0), .ref (w 1), .ref (w 2), .ref (w 3), .ref (w 4), .ref (w 5), .ref (w 6), .ref (w 7), .ref (w 8), .ref (w 9), .ref (w 10), .ref (w 11), .ref (w 12), .ref (w 13), .int 0, .ref (w 14), .int 0, .ref (w 15), .ref (w 16), .int 0])), (w 0, .inr (7, [.ref (w 17), .ref (w 18), .int 0])), (w 1, .inr (7, [.ref (w 19), .ref (w 20), .int 0])), (w 2, .inr (7, [.ref (w 21), .ref (w 22), .int 0])), (w 15, .inl (g.2.2 1, 1728, .inl (fun _ => 0))), ((w 4), .inl (g.2.2 1, 80, .inl u_1)), ((w 7), .inl (g.2.2 1, 10, .inl u_2))] A s.heap _ _ := h
  refine lv_aload_n hx hb dPl_clear_55 rfl (lv_at hl 0 rfl) ?_
  refine og C h laysPl 0 rfl rfl 17 (by decide) flPl_68 rfl (v := .ref (w 15)) rfl dPl_clear_56 ?_
  refine lv_iconst (v := 0) hx hb dPl_clear_59 (by decide) ?_
  refine KV.callSs (As := [.ref (w 15), .int 0]) (wc := [(w 15, .inl (g.2.2 1, 1728, .inl (fun _ => 0)))]) (wr := [(o, .inr (5, [.ref (w 0), .ref (w 1), .ref (w 2), .ref (w 3), .ref (w 4), .ref (w 5), .ref (w 6), .ref (w 7), .ref (w 8), .ref (w 9), .ref (w 10), .ref (w 11), .ref (w 12), .ref (w 13), .int 0, .ref (w 14), .int 0, .ref (w 15), .ref (w 16), .int 0])), (w 0, .inr (7, [.ref (w 17), .ref (w 18), .int 0])), (w 1, .inr (7, [.ref (w 19), .ref (w 20), .int 0])), (w 2, .inr (7, [.ref (w 21), .ref (w 22), .int 0])), ((w 4), .inl (g.2.2 1, 80, .inl u_1)), ((w 7), .inl (g.2.2 1, 10, .inl u_2))]) C h [4] [0, 1, 2, 3, 5, 6] rfl rfl (by decide) (by decide) (by decide) (j_fill l g (w 15) 1728 (by decide) 0 (fun _ => 0)) mlPl_86 isJ7_fill_53178 iiJ7_fill_53178 icJ7_fill_53178 npJ7_fill_53178 ⟨by decide, by decide⟩ hl.1 rfl (Nat.le_of_ble_eq_true rfl) dPl_clear_60 ⟨by decide, by decide⟩ (fun u_3 H locs hp h => ?_)
  have h : Hx g [(o, .inr (5, [.ref (w 0), .ref (w 1), .ref (w 2), .ref (w 3), .ref (w 4), .ref (w 5), .ref (w 6), .ref (w 7), .ref (w 8), .ref (w 9), .ref (w 10), .ref (w 11), .ref (w 12), .ref (w 13), .int 0, .ref (w 14), .int 0, .ref (w 15), .ref (w 16), .int 0])), (w 0, .inr (7, [.ref (w 17), .ref (w 18), .int 0])), (w 1, .inr (7, [.ref (w 19), .ref (w 20), .int 0])), (w 2, .inr (7, [.ref (w 21), .ref (w 22), .int 0])), ((w 4), .inl (g.2.2 1, 80, .inl u_1)), ((w 7), .inl (g.2.2 1, 10, .inl u_2)), ((w 15), .inl (g.2.2 1, 1728, .inl u_3))] A s.heap _ _ := h
  have h : Hx g [] A s.heap _ _ := h.cut [] (by decide) rfl
  exact KV.ret C hr hlk () h trivial (by decide) (by decide) dPl_clear_63

set_option maxHeartbeats 4000000 in
set_option maxRecDepth 100000 in
/-- isOver(0) -/
theorem t_isOver0 (l : Launch) (g : GG) (pa o kd pl : Nat) : KI l yPa_isOver cPa_isOver 2 (some .boolean) (rD 0 0 0) g [(pa, .inr (3, [.ref o, .ref pl, .ref kd, .int 0, .int 0, .int 0]))] (fun u : Unit => [(pa, .inr (3, [.ref o, .ref pl, .ref kd, .int 0, .int 0, .int 0]))]) [.ref pa, .int 0] (fun (r : Int32) (u : Unit) => r = 0) := by
  refine KI.of (by decide) (Nat.le_of_ble_eq_true rfl) ?_
  intro p e s m below meth c A ls C hr hlk hnm h hl
  have hx := C.1.1
  have hb := C.1.2.1
  have hl : lv_has ls 2 [(0, .ref pa), (1, .int 0)] := hl
  refine lv_iload_n hx hb dPa_isOver_0 rfl (lv_at hl 1 rfl) ?_
  refine lv_if_le (tgt := 25) hx hb dPa_isOver_1 (by decide) (fun c1 => ?_) (fun c1 => absurd c1 (by decide))
  refine lv_iconst (v := 0) hx hb dPa_isOver_25 (by decide) ?_
  exact KI.ret C hr hlk () h rfl rfl (by decide) (by decide) dPa_isOver_26

set_option maxHeartbeats 4000000 in
set_option maxRecDepth 100000 in
/-- fits(): the end fits nowhere -/
theorem t_fits0 (l : Launch) (g : GG) (pa o kd pl : Nat) : KI l yPa_fits cPa_fits 2 (some .boolean) (rD 0 0 0) g [(pa, .inr (3, [.ref o, .ref pl, .ref kd, .int 0, .int 0, .int 0]))] (fun u : Unit => [(pa, .inr (3, [.ref o, .ref pl, .ref kd, .int 0, .int 0, .int 0]))]) [.ref pa, .int 0] (fun (r : Int32) (u : Unit) => r = 0) := by
  refine KI.of (by decide) (Nat.le_of_ble_eq_true rfl) ?_
  intro p e s m below meth c A ls C hr hlk hnm h hl
  have hx := C.1.1
  have hb := C.1.2.1
  have hl : lv_has ls 2 [(0, .ref pa), (1, .int 0)] := hl
  refine lv_aload_n hx hb dPa_fits_0 rfl (lv_at hl 0 rfl) ?_
  refine og C h laysPa 0 rfl rfl 3 (by decide) flPa_31 rfl (v := .int 0) rfl dPa_fits_1 ?_
  refine lv_tableIn (off := 28) (tgt := 32) hx hb dPa_fits_4 (by decide) (by decide) (by decide) (by decide) ?_
  refine lv_iload_n hx hb dPa_fits_32 rfl (lv_at hl 1 rfl) ?_
  refine lv_bipush (v := 40) hx hb dPa_fits_33 (by decide) ?_
  refine lv_icmp_eq (tgt := 50) hx hb dPa_fits_35 (by decide) (fun c35 => absurd c35 (by decide)) (fun c35 => ?_)
  refine lv_iload_n hx hb dPa_fits_38 rfl (lv_at hl 1 rfl) ?_
  refine lv_bipush (v := 41) hx hb dPa_fits_39 (by decide) ?_
  refine lv_icmp_eq (tgt := 50) hx hb dPa_fits_41 (by decide) (fun c41 => absurd c41 (by decide)) (fun c41 => ?_)
  refine lv_iload_n hx hb dPa_fits_44 rfl (lv_at hl 1 rfl) ?_
  refine lv_bipush (v := 42) hx hb dPa_fits_45 (by decide) ?_
  refine lv_icmp_ne (tgt := 54) hx hb dPa_fits_47 (by decide) (fun c47 => ?_) (fun c47 => absurd c47 (by decide))
  refine lv_iconst (v := 0) hx hb dPa_fits_54 (by decide) ?_
  exact KI.ret C hr hlk () h rfl rfl (by decide) (by decide) dPa_fits_55

set_option maxHeartbeats 4000000 in
set_option maxRecDepth 100000 in
/-- parse() of an empty text: SYNTAX -/
theorem t_parseE (l : Launch) (g : GG) (pa o kd pl k pp v kw t : Nat) (w : Nat → Nat) : KV l yPa_parse cPa_parse 4 (rD 2 0 0) g [(pa, .inr (3, [.ref o, .null, .ref kd, .int 0, .int 0, .int 0])), (o, .inr (2, [.ref k, .ref pp, .ref v, .int 0, .int 0, .int 0, .int 0, .int 0, .int 0, .ref kw, .ref t, .int 0])), (k, .inl (g.2.2 1, 1202, .inl (upd (fun _ => 0) (0 : Int32).toNatClampNeg 0))), (pp, .inl (g.2.2 1, 1202, .inl (upd (fun _ => 0) (0 : Int32).toNatClampNeg 0))), (pl, .inr (5, [.ref (w 0), .ref (w 1), .ref (w 2), .ref (w 3), .ref (w 4), .ref (w 5), .ref (w 6), .ref (w 7), .ref (w 8), .ref (w 9), .ref (w 10), .ref (w 11), .ref (w 12), .ref (w 13), .int 0, .ref (w 14), .int 0, .ref (w 15), .ref (w 16), .int 0])), (w 0, .inr (7, [.ref (w 17), .ref (w 18), .int 0])), (w 1, .inr (7, [.ref (w 19), .ref (w 20), .int 0])), (w 2, .inr (7, [.ref (w 21), .ref (w 22), .int 0])), (w 4, .inl (g.2.2 1, 80, .inl (fun _ => 0))), (w 7, .inl (g.2.2 1, 10, .inl (fun _ => 0))), (w 15, .inl (g.2.2 1, 1728, .inl (fun _ => 0)))] (fun u : Unit => [(o, .inr (2, [.ref k, .ref pp, .ref v, .int 0, .int 0, .int 1, .int 0, .int 0, .int 0, .ref kw, .ref t, .int 0])), (k, .inl (g.2.2 1, 1202, .inl (upd (fun _ => 0) (0 : Int32).toNatClampNeg 0))), (pp, .inl (g.2.2 1, 1202, .inl (upd (fun _ => 0) (0 : Int32).toNatClampNeg 0)))]) [.ref pa, .ref pl] (fun u : Unit => True) := by
  refine KV.of (by decide) (Nat.le_of_ble_eq_true rfl) ?_
  intro p e s m below meth c A ls C hr hlk hnm h hl
  have hx := C.1.1
  have hb := C.1.2.1
  have hl : lv_has ls 4 [(0, .ref pa), (1, .ref pl)] := hl
  refine lv_aload_n hx hb dPa_parse_0 rfl (lv_at hl 0 rfl) ?_
  refine lv_aload_n hx hb dPa_parse_1 rfl (lv_at hl 1 rfl) ?_
  refine op C h laysPa tyPa tyPa_ok nmPa 0 rfl rfl 1 (by decide) flPa_22 rfl rfl (v := .ref pl) rfl rfl (Nat.le_of_ble_eq_true rfl) (w' := [(pa, .inr (3, [.ref o, .ref pl, .ref kd, .int 0, .int 0, .int 0])), (o, .inr (2, [.ref k, .ref pp, .ref v, .int 0, .int 0, .int 0, .int 0, .int 0, .int 0, .ref kw, .ref t, .int 0])), (k, .inl (g.2.2 1, 1202, .inl (upd (fun _ => 0) (0 : Int32).toNatClampNeg 0))), (pp, .inl (g.2.2 1, 1202, .inl (upd (fun _ => 0) (0 : Int32).toNatClampNeg 0))), (pl, .inr (5, [.ref (w 0), .ref (w 1), .ref (w 2), .ref (w 3), .ref (w 4), .ref (w 5), .ref (w 6), .ref (w 7), .ref (w 8), .ref (w 9), .ref (w 10), .ref (w 11), .ref (w 12), .ref (w 13), .int 0, .ref (w 14), .int 0, .ref (w 15), .ref (w 16), .int 0])), (w 0, .inr (7, [.ref (w 17), .ref (w 18), .int 0])), (w 1, .inr (7, [.ref (w 19), .ref (w 20), .int 0])), (w 2, .inr (7, [.ref (w 21), .ref (w 22), .int 0])), (w 4, .inl (g.2.2 1, 80, .inl (fun _ => 0))), (w 7, .inl (g.2.2 1, 10, .inl (fun _ => 0))), (w 15, .inl (g.2.2 1, 1728, .inl (fun _ => 0)))]) rfl dPa_parse_2 (fun H locs h => ?_)
  refine lv_aload_n hx hb dPa_parse_5 rfl (lv_at hl 0 rfl) ?_
  refine og C h laysPa 0 rfl rfl 1 (by decide) flPa_22 rfl (v := .ref pl) rfl dPa_parse_6 ?_
  refine KV.callVs (As := []) (q0 := 4) (ci := 5) (wc := [(pl, .inr (5, [.ref (w 0), .ref (w 1), .ref (w 2), .ref (w 3), .ref (w 4), .ref (w 5), .ref (w 6), .ref (w 7), .ref (w 8), .ref (w 9), .ref (w 10), .ref (w 11), .ref (w 12), .ref (w 13), .int 0, .ref (w 14), .int 0, .ref (w 15), .ref (w 16), .int 0])), (w 0, .inr (7, [.ref (w 17), .ref (w 18), .int 0])), (w 1, .inr (7, [.ref (w 19), .ref (w 20), .int 0])), (w 2, .inr (7, [.ref (w 21), .ref (w 22), .int 0])), (w 4, .inl (g.2.2 1, 80, .inl (fun _ => 0))), (w 7, .inl (g.2.2 1, 10, .inl (fun _ => 0))), (w 15, .inl (g.2.2 1, 1728, .inl (fun _ => 0)))]) (wr := [(pa, .inr (3, [.ref o, .ref pl, .ref kd, .int 0, .int 0, .int 0])), (o, .inr (2, [.ref k, .ref pp, .ref v, .int 0, .int 0, .int 0, .int 0, .int 0, .int 0, .ref kw, .ref t, .int 0])), (k, .inl (g.2.2 1, 1202, .inl (upd (fun _ => 0) (0 : Int32).toNatClampNeg 0))), (pp, .inl (g.2.2 1, 1202, .inl (upd (fun _ => 0) (0 : Int32).toNatClampNeg 0)))]) C h [4, 5, 6, 7, 8, 9, 10] [0, 1, 2, 3] rfl rfl (by decide) (by decide) (by decide) (t_clear l g pl w) vPa_parse_26 ⟨by decide, by decide⟩ rfl rfl hl.1 rfl (Nat.le_of_ble_eq_true rfl) dPa_parse_9 ⟨by decide, by decide⟩ (fun _ H locs hp h => ?_)
  have h : Hx g [(pa, .inr (3, [.ref o, .ref pl, .ref kd, .int 0, .int 0, .int 0])), (o, .inr (2, [.ref k, .ref pp, .ref v, .int 0, .int 0, .int 0, .int 0, .int 0, .int 0, .ref kw, .ref t, .int 0])), (k, .inl (g.2.2 1, 1202, .inl (upd (fun _ => 0) (0 : Int32).toNatClampNeg 0))), (pp, .inl (g.2.2 1, 1202, .inl (upd (fun _ => 0) (0 : Int32).toNatClampNeg 0)))] A s.heap _ _ := h
  refine lv_aload_n hx hb dPa_parse_12 rfl (lv_at hl 0 rfl) ?_
  refine lv_iconst (v := 0) hx hb dPa_parse_13 (by decide) ?_
  refine op C h laysPa tyPa tyPa_ok nmPa 0 rfl rfl 3 (by decide) flPa_31 rfl rfl (v := .int 0) rfl rfl (Nat.le_of_ble_eq_true rfl) (w' := [(pa, .inr (3, [.ref o, .ref pl, .ref kd, .int 0, .int 0, .int 0])), (o, .inr (2, [.ref k, .ref pp, .ref v, .int 0, .int 0, .int 0, .int 0, .int 0, .int 0, .ref kw, .ref t, .int 0])), (k, .inl (g.2.2 1, 1202, .inl (upd (fun _ => 0) (0 : Int32).toNatClampNeg 0))), (pp, .inl (g.2.2 1, 1202, .inl (upd (fun _ => 0) (0 : Int32).toNatClampNeg 0)))]) rfl dPa_parse_14 (fun H locs h => ?_)
  refine lv_iconst (v := 0) hx hb dPa_parse_17 (by decide) ?_
  refine lv_istore_n (lv' := [(2, .int (0)), (0, .ref pa), (1, .ref pl)]) hx hb dPa_parse_18 rfl hl (by decide) rfl (fun ls hl => ?_)
  refine lv_iload_n hx hb dPa_parse_19 rfl (lv_at hl 0 rfl) ?_
  refine lv_sipush (v := 1200) hx hb dPa_parse_20 (by decide) ?_
  refine lv_icmp_gt (tgt := 303) hx hb dPa_parse_23 (by decide) (fun c23 => absurd c23 (by decide)) (fun c23 => ?_)
  refine lv_aload_n hx hb dPa_parse_26 rfl (lv_at hl 1 rfl) ?_
  refine og C h laysPa 0 rfl rfl 0 (by decide) flPa_18 rfl (v := .ref o) rfl dPa_parse_27 ?_
  refine og C h laysTk 1 rfl rfl 5 (by decide) flPa_37 rfl (v := .int 0) rfl dPa_parse_30 ?_
  refine lv_if_ne (tgt := 303) hx hb dPa_parse_33 (by decide) (fun c33 => absurd c33 (by decide)) (fun c33 => ?_)
  refine lv_aload_n hx hb dPa_parse_36 rfl (lv_at hl 1 rfl) ?_
  refine lv_iload_n hx hb dPa_parse_37 rfl (lv_at hl 0 rfl) ?_
  refine KI.callVs (As := [.int 0]) (q0 := 0) (ci := 3) (wc := [(pa, .inr (3, [.ref o, .ref pl, .ref kd, .int 0, .int 0, .int 0]))]) (wr := [(o, .inr (2, [.ref k, .ref pp, .ref v, .int 0, .int 0, .int 0, .int 0, .int 0, .int 0, .ref kw, .ref t, .int 0])), (k, .inl (g.2.2 1, 1202, .inl (upd (fun _ => 0) (0 : Int32).toNatClampNeg 0))), (pp, .inl (g.2.2 1, 1202, .inl (upd (fun _ => 0) (0 : Int32).toNatClampNeg 0)))]) C h [0] [1, 2, 3] rfl rfl (by decide) (by decide) (by decide) (t_isOver0 l g pa o kd pl) vPa_parse_40 ⟨by decide, by decide⟩ rfl rfl hl.1 rfl (Nat.le_of_ble_eq_true rfl) dPa_parse_38 ⟨by decide, by decide⟩ (fun r_2 _ H locs hp h => ?_)
  have h : Hx g [(o, .inr (2, [.ref k, .ref pp, .ref v, .int 0, .int 0, .int 0, .int 0, .int 0, .int 0, .ref kw, .ref t, .int 0])), (k, .inl (g.2.2 1, 1202, .inl (upd (fun _ => 0) (0 : Int32).toNatClampNeg 0))), (pp, .inl (g.2.2 1, 1202, .inl (upd (fun _ => 0) (0 : Int32).toNatClampNeg 0))), (pa, .inr (3, [.ref o, .ref pl, .ref kd, .int 0, .int 0, .int 0]))] A s.heap _ _ := h
  subst hp
  refine lv_if_ne (tgt := 303) hx hb dPa_parse_41 (by decide) (fun c41 => absurd c41 (by decide)) (fun c41 => ?_)
  refine lv_aload_n hx hb dPa_parse_44 rfl (lv_at hl 1 rfl) ?_
  refine og C h laysPa 3 rfl rfl 0 (by decide) flPa_18 rfl (v := .ref o) rfl dPa_parse_45 ?_
  refine KI.callVs (As := []) (q0 := 0) (ci := 2) (wc := [(o, .inr (2, [.ref k, .ref pp, .ref v, .int 0, .int 0, .int 0, .int 0, .int 0, .int 0, .ref kw, .ref t, .int 0])), (k, .inl (g.2.2 1, 1202, .inl (upd (fun _ => 0) (0 : Int32).toNatClampNeg 0))), (pp, .inl (g.2.2 1, 1202, .inl (upd (fun _ => 0) (0 : Int32).toNatClampNeg 0)))]) (wr := [(pa, .inr (3, [.ref o, .ref pl, .ref kd, .int 0, .int 0, .int 0]))]) C h [0, 1, 2] [3] rfl rfl (by decide) (by decide) (by decide) (t_seen0 l g o k pp v kw t) vPa_parse_44 ⟨by decide, by decide⟩ rfl rfl hl.1 rfl (Nat.le_of_ble_eq_true rfl) dPa_parse_48 ⟨by decide, by decide⟩ (fun r_3 _ H locs hp h => ?_)
  have h : Hx g [(pa, .inr (3, [.ref o, .ref pl, .ref kd, .int 0, .int 0, .int 0])), (o, .inr (2, [.ref k, .ref pp, .ref v, .int 0, .int 0, .int 0, .int 0, .int 0, .int 0, .ref kw, .ref t, .int 0])), (k, .inl (g.2.2 1, 1202, .inl (upd (fun _ => 0) (0 : Int32).toNatClampNeg 0))), (pp, .inl (g.2.2 1, 1202, .inl (upd (fun _ => 0) (0 : Int32).toNatClampNeg 0)))] A s.heap _ _ := h
  subst hp
  refine lv_istore_n (lv' := [(3, .int (0)), (2, .int (0)), (0, .ref pa), (1, .ref pl)]) hx hb dPa_parse_51 rfl hl (by decide) rfl (fun ls hl => ?_)
  refine lv_aload_n hx hb dPa_parse_52 rfl (lv_at hl 2 rfl) ?_
  refine lv_iload_n hx hb dPa_parse_53 rfl (lv_at hl 0 rfl) ?_
  refine KI.callVs (As := [.int 0]) (q0 := 0) (ci := 3) (wc := [(pa, .inr (3, [.ref o, .ref pl, .ref kd, .int 0, .int 0, .int 0]))]) (wr := [(o, .inr (2, [.ref k, .ref pp, .ref v, .int 0, .int 0, .int 0, .int 0, .int 0, .int 0, .ref kw, .ref t, .int 0])), (k, .inl (g.2.2 1, 1202, .inl (upd (fun _ => 0) (0 : Int32).toNatClampNeg 0))), (pp, .inl (g.2.2 1, 1202, .inl (upd (fun _ => 0) (0 : Int32).toNatClampNeg 0)))]) C h [0] [1, 2, 3] rfl rfl (by decide) (by decide) (by decide) (t_fits0 l g pa o kd pl) vPa_parse_48 ⟨by decide, by decide⟩ rfl rfl hl.1 rfl (Nat.le_of_ble_eq_true rfl) dPa_parse_54 ⟨by decide, by decide⟩ (fun r_4 _ H locs hp h => ?_)
  have h : Hx g [(o, .inr (2, [.ref k, .ref pp, .ref v, .int 0, .int 0, .int 0, .int 0, .int 0, .int 0, .ref kw, .ref t, .int 0])), (k, .inl (g.2.2 1, 1202, .inl (upd (fun _ => 0) (0 : Int32).toNatClampNeg 0))), (pp, .inl (g.2.2 1, 1202, .inl (upd (fun _ => 0) (0 : Int32).toNatClampNeg 0))), (pa, .inr (3, [.ref o, .ref pl, .ref kd, .int 0, .int 0, .int 0]))] A s.heap _ _ := h
  subst hp
  refine lv_if_ne (tgt := 75) hx hb dPa_parse_57 (by decide) (fun c57 => absurd c57 (by decide)) (fun c57 => ?_)
  refine lv_aload_n hx hb dPa_parse_60 rfl (lv_at hl 2 rfl) ?_
  refine og C h laysPa 3 rfl rfl 0 (by decide) flPa_18 rfl (v := .ref o) rfl dPa_parse_61 ?_
  refine lv_iconst (v := 1) hx hb dPa_parse_64 (by decide) ?_
  refine lv_aload_n hx hb dPa_parse_65 rfl (lv_at hl 2 rfl) ?_
  refine og C h laysPa 3 rfl rfl 0 (by decide) flPa_18 rfl (v := .ref o) rfl dPa_parse_66 ?_
  refine og C h laysTk 0 rfl rfl 3 (by decide) flPa_51 rfl (v := .int 0) rfl dPa_parse_69 ?_
  refine KV.callVs (As := [.int 1, .int 0]) (q0 := 0) (ci := 2) (wc := [(o, .inr (2, [.ref k, .ref pp, .ref v, .int 0, .int 0, .int 0, .int 0, .int 0, .int 0, .ref kw, .ref t, .int 0])), (k, .inl (g.2.2 1, 1202, .inl (upd (fun _ => 0) (0 : Int32).toNatClampNeg 0))), (pp, .inl (g.2.2 1, 1202, .inl (upd (fun _ => 0) (0 : Int32).toNatClampNeg 0)))]) (wr := [(pa, .inr (3, [.ref o, .ref pl, .ref kd, .int 0, .int 0, .int 0]))]) C h [0, 1, 2] [3] rfl rfl (by decide) (by decide) (by decide) (t_fail0 l g o k pp v kw t) vPa_parse_54 ⟨by decide, by decide⟩ rfl rfl hl.1 rfl (Nat.le_of_ble_eq_true rfl) dPa_parse_72 ⟨by decide, by decide⟩ (fun _ H locs hp h => ?_)
  have h : Hx g [(pa, .inr (3, [.ref o, .ref pl, .ref kd, .int 0, .int 0, .int 0])), (o, .inr (2, [.ref k, .ref pp, .ref v, .int 0, .int 0, .int 1, .int 0, .int 0, .int 0, .ref kw, .ref t, .int 0])), (k, .inl (g.2.2 1, 1202, .inl (upd (fun _ => 0) (0 : Int32).toNatClampNeg 0))), (pp, .inl (g.2.2 1, 1202, .inl (upd (fun _ => 0) (0 : Int32).toNatClampNeg 0)))] A s.heap _ _ := h
  refine lv_aload_n hx hb dPa_parse_75 rfl (lv_at hl 2 rfl) ?_
  refine og C h laysPa 0 rfl rfl 0 (by decide) flPa_18 rfl (v := .ref o) rfl dPa_parse_76 ?_
  refine lv_iload_n hx hb dPa_parse_79 rfl (lv_at hl 0 rfl) ?_
  refine KI.callVs (As := [.int 0]) (q0 := 1) (ci := 2) (wc := [(o, .inr (2, [.ref k, .ref pp, .ref v, .int 0, .int 0, .int 1, .int 0, .int 0, .int 0, .ref kw, .ref t, .int 0])), (k, .inl (g.2.2 1, 1202, .inl (upd (fun _ => 0) (0 : Int32).toNatClampNeg 0))), (pp, .inl (g.2.2 1, 1202, .inl (upd (fun _ => 0) (0 : Int32).toNatClampNeg 0)))]) (wr := [(pa, .inr (3, [.ref o, .ref pl, .ref kd, .int 0, .int 0, .int 0]))]) C h [1, 2, 3] [0] rfl rfl (by decide) (by decide) (by decide) (t_take1 l g o k pp v kw t) vPa_parse_58 ⟨by decide, by decide⟩ rfl rfl hl.1 rfl (Nat.le_of_ble_eq_true rfl) dPa_parse_80 ⟨by decide, by decide⟩ (fun r_6 _ H locs hp h => ?_)
  have h : Hx g [(pa, .inr (3, [.ref o, .ref pl, .ref kd, .int 0, .int 0, .int 0])), (o, .inr (2, [.ref k, .ref pp, .ref v, .int 0, .int 0, .int 1, .int 0, .int 0, .int 0, .ref kw, .ref t, .int 0])), (k, .inl (g.2.2 1, 1202, .inl (upd (fun _ => 0) (0 : Int32).toNatClampNeg 0))), (pp, .inl (g.2.2 1, 1202, .inl (upd (fun _ => 0) (0 : Int32).toNatClampNeg 0)))] A s.heap _ _ := h
  subst hp
  refine lv_pop hx hb dPa_parse_83 rfl ?_
  refine lv_aload_n hx hb dPa_parse_84 rfl (lv_at hl 2 rfl) ?_
  refine og C h laysPa 0 rfl rfl 0 (by decide) flPa_18 rfl (v := .ref o) rfl dPa_parse_85 ?_
  refine og C h laysTk 1 rfl rfl 5 (by decide) flPa_37 rfl (v := .int 1) rfl dPa_parse_88 ?_
  refine lv_if_eq (tgt := 98) hx hb dPa_parse_91 (by decide) (fun c91 => absurd c91 (by decide)) (fun c91 => ?_)
  refine lv_iconst (v := 1) hx hb dPa_parse_94 (by decide) ?_
  refine lv_goto (tgt := 99) hx hb dPa_parse_95 (by decide) ?_
  refine lv_tableOut (tgt := 297) hx hb dPa_parse_99 (by decide) (by decide) ?_
  refine lv_iinc (v := 1) (lv' := [(2, .int (1)), (3, .int (0)), (0, .ref pa), (1, .ref pl)]) hx hb dPa_parse_297 hl (k := 1) rfl (by decide) (by decide) rfl (fun ls hl => ?_)
  refine lv_goto (tgt := 19) hx hb dPa_parse_300 (by decide) ?_
  refine lv_iload_n hx hb dPa_parse_19 rfl (lv_at hl 0 rfl) ?_
  refine lv_sipush (v := 1200) hx hb dPa_parse_20 (by decide) ?_
  refine lv_icmp_gt (tgt := 303) hx hb dPa_parse_23 (by decide) (fun c23 => absurd c23 (by decide)) (fun c23 => ?_)
  refine lv_aload_n hx hb dPa_parse_26 rfl (lv_at hl 2 rfl) ?_
  refine og C h laysPa 0 rfl rfl 0 (by decide) flPa_18 rfl (v := .ref o) rfl dPa_parse_27 ?_
  refine og C h laysTk 1 rfl rfl 5 (by decide) flPa_37 rfl (v := .int 1) rfl dPa_parse_30 ?_
  refine lv_if_ne (tgt := 303) hx hb dPa_parse_33 (by decide) (fun c33 => ?_) (fun c33 => absurd c33 (by decide))
  have h : Hx g [(o, .inr (2, [.ref k, .ref pp, .ref v, .int 0, .int 0, .int 1, .int 0, .int 0, .int 0, .ref kw, .ref t, .int 0])), (k, .inl (g.2.2 1, 1202, .inl (upd (fun _ => 0) (0 : Int32).toNatClampNeg 0))), (pp, .inl (g.2.2 1, 1202, .inl (upd (fun _ => 0) (0 : Int32).toNatClampNeg 0)))] A s.heap _ _ := h.cut [1, 2, 3] (by decide) rfl
  exact KV.ret C hr hlk () h trivial (by decide) (by decide) dPa_parse_303

set_option maxHeartbeats 4000000 in
set_option maxRecDepth 100000 in
/-- load() on a fresh object -/
theorem e_load {ak sv : Nat → Nat} (l : Launch) (g : GG) (x t : Nat) (a1 : Int32) : KIx ak sv l yE_load cE_load 4 (some .int) (rD 6 171 19108) g [(x, .inr (1, [.ref t, .int 0, .null, .null, .null, .null, .null, .null, .null, .null, .int 0, .int (-1)])), (t, .inl (g.2.2 0, 0, .inl (fun _ => 0)))] (fun u : Unit => []) [.ref x, .int a1] (fun (r : Int32) (u : Unit) => r = nLoad a1) := by
  refine KIx.of (by decide) (Nat.le_of_ble_eq_true rfl) ?_
  intro p e s m below meth c A ls C hr hlk hnm h hE hl
  have hx := C.1.1
  have hb := C.1.2.1
  have hl : lv_has ls 4 [(0, .ref x), (1, .int a1)] := hl
  refine lv_iload_n hx hb dE_load_0 rfl (lv_at hl 1 rfl) ?_
  refine lv_if_lt (tgt := 12) hx hb dE_load_1 (by decide) (fun c1 => ?_) (fun c1 => ?_)
  · refine lv_bipush (v := -2) hx hb dE_load_12 (by decide) ?_
    have h : Hx g [] A s.heap _ _ := h.cut [] (by decide) rfl
    exact KI.ret C hr hlk () h rfl (if_neg (fun z => by rw [z] at c1; exact absurd c1 (by decide))).symm (by decide) (by decide) dE_load_14
  · refine lv_iload_n hx hb dE_load_4 rfl (lv_at hl 1 rfl) ?_
    refine lv_aload_n hx hb dE_load_5 rfl (lv_at hl 0 rfl) ?_
    refine og C h laysE 0 rfl rfl 1 (by decide) flE_17 rfl (v := .int 0) rfl dE_load_6 ?_
    refine lv_icmp_le (tgt := 15) hx hb dE_load_9 (by decide) (fun c9 => ?_) (fun c9 => ?_)
    · have ea : a1 = 0 := Int32.le_antisymm c9 (Int32.not_lt.mp c1)
      subst ea
      refine lv_aload_n hx hb dE_load_15 rfl (lv_at hl 0 rfl) ?_
      refine lv_iconst (v := 0) hx hb dE_load_16 (by decide) ?_
      refine op C h laysE tyE tyE_ok nmE 0 rfl rfl 1 (by decide) flE_17 rfl rfl (v := .int 0) rfl rfl (Nat.le_of_ble_eq_true rfl) (w' := [(x, .inr (1, [.ref t, .int 0, .null, .null, .null, .null, .null, .null, .null, .null, .int 0, .int (-1)])), (t, .inl (g.2.2 0, 0, .inl (fun _ => 0)))]) rfl dE_load_17 (fun H locs h => ?_)
      refine lv_aload_n hx hb dE_load_20 rfl (lv_at hl 0 rfl) ?_
      refine og C h laysE 0 rfl rfl 2 (by decide) flE_24 rfl (v := .null) rfl dE_load_21 ?_
      refine lv_ifnonnullN hx hb dE_load_24 ?_
      refine lv_aload_n hx hb dE_load_27 rfl (lv_at hl 0 rfl) ?_
      refine on C h laysTk tyTk tyTk_ok clE_28 kiTk knTk rfl dfTk (by decide) (by decide) dE_load_28 (fun q_1 H h => ?_)
      have h : Hx g [(x, .inr (1, [.ref t, .int 0, .null, .null, .null, .null, .null, .null, .null, .null, .int 0, .int (-1)])), (t, .inl (g.2.2 0, 0, .inl (fun _ => 0))), (q_1, .inr (2, [.null, .null, .null, .int 0, .int 0, .int 0, .int 0, .int 0, .int 0, .null, .null, .int 0]))] A s.heap _ _ := h
      refine W.widen (k := 1) (n := 12) (by decide) (by decide) ?_
      refine lv_dup hx hb dE_load_31 rfl ?_
      refine KVx.callI (As := []) (wc := [(q_1, .inr (2, [.null, .null, .null, .int 0, .int 0, .int 0, .int 0, .int 0, .int 0, .null, .null, .int 0]))]) (wr := [(x, .inr (1, [.ref t, .int 0, .null, .null, .null, .null, .null, .null, .null, .null, .int 0, .int (-1)])), (t, .inl (g.2.2 0, 0, .inl (fun _ => 0)))]) C h hE [2] [0, 1] rfl rfl (by decide) (by decide) (by decide) (i_Tk l g q_1) mlE_30 imTk_init iiTk_init icTk_init npTk_init rfl ⟨by decide, by decide⟩ hl.1 rfl (Nat.le_of_ble_eq_true rfl) dE_load_32 ⟨by decide, by decide⟩ (fun u_2 H locs hp h => ?_)
      have h : Hx g [(x, .inr (1, [.ref t, .int 0, .null, .null, .null, .null, .null, .null, .null, .null, .int 0, .int (-1)])), (t, .inl (g.2.2 0, 0, .inl (fun _ => 0))), (q_1, .inr (2, [.ref (u_2 0), .ref (u_2 1), .ref (u_2 2), .int 0, .int 0, .int 0, .int 0, .int 0, .int 0, .ref (u_2 3), .ref (u_2 4), .int 0])), (u_2 0, .inl (g.2.2 1, 1202, .inl (fun _ => 0))), (u_2 1, .inl (g.2.2 1, 1202, .inl (fun _ => 0)))] A s.heap _ _ := h
      refine W.widen (k := 6) (n := 3666) (by decide) (by decide) ?_
      refine op C h laysE tyE tyE_ok nmE 0 rfl rfl 2 (by decide) flE_24 rfl rfl (v := .ref q_1) rfl rfl (Nat.le_of_ble_eq_true rfl) (w' := [(x, .inr (1, [.ref t, .int 0, .ref q_1, .null, .null, .null, .null, .null, .null, .null, .int 0, .int (-1)])), (t, .inl (g.2.2 0, 0, .inl (fun _ => 0))), (q_1, .inr (2, [.ref (u_2 0), .ref (u_2 1), .ref (u_2 2), .int 0, .int 0, .int 0, .int 0, .int 0, .int 0, .ref (u_2 3), .ref (u_2 4), .int 0])), (u_2 0, .inl (g.2.2 1, 1202, .inl (fun _ => 0))), (u_2 1, .inl (g.2.2 1, 1202, .inl (fun _ => 0)))]) rfl dE_load_35 (fun H locs h => ?_)
      refine lv_aload_n hx hb dE_load_38 rfl (lv_at hl 0 rfl) ?_
      refine on C h laysPa tyPa tyPa_ok clE_31 kiPa knPa rfl dfPa (by decide) (by decide) dE_load_39 (fun q_3 H h => ?_)
      have h : Hx g [(x, .inr (1, [.ref t, .int 0, .ref q_1, .null, .null, .null, .null, .null, .null, .null, .int 0, .int (-1)])), (t, .inl (g.2.2 0, 0, .inl (fun _ => 0))), (q_1, .inr (2, [.ref (u_2 0), .ref (u_2 1), .ref (u_2 2), .int 0, .int 0, .int 0, .int 0, .int 0, .int 0, .ref (u_2 3), .ref (u_2 4), .int 0])), (u_2 0, .inl (g.2.2 1, 1202, .inl (fun _ => 0))), (u_2 1, .inl (g.2.2 1, 1202, .inl (fun _ => 0))), (q_3, .inr (3, [.null, .null, .null, .int 0, .int 0, .int 0]))] A s.heap _ _ := h
      refine W.widen (k := 7) (n := 3672) (by decide) (by decide) ?_
      refine lv_dup hx hb dE_load_42 rfl ?_
      refine lv_aload_n hx hb dE_load_43 rfl (lv_at hl 0 rfl) ?_
      refine og C h laysE 0 rfl rfl 2 (by decide) flE_24 rfl (v := .ref q_1) rfl dE_load_44 ?_
      refine KVx.callI (As := [.ref q_1]) (wc := [(q_3, .inr (3, [.null, .null, .null, .int 0, .int 0, .int 0]))]) (wr := [(x, .inr (1, [.ref t, .int 0, .ref q_1, .null, .null, .null, .null, .null, .null, .null, .int 0, .int (-1)])), (t, .inl (g.2.2 0, 0, .inl (fun _ => 0))), (q_1, .inr (2, [.ref (u_2 0), .ref (u_2 1), .ref (u_2 2), .int 0, .int 0, .int 0, .int 0, .int 0, .int 0, .ref (u_2 3), .ref (u_2 4), .int 0])), (u_2 0, .inl (g.2.2 1, 1202, .inl (fun _ => 0))), (u_2 1, .inl (g.2.2 1, 1202, .inl (fun _ => 0)))]) C h hE [5] [0, 1, 2, 3, 4] rfl rfl (by decide) (by decide) (by decide) (i_Pa l g q_3 q_1) mlE_33 imPa_init iiPa_init icPa_init npPa_init rfl ⟨by decide, by decide⟩ hl.1 rfl (Nat.le_of_ble_eq_true rfl) dE_load_47 ⟨by decide, by decide⟩ (fun u_4 H locs hp h => ?_)
      have h : Hx g [(x, .inr (1, [.ref t, .int 0, .ref q_1, .null, .null, .null, .null, .null, .null, .null, .int 0, .int (-1)])), (t, .inl (g.2.2 0, 0, .inl (fun _ => 0))), (q_1, .inr (2, [.ref (u_2 0), .ref (u_2 1), .ref (u_2 2), .int 0, .int 0, .int 0, .int 0, .int 0, .int 0, .ref (u_2 3), .ref (u_2 4), .int 0])), (u_2 0, .inl (g.2.2 1, 1202, .inl (fun _ => 0))), (u_2 1, .inl (g.2.2 1, 1202, .inl (fun _ => 0))), (q_3, .inr (3, [.ref q_1, .null, .ref u_4, .int 0, .int 0, .int 0]))] A s.heap _ _ := h
      refine W.widen (k := 24) (n := 3801) (by decide) (by decide) ?_
      refine op C h laysE tyE tyE_ok nmE 0 rfl rfl 3 (by decide) flE_36 rfl rfl (v := .ref q_3) rfl rfl (Nat.le_of_ble_eq_true rfl) (w' := [(x, .inr (1, [.ref t, .int 0, .ref q_1, .ref q_3, .null, .null, .null, .null, .null, .null, .int 0, .int (-1)])), (t, .inl (g.2.2 0, 0, .inl (fun _ => 0))), (q_1, .inr (2, [.ref (u_2 0), .ref (u_2 1), .ref (u_2 2), .int 0, .int 0, .int 0, .int 0, .int 0, .int 0, .ref (u_2 3), .ref (u_2 4), .int 0])), (u_2 0, .inl (g.2.2 1, 1202, .inl (fun _ => 0))), (u_2 1, .inl (g.2.2 1, 1202, .inl (fun _ => 0))), (q_3, .inr (3, [.ref q_1, .null, .ref u_4, .int 0, .int 0, .int 0]))]) rfl dE_load_50 (fun H locs h => ?_)
      refine lv_aload_n hx hb dE_load_53 rfl (lv_at hl 0 rfl) ?_
      refine on C h laysJu tyJu tyJu_ok clE_40 kiJu knJu rfl dfJu (by decide) (by decide) dE_load_54 (fun q_5 H h => ?_)
      have h : Hx g [(x, .inr (1, [.ref t, .int 0, .ref q_1, .ref q_3, .null, .null, .null, .null, .null, .null, .int 0, .int (-1)])), (t, .inl (g.2.2 0, 0, .inl (fun _ => 0))), (q_1, .inr (2, [.ref (u_2 0), .ref (u_2 1), .ref (u_2 2), .int 0, .int 0, .int 0, .int 0, .int 0, .int 0, .ref (u_2 3), .ref (u_2 4), .int 0])), (u_2 0, .inl (g.2.2 1, 1202, .inl (fun _ => 0))), (u_2 1, .inl (g.2.2 1, 1202, .inl (fun _ => 0))), (q_3, .inr (3, [.ref q_1, .null, .ref u_4, .int 0, .int 0, .int 0])), (q_5, .inr (4, [.null, .null, .null, .int 0, .null, .null, .int 0, .null, .int 0, .int 0]))] A s.heap _ _ := h
      refine W.widen (k := 25) (n := 3811) (by decide) (by decide) ?_
      refine lv_dup hx hb dE_load_57 rfl ?_
      refine lv_aload_n hx hb dE_load_58 rfl (lv_at hl 0 rfl) ?_
      refine og C h laysE 0 rfl rfl 2 (by decide) flE_24 rfl (v := .ref q_1) rfl dE_load_59 ?_
      refine KVx.callI (As := [.ref q_1]) (wc := [(q_5, .inr (4, [.null, .null, .null, .int 0, .null, .null, .int 0, .null, .int 0, .int 0]))]) (wr := [(x, .inr (1, [.ref t, .int 0, .ref q_1, .ref q_3, .null, .null, .null, .null, .null, .null, .int 0, .int (-1)])), (t, .inl (g.2.2 0, 0, .inl (fun _ => 0))), (q_1, .inr (2, [.ref (u_2 0), .ref (u_2 1), .ref (u_2 2), .int 0, .int 0, .int 0, .int 0, .int 0, .int 0, .ref (u_2 3), .ref (u_2 4), .int 0])), (u_2 0, .inl (g.2.2 1, 1202, .inl (fun _ => 0))), (u_2 1, .inl (g.2.2 1, 1202, .inl (fun _ => 0))), (q_3, .inr (3, [.ref q_1, .null, .ref u_4, .int 0, .int 0, .int 0]))]) C h hE [6] [0, 1, 2, 3, 4, 5] rfl rfl (by decide) (by decide) (by decide) (i_Ju l g q_5 q_1) mlE_42 imJu_init iiJu_init icJu_init npJu_init rfl ⟨by decide, by decide⟩ hl.1 rfl (Nat.le_of_ble_eq_true rfl) dE_load_62 ⟨by decide, by decide⟩ (fun _ H locs hp h => ?_)
      have h : Hx g [(x, .inr (1, [.ref t, .int 0, .ref q_1, .ref q_3, .null, .null, .null, .null, .null, .null, .int 0, .int (-1)])), (t, .inl (g.2.2 0, 0, .inl (fun _ => 0))), (q_1, .inr (2, [.ref (u_2 0), .ref (u_2 1), .ref (u_2 2), .int 0, .int 0, .int 0, .int 0, .int 0, .int 0, .ref (u_2 3), .ref (u_2 4), .int 0])), (u_2 0, .inl (g.2.2 1, 1202, .inl (fun _ => 0))), (u_2 1, .inl (g.2.2 1, 1202, .inl (fun _ => 0))), (q_3, .inr (3, [.ref q_1, .null, .ref u_4, .int 0, .int 0, .int 0]))] A s.heap _ _ := h
      refine W.widen (k := 45) (n := 4209) (by decide) (by decide) ?_
      refine op C h laysE tyE tyE_ok nmE 0 rfl rfl 4 (by decide) flE_43 rfl rfl (v := .ref q_5) rfl rfl (Nat.le_of_ble_eq_true rfl) (w' := [(x, .inr (1, [.ref t, .int 0, .ref q_1, .ref q_3, .ref q_5, .null, .null, .null, .null, .null, .int 0, .int (-1)])), (t, .inl (g.2.2 0, 0, .inl (fun _ => 0))), (q_1, .inr (2, [.ref (u_2 0), .ref (u_2 1), .ref (u_2 2), .int 0, .int 0, .int 0, .int 0, .int 0, .int 0, .ref (u_2 3), .ref (u_2 4), .int 0])), (u_2 0, .inl (g.2.2 1, 1202, .inl (fun _ => 0))), (u_2 1, .inl (g.2.2 1, 1202, .inl (fun _ => 0))), (q_3, .inr (3, [.ref q_1, .null, .ref u_4, .int 0, .int 0, .int 0]))]) rfl dE_load_65 (fun H locs h => ?_)
      refine lv_aload_n hx hb dE_load_68 rfl (lv_at hl 0 rfl) ?_
      refine og C h laysE 0 rfl rfl 9 (by decide) flE_47 rfl (v := .null) rfl dE_load_69 ?_
      refine lv_ifnonnullN hx hb dE_load_72 ?_
      refine lv_aload_n hx hb dE_load_75 rfl (lv_at hl 0 rfl) ?_
      refine on C h laysPl tyPl tyPl_ok clE_51 kiPl knPl rfl dfPl (by decide) (by decide) dE_load_76 (fun q_6 H h => ?_)
      have h : Hx g [(x, .inr (1, [.ref t, .int 0, .ref q_1, .ref q_3, .ref q_5, .null, .null, .null, .null, .null, .int 0, .int (-1)])), (t, .inl (g.2.2 0, 0, .inl (fun _ => 0))), (q_1, .inr (2, [.ref (u_2 0), .ref (u_2 1), .ref (u_2 2), .int 0, .int 0, .int 0, .int 0, .int 0, .int 0, .ref (u_2 3), .ref (u_2 4), .int 0])), (u_2 0, .inl (g.2.2 1, 1202, .inl (fun _ => 0))), (u_2 1, .inl (g.2.2 1, 1202, .inl (fun _ => 0))), (q_3, .inr (3, [.ref q_1, .null, .ref u_4, .int 0, .int 0, .int 0])), (q_6, .inr (5, [.null, .null, .null, .null, .null, .null, .null, .null, .null, .null, .null, .null, .null, .null, .int 0, .null, .int 0, .null, .null, .int 0]))] A s.heap _ _ := h
      refine W.widen (k := 46) (n := 4229) (by decide) (by decide) ?_
      refine lv_dup hx hb dE_load_79 rfl ?_
      refine KVx.callI (As := []) (wc := [(q_6, .inr (5, [.null, .null, .null, .null, .null, .null, .null, .null, .null, .null, .null, .null, .null, .null, .int 0, .null, .int 0, .null, .null, .int 0]))]) (wr := [(x, .inr (1, [.ref t, .int 0, .ref q_1, .ref q_3, .ref q_5, .null, .null, .null, .null, .null, .int 0, .int (-1)])), (t, .inl (g.2.2 0, 0, .inl (fun _ => 0))), (q_1, .inr (2, [.ref (u_2 0), .ref (u_2 1), .ref (u_2 2), .int 0, .int 0, .int 0, .int 0, .int 0, .int 0, .ref (u_2 3), .ref (u_2 4), .int 0])), (u_2 0, .inl (g.2.2 1, 1202, .inl (fun _ => 0))), (u_2 1, .inl (g.2.2 1, 1202, .inl (fun _ => 0))), (q_3, .inr (3, [.ref q_1, .null, .ref u_4, .int 0, .int 0, .int 0]))]) C h hE [6] [0, 1, 2, 3, 4, 5] rfl rfl (by decide) (by decide) (by decide) (i_Pl l g q_6) mlE_53 imPl_init iiPl_init icPl_init npPl_init rfl ⟨by decide, by decide⟩ hl.1 rfl (Nat.le_of_ble_eq_true rfl) dE_load_80 ⟨by decide, by decide⟩ (fun u_7 H locs hp h => ?_)
      have h : Hx g [(x, .inr (1, [.ref t, .int 0, .ref q_1, .ref q_3, .ref q_5, .null, .null, .null, .null, .null, .int 0, .int (-1)])), (t, .inl (g.2.2 0, 0, .inl (fun _ => 0))), (q_1, .inr (2, [.ref (u_2 0), .ref (u_2 1), .ref (u_2 2), .int 0, .int 0, .int 0, .int 0, .int 0, .int 0, .ref (u_2 3), .ref (u_2 4), .int 0])), (u_2 0, .inl (g.2.2 1, 1202, .inl (fun _ => 0))), (u_2 1, .inl (g.2.2 1, 1202, .inl (fun _ => 0))), (q_3, .inr (3, [.ref q_1, .null, .ref u_4, .int 0, .int 0, .int 0])), (q_6, .inr (5, [.ref (u_7 0), .ref (u_7 1), .ref (u_7 2), .ref (u_7 3), .ref (u_7 4), .ref (u_7 5), .ref (u_7 6), .ref (u_7 7), .ref (u_7 8), .ref (u_7 9), .ref (u_7 10), .ref (u_7 11), .ref (u_7 12), .ref (u_7 13), .int 0, .ref (u_7 14), .int 0, .ref (u_7 15), .ref (u_7 16), .int 0])), (u_7 0, .inr (7, [.ref (u_7 17), .ref (u_7 18), .int 0])), (u_7 1, .inr (7, [.ref (u_7 19), .ref (u_7 20), .int 0])), (u_7 2, .inr (7, [.ref (u_7 21), .ref (u_7 22), .int 0])), (u_7 4, .inl (g.2.2 1, 80, .inl (fun _ => 0))), (u_7 7, .inl (g.2.2 1, 10, .inl (fun _ => 0))), (u_7 15, .inl (g.2.2 1, 1728, .inl (fun _ => 0)))] A s.heap _ _ := h
      refine W.widen (k := 171) (n := 19108) (by decide) (by decide) ?_
      refine op C h laysE tyE tyE_ok nmE 0 rfl rfl 9 (by decide) flE_47 rfl rfl (v := .ref q_6) rfl rfl (Nat.le_of_ble_eq_true rfl) (w' := [(x, .inr (1, [.ref t, .int 0, .ref q_1, .ref q_3, .ref q_5, .null, .null, .null, .null, .ref q_6, .int 0, .int (-1)])), (t, .inl (g.2.2 0, 0, .inl (fun _ => 0))), (q_1, .inr (2, [.ref (u_2 0), .ref (u_2 1), .ref (u_2 2), .int 0, .int 0, .int 0, .int 0, .int 0, .int 0, .ref (u_2 3), .ref (u_2 4), .int 0])), (u_2 0, .inl (g.2.2 1, 1202, .inl (fun _ => 0))), (u_2 1, .inl (g.2.2 1, 1202, .inl (fun _ => 0))), (q_3, .inr (3, [.ref q_1, .null, .ref u_4, .int 0, .int 0, .int 0])), (q_6, .inr (5, [.ref (u_7 0), .ref (u_7 1), .ref (u_7 2), .ref (u_7 3), .ref (u_7 4), .ref (u_7 5), .ref (u_7 6), .ref (u_7 7), .ref (u_7 8), .ref (u_7 9), .ref (u_7 10), .ref (u_7 11), .ref (u_7 12), .ref (u_7 13), .int 0, .ref (u_7 14), .int 0, .ref (u_7 15), .ref (u_7 16), .int 0])), (u_7 0, .inr (7, [.ref (u_7 17), .ref (u_7 18), .int 0])), (u_7 1, .inr (7, [.ref (u_7 19), .ref (u_7 20), .int 0])), (u_7 2, .inr (7, [.ref (u_7 21), .ref (u_7 22), .int 0])), (u_7 4, .inl (g.2.2 1, 80, .inl (fun _ => 0))), (u_7 7, .inl (g.2.2 1, 10, .inl (fun _ => 0))), (u_7 15, .inl (g.2.2 1, 1728, .inl (fun _ => 0)))]) rfl dE_load_83 (fun H locs h => ?_)
      refine lv_aload_n hx hb dE_load_86 rfl (lv_at hl 0 rfl) ?_
      refine og C h laysE 0 rfl rfl 2 (by decide) flE_24 rfl (v := .ref q_1) rfl dE_load_87 ?_
      refine lv_aload_n hx hb dE_load_90 rfl (lv_at hl 0 rfl) ?_
      refine og C h laysE 0 rfl rfl 0 (by decide) flE_7 rfl (v := .ref t) rfl dE_load_91 ?_
      refine lv_iload_n hx hb dE_load_94 rfl (lv_at hl 1 rfl) ?_
      refine KV.callVs (As := [.ref t, .int 0]) (q0 := 2) (ci := 2) (wc := [(q_1, .inr (2, [.ref (u_2 0), .ref (u_2 1), .ref (u_2 2), .int 0, .int 0, .int 0, .int 0, .int 0, .int 0, .ref (u_2 3), .ref (u_2 4), .int 0])), (u_2 0, .inl (g.2.2 1, 1202, .inl (fun _ => 0))), (u_2 1, .inl (g.2.2 1, 1202, .inl (fun _ => 0)))]) (wr := [(x, .inr (1, [.ref t, .int 0, .ref q_1, .ref q_3, .ref q_5, .null, .null, .null, .null, .ref q_6, .int 0, .int (-1)])), (t, .inl (g.2.2 0, 0, .inl (fun _ => 0))), (q_3, .inr (3, [.ref q_1, .null, .ref u_4, .int 0, .int 0, .int 0])), (q_6, .inr (5, [.ref (u_7 0), .ref (u_7 1), .ref (u_7 2), .ref (u_7 3), .ref (u_7 4), .ref (u_7 5), .ref (u_7 6), .ref (u_7 7), .ref (u_7 8), .ref (u_7 9), .ref (u_7 10), .ref (u_7 11), .ref (u_7 12), .ref (u_7 13), .int 0, .ref (u_7 14), .int 0, .ref (u_7 15), .ref (u_7 16), .int 0])), (u_7 0, .inr (7, [.ref (u_7 17), .ref (u_7 18), .int 0])), (u_7 1, .inr (7, [.ref (u_7 19), .ref (u_7 20), .int 0])), (u_7 2, .inr (7, [.ref (u_7 21), .ref (u_7 22), .int 0])), (u_7 4, .inl (g.2.2 1, 80, .inl (fun _ => 0))), (u_7 7, .inl (g.2.2 1, 10, .inl (fun _ => 0))), (u_7 15, .inl (g.2.2 1, 1728, .inl (fun _ => 0)))]) C h [2, 3, 4] [0, 1, 5, 6, 7, 8, 9, 10, 11, 12] rfl rfl (by decide) (by decide) (by decide) (t_read0 l g q_1 (u_2 0) (u_2 1) (u_2 2) (u_2 3) (u_2 4) t) vE_load_54 ⟨by decide, by decide⟩ rfl rfl hl.1 rfl (Nat.le_of_ble_eq_true rfl) dE_load_95 ⟨by decide, by decide⟩ (fun _ H locs hp h => ?_)
      have h : Hx g [(x, .inr (1, [.ref t, .int 0, .ref q_1, .ref q_3, .ref q_5, .null, .null, .null, .null, .ref q_6, .int 0, .int (-1)])), (t, .inl (g.2.2 0, 0, .inl (fun _ => 0))), (q_3, .inr (3, [.ref q_1, .null, .ref u_4, .int 0, .int 0, .int 0])), (q_6, .inr (5, [.ref (u_7 0), .ref (u_7 1), .ref (u_7 2), .ref (u_7 3), .ref (u_7 4), .ref (u_7 5), .ref (u_7 6), .ref (u_7 7), .ref (u_7 8), .ref (u_7 9), .ref (u_7 10), .ref (u_7 11), .ref (u_7 12), .ref (u_7 13), .int 0, .ref (u_7 14), .int 0, .ref (u_7 15), .ref (u_7 16), .int 0])), (u_7 0, .inr (7, [.ref (u_7 17), .ref (u_7 18), .int 0])), (u_7 1, .inr (7, [.ref (u_7 19), .ref (u_7 20), .int 0])), (u_7 2, .inr (7, [.ref (u_7 21), .ref (u_7 22), .int 0])), (u_7 4, .inl (g.2.2 1, 80, .inl (fun _ => 0))), (u_7 7, .inl (g.2.2 1, 10, .inl (fun _ => 0))), (u_7 15, .inl (g.2.2 1, 1728, .inl (fun _ => 0))), (q_1, .inr (2, [.ref (u_2 0), .ref (u_2 1), .ref (u_2 2), .int 0, .int 0, .int 0, .int 0, .int 0, .int 0, .ref (u_2 3), .ref t, .int 0])), (u_2 0, .inl (g.2.2 1, 1202, .inl (upd (fun _ => 0) (0 : Int32).toNatClampNeg 0))), (u_2 1, .inl (g.2.2 1, 1202, .inl (upd (fun _ => 0) (0 : Int32).toNatClampNeg 0)))] A s.heap _ _ := h
      refine lv_aload_n hx hb dE_load_98 rfl (lv_at hl 0 rfl) ?_
      refine og C h laysE 0 rfl rfl 3 (by decide) flE_36 rfl (v := .ref q_3) rfl dE_load_99 ?_
      refine lv_aload_n hx hb dE_load_102 rfl (lv_at hl 0 rfl) ?_
      refine og C h laysE 0 rfl rfl 9 (by decide) flE_47 rfl (v := .ref q_6) rfl dE_load_103 ?_
      refine KV.callVs (As := [.ref q_6]) (q0 := 2) (ci := 3) (wc := [(q_3, .inr (3, [.ref q_1, .null, .ref u_4, .int 0, .int 0, .int 0])), (q_1, .inr (2, [.ref (u_2 0), .ref (u_2 1), .ref (u_2 2), .int 0, .int 0, .int 0, .int 0, .int 0, .int 0, .ref (u_2 3), .ref t, .int 0])), (u_2 0, .inl (g.2.2 1, 1202, .inl (upd (fun _ => 0) (0 : Int32).toNatClampNeg 0))), (u_2 1, .inl (g.2.2 1, 1202, .inl (upd (fun _ => 0) (0 : Int32).toNatClampNeg 0))), (q_6, .inr (5, [.ref (u_7 0), .ref (u_7 1), .ref (u_7 2), .ref (u_7 3), .ref (u_7 4), .ref (u_7 5), .ref (u_7 6), .ref (u_7 7), .ref (u_7 8), .ref (u_7 9), .ref (u_7 10), .ref (u_7 11), .ref (u_7 12), .ref (u_7 13), .int 0, .ref (u_7 14), .int 0, .ref (u_7 15), .ref (u_7 16), .int 0])), (u_7 0, .inr (7, [.ref (u_7 17), .ref (u_7 18), .int 0])), (u_7 1, .inr (7, [.ref (u_7 19), .ref (u_7 20), .int 0])), (u_7 2, .inr (7, [.ref (u_7 21), .ref (u_7 22), .int 0])), (u_7 4, .inl (g.2.2 1, 80, .inl (fun _ => 0))), (u_7 7, .inl (g.2.2 1, 10, .inl (fun _ => 0))), (u_7 15, .inl (g.2.2 1, 1728, .inl (fun _ => 0)))]) (wr := [(x, .inr (1, [.ref t, .int 0, .ref q_1, .ref q_3, .ref q_5, .null, .null, .null, .null, .ref q_6, .int 0, .int (-1)])), (t, .inl (g.2.2 0, 0, .inl (fun _ => 0)))]) C h [2, 10, 11, 12, 3, 4, 5, 6, 7, 8, 9] [0, 1] rfl rfl (by decide) (by decide) (by decide) (t_parseE l g q_3 q_1 u_4 q_6 (u_2 0) (u_2 1) (u_2 2) (u_2 3) t u_7) vE_load_58 ⟨by decide, by decide⟩ rfl rfl hl.1 rfl (Nat.le_of_ble_eq_true rfl) dE_load_106 ⟨by decide, by decide⟩ (fun _ H locs hp h => ?_)
      have h : Hx g [(x, .inr (1, [.ref t, .int 0, .ref q_1, .ref q_3, .ref q_5, .null, .null, .null, .null, .ref q_6, .int 0, .int (-1)])), (t, .inl (g.2.2 0, 0, .inl (fun _ => 0))), (q_1, .inr (2, [.ref (u_2 0), .ref (u_2 1), .ref (u_2 2), .int 0, .int 0, .int 1, .int 0, .int 0, .int 0, .ref (u_2 3), .ref t, .int 0])), (u_2 0, .inl (g.2.2 1, 1202, .inl (upd (fun _ => 0) (0 : Int32).toNatClampNeg 0))), (u_2 1, .inl (g.2.2 1, 1202, .inl (upd (fun _ => 0) (0 : Int32).toNatClampNeg 0)))] A s.heap _ _ := h
      refine lv_aload_n hx hb dE_load_109 rfl (lv_at hl 0 rfl) ?_
      refine og C h laysE 0 rfl rfl 2 (by decide) flE_24 rfl (v := .ref q_1) rfl dE_load_110 ?_
      refine og C h laysTk 2 rfl rfl 5 (by decide) flE_62 rfl (v := .int 1) rfl dE_load_113 ?_
      refine lv_if_ne (tgt := 130) hx hb dE_load_116 (by decide) (fun c116 => ?_) (fun c116 => absurd c116 (by decide))
      refine lv_aload_n hx hb dE_load_130 rfl (lv_at hl 0 rfl) ?_
      refine og C h laysE 0 rfl rfl 2 (by decide) flE_24 rfl (v := .ref q_1) rfl dE_load_131 ?_
      refine KI.callVs (As := []) (q0 := 2) (ci := 2) (wc := [(q_1, .inr (2, [.ref (u_2 0), .ref (u_2 1), .ref (u_2 2), .int 0, .int 0, .int 1, .int 0, .int 0, .int 0, .ref (u_2 3), .ref t, .int 0])), (u_2 0, .inl (g.2.2 1, 1202, .inl (upd (fun _ => 0) (0 : Int32).toNatClampNeg 0))), (u_2 1, .inl (g.2.2 1, 1202, .inl (upd (fun _ => 0) (0 : Int32).toNatClampNeg 0)))]) (wr := [(x, .inr (1, [.ref t, .int 0, .ref q_1, .ref q_3, .ref q_5, .null, .null, .null, .null, .ref q_6, .int 0, .int (-1)])), (t, .inl (g.2.2 0, 0, .inl (fun _ => 0)))]) C h [2, 3, 4] [0, 1] rfl rfl (by decide) (by decide) (by decide) (t_fault1 l g q_1 (u_2 0) (u_2 1) (u_2 2) (u_2 3) t) vE_load_68 ⟨by decide, by decide⟩ rfl rfl hl.1 rfl (Nat.le_of_ble_eq_true rfl) dE_load_134 ⟨by decide, by decide⟩ (fun r_10 _ H locs hp h => ?_)
      have h : Hx g [(x, .inr (1, [.ref t, .int 0, .ref q_1, .ref q_3, .ref q_5, .null, .null, .null, .null, .ref q_6, .int 0, .int (-1)])), (t, .inl (g.2.2 0, 0, .inl (fun _ => 0))), (q_1, .inr (2, [.ref (u_2 0), .ref (u_2 1), .ref (u_2 2), .int 0, .int 0, .int 1, .int 0, .int 0, .int 0, .ref (u_2 3), .ref t, .int 0])), (u_2 0, .inl (g.2.2 1, 1202, .inl (upd (fun _ => 0) (0 : Int32).toNatClampNeg 0))), (u_2 1, .inl (g.2.2 1, 1202, .inl (upd (fun _ => 0) (0 : Int32).toNatClampNeg 0)))] A s.heap _ _ := h
      subst hp
      refine lv_istore_n (lv' := [(2, .int (1)), (0, .ref x), (1, .int (0))]) hx hb dE_load_137 rfl hl (by decide) rfl (fun ls hl => ?_)
      refine lv_iload_n hx hb dE_load_138 rfl (lv_at hl 0 rfl) ?_
      refine lv_if_eq (tgt := 155) hx hb dE_load_139 (by decide) (fun c139 => absurd c139 (by decide)) (fun c139 => ?_)
      refine lv_aload_n hx hb dE_load_142 rfl (lv_at hl 1 rfl) ?_
      refine lv_aload_n hx hb dE_load_143 rfl (lv_at hl 1 rfl) ?_
      refine og C h laysE 0 rfl rfl 2 (by decide) flE_24 rfl (v := .ref q_1) rfl dE_load_144 ?_
      refine KI.callVs (As := []) (q0 := 2) (ci := 2) (wc := [(q_1, .inr (2, [.ref (u_2 0), .ref (u_2 1), .ref (u_2 2), .int 0, .int 0, .int 1, .int 0, .int 0, .int 0, .ref (u_2 3), .ref t, .int 0])), (u_2 0, .inl (g.2.2 1, 1202, .inl (upd (fun _ => 0) (0 : Int32).toNatClampNeg 0))), (u_2 1, .inl (g.2.2 1, 1202, .inl (upd (fun _ => 0) (0 : Int32).toNatClampNeg 0)))]) (wr := [(x, .inr (1, [.ref t, .int 0, .ref q_1, .ref q_3, .ref q_5, .null, .null, .null, .null, .ref q_6, .int 0, .int (-1)])), (t, .inl (g.2.2 0, 0, .inl (fun _ => 0)))]) C h [2, 3, 4] [0, 1] rfl rfl (by decide) (by decide) (by decide) (t_faultPlace1 l g q_1 (u_2 0) (u_2 1) (u_2 2) (u_2 3) t) vE_load_72 ⟨by decide, by decide⟩ rfl rfl hl.1 rfl (Nat.le_of_ble_eq_true rfl) dE_load_147 ⟨by decide, by decide⟩ (fun r_11 _ H locs hp h => ?_)
      have h : Hx g [(x, .inr (1, [.ref t, .int 0, .ref q_1, .ref q_3, .ref q_5, .null, .null, .null, .null, .ref q_6, .int 0, .int (-1)])), (t, .inl (g.2.2 0, 0, .inl (fun _ => 0))), (q_1, .inr (2, [.ref (u_2 0), .ref (u_2 1), .ref (u_2 2), .int 0, .int 0, .int 1, .int 0, .int 0, .int 0, .ref (u_2 3), .ref t, .int 0])), (u_2 0, .inl (g.2.2 1, 1202, .inl (upd (fun _ => 0) (0 : Int32).toNatClampNeg 0))), (u_2 1, .inl (g.2.2 1, 1202, .inl (upd (fun _ => 0) (0 : Int32).toNatClampNeg 0)))] A s.heap _ _ := h
      subst hp
      refine op C h laysE tyE tyE_ok nmE 0 rfl rfl 11 (by decide) flE_13 rfl rfl (v := .int 0) rfl rfl (Nat.le_of_ble_eq_true rfl) (w' := [(x, .inr (1, [.ref t, .int 0, .ref q_1, .ref q_3, .ref q_5, .null, .null, .null, .null, .ref q_6, .int 0, .int 0])), (t, .inl (g.2.2 0, 0, .inl (fun _ => 0))), (q_1, .inr (2, [.ref (u_2 0), .ref (u_2 1), .ref (u_2 2), .int 0, .int 0, .int 1, .int 0, .int 0, .int 0, .ref (u_2 3), .ref t, .int 0])), (u_2 0, .inl (g.2.2 1, 1202, .inl (upd (fun _ => 0) (0 : Int32).toNatClampNeg 0))), (u_2 1, .inl (g.2.2 1, 1202, .inl (upd (fun _ => 0) (0 : Int32).toNatClampNeg 0)))]) rfl dE_load_150 (fun H locs h => ?_)
      refine lv_iload_n hx hb dE_load_153 rfl (lv_at hl 0 rfl) ?_
      have h : Hx g [] A s.heap _ _ := h.cut [] (by decide) rfl
      exact KI.ret C hr hlk () h rfl rfl (by decide) (by decide) dE_load_154
    · refine lv_bipush (v := -2) hx hb dE_load_12 (by decide) ?_
      have h : Hx g [] A s.heap _ _ := h.cut [] (by decide) rfl
      exact KI.ret C hr hlk () h rfl (if_neg (fun z => by rw [z] at c9; exact absurd c9 (by decide))).symm (by decide) (by decide) dE_load_14

