set_option maxHeartbeats 4000000 in
set_option maxRecDepth 100000 in
/-- write() -/
theorem e_write0 (l : Launch) (g : GG) (x q : Nat) (f : Nat → Int32) (a1 : Int32) : KV l yE_write cE_write 3 (rD 0 0 0) g [(x, .inr (1, [.ref q, .int 0, .null, .null, .null, .null, .null, .null, .null, .null, .int 0, .int (-1)])), (q, .inl (g.2.2 0, 5000, .inl f))] (fun u : Nat → Int32 => [(x, .inr (1, [.ref q, .int 4, .null, .null, .null, .null, .null, .null, .null, .null, .int 0, .int (-1)])), (q, .inl (g.2.2 0, 5000, .inl u))]) [.ref x, .int a1] (fun u : Nat → Int32 => True) := by
  refine KV.of (by decide) (Nat.le_of_ble_eq_true rfl) ?_
  intro p e s m below meth c A ls C hr hlk hnm h hl
  have hx := C.1.1
  have hb := C.1.2.1
  have hl : lv_has ls 3 [(0, .ref x), (1, .int a1)] := hl
  refine lv_bipush (v := 24) hx hb dE_write_0 (by decide) ?_
  refine lv_istore_n (lv' := [(2, .int (24)), (0, .ref x), (1, .int (a1))]) hx hb dE_write_2 rfl hl (by decide) rfl (fun ls hl => ?_)
  refine lv_iload_n hx hb dE_write_3 rfl (lv_at hl 0 rfl) ?_
  refine lv_if_lt (tgt := 36) hx hb dE_write_4 (by decide) (fun c4 => absurd c4 (by decide)) (fun c4 => ?_)
  refine lv_aload_n hx hb dE_write_7 rfl (lv_at hl 1 rfl) ?_
  refine og C h laysE 0 rfl rfl 0 (by decide) flE_7 rfl (v := .ref q) rfl dE_write_8 ?_
  refine lv_aload_n hx hb dE_write_11 rfl (lv_at hl 1 rfl) ?_
  refine og C h laysE 0 rfl rfl 1 (by decide) flE_17 rfl (v := .int 0) rfl dE_write_12 ?_
  refine lv_iload_n hx hb dE_write_15 rfl (lv_at hl 2 rfl) ?_
  refine lv_iload_n hx hb dE_write_16 rfl (lv_at hl 0 rfl) ?_
  refine lv_iushr hx hb dE_write_17 rfl ?_
  refine lv_i2b hx hb dE_write_18 rfl ?_
  refine va_bast C.1.1 C.1.2.1 C.2 h.1 h.2.1 h.2.2.1 1 0 rfl rfl (pk_in 0 5000 (by decide) rfl) dE_write_19 (fun H locs hP hD hS => ?_)
  have h : Hx g [(x, .inr (1, [.ref q, .int 0, .null, .null, .null, .null, .null, .null, .null, .null, .int 0, .int (-1)])), (q, .inl (g.2.2 0, 5000, .inl (upd f (0 : Int32).toNatClampNeg (vp_nar .byte ((((a1 : Int32).toUInt32 >>> ((24 : Int32).toUInt32 &&& Int32.toUInt32 31)).toInt32).toInt8.toInt32)))))] A s.heap _ _ := ⟨hP, hD, hS, h.2.2.2⟩
  generalize (upd f (0 : Int32).toNatClampNeg (vp_nar .byte ((((a1 : Int32).toUInt32 >>> ((24 : Int32).toUInt32 &&& Int32.toUInt32 31)).toInt32).toInt8.toInt32))) = f_1 at h
  refine lv_aload_n hx hb dE_write_20 rfl (lv_at hl 1 rfl) ?_
  refine lv_dup hx hb dE_write_21 rfl ?_
  refine og C h laysE 0 rfl rfl 1 (by decide) flE_17 rfl (v := .int 0) rfl dE_write_22 ?_
  refine lv_iconst (v := 1) hx hb dE_write_25 (by decide) ?_
  refine lv_iadd hx hb dE_write_26 ?_
  refine lv_topi (fun n_2 en_2 => ?_)
  have en_2 : n_2 = 1 := en_2.trans (by decide)
  subst en_2
  refine op C h laysE tyE tyE_ok nmE 0 rfl rfl 1 (by decide) flE_17 rfl rfl (v := .int 1) rfl rfl (Nat.le_of_ble_eq_true rfl) (w' := [(x, .inr (1, [.ref q, .int 1, .null, .null, .null, .null, .null, .null, .null, .null, .int 0, .int (-1)])), (q, .inl (g.2.2 0, 5000, .inl f_1))]) rfl dE_write_27 (fun H locs h => ?_)
  refine lv_iinc (v := 16) (lv' := [(2, .int (16)), (0, .ref x), (1, .int (a1))]) hx hb dE_write_30 hl (k := 0) rfl (by decide) (by decide) rfl (fun ls hl => ?_)
  refine lv_goto (tgt := 3) hx hb dE_write_33 (by decide) ?_
  refine lv_iload_n hx hb dE_write_3 rfl (lv_at hl 0 rfl) ?_
  refine lv_if_lt (tgt := 36) hx hb dE_write_4 (by decide) (fun c4 => absurd c4 (by decide)) (fun c4 => ?_)
  refine lv_aload_n hx hb dE_write_7 rfl (lv_at hl 1 rfl) ?_
  refine og C h laysE 0 rfl rfl 0 (by decide) flE_7 rfl (v := .ref q) rfl dE_write_8 ?_
  refine lv_aload_n hx hb dE_write_11 rfl (lv_at hl 1 rfl) ?_
  refine og C h laysE 0 rfl rfl 1 (by decide) flE_17 rfl (v := .int 1) rfl dE_write_12 ?_
  refine lv_iload_n hx hb dE_write_15 rfl (lv_at hl 2 rfl) ?_
  refine lv_iload_n hx hb dE_write_16 rfl (lv_at hl 0 rfl) ?_
  refine lv_iushr hx hb dE_write_17 rfl ?_
  refine lv_i2b hx hb dE_write_18 rfl ?_
  refine va_bast C.1.1 C.1.2.1 C.2 h.1 h.2.1 h.2.2.1 1 0 rfl rfl (pk_in 1 5000 (by decide) rfl) dE_write_19 (fun H locs hP hD hS => ?_)
  have h : Hx g [(x, .inr (1, [.ref q, .int 1, .null, .null, .null, .null, .null, .null, .null, .null, .int 0, .int (-1)])), (q, .inl (g.2.2 0, 5000, .inl (upd f_1 (1 : Int32).toNatClampNeg (vp_nar .byte ((((a1 : Int32).toUInt32 >>> ((16 : Int32).toUInt32 &&& Int32.toUInt32 31)).toInt32).toInt8.toInt32)))))] A s.heap _ _ := ⟨hP, hD, hS, h.2.2.2⟩
  generalize (upd f_1 (1 : Int32).toNatClampNeg (vp_nar .byte ((((a1 : Int32).toUInt32 >>> ((16 : Int32).toUInt32 &&& Int32.toUInt32 31)).toInt32).toInt8.toInt32))) = f_3 at h
  refine lv_aload_n hx hb dE_write_20 rfl (lv_at hl 1 rfl) ?_
  refine lv_dup hx hb dE_write_21 rfl ?_
  refine og C h laysE 0 rfl rfl 1 (by decide) flE_17 rfl (v := .int 1) rfl dE_write_22 ?_
  refine lv_iconst (v := 1) hx hb dE_write_25 (by decide) ?_
  refine lv_iadd hx hb dE_write_26 ?_
  refine lv_topi (fun n_4 en_4 => ?_)
  have en_4 : n_4 = 2 := en_4.trans (by decide)
  subst en_4
  refine op C h laysE tyE tyE_ok nmE 0 rfl rfl 1 (by decide) flE_17 rfl rfl (v := .int 2) rfl rfl (Nat.le_of_ble_eq_true rfl) (w' := [(x, .inr (1, [.ref q, .int 2, .null, .null, .null, .null, .null, .null, .null, .null, .int 0, .int (-1)])), (q, .inl (g.2.2 0, 5000, .inl f_3))]) rfl dE_write_27 (fun H locs h => ?_)
  refine lv_iinc (v := 8) (lv' := [(2, .int (8)), (0, .ref x), (1, .int (a1))]) hx hb dE_write_30 hl (k := 0) rfl (by decide) (by decide) rfl (fun ls hl => ?_)
  refine lv_goto (tgt := 3) hx hb dE_write_33 (by decide) ?_
  refine lv_iload_n hx hb dE_write_3 rfl (lv_at hl 0 rfl) ?_
  refine lv_if_lt (tgt := 36) hx hb dE_write_4 (by decide) (fun c4 => absurd c4 (by decide)) (fun c4 => ?_)
  refine lv_aload_n hx hb dE_write_7 rfl (lv_at hl 1 rfl) ?_
  refine og C h laysE 0 rfl rfl 0 (by decide) flE_7 rfl (v := .ref q) rfl dE_write_8 ?_
  refine lv_aload_n hx hb dE_write_11 rfl (lv_at hl 1 rfl) ?_
  refine og C h laysE 0 rfl rfl 1 (by decide) flE_17 rfl (v := .int 2) rfl dE_write_12 ?_
  refine lv_iload_n hx hb dE_write_15 rfl (lv_at hl 2 rfl) ?_
  refine lv_iload_n hx hb dE_write_16 rfl (lv_at hl 0 rfl) ?_
  refine lv_iushr hx hb dE_write_17 rfl ?_
  refine lv_i2b hx hb dE_write_18 rfl ?_
  refine va_bast C.1.1 C.1.2.1 C.2 h.1 h.2.1 h.2.2.1 1 0 rfl rfl (pk_in 2 5000 (by decide) rfl) dE_write_19 (fun H locs hP hD hS => ?_)
  have h : Hx g [(x, .inr (1, [.ref q, .int 2, .null, .null, .null, .null, .null, .null, .null, .null, .int 0, .int (-1)])), (q, .inl (g.2.2 0, 5000, .inl (upd f_3 (2 : Int32).toNatClampNeg (vp_nar .byte ((((a1 : Int32).toUInt32 >>> ((8 : Int32).toUInt32 &&& Int32.toUInt32 31)).toInt32).toInt8.toInt32)))))] A s.heap _ _ := ⟨hP, hD, hS, h.2.2.2⟩
  generalize (upd f_3 (2 : Int32).toNatClampNeg (vp_nar .byte ((((a1 : Int32).toUInt32 >>> ((8 : Int32).toUInt32 &&& Int32.toUInt32 31)).toInt32).toInt8.toInt32))) = f_5 at h
  refine lv_aload_n hx hb dE_write_20 rfl (lv_at hl 1 rfl) ?_
  refine lv_dup hx hb dE_write_21 rfl ?_
  refine og C h laysE 0 rfl rfl 1 (by decide) flE_17 rfl (v := .int 2) rfl dE_write_22 ?_
  refine lv_iconst (v := 1) hx hb dE_write_25 (by decide) ?_
  refine lv_iadd hx hb dE_write_26 ?_
  refine lv_topi (fun n_6 en_6 => ?_)
  have en_6 : n_6 = 3 := en_6.trans (by decide)
  subst en_6
  refine op C h laysE tyE tyE_ok nmE 0 rfl rfl 1 (by decide) flE_17 rfl rfl (v := .int 3) rfl rfl (Nat.le_of_ble_eq_true rfl) (w' := [(x, .inr (1, [.ref q, .int 3, .null, .null, .null, .null, .null, .null, .null, .null, .int 0, .int (-1)])), (q, .inl (g.2.2 0, 5000, .inl f_5))]) rfl dE_write_27 (fun H locs h => ?_)
  refine lv_iinc (v := 0) (lv' := [(2, .int (0)), (0, .ref x), (1, .int (a1))]) hx hb dE_write_30 hl (k := 0) rfl (by decide) (by decide) rfl (fun ls hl => ?_)
  refine lv_goto (tgt := 3) hx hb dE_write_33 (by decide) ?_
  refine lv_iload_n hx hb dE_write_3 rfl (lv_at hl 0 rfl) ?_
  refine lv_if_lt (tgt := 36) hx hb dE_write_4 (by decide) (fun c4 => absurd c4 (by decide)) (fun c4 => ?_)
  refine lv_aload_n hx hb dE_write_7 rfl (lv_at hl 1 rfl) ?_
  refine og C h laysE 0 rfl rfl 0 (by decide) flE_7 rfl (v := .ref q) rfl dE_write_8 ?_
  refine lv_aload_n hx hb dE_write_11 rfl (lv_at hl 1 rfl) ?_
  refine og C h laysE 0 rfl rfl 1 (by decide) flE_17 rfl (v := .int 3) rfl dE_write_12 ?_
  refine lv_iload_n hx hb dE_write_15 rfl (lv_at hl 2 rfl) ?_
  refine lv_iload_n hx hb dE_write_16 rfl (lv_at hl 0 rfl) ?_
  refine lv_iushr hx hb dE_write_17 rfl ?_
  refine lv_i2b hx hb dE_write_18 rfl ?_
  refine va_bast C.1.1 C.1.2.1 C.2 h.1 h.2.1 h.2.2.1 1 0 rfl rfl (pk_in 3 5000 (by decide) rfl) dE_write_19 (fun H locs hP hD hS => ?_)
  have h : Hx g [(x, .inr (1, [.ref q, .int 3, .null, .null, .null, .null, .null, .null, .null, .null, .int 0, .int (-1)])), (q, .inl (g.2.2 0, 5000, .inl (upd f_5 (3 : Int32).toNatClampNeg (vp_nar .byte ((((a1 : Int32).toUInt32 >>> ((0 : Int32).toUInt32 &&& Int32.toUInt32 31)).toInt32).toInt8.toInt32)))))] A s.heap _ _ := ⟨hP, hD, hS, h.2.2.2⟩
  generalize (upd f_5 (3 : Int32).toNatClampNeg (vp_nar .byte ((((a1 : Int32).toUInt32 >>> ((0 : Int32).toUInt32 &&& Int32.toUInt32 31)).toInt32).toInt8.toInt32))) = f_7 at h
  refine lv_aload_n hx hb dE_write_20 rfl (lv_at hl 1 rfl) ?_
  refine lv_dup hx hb dE_write_21 rfl ?_
  refine og C h laysE 0 rfl rfl 1 (by decide) flE_17 rfl (v := .int 3) rfl dE_write_22 ?_
  refine lv_iconst (v := 1) hx hb dE_write_25 (by decide) ?_
  refine lv_iadd hx hb dE_write_26 ?_
  refine lv_topi (fun n_8 en_8 => ?_)
  have en_8 : n_8 = 4 := en_8.trans (by decide)
  subst en_8
  refine op C h laysE tyE tyE_ok nmE 0 rfl rfl 1 (by decide) flE_17 rfl rfl (v := .int 4) rfl rfl (Nat.le_of_ble_eq_true rfl) (w' := [(x, .inr (1, [.ref q, .int 4, .null, .null, .null, .null, .null, .null, .null, .null, .int 0, .int (-1)])), (q, .inl (g.2.2 0, 5000, .inl f_7))]) rfl dE_write_27 (fun H locs h => ?_)
  refine lv_iinc (v := -8) (lv' := [(2, .int (-8)), (0, .ref x), (1, .int (a1))]) hx hb dE_write_30 hl (k := 0) rfl (by decide) (by decide) rfl (fun ls hl => ?_)
  refine lv_goto (tgt := 3) hx hb dE_write_33 (by decide) ?_
  refine lv_iload_n hx hb dE_write_3 rfl (lv_at hl 0 rfl) ?_
  refine lv_if_lt (tgt := 36) hx hb dE_write_4 (by decide) (fun c4 => ?_) (fun c4 => absurd c4 (by decide))
  exact KV.ret C hr hlk f_7 h trivial (by decide) (by decide) dE_write_36

set_option maxHeartbeats 4000000 in
set_option maxRecDepth 100000 in
/-- write() -/
theorem e_write4 (l : Launch) (g : GG) (x q : Nat) (f : Nat → Int32) (a1 : Int32) : KV l yE_write cE_write 3 (rD 0 0 0) g [(x, .inr (1, [.ref q, .int 4, .null, .null, .null, .null, .null, .null, .null, .null, .int 0, .int (-1)])), (q, .inl (g.2.2 0, 5000, .inl f))] (fun u : Nat → Int32 => [(x, .inr (1, [.ref q, .int 8, .null, .null, .null, .null, .null, .null, .null, .null, .int 0, .int (-1)])), (q, .inl (g.2.2 0, 5000, .inl u))]) [.ref x, .int a1] (fun u : Nat → Int32 => True) := by
  refine KV.of (by decide) (Nat.le_of_ble_eq_true rfl) ?_
  intro p e s m below meth c A ls C hr hlk hnm h hl
  have hx := C.1.1
  have hb := C.1.2.1
  have hl : lv_has ls 3 [(0, .ref x), (1, .int a1)] := hl
  refine lv_bipush (v := 24) hx hb dE_write_0 (by decide) ?_
  refine lv_istore_n (lv' := [(2, .int (24)), (0, .ref x), (1, .int (a1))]) hx hb dE_write_2 rfl hl (by decide) rfl (fun ls hl => ?_)
  refine lv_iload_n hx hb dE_write_3 rfl (lv_at hl 0 rfl) ?_
  refine lv_if_lt (tgt := 36) hx hb dE_write_4 (by decide) (fun c4 => absurd c4 (by decide)) (fun c4 => ?_)
  refine lv_aload_n hx hb dE_write_7 rfl (lv_at hl 1 rfl) ?_
  refine og C h laysE 0 rfl rfl 0 (by decide) flE_7 rfl (v := .ref q) rfl dE_write_8 ?_
  refine lv_aload_n hx hb dE_write_11 rfl (lv_at hl 1 rfl) ?_
  refine og C h laysE 0 rfl rfl 1 (by decide) flE_17 rfl (v := .int 4) rfl dE_write_12 ?_
  refine lv_iload_n hx hb dE_write_15 rfl (lv_at hl 2 rfl) ?_
  refine lv_iload_n hx hb dE_write_16 rfl (lv_at hl 0 rfl) ?_
  refine lv_iushr hx hb dE_write_17 rfl ?_
  refine lv_i2b hx hb dE_write_18 rfl ?_
  refine va_bast C.1.1 C.1.2.1 C.2 h.1 h.2.1 h.2.2.1 1 0 rfl rfl (pk_in 4 5000 (by decide) rfl) dE_write_19 (fun H locs hP hD hS => ?_)
  have h : Hx g [(x, .inr (1, [.ref q, .int 4, .null, .null, .null, .null, .null, .null, .null, .null, .int 0, .int (-1)])), (q, .inl (g.2.2 0, 5000, .inl (upd f (4 : Int32).toNatClampNeg (vp_nar .byte ((((a1 : Int32).toUInt32 >>> ((24 : Int32).toUInt32 &&& Int32.toUInt32 31)).toInt32).toInt8.toInt32)))))] A s.heap _ _ := ⟨hP, hD, hS, h.2.2.2⟩
  generalize (upd f (4 : Int32).toNatClampNeg (vp_nar .byte ((((a1 : Int32).toUInt32 >>> ((24 : Int32).toUInt32 &&& Int32.toUInt32 31)).toInt32).toInt8.toInt32))) = f_1 at h
  refine lv_aload_n hx hb dE_write_20 rfl (lv_at hl 1 rfl) ?_
  refine lv_dup hx hb dE_write_21 rfl ?_
  refine og C h laysE 0 rfl rfl 1 (by decide) flE_17 rfl (v := .int 4) rfl dE_write_22 ?_
  refine lv_iconst (v := 1) hx hb dE_write_25 (by decide) ?_
  refine lv_iadd hx hb dE_write_26 ?_
  refine lv_topi (fun n_2 en_2 => ?_)
  have en_2 : n_2 = 5 := en_2.trans (by decide)
  subst en_2
  refine op C h laysE tyE tyE_ok nmE 0 rfl rfl 1 (by decide) flE_17 rfl rfl (v := .int 5) rfl rfl (Nat.le_of_ble_eq_true rfl) (w' := [(x, .inr (1, [.ref q, .int 5, .null, .null, .null, .null, .null, .null, .null, .null, .int 0, .int (-1)])), (q, .inl (g.2.2 0, 5000, .inl f_1))]) rfl dE_write_27 (fun H locs h => ?_)
  refine lv_iinc (v := 16) (lv' := [(2, .int (16)), (0, .ref x), (1, .int (a1))]) hx hb dE_write_30 hl (k := 0) rfl (by decide) (by decide) rfl (fun ls hl => ?_)
  refine lv_goto (tgt := 3) hx hb dE_write_33 (by decide) ?_
  refine lv_iload_n hx hb dE_write_3 rfl (lv_at hl 0 rfl) ?_
  refine lv_if_lt (tgt := 36) hx hb dE_write_4 (by decide) (fun c4 => absurd c4 (by decide)) (fun c4 => ?_)
  refine lv_aload_n hx hb dE_write_7 rfl (lv_at hl 1 rfl) ?_
  refine og C h laysE 0 rfl rfl 0 (by decide) flE_7 rfl (v := .ref q) rfl dE_write_8 ?_
  refine lv_aload_n hx hb dE_write_11 rfl (lv_at hl 1 rfl) ?_
  refine og C h laysE 0 rfl rfl 1 (by decide) flE_17 rfl (v := .int 5) rfl dE_write_12 ?_
  refine lv_iload_n hx hb dE_write_15 rfl (lv_at hl 2 rfl) ?_
  refine lv_iload_n hx hb dE_write_16 rfl (lv_at hl 0 rfl) ?_
  refine lv_iushr hx hb dE_write_17 rfl ?_
  refine lv_i2b hx hb dE_write_18 rfl ?_
  refine va_bast C.1.1 C.1.2.1 C.2 h.1 h.2.1 h.2.2.1 1 0 rfl rfl (pk_in 5 5000 (by decide) rfl) dE_write_19 (fun H locs hP hD hS => ?_)
  have h : Hx g [(x, .inr (1, [.ref q, .int 5, .null, .null, .null, .null, .null, .null, .null, .null, .int 0, .int (-1)])), (q, .inl (g.2.2 0, 5000, .inl (upd f_1 (5 : Int32).toNatClampNeg (vp_nar .byte ((((a1 : Int32).toUInt32 >>> ((16 : Int32).toUInt32 &&& Int32.toUInt32 31)).toInt32).toInt8.toInt32)))))] A s.heap _ _ := ⟨hP, hD, hS, h.2.2.2⟩
  generalize (upd f_1 (5 : Int32).toNatClampNeg (vp_nar .byte ((((a1 : Int32).toUInt32 >>> ((16 : Int32).toUInt32 &&& Int32.toUInt32 31)).toInt32).toInt8.toInt32))) = f_3 at h
  refine lv_aload_n hx hb dE_write_20 rfl (lv_at hl 1 rfl) ?_
  refine lv_dup hx hb dE_write_21 rfl ?_
  refine og C h laysE 0 rfl rfl 1 (by decide) flE_17 rfl (v := .int 5) rfl dE_write_22 ?_
  refine lv_iconst (v := 1) hx hb dE_write_25 (by decide) ?_
  refine lv_iadd hx hb dE_write_26 ?_
  refine lv_topi (fun n_4 en_4 => ?_)
  have en_4 : n_4 = 6 := en_4.trans (by decide)
  subst en_4
  refine op C h laysE tyE tyE_ok nmE 0 rfl rfl 1 (by decide) flE_17 rfl rfl (v := .int 6) rfl rfl (Nat.le_of_ble_eq_true rfl) (w' := [(x, .inr (1, [.ref q, .int 6, .null, .null, .null, .null, .null, .null, .null, .null, .int 0, .int (-1)])), (q, .inl (g.2.2 0, 5000, .inl f_3))]) rfl dE_write_27 (fun H locs h => ?_)
  refine lv_iinc (v := 8) (lv' := [(2, .int (8)), (0, .ref x), (1, .int (a1))]) hx hb dE_write_30 hl (k := 0) rfl (by decide) (by decide) rfl (fun ls hl => ?_)
  refine lv_goto (tgt := 3) hx hb dE_write_33 (by decide) ?_
  refine lv_iload_n hx hb dE_write_3 rfl (lv_at hl 0 rfl) ?_
  refine lv_if_lt (tgt := 36) hx hb dE_write_4 (by decide) (fun c4 => absurd c4 (by decide)) (fun c4 => ?_)
  refine lv_aload_n hx hb dE_write_7 rfl (lv_at hl 1 rfl) ?_
  refine og C h laysE 0 rfl rfl 0 (by decide) flE_7 rfl (v := .ref q) rfl dE_write_8 ?_
  refine lv_aload_n hx hb dE_write_11 rfl (lv_at hl 1 rfl) ?_
  refine og C h laysE 0 rfl rfl 1 (by decide) flE_17 rfl (v := .int 6) rfl dE_write_12 ?_
  refine lv_iload_n hx hb dE_write_15 rfl (lv_at hl 2 rfl) ?_
  refine lv_iload_n hx hb dE_write_16 rfl (lv_at hl 0 rfl) ?_
  refine lv_iushr hx hb dE_write_17 rfl ?_
  refine lv_i2b hx hb dE_write_18 rfl ?_
  refine va_bast C.1.1 C.1.2.1 C.2 h.1 h.2.1 h.2.2.1 1 0 rfl rfl (pk_in 6 5000 (by decide) rfl) dE_write_19 (fun H locs hP hD hS => ?_)
  have h : Hx g [(x, .inr (1, [.ref q, .int 6, .null, .null, .null, .null, .null, .null, .null, .null, .int 0, .int (-1)])), (q, .inl (g.2.2 0, 5000, .inl (upd f_3 (6 : Int32).toNatClampNeg (vp_nar .byte ((((a1 : Int32).toUInt32 >>> ((8 : Int32).toUInt32 &&& Int32.toUInt32 31)).toInt32).toInt8.toInt32)))))] A s.heap _ _ := ⟨hP, hD, hS, h.2.2.2⟩
  generalize (upd f_3 (6 : Int32).toNatClampNeg (vp_nar .byte ((((a1 : Int32).toUInt32 >>> ((8 : Int32).toUInt32 &&& Int32.toUInt32 31)).toInt32).toInt8.toInt32))) = f_5 at h
  refine lv_aload_n hx hb dE_write_20 rfl (lv_at hl 1 rfl) ?_
  refine lv_dup hx hb dE_write_21 rfl ?_
  refine og C h laysE 0 rfl rfl 1 (by decide) flE_17 rfl (v := .int 6) rfl dE_write_22 ?_
  refine lv_iconst (v := 1) hx hb dE_write_25 (by decide) ?_
  refine lv_iadd hx hb dE_write_26 ?_
  refine lv_topi (fun n_6 en_6 => ?_)
  have en_6 : n_6 = 7 := en_6.trans (by decide)
  subst en_6
  refine op C h laysE tyE tyE_ok nmE 0 rfl rfl 1 (by decide) flE_17 rfl rfl (v := .int 7) rfl rfl (Nat.le_of_ble_eq_true rfl) (w' := [(x, .inr (1, [.ref q, .int 7, .null, .null, .null, .null, .null, .null, .null, .null, .int 0, .int (-1)])), (q, .inl (g.2.2 0, 5000, .inl f_5))]) rfl dE_write_27 (fun H locs h => ?_)
  refine lv_iinc (v := 0) (lv' := [(2, .int (0)), (0, .ref x), (1, .int (a1))]) hx hb dE_write_30 hl (k := 0) rfl (by decide) (by decide) rfl (fun ls hl => ?_)
  refine lv_goto (tgt := 3) hx hb dE_write_33 (by decide) ?_
  refine lv_iload_n hx hb dE_write_3 rfl (lv_at hl 0 rfl) ?_
  refine lv_if_lt (tgt := 36) hx hb dE_write_4 (by decide) (fun c4 => absurd c4 (by decide)) (fun c4 => ?_)
  refine lv_aload_n hx hb dE_write_7 rfl (lv_at hl 1 rfl) ?_
  refine og C h laysE 0 rfl rfl 0 (by decide) flE_7 rfl (v := .ref q) rfl dE_write_8 ?_
  refine lv_aload_n hx hb dE_write_11 rfl (lv_at hl 1 rfl) ?_
  refine og C h laysE 0 rfl rfl 1 (by decide) flE_17 rfl (v := .int 7) rfl dE_write_12 ?_
  refine lv_iload_n hx hb dE_write_15 rfl (lv_at hl 2 rfl) ?_
  refine lv_iload_n hx hb dE_write_16 rfl (lv_at hl 0 rfl) ?_
  refine lv_iushr hx hb dE_write_17 rfl ?_
  refine lv_i2b hx hb dE_write_18 rfl ?_
  refine va_bast C.1.1 C.1.2.1 C.2 h.1 h.2.1 h.2.2.1 1 0 rfl rfl (pk_in 7 5000 (by decide) rfl) dE_write_19 (fun H locs hP hD hS => ?_)
  have h : Hx g [(x, .inr (1, [.ref q, .int 7, .null, .null, .null, .null, .null, .null, .null, .null, .int 0, .int (-1)])), (q, .inl (g.2.2 0, 5000, .inl (upd f_5 (7 : Int32).toNatClampNeg (vp_nar .byte ((((a1 : Int32).toUInt32 >>> ((0 : Int32).toUInt32 &&& Int32.toUInt32 31)).toInt32).toInt8.toInt32)))))] A s.heap _ _ := ⟨hP, hD, hS, h.2.2.2⟩
  generalize (upd f_5 (7 : Int32).toNatClampNeg (vp_nar .byte ((((a1 : Int32).toUInt32 >>> ((0 : Int32).toUInt32 &&& Int32.toUInt32 31)).toInt32).toInt8.toInt32))) = f_7 at h
  refine lv_aload_n hx hb dE_write_20 rfl (lv_at hl 1 rfl) ?_
  refine lv_dup hx hb dE_write_21 rfl ?_
  refine og C h laysE 0 rfl rfl 1 (by decide) flE_17 rfl (v := .int 7) rfl dE_write_22 ?_
  refine lv_iconst (v := 1) hx hb dE_write_25 (by decide) ?_
  refine lv_iadd hx hb dE_write_26 ?_
  refine lv_topi (fun n_8 en_8 => ?_)
  have en_8 : n_8 = 8 := en_8.trans (by decide)
  subst en_8
  refine op C h laysE tyE tyE_ok nmE 0 rfl rfl 1 (by decide) flE_17 rfl rfl (v := .int 8) rfl rfl (Nat.le_of_ble_eq_true rfl) (w' := [(x, .inr (1, [.ref q, .int 8, .null, .null, .null, .null, .null, .null, .null, .null, .int 0, .int (-1)])), (q, .inl (g.2.2 0, 5000, .inl f_7))]) rfl dE_write_27 (fun H locs h => ?_)
  refine lv_iinc (v := -8) (lv' := [(2, .int (-8)), (0, .ref x), (1, .int (a1))]) hx hb dE_write_30 hl (k := 0) rfl (by decide) (by decide) rfl (fun ls hl => ?_)
  refine lv_goto (tgt := 3) hx hb dE_write_33 (by decide) ?_
  refine lv_iload_n hx hb dE_write_3 rfl (lv_at hl 0 rfl) ?_
  refine lv_if_lt (tgt := 36) hx hb dE_write_4 (by decide) (fun c4 => ?_) (fun c4 => absurd c4 (by decide))
  exact KV.ret C hr hlk f_7 h trivial (by decide) (by decide) dE_write_36

set_option maxHeartbeats 4000000 in
set_option maxRecDepth 100000 in
/-- write() -/
theorem e_write8 (l : Launch) (g : GG) (x q : Nat) (f : Nat → Int32) (a1 : Int32) : KV l yE_write cE_write 3 (rD 0 0 0) g [(x, .inr (1, [.ref q, .int 8, .null, .null, .null, .null, .null, .null, .null, .null, .int 0, .int (-1)])), (q, .inl (g.2.2 0, 5000, .inl f))] (fun u : Nat → Int32 => [(x, .inr (1, [.ref q, .int 12, .null, .null, .null, .null, .null, .null, .null, .null, .int 0, .int (-1)])), (q, .inl (g.2.2 0, 5000, .inl u))]) [.ref x, .int a1] (fun u : Nat → Int32 => True) := by
  refine KV.of (by decide) (Nat.le_of_ble_eq_true rfl) ?_
  intro p e s m below meth c A ls C hr hlk hnm h hl
  have hx := C.1.1
  have hb := C.1.2.1
  have hl : lv_has ls 3 [(0, .ref x), (1, .int a1)] := hl
  refine lv_bipush (v := 24) hx hb dE_write_0 (by decide) ?_
  refine lv_istore_n (lv' := [(2, .int (24)), (0, .ref x), (1, .int (a1))]) hx hb dE_write_2 rfl hl (by decide) rfl (fun ls hl => ?_)
  refine lv_iload_n hx hb dE_write_3 rfl (lv_at hl 0 rfl) ?_
  refine lv_if_lt (tgt := 36) hx hb dE_write_4 (by decide) (fun c4 => absurd c4 (by decide)) (fun c4 => ?_)
  refine lv_aload_n hx hb dE_write_7 rfl (lv_at hl 1 rfl) ?_
  refine og C h laysE 0 rfl rfl 0 (by decide) flE_7 rfl (v := .ref q) rfl dE_write_8 ?_
  refine lv_aload_n hx hb dE_write_11 rfl (lv_at hl 1 rfl) ?_
  refine og C h laysE 0 rfl rfl 1 (by decide) flE_17 rfl (v := .int 8) rfl dE_write_12 ?_
  refine lv_iload_n hx hb dE_write_15 rfl (lv_at hl 2 rfl) ?_
  refine lv_iload_n hx hb dE_write_16 rfl (lv_at hl 0 rfl) ?_
  refine lv_iushr hx hb dE_write_17 rfl ?_
  refine lv_i2b hx hb dE_write_18 rfl ?_
  refine va_bast C.1.1 C.1.2.1 C.2 h.1 h.2.1 h.2.2.1 1 0 rfl rfl (pk_in 8 5000 (by decide) rfl) dE_write_19 (fun H locs hP hD hS => ?_)
  have h : Hx g [(x, .inr (1, [.ref q, .int 8, .null, .null, .null, .null, .null, .null, .null, .null, .int 0, .int (-1)])), (q, .inl (g.2.2 0, 5000, .inl (upd f (8 : Int32).toNatClampNeg (vp_nar .byte ((((a1 : Int32).toUInt32 >>> ((24 : Int32).toUInt32 &&& Int32.toUInt32 31)).toInt32).toInt8.toInt32)))))] A s.heap _ _ := ⟨hP, hD, hS, h.2.2.2⟩
  generalize (upd f (8 : Int32).toNatClampNeg (vp_nar .byte ((((a1 : Int32).toUInt32 >>> ((24 : Int32).toUInt32 &&& Int32.toUInt32 31)).toInt32).toInt8.toInt32))) = f_1 at h
  refine lv_aload_n hx hb dE_write_20 rfl (lv_at hl 1 rfl) ?_
  refine lv_dup hx hb dE_write_21 rfl ?_
  refine og C h laysE 0 rfl rfl 1 (by decide) flE_17 rfl (v := .int 8) rfl dE_write_22 ?_
  refine lv_iconst (v := 1) hx hb dE_write_25 (by decide) ?_
  refine lv_iadd hx hb dE_write_26 ?_
  refine lv_topi (fun n_2 en_2 => ?_)
  have en_2 : n_2 = 9 := en_2.trans (by decide)
  subst en_2
  refine op C h laysE tyE tyE_ok nmE 0 rfl rfl 1 (by decide) flE_17 rfl rfl (v := .int 9) rfl rfl (Nat.le_of_ble_eq_true rfl) (w' := [(x, .inr (1, [.ref q, .int 9, .null, .null, .null, .null, .null, .null, .null, .null, .int 0, .int (-1)])), (q, .inl (g.2.2 0, 5000, .inl f_1))]) rfl dE_write_27 (fun H locs h => ?_)
  refine lv_iinc (v := 16) (lv' := [(2, .int (16)), (0, .ref x), (1, .int (a1))]) hx hb dE_write_30 hl (k := 0) rfl (by decide) (by decide) rfl (fun ls hl => ?_)
  refine lv_goto (tgt := 3) hx hb dE_write_33 (by decide) ?_
  refine lv_iload_n hx hb dE_write_3 rfl (lv_at hl 0 rfl) ?_
  refine lv_if_lt (tgt := 36) hx hb dE_write_4 (by decide) (fun c4 => absurd c4 (by decide)) (fun c4 => ?_)
  refine lv_aload_n hx hb dE_write_7 rfl (lv_at hl 1 rfl) ?_
  refine og C h laysE 0 rfl rfl 0 (by decide) flE_7 rfl (v := .ref q) rfl dE_write_8 ?_
  refine lv_aload_n hx hb dE_write_11 rfl (lv_at hl 1 rfl) ?_
  refine og C h laysE 0 rfl rfl 1 (by decide) flE_17 rfl (v := .int 9) rfl dE_write_12 ?_
  refine lv_iload_n hx hb dE_write_15 rfl (lv_at hl 2 rfl) ?_
  refine lv_iload_n hx hb dE_write_16 rfl (lv_at hl 0 rfl) ?_
  refine lv_iushr hx hb dE_write_17 rfl ?_
  refine lv_i2b hx hb dE_write_18 rfl ?_
  refine va_bast C.1.1 C.1.2.1 C.2 h.1 h.2.1 h.2.2.1 1 0 rfl rfl (pk_in 9 5000 (by decide) rfl) dE_write_19 (fun H locs hP hD hS => ?_)
  have h : Hx g [(x, .inr (1, [.ref q, .int 9, .null, .null, .null, .null, .null, .null, .null, .null, .int 0, .int (-1)])), (q, .inl (g.2.2 0, 5000, .inl (upd f_1 (9 : Int32).toNatClampNeg (vp_nar .byte ((((a1 : Int32).toUInt32 >>> ((16 : Int32).toUInt32 &&& Int32.toUInt32 31)).toInt32).toInt8.toInt32)))))] A s.heap _ _ := ⟨hP, hD, hS, h.2.2.2⟩
  generalize (upd f_1 (9 : Int32).toNatClampNeg (vp_nar .byte ((((a1 : Int32).toUInt32 >>> ((16 : Int32).toUInt32 &&& Int32.toUInt32 31)).toInt32).toInt8.toInt32))) = f_3 at h
  refine lv_aload_n hx hb dE_write_20 rfl (lv_at hl 1 rfl) ?_
  refine lv_dup hx hb dE_write_21 rfl ?_
  refine og C h laysE 0 rfl rfl 1 (by decide) flE_17 rfl (v := .int 9) rfl dE_write_22 ?_
  refine lv_iconst (v := 1) hx hb dE_write_25 (by decide) ?_
  refine lv_iadd hx hb dE_write_26 ?_
  refine lv_topi (fun n_4 en_4 => ?_)
  have en_4 : n_4 = 10 := en_4.trans (by decide)
  subst en_4
  refine op C h laysE tyE tyE_ok nmE 0 rfl rfl 1 (by decide) flE_17 rfl rfl (v := .int 10) rfl rfl (Nat.le_of_ble_eq_true rfl) (w' := [(x, .inr (1, [.ref q, .int 10, .null, .null, .null, .null, .null, .null, .null, .null, .int 0, .int (-1)])), (q, .inl (g.2.2 0, 5000, .inl f_3))]) rfl dE_write_27 (fun H locs h => ?_)
  refine lv_iinc (v := 8) (lv' := [(2, .int (8)), (0, .ref x), (1, .int (a1))]) hx hb dE_write_30 hl (k := 0) rfl (by decide) (by decide) rfl (fun ls hl => ?_)
  refine lv_goto (tgt := 3) hx hb dE_write_33 (by decide) ?_
  refine lv_iload_n hx hb dE_write_3 rfl (lv_at hl 0 rfl) ?_
  refine lv_if_lt (tgt := 36) hx hb dE_write_4 (by decide) (fun c4 => absurd c4 (by decide)) (fun c4 => ?_)
  refine lv_aload_n hx hb dE_write_7 rfl (lv_at hl 1 rfl) ?_
  refine og C h laysE 0 rfl rfl 0 (by decide) flE_7 rfl (v := .ref q) rfl dE_write_8 ?_
  refine lv_aload_n hx hb dE_write_11 rfl (lv_at hl 1 rfl) ?_
  refine og C h laysE 0 rfl rfl 1 (by decide) flE_17 rfl (v := .int 10) rfl dE_write_12 ?_
  refine lv_iload_n hx hb dE_write_15 rfl (lv_at hl 2 rfl) ?_
  refine lv_iload_n hx hb dE_write_16 rfl (lv_at hl 0 rfl) ?_
  refine lv_iushr hx hb dE_write_17 rfl ?_
  refine lv_i2b hx hb dE_write_18 rfl ?_
  refine va_bast C.1.1 C.1.2.1 C.2 h.1 h.2.1 h.2.2.1 1 0 rfl rfl (pk_in 10 5000 (by decide) rfl) dE_write_19 (fun H locs hP hD hS => ?_)
  have h : Hx g [(x, .inr (1, [.ref q, .int 10, .null, .null, .null, .null, .null, .null, .null, .null, .int 0, .int (-1)])), (q, .inl (g.2.2 0, 5000, .inl (upd f_3 (10 : Int32).toNatClampNeg (vp_nar .byte ((((a1 : Int32).toUInt32 >>> ((8 : Int32).toUInt32 &&& Int32.toUInt32 31)).toInt32).toInt8.toInt32)))))] A s.heap _ _ := ⟨hP, hD, hS, h.2.2.2⟩
  generalize (upd f_3 (10 : Int32).toNatClampNeg (vp_nar .byte ((((a1 : Int32).toUInt32 >>> ((8 : Int32).toUInt32 &&& Int32.toUInt32 31)).toInt32).toInt8.toInt32))) = f_5 at h
  refine lv_aload_n hx hb dE_write_20 rfl (lv_at hl 1 rfl) ?_
  refine lv_dup hx hb dE_write_21 rfl ?_
  refine og C h laysE 0 rfl rfl 1 (by decide) flE_17 rfl (v := .int 10) rfl dE_write_22 ?_
  refine lv_iconst (v := 1) hx hb dE_write_25 (by decide) ?_
  refine lv_iadd hx hb dE_write_26 ?_
  refine lv_topi (fun n_6 en_6 => ?_)
  have en_6 : n_6 = 11 := en_6.trans (by decide)
  subst en_6
  refine op C h laysE tyE tyE_ok nmE 0 rfl rfl 1 (by decide) flE_17 rfl rfl (v := .int 11) rfl rfl (Nat.le_of_ble_eq_true rfl) (w' := [(x, .inr (1, [.ref q, .int 11, .null, .null, .null, .null, .null, .null, .null, .null, .int 0, .int (-1)])), (q, .inl (g.2.2 0, 5000, .inl f_5))]) rfl dE_write_27 (fun H locs h => ?_)
  refine lv_iinc (v := 0) (lv' := [(2, .int (0)), (0, .ref x), (1, .int (a1))]) hx hb dE_write_30 hl (k := 0) rfl (by decide) (by decide) rfl (fun ls hl => ?_)
  refine lv_goto (tgt := 3) hx hb dE_write_33 (by decide) ?_
  refine lv_iload_n hx hb dE_write_3 rfl (lv_at hl 0 rfl) ?_
  refine lv_if_lt (tgt := 36) hx hb dE_write_4 (by decide) (fun c4 => absurd c4 (by decide)) (fun c4 => ?_)
  refine lv_aload_n hx hb dE_write_7 rfl (lv_at hl 1 rfl) ?_
  refine og C h laysE 0 rfl rfl 0 (by decide) flE_7 rfl (v := .ref q) rfl dE_write_8 ?_
  refine lv_aload_n hx hb dE_write_11 rfl (lv_at hl 1 rfl) ?_
  refine og C h laysE 0 rfl rfl 1 (by decide) flE_17 rfl (v := .int 11) rfl dE_write_12 ?_
  refine lv_iload_n hx hb dE_write_15 rfl (lv_at hl 2 rfl) ?_
  refine lv_iload_n hx hb dE_write_16 rfl (lv_at hl 0 rfl) ?_
  refine lv_iushr hx hb dE_write_17 rfl ?_
  refine lv_i2b hx hb dE_write_18 rfl ?_
  refine va_bast C.1.1 C.1.2.1 C.2 h.1 h.2.1 h.2.2.1 1 0 rfl rfl (pk_in 11 5000 (by decide) rfl) dE_write_19 (fun H locs hP hD hS => ?_)
  have h : Hx g [(x, .inr (1, [.ref q, .int 11, .null, .null, .null, .null, .null, .null, .null, .null, .int 0, .int (-1)])), (q, .inl (g.2.2 0, 5000, .inl (upd f_5 (11 : Int32).toNatClampNeg (vp_nar .byte ((((a1 : Int32).toUInt32 >>> ((0 : Int32).toUInt32 &&& Int32.toUInt32 31)).toInt32).toInt8.toInt32)))))] A s.heap _ _ := ⟨hP, hD, hS, h.2.2.2⟩
  generalize (upd f_5 (11 : Int32).toNatClampNeg (vp_nar .byte ((((a1 : Int32).toUInt32 >>> ((0 : Int32).toUInt32 &&& Int32.toUInt32 31)).toInt32).toInt8.toInt32))) = f_7 at h
  refine lv_aload_n hx hb dE_write_20 rfl (lv_at hl 1 rfl) ?_
  refine lv_dup hx hb dE_write_21 rfl ?_
  refine og C h laysE 0 rfl rfl 1 (by decide) flE_17 rfl (v := .int 11) rfl dE_write_22 ?_
  refine lv_iconst (v := 1) hx hb dE_write_25 (by decide) ?_
  refine lv_iadd hx hb dE_write_26 ?_
  refine lv_topi (fun n_8 en_8 => ?_)
  have en_8 : n_8 = 12 := en_8.trans (by decide)
  subst en_8
  refine op C h laysE tyE tyE_ok nmE 0 rfl rfl 1 (by decide) flE_17 rfl rfl (v := .int 12) rfl rfl (Nat.le_of_ble_eq_true rfl) (w' := [(x, .inr (1, [.ref q, .int 12, .null, .null, .null, .null, .null, .null, .null, .null, .int 0, .int (-1)])), (q, .inl (g.2.2 0, 5000, .inl f_7))]) rfl dE_write_27 (fun H locs h => ?_)
  refine lv_iinc (v := -8) (lv' := [(2, .int (-8)), (0, .ref x), (1, .int (a1))]) hx hb dE_write_30 hl (k := 0) rfl (by decide) (by decide) rfl (fun ls hl => ?_)
  refine lv_goto (tgt := 3) hx hb dE_write_33 (by decide) ?_
  refine lv_iload_n hx hb dE_write_3 rfl (lv_at hl 0 rfl) ?_
  refine lv_if_lt (tgt := 36) hx hb dE_write_4 (by decide) (fun c4 => ?_) (fun c4 => absurd c4 (by decide))
  exact KV.ret C hr hlk f_7 h trivial (by decide) (by decide) dE_write_36

set_option maxHeartbeats 4000000 in
set_option maxRecDepth 100000 in
/-- write() -/
theorem e_write12 (l : Launch) (g : GG) (x q : Nat) (f : Nat → Int32) (a1 : Int32) : KV l yE_write cE_write 3 (rD 0 0 0) g [(x, .inr (1, [.ref q, .int 12, .null, .null, .null, .null, .null, .null, .null, .null, .int 0, .int (-1)])), (q, .inl (g.2.2 0, 5000, .inl f))] (fun u : Nat → Int32 => [(x, .inr (1, [.ref q, .int 16, .null, .null, .null, .null, .null, .null, .null, .null, .int 0, .int (-1)])), (q, .inl (g.2.2 0, 5000, .inl u))]) [.ref x, .int a1] (fun u : Nat → Int32 => True) := by
  refine KV.of (by decide) (Nat.le_of_ble_eq_true rfl) ?_
  intro p e s m below meth c A ls C hr hlk hnm h hl
  have hx := C.1.1
  have hb := C.1.2.1
  have hl : lv_has ls 3 [(0, .ref x), (1, .int a1)] := hl
  refine lv_bipush (v := 24) hx hb dE_write_0 (by decide) ?_
  refine lv_istore_n (lv' := [(2, .int (24)), (0, .ref x), (1, .int (a1))]) hx hb dE_write_2 rfl hl (by decide) rfl (fun ls hl => ?_)
  refine lv_iload_n hx hb dE_write_3 rfl (lv_at hl 0 rfl) ?_
  refine lv_if_lt (tgt := 36) hx hb dE_write_4 (by decide) (fun c4 => absurd c4 (by decide)) (fun c4 => ?_)
  refine lv_aload_n hx hb dE_write_7 rfl (lv_at hl 1 rfl) ?_
  refine og C h laysE 0 rfl rfl 0 (by decide) flE_7 rfl (v := .ref q) rfl dE_write_8 ?_
  refine lv_aload_n hx hb dE_write_11 rfl (lv_at hl 1 rfl) ?_
  refine og C h laysE 0 rfl rfl 1 (by decide) flE_17 rfl (v := .int 12) rfl dE_write_12 ?_
  refine lv_iload_n hx hb dE_write_15 rfl (lv_at hl 2 rfl) ?_
  refine lv_iload_n hx hb dE_write_16 rfl (lv_at hl 0 rfl) ?_
  refine lv_iushr hx hb dE_write_17 rfl ?_
  refine lv_i2b hx hb dE_write_18 rfl ?_
  refine va_bast C.1.1 C.1.2.1 C.2 h.1 h.2.1 h.2.2.1 1 0 rfl rfl (pk_in 12 5000 (by decide) rfl) dE_write_19 (fun H locs hP hD hS => ?_)
  have h : Hx g [(x, .inr (1, [.ref q, .int 12, .null, .null, .null, .null, .null, .null, .null, .null, .int 0, .int (-1)])), (q, .inl (g.2.2 0, 5000, .inl (upd f (12 : Int32).toNatClampNeg (vp_nar .byte ((((a1 : Int32).toUInt32 >>> ((24 : Int32).toUInt32 &&& Int32.toUInt32 31)).toInt32).toInt8.toInt32)))))] A s.heap _ _ := ⟨hP, hD, hS, h.2.2.2⟩
  generalize (upd f (12 : Int32).toNatClampNeg (vp_nar .byte ((((a1 : Int32).toUInt32 >>> ((24 : Int32).toUInt32 &&& Int32.toUInt32 31)).toInt32).toInt8.toInt32))) = f_1 at h
  refine lv_aload_n hx hb dE_write_20 rfl (lv_at hl 1 rfl) ?_
  refine lv_dup hx hb dE_write_21 rfl ?_
  refine og C h laysE 0 rfl rfl 1 (by decide) flE_17 rfl (v := .int 12) rfl dE_write_22 ?_
  refine lv_iconst (v := 1) hx hb dE_write_25 (by decide) ?_
  refine lv_iadd hx hb dE_write_26 ?_
  refine lv_topi (fun n_2 en_2 => ?_)
  have en_2 : n_2 = 13 := en_2.trans (by decide)
  subst en_2
  refine op C h laysE tyE tyE_ok nmE 0 rfl rfl 1 (by decide) flE_17 rfl rfl (v := .int 13) rfl rfl (Nat.le_of_ble_eq_true rfl) (w' := [(x, .inr (1, [.ref q, .int 13, .null, .null, .null, .null, .null, .null, .null, .null, .int 0, .int (-1)])), (q, .inl (g.2.2 0, 5000, .inl f_1))]) rfl dE_write_27 (fun H locs h => ?_)
  refine lv_iinc (v := 16) (lv' := [(2, .int (16)), (0, .ref x), (1, .int (a1))]) hx hb dE_write_30 hl (k := 0) rfl (by decide) (by decide) rfl (fun ls hl => ?_)
  refine lv_goto (tgt := 3) hx hb dE_write_33 (by decide) ?_
  refine lv_iload_n hx hb dE_write_3 rfl (lv_at hl 0 rfl) ?_
  refine lv_if_lt (tgt := 36) hx hb dE_write_4 (by decide) (fun c4 => absurd c4 (by decide)) (fun c4 => ?_)
  refine lv_aload_n hx hb dE_write_7 rfl (lv_at hl 1 rfl) ?_
  refine og C h laysE 0 rfl rfl 0 (by decide) flE_7 rfl (v := .ref q) rfl dE_write_8 ?_
  refine lv_aload_n hx hb dE_write_11 rfl (lv_at hl 1 rfl) ?_
  refine og C h laysE 0 rfl rfl 1 (by decide) flE_17 rfl (v := .int 13) rfl dE_write_12 ?_
  refine lv_iload_n hx hb dE_write_15 rfl (lv_at hl 2 rfl) ?_
  refine lv_iload_n hx hb dE_write_16 rfl (lv_at hl 0 rfl) ?_
  refine lv_iushr hx hb dE_write_17 rfl ?_
  refine lv_i2b hx hb dE_write_18 rfl ?_
  refine va_bast C.1.1 C.1.2.1 C.2 h.1 h.2.1 h.2.2.1 1 0 rfl rfl (pk_in 13 5000 (by decide) rfl) dE_write_19 (fun H locs hP hD hS => ?_)
  have h : Hx g [(x, .inr (1, [.ref q, .int 13, .null, .null, .null, .null, .null, .null, .null, .null, .int 0, .int (-1)])), (q, .inl (g.2.2 0, 5000, .inl (upd f_1 (13 : Int32).toNatClampNeg (vp_nar .byte ((((a1 : Int32).toUInt32 >>> ((16 : Int32).toUInt32 &&& Int32.toUInt32 31)).toInt32).toInt8.toInt32)))))] A s.heap _ _ := ⟨hP, hD, hS, h.2.2.2⟩
  generalize (upd f_1 (13 : Int32).toNatClampNeg (vp_nar .byte ((((a1 : Int32).toUInt32 >>> ((16 : Int32).toUInt32 &&& Int32.toUInt32 31)).toInt32).toInt8.toInt32))) = f_3 at h
  refine lv_aload_n hx hb dE_write_20 rfl (lv_at hl 1 rfl) ?_
  refine lv_dup hx hb dE_write_21 rfl ?_
  refine og C h laysE 0 rfl rfl 1 (by decide) flE_17 rfl (v := .int 13) rfl dE_write_22 ?_
  refine lv_iconst (v := 1) hx hb dE_write_25 (by decide) ?_
  refine lv_iadd hx hb dE_write_26 ?_
  refine lv_topi (fun n_4 en_4 => ?_)
  have en_4 : n_4 = 14 := en_4.trans (by decide)
  subst en_4
  refine op C h laysE tyE tyE_ok nmE 0 rfl rfl 1 (by decide) flE_17 rfl rfl (v := .int 14) rfl rfl (Nat.le_of_ble_eq_true rfl) (w' := [(x, .inr (1, [.ref q, .int 14, .null, .null, .null, .null, .null, .null, .null, .null, .int 0, .int (-1)])), (q, .inl (g.2.2 0, 5000, .inl f_3))]) rfl dE_write_27 (fun H locs h => ?_)
  refine lv_iinc (v := 8) (lv' := [(2, .int (8)), (0, .ref x), (1, .int (a1))]) hx hb dE_write_30 hl (k := 0) rfl (by decide) (by decide) rfl (fun ls hl => ?_)
  refine lv_goto (tgt := 3) hx hb dE_write_33 (by decide) ?_
  refine lv_iload_n hx hb dE_write_3 rfl (lv_at hl 0 rfl) ?_
  refine lv_if_lt (tgt := 36) hx hb dE_write_4 (by decide) (fun c4 => absurd c4 (by decide)) (fun c4 => ?_)
  refine lv_aload_n hx hb dE_write_7 rfl (lv_at hl 1 rfl) ?_
  refine og C h laysE 0 rfl rfl 0 (by decide) flE_7 rfl (v := .ref q) rfl dE_write_8 ?_
  refine lv_aload_n hx hb dE_write_11 rfl (lv_at hl 1 rfl) ?_
  refine og C h laysE 0 rfl rfl 1 (by decide) flE_17 rfl (v := .int 14) rfl dE_write_12 ?_
  refine lv_iload_n hx hb dE_write_15 rfl (lv_at hl 2 rfl) ?_
  refine lv_iload_n hx hb dE_write_16 rfl (lv_at hl 0 rfl) ?_
  refine lv_iushr hx hb dE_write_17 rfl ?_
  refine lv_i2b hx hb dE_write_18 rfl ?_
  refine va_bast C.1.1 C.1.2.1 C.2 h.1 h.2.1 h.2.2.1 1 0 rfl rfl (pk_in 14 5000 (by decide) rfl) dE_write_19 (fun H locs hP hD hS => ?_)
  have h : Hx g [(x, .inr (1, [.ref q, .int 14, .null, .null, .null, .null, .null, .null, .null, .null, .int 0, .int (-1)])), (q, .inl (g.2.2 0, 5000, .inl (upd f_3 (14 : Int32).toNatClampNeg (vp_nar .byte ((((a1 : Int32).toUInt32 >>> ((8 : Int32).toUInt32 &&& Int32.toUInt32 31)).toInt32).toInt8.toInt32)))))] A s.heap _ _ := ⟨hP, hD, hS, h.2.2.2⟩
  generalize (upd f_3 (14 : Int32).toNatClampNeg (vp_nar .byte ((((a1 : Int32).toUInt32 >>> ((8 : Int32).toUInt32 &&& Int32.toUInt32 31)).toInt32).toInt8.toInt32))) = f_5 at h
  refine lv_aload_n hx hb dE_write_20 rfl (lv_at hl 1 rfl) ?_
  refine lv_dup hx hb dE_write_21 rfl ?_
  refine og C h laysE 0 rfl rfl 1 (by decide) flE_17 rfl (v := .int 14) rfl dE_write_22 ?_
  refine lv_iconst (v := 1) hx hb dE_write_25 (by decide) ?_
  refine lv_iadd hx hb dE_write_26 ?_
  refine lv_topi (fun n_6 en_6 => ?_)
  have en_6 : n_6 = 15 := en_6.trans (by decide)
  subst en_6
  refine op C h laysE tyE tyE_ok nmE 0 rfl rfl 1 (by decide) flE_17 rfl rfl (v := .int 15) rfl rfl (Nat.le_of_ble_eq_true rfl) (w' := [(x, .inr (1, [.ref q, .int 15, .null, .null, .null, .null, .null, .null, .null, .null, .int 0, .int (-1)])), (q, .inl (g.2.2 0, 5000, .inl f_5))]) rfl dE_write_27 (fun H locs h => ?_)
  refine lv_iinc (v := 0) (lv' := [(2, .int (0)), (0, .ref x), (1, .int (a1))]) hx hb dE_write_30 hl (k := 0) rfl (by decide) (by decide) rfl (fun ls hl => ?_)
  refine lv_goto (tgt := 3) hx hb dE_write_33 (by decide) ?_
  refine lv_iload_n hx hb dE_write_3 rfl (lv_at hl 0 rfl) ?_
  refine lv_if_lt (tgt := 36) hx hb dE_write_4 (by decide) (fun c4 => absurd c4 (by decide)) (fun c4 => ?_)
  refine lv_aload_n hx hb dE_write_7 rfl (lv_at hl 1 rfl) ?_
  refine og C h laysE 0 rfl rfl 0 (by decide) flE_7 rfl (v := .ref q) rfl dE_write_8 ?_
  refine lv_aload_n hx hb dE_write_11 rfl (lv_at hl 1 rfl) ?_
  refine og C h laysE 0 rfl rfl 1 (by decide) flE_17 rfl (v := .int 15) rfl dE_write_12 ?_
  refine lv_iload_n hx hb dE_write_15 rfl (lv_at hl 2 rfl) ?_
  refine lv_iload_n hx hb dE_write_16 rfl (lv_at hl 0 rfl) ?_
  refine lv_iushr hx hb dE_write_17 rfl ?_
  refine lv_i2b hx hb dE_write_18 rfl ?_
  refine va_bast C.1.1 C.1.2.1 C.2 h.1 h.2.1 h.2.2.1 1 0 rfl rfl (pk_in 15 5000 (by decide) rfl) dE_write_19 (fun H locs hP hD hS => ?_)
  have h : Hx g [(x, .inr (1, [.ref q, .int 15, .null, .null, .null, .null, .null, .null, .null, .null, .int 0, .int (-1)])), (q, .inl (g.2.2 0, 5000, .inl (upd f_5 (15 : Int32).toNatClampNeg (vp_nar .byte ((((a1 : Int32).toUInt32 >>> ((0 : Int32).toUInt32 &&& Int32.toUInt32 31)).toInt32).toInt8.toInt32)))))] A s.heap _ _ := ⟨hP, hD, hS, h.2.2.2⟩
  generalize (upd f_5 (15 : Int32).toNatClampNeg (vp_nar .byte ((((a1 : Int32).toUInt32 >>> ((0 : Int32).toUInt32 &&& Int32.toUInt32 31)).toInt32).toInt8.toInt32))) = f_7 at h
  refine lv_aload_n hx hb dE_write_20 rfl (lv_at hl 1 rfl) ?_
  refine lv_dup hx hb dE_write_21 rfl ?_
  refine og C h laysE 0 rfl rfl 1 (by decide) flE_17 rfl (v := .int 15) rfl dE_write_22 ?_
  refine lv_iconst (v := 1) hx hb dE_write_25 (by decide) ?_
  refine lv_iadd hx hb dE_write_26 ?_
  refine lv_topi (fun n_8 en_8 => ?_)
  have en_8 : n_8 = 16 := en_8.trans (by decide)
  subst en_8
  refine op C h laysE tyE tyE_ok nmE 0 rfl rfl 1 (by decide) flE_17 rfl rfl (v := .int 16) rfl rfl (Nat.le_of_ble_eq_true rfl) (w' := [(x, .inr (1, [.ref q, .int 16, .null, .null, .null, .null, .null, .null, .null, .null, .int 0, .int (-1)])), (q, .inl (g.2.2 0, 5000, .inl f_7))]) rfl dE_write_27 (fun H locs h => ?_)
  refine lv_iinc (v := -8) (lv' := [(2, .int (-8)), (0, .ref x), (1, .int (a1))]) hx hb dE_write_30 hl (k := 0) rfl (by decide) (by decide) rfl (fun ls hl => ?_)
  refine lv_goto (tgt := 3) hx hb dE_write_33 (by decide) ?_
  refine lv_iload_n hx hb dE_write_3 rfl (lv_at hl 0 rfl) ?_
  refine lv_if_lt (tgt := 36) hx hb dE_write_4 (by decide) (fun c4 => ?_) (fun c4 => absurd c4 (by decide))
  exact KV.ret C hr hlk f_7 h trivial (by decide) (by decide) dE_write_36

set_option maxHeartbeats 4000000 in
set_option maxRecDepth 100000 in
/-- write() -/
theorem e_write16 (l : Launch) (g : GG) (x q : Nat) (f : Nat → Int32) (a1 : Int32) : KV l yE_write cE_write 3 (rD 0 0 0) g [(x, .inr (1, [.ref q, .int 16, .null, .null, .null, .null, .null, .null, .null, .null, .int 0, .int (-1)])), (q, .inl (g.2.2 0, 5000, .inl f))] (fun u : Nat → Int32 => [(x, .inr (1, [.ref q, .int 20, .null, .null, .null, .null, .null, .null, .null, .null, .int 0, .int (-1)])), (q, .inl (g.2.2 0, 5000, .inl u))]) [.ref x, .int a1] (fun u : Nat → Int32 => True) := by
  refine KV.of (by decide) (Nat.le_of_ble_eq_true rfl) ?_
  intro p e s m below meth c A ls C hr hlk hnm h hl
  have hx := C.1.1
  have hb := C.1.2.1
  have hl : lv_has ls 3 [(0, .ref x), (1, .int a1)] := hl
  refine lv_bipush (v := 24) hx hb dE_write_0 (by decide) ?_
  refine lv_istore_n (lv' := [(2, .int (24)), (0, .ref x), (1, .int (a1))]) hx hb dE_write_2 rfl hl (by decide) rfl (fun ls hl => ?_)
  refine lv_iload_n hx hb dE_write_3 rfl (lv_at hl 0 rfl) ?_
  refine lv_if_lt (tgt := 36) hx hb dE_write_4 (by decide) (fun c4 => absurd c4 (by decide)) (fun c4 => ?_)
  refine lv_aload_n hx hb dE_write_7 rfl (lv_at hl 1 rfl) ?_
  refine og C h laysE 0 rfl rfl 0 (by decide) flE_7 rfl (v := .ref q) rfl dE_write_8 ?_
  refine lv_aload_n hx hb dE_write_11 rfl (lv_at hl 1 rfl) ?_
  refine og C h laysE 0 rfl rfl 1 (by decide) flE_17 rfl (v := .int 16) rfl dE_write_12 ?_
  refine lv_iload_n hx hb dE_write_15 rfl (lv_at hl 2 rfl) ?_
  refine lv_iload_n hx hb dE_write_16 rfl (lv_at hl 0 rfl) ?_
  refine lv_iushr hx hb dE_write_17 rfl ?_
  refine lv_i2b hx hb dE_write_18 rfl ?_
  refine va_bast C.1.1 C.1.2.1 C.2 h.1 h.2.1 h.2.2.1 1 0 rfl rfl (pk_in 16 5000 (by decide) rfl) dE_write_19 (fun H locs hP hD hS => ?_)
  have h : Hx g [(x, .inr (1, [.ref q, .int 16, .null, .null, .null, .null, .null, .null, .null, .null, .int 0, .int (-1)])), (q, .inl (g.2.2 0, 5000, .inl (upd f (16 : Int32).toNatClampNeg (vp_nar .byte ((((a1 : Int32).toUInt32 >>> ((24 : Int32).toUInt32 &&& Int32.toUInt32 31)).toInt32).toInt8.toInt32)))))] A s.heap _ _ := ⟨hP, hD, hS, h.2.2.2⟩
  generalize (upd f (16 : Int32).toNatClampNeg (vp_nar .byte ((((a1 : Int32).toUInt32 >>> ((24 : Int32).toUInt32 &&& Int32.toUInt32 31)).toInt32).toInt8.toInt32))) = f_1 at h
  refine lv_aload_n hx hb dE_write_20 rfl (lv_at hl 1 rfl) ?_
  refine lv_dup hx hb dE_write_21 rfl ?_
  refine og C h laysE 0 rfl rfl 1 (by decide) flE_17 rfl (v := .int 16) rfl dE_write_22 ?_
  refine lv_iconst (v := 1) hx hb dE_write_25 (by decide) ?_
  refine lv_iadd hx hb dE_write_26 ?_
  refine lv_topi (fun n_2 en_2 => ?_)
  have en_2 : n_2 = 17 := en_2.trans (by decide)
  subst en_2
  refine op C h laysE tyE tyE_ok nmE 0 rfl rfl 1 (by decide) flE_17 rfl rfl (v := .int 17) rfl rfl (Nat.le_of_ble_eq_true rfl) (w' := [(x, .inr (1, [.ref q, .int 17, .null, .null, .null, .null, .null, .null, .null, .null, .int 0, .int (-1)])), (q, .inl (g.2.2 0, 5000, .inl f_1))]) rfl dE_write_27 (fun H locs h => ?_)
  refine lv_iinc (v := 16) (lv' := [(2, .int (16)), (0, .ref x), (1, .int (a1))]) hx hb dE_write_30 hl (k := 0) rfl (by decide) (by decide) rfl (fun ls hl => ?_)
  refine lv_goto (tgt := 3) hx hb dE_write_33 (by decide) ?_
  refine lv_iload_n hx hb dE_write_3 rfl (lv_at hl 0 rfl) ?_
  refine lv_if_lt (tgt := 36) hx hb dE_write_4 (by decide) (fun c4 => absurd c4 (by decide)) (fun c4 => ?_)
  refine lv_aload_n hx hb dE_write_7 rfl (lv_at hl 1 rfl) ?_
  refine og C h laysE 0 rfl rfl 0 (by decide) flE_7 rfl (v := .ref q) rfl dE_write_8 ?_
  refine lv_aload_n hx hb dE_write_11 rfl (lv_at hl 1 rfl) ?_
  refine og C h laysE 0 rfl rfl 1 (by decide) flE_17 rfl (v := .int 17) rfl dE_write_12 ?_
  refine lv_iload_n hx hb dE_write_15 rfl (lv_at hl 2 rfl) ?_
  refine lv_iload_n hx hb dE_write_16 rfl (lv_at hl 0 rfl) ?_
  refine lv_iushr hx hb dE_write_17 rfl ?_
  refine lv_i2b hx hb dE_write_18 rfl ?_
  refine va_bast C.1.1 C.1.2.1 C.2 h.1 h.2.1 h.2.2.1 1 0 rfl rfl (pk_in 17 5000 (by decide) rfl) dE_write_19 (fun H locs hP hD hS => ?_)
  have h : Hx g [(x, .inr (1, [.ref q, .int 17, .null, .null, .null, .null, .null, .null, .null, .null, .int 0, .int (-1)])), (q, .inl (g.2.2 0, 5000, .inl (upd f_1 (17 : Int32).toNatClampNeg (vp_nar .byte ((((a1 : Int32).toUInt32 >>> ((16 : Int32).toUInt32 &&& Int32.toUInt32 31)).toInt32).toInt8.toInt32)))))] A s.heap _ _ := ⟨hP, hD, hS, h.2.2.2⟩
  generalize (upd f_1 (17 : Int32).toNatClampNeg (vp_nar .byte ((((a1 : Int32).toUInt32 >>> ((16 : Int32).toUInt32 &&& Int32.toUInt32 31)).toInt32).toInt8.toInt32))) = f_3 at h
  refine lv_aload_n hx hb dE_write_20 rfl (lv_at hl 1 rfl) ?_
  refine lv_dup hx hb dE_write_21 rfl ?_
  refine og C h laysE 0 rfl rfl 1 (by decide) flE_17 rfl (v := .int 17) rfl dE_write_22 ?_
  refine lv_iconst (v := 1) hx hb dE_write_25 (by decide) ?_
  refine lv_iadd hx hb dE_write_26 ?_
  refine lv_topi (fun n_4 en_4 => ?_)
  have en_4 : n_4 = 18 := en_4.trans (by decide)
  subst en_4
  refine op C h laysE tyE tyE_ok nmE 0 rfl rfl 1 (by decide) flE_17 rfl rfl (v := .int 18) rfl rfl (Nat.le_of_ble_eq_true rfl) (w' := [(x, .inr (1, [.ref q, .int 18, .null, .null, .null, .null, .null, .null, .null, .null, .int 0, .int (-1)])), (q, .inl (g.2.2 0, 5000, .inl f_3))]) rfl dE_write_27 (fun H locs h => ?_)
  refine lv_iinc (v := 8) (lv' := [(2, .int (8)), (0, .ref x), (1, .int (a1))]) hx hb dE_write_30 hl (k := 0) rfl (by decide) (by decide) rfl (fun ls hl => ?_)
  refine lv_goto (tgt := 3) hx hb dE_write_33 (by decide) ?_
  refine lv_iload_n hx hb dE_write_3 rfl (lv_at hl 0 rfl) ?_
  refine lv_if_lt (tgt := 36) hx hb dE_write_4 (by decide) (fun c4 => absurd c4 (by decide)) (fun c4 => ?_)
  refine lv_aload_n hx hb dE_write_7 rfl (lv_at hl 1 rfl) ?_
  refine og C h laysE 0 rfl rfl 0 (by decide) flE_7 rfl (v := .ref q) rfl dE_write_8 ?_
  refine lv_aload_n hx hb dE_write_11 rfl (lv_at hl 1 rfl) ?_
  refine og C h laysE 0 rfl rfl 1 (by decide) flE_17 rfl (v := .int 18) rfl dE_write_12 ?_
  refine lv_iload_n hx hb dE_write_15 rfl (lv_at hl 2 rfl) ?_
  refine lv_iload_n hx hb dE_write_16 rfl (lv_at hl 0 rfl) ?_
  refine lv_iushr hx hb dE_write_17 rfl ?_
  refine lv_i2b hx hb dE_write_18 rfl ?_
  refine va_bast C.1.1 C.1.2.1 C.2 h.1 h.2.1 h.2.2.1 1 0 rfl rfl (pk_in 18 5000 (by decide) rfl) dE_write_19 (fun H locs hP hD hS => ?_)
  have h : Hx g [(x, .inr (1, [.ref q, .int 18, .null, .null, .null, .null, .null, .null, .null, .null, .int 0, .int (-1)])), (q, .inl (g.2.2 0, 5000, .inl (upd f_3 (18 : Int32).toNatClampNeg (vp_nar .byte ((((a1 : Int32).toUInt32 >>> ((8 : Int32).toUInt32 &&& Int32.toUInt32 31)).toInt32).toInt8.toInt32)))))] A s.heap _ _ := ⟨hP, hD, hS, h.2.2.2⟩
  generalize (upd f_3 (18 : Int32).toNatClampNeg (vp_nar .byte ((((a1 : Int32).toUInt32 >>> ((8 : Int32).toUInt32 &&& Int32.toUInt32 31)).toInt32).toInt8.toInt32))) = f_5 at h
  refine lv_aload_n hx hb dE_write_20 rfl (lv_at hl 1 rfl) ?_
  refine lv_dup hx hb dE_write_21 rfl ?_
  refine og C h laysE 0 rfl rfl 1 (by decide) flE_17 rfl (v := .int 18) rfl dE_write_22 ?_
  refine lv_iconst (v := 1) hx hb dE_write_25 (by decide) ?_
  refine lv_iadd hx hb dE_write_26 ?_
  refine lv_topi (fun n_6 en_6 => ?_)
  have en_6 : n_6 = 19 := en_6.trans (by decide)
  subst en_6
  refine op C h laysE tyE tyE_ok nmE 0 rfl rfl 1 (by decide) flE_17 rfl rfl (v := .int 19) rfl rfl (Nat.le_of_ble_eq_true rfl) (w' := [(x, .inr (1, [.ref q, .int 19, .null, .null, .null, .null, .null, .null, .null, .null, .int 0, .int (-1)])), (q, .inl (g.2.2 0, 5000, .inl f_5))]) rfl dE_write_27 (fun H locs h => ?_)
  refine lv_iinc (v := 0) (lv' := [(2, .int (0)), (0, .ref x), (1, .int (a1))]) hx hb dE_write_30 hl (k := 0) rfl (by decide) (by decide) rfl (fun ls hl => ?_)
  refine lv_goto (tgt := 3) hx hb dE_write_33 (by decide) ?_
  refine lv_iload_n hx hb dE_write_3 rfl (lv_at hl 0 rfl) ?_
  refine lv_if_lt (tgt := 36) hx hb dE_write_4 (by decide) (fun c4 => absurd c4 (by decide)) (fun c4 => ?_)
  refine lv_aload_n hx hb dE_write_7 rfl (lv_at hl 1 rfl) ?_
  refine og C h laysE 0 rfl rfl 0 (by decide) flE_7 rfl (v := .ref q) rfl dE_write_8 ?_
  refine lv_aload_n hx hb dE_write_11 rfl (lv_at hl 1 rfl) ?_
  refine og C h laysE 0 rfl rfl 1 (by decide) flE_17 rfl (v := .int 19) rfl dE_write_12 ?_
  refine lv_iload_n hx hb dE_write_15 rfl (lv_at hl 2 rfl) ?_
  refine lv_iload_n hx hb dE_write_16 rfl (lv_at hl 0 rfl) ?_
  refine lv_iushr hx hb dE_write_17 rfl ?_
  refine lv_i2b hx hb dE_write_18 rfl ?_
  refine va_bast C.1.1 C.1.2.1 C.2 h.1 h.2.1 h.2.2.1 1 0 rfl rfl (pk_in 19 5000 (by decide) rfl) dE_write_19 (fun H locs hP hD hS => ?_)
  have h : Hx g [(x, .inr (1, [.ref q, .int 19, .null, .null, .null, .null, .null, .null, .null, .null, .int 0, .int (-1)])), (q, .inl (g.2.2 0, 5000, .inl (upd f_5 (19 : Int32).toNatClampNeg (vp_nar .byte ((((a1 : Int32).toUInt32 >>> ((0 : Int32).toUInt32 &&& Int32.toUInt32 31)).toInt32).toInt8.toInt32)))))] A s.heap _ _ := ⟨hP, hD, hS, h.2.2.2⟩
  generalize (upd f_5 (19 : Int32).toNatClampNeg (vp_nar .byte ((((a1 : Int32).toUInt32 >>> ((0 : Int32).toUInt32 &&& Int32.toUInt32 31)).toInt32).toInt8.toInt32))) = f_7 at h
  refine lv_aload_n hx hb dE_write_20 rfl (lv_at hl 1 rfl) ?_
  refine lv_dup hx hb dE_write_21 rfl ?_
  refine og C h laysE 0 rfl rfl 1 (by decide) flE_17 rfl (v := .int 19) rfl dE_write_22 ?_
  refine lv_iconst (v := 1) hx hb dE_write_25 (by decide) ?_
  refine lv_iadd hx hb dE_write_26 ?_
  refine lv_topi (fun n_8 en_8 => ?_)
  have en_8 : n_8 = 20 := en_8.trans (by decide)
  subst en_8
  refine op C h laysE tyE tyE_ok nmE 0 rfl rfl 1 (by decide) flE_17 rfl rfl (v := .int 20) rfl rfl (Nat.le_of_ble_eq_true rfl) (w' := [(x, .inr (1, [.ref q, .int 20, .null, .null, .null, .null, .null, .null, .null, .null, .int 0, .int (-1)])), (q, .inl (g.2.2 0, 5000, .inl f_7))]) rfl dE_write_27 (fun H locs h => ?_)
  refine lv_iinc (v := -8) (lv' := [(2, .int (-8)), (0, .ref x), (1, .int (a1))]) hx hb dE_write_30 hl (k := 0) rfl (by decide) (by decide) rfl (fun ls hl => ?_)
  refine lv_goto (tgt := 3) hx hb dE_write_33 (by decide) ?_
  refine lv_iload_n hx hb dE_write_3 rfl (lv_at hl 0 rfl) ?_
  refine lv_if_lt (tgt := 36) hx hb dE_write_4 (by decide) (fun c4 => ?_) (fun c4 => absurd c4 (by decide))
  exact KV.ret C hr hlk f_7 h trivial (by decide) (by decide) dE_write_36

set_option maxHeartbeats 4000000 in
set_option maxRecDepth 100000 in
/-- feed() on a fresh object -/
theorem e_feed (l : Launch) (g : GG) (x t : Nat) (a1 a2 a3 a4 a5 : Int32) : KI l yE_feed cE_feed 6 (some .boolean) (rD 1 1 5000) g [(x, .inr (1, [.ref t, .int 0, .null, .null, .null, .null, .null, .null, .null, .null, .int 0, .int (-1)])), (t, .inl (g.2.2 0, 0, .inl (fun _ => 0)))] (fun u : Unit => []) [.ref x, .int a1, .int a2, .int a3, .int a4, .int a5] (fun (r : Int32) (u : Unit) => r = 1) := by
  refine KI.of (by decide) (Nat.le_of_ble_eq_true rfl) ?_
  intro p e s m below meth c A ls C hr hlk hnm h hl
  have hx := C.1.1
  have hb := C.1.2.1
  have hl : lv_has ls 6 [(0, .ref x), (1, .int a1), (2, .int a2), (3, .int a3), (4, .int a4), (5, .int a5)] := hl
  refine lv_aload_n hx hb dE_feed_0 rfl (lv_at hl 0 rfl) ?_
  refine og C h laysE 0 rfl rfl 1 (by decide) flE_17 rfl (v := .int 0) rfl dE_feed_1 ?_
  refine lv_bipush (v := 20) hx hb dE_feed_4 (by decide) ?_
  refine lv_iadd hx hb dE_feed_6 ?_
  refine lv_topi (fun n_1 en_1 => ?_)
  have en_1 : n_1 = 20 := en_1.trans (by decide)
  subst en_1
  refine lv_sipush (v := 5000) hx hb dE_feed_7 (by decide) ?_
  refine lv_icmp_le (tgt := 15) hx hb dE_feed_10 (by decide) (fun c10 => ?_) (fun c10 => absurd c10 (by decide))
  refine lv_aload_n hx hb dE_feed_15 rfl (lv_at hl 0 rfl) ?_
  refine og C h laysE 0 rfl rfl 0 (by decide) flE_7 rfl (v := .ref t) rfl dE_feed_16 ?_
  refine va_alen (v := 0) C.1.1 C.1.2.1 C.2 h.1 1 0 rfl rfl rfl dE_feed_19 ?_
  refine lv_if_ne (tgt := 32) hx hb dE_feed_20 (by decide) (fun c20 => absurd c20 (by decide)) (fun c20 => ?_)
  refine lv_aload_n hx hb dE_feed_23 rfl (lv_at hl 0 rfl) ?_
  refine lv_sipush (v := 5000) hx hb dE_feed_24 (by decide) ?_
  refine newA_b C h (N := 5000) (by decide) (by decide) (by decide) (by decide) (by decide) dE_feed_27 (fun q_2 H h => ?_)
  have h : Hx g [(x, .inr (1, [.ref t, .int 0, .null, .null, .null, .null, .null, .null, .null, .null, .int 0, .int (-1)])), (t, .inl (g.2.2 0, 0, .inl (fun _ => 0))), (q_2, .inl (g.2.2 0, 5000, .inl (fun _ => 0)))] A s.heap _ _ := h
  refine W.widen (k := 1) (n := 5000) (by decide) (by decide) ?_
  refine op C h laysE tyE tyE_ok nmE 0 rfl rfl 0 (by decide) flE_7 rfl rfl (v := .ref q_2) rfl rfl (Nat.le_of_ble_eq_true rfl) (w' := [(x, .inr (1, [.ref q_2, .int 0, .null, .null, .null, .null, .null, .null, .null, .null, .int 0, .int (-1)])), (t, .inl (g.2.2 0, 0, .inl (fun _ => 0))), (q_2, .inl (g.2.2 0, 5000, .inl (fun _ => 0)))]) rfl dE_feed_29 (fun H locs h => ?_)
  refine lv_aload_n hx hb dE_feed_32 rfl (lv_at hl 0 rfl) ?_
  refine lv_iload_n hx hb dE_feed_33 rfl (lv_at hl 1 rfl) ?_
  refine KV.callVs (As := [.int a1]) (q0 := 0) (ci := 1) (wc := [(x, .inr (1, [.ref q_2, .int 0, .null, .null, .null, .null, .null, .null, .null, .null, .int 0, .int (-1)])), (q_2, .inl (g.2.2 0, 5000, .inl (fun _ => 0)))]) (wr := [(t, .inl (g.2.2 0, 0, .inl (fun _ => 0)))]) C h [0, 2] [1] rfl rfl (by decide) (by decide) (by decide) (e_write0 l g x q_2 (fun _ => 0) a1) vE_feed_20 ⟨by decide, by decide⟩ rfl rfl hl.1 rfl (Nat.le_of_ble_eq_true rfl) dE_feed_34 ⟨by decide, by decide⟩ (fun u_3 H locs hp h => ?_)
  have h : Hx g [(t, .inl (g.2.2 0, 0, .inl (fun _ => 0))), (x, .inr (1, [.ref q_2, .int 4, .null, .null, .null, .null, .null, .null, .null, .null, .int 0, .int (-1)])), (q_2, .inl (g.2.2 0, 5000, .inl u_3))] A s.heap _ _ := h
  refine lv_aload_n hx hb dE_feed_37 rfl (lv_at hl 0 rfl) ?_
  refine lv_iload_n hx hb dE_feed_38 rfl (lv_at hl 2 rfl) ?_
  refine KV.callVs (As := [.int a2]) (q0 := 1) (ci := 1) (wc := [(x, .inr (1, [.ref q_2, .int 4, .null, .null, .null, .null, .null, .null, .null, .null, .int 0, .int (-1)])), (q_2, .inl (g.2.2 0, 5000, .inl u_3))]) (wr := [(t, .inl (g.2.2 0, 0, .inl (fun _ => 0)))]) C h [1, 2] [0] rfl rfl (by decide) (by decide) (by decide) (e_write4 l g x q_2 u_3 a2) vE_feed_20 ⟨by decide, by decide⟩ rfl rfl hl.1 rfl (Nat.le_of_ble_eq_true rfl) dE_feed_39 ⟨by decide, by decide⟩ (fun u_5 H locs hp h => ?_)
  have h : Hx g [(t, .inl (g.2.2 0, 0, .inl (fun _ => 0))), (x, .inr (1, [.ref q_2, .int 8, .null, .null, .null, .null, .null, .null, .null, .null, .int 0, .int (-1)])), (q_2, .inl (g.2.2 0, 5000, .inl u_5))] A s.heap _ _ := h
  refine lv_aload_n hx hb dE_feed_42 rfl (lv_at hl 0 rfl) ?_
  refine lv_iload_n hx hb dE_feed_43 rfl (lv_at hl 3 rfl) ?_
  refine KV.callVs (As := [.int a3]) (q0 := 1) (ci := 1) (wc := [(x, .inr (1, [.ref q_2, .int 8, .null, .null, .null, .null, .null, .null, .null, .null, .int 0, .int (-1)])), (q_2, .inl (g.2.2 0, 5000, .inl u_5))]) (wr := [(t, .inl (g.2.2 0, 0, .inl (fun _ => 0)))]) C h [1, 2] [0] rfl rfl (by decide) (by decide) (by decide) (e_write8 l g x q_2 u_5 a3) vE_feed_20 ⟨by decide, by decide⟩ rfl rfl hl.1 rfl (Nat.le_of_ble_eq_true rfl) dE_feed_44 ⟨by decide, by decide⟩ (fun u_7 H locs hp h => ?_)
  have h : Hx g [(t, .inl (g.2.2 0, 0, .inl (fun _ => 0))), (x, .inr (1, [.ref q_2, .int 12, .null, .null, .null, .null, .null, .null, .null, .null, .int 0, .int (-1)])), (q_2, .inl (g.2.2 0, 5000, .inl u_7))] A s.heap _ _ := h
  refine lv_aload_n hx hb dE_feed_47 rfl (lv_at hl 0 rfl) ?_
  refine lv_iload hx hb dE_feed_48 (lv_at hl 4 rfl) ?_
  refine KV.callVs (As := [.int a4]) (q0 := 1) (ci := 1) (wc := [(x, .inr (1, [.ref q_2, .int 12, .null, .null, .null, .null, .null, .null, .null, .null, .int 0, .int (-1)])), (q_2, .inl (g.2.2 0, 5000, .inl u_7))]) (wr := [(t, .inl (g.2.2 0, 0, .inl (fun _ => 0)))]) C h [1, 2] [0] rfl rfl (by decide) (by decide) (by decide) (e_write12 l g x q_2 u_7 a4) vE_feed_20 ⟨by decide, by decide⟩ rfl rfl hl.1 rfl (Nat.le_of_ble_eq_true rfl) dE_feed_50 ⟨by decide, by decide⟩ (fun u_9 H locs hp h => ?_)
  have h : Hx g [(t, .inl (g.2.2 0, 0, .inl (fun _ => 0))), (x, .inr (1, [.ref q_2, .int 16, .null, .null, .null, .null, .null, .null, .null, .null, .int 0, .int (-1)])), (q_2, .inl (g.2.2 0, 5000, .inl u_9))] A s.heap _ _ := h
  refine lv_aload_n hx hb dE_feed_53 rfl (lv_at hl 0 rfl) ?_
  refine lv_iload hx hb dE_feed_54 (lv_at hl 5 rfl) ?_
  refine KV.callVs (As := [.int a5]) (q0 := 1) (ci := 1) (wc := [(x, .inr (1, [.ref q_2, .int 16, .null, .null, .null, .null, .null, .null, .null, .null, .int 0, .int (-1)])), (q_2, .inl (g.2.2 0, 5000, .inl u_9))]) (wr := [(t, .inl (g.2.2 0, 0, .inl (fun _ => 0)))]) C h [1, 2] [0] rfl rfl (by decide) (by decide) (by decide) (e_write16 l g x q_2 u_9 a5) vE_feed_20 ⟨by decide, by decide⟩ rfl rfl hl.1 rfl (Nat.le_of_ble_eq_true rfl) dE_feed_56 ⟨by decide, by decide⟩ (fun u_11 H locs hp h => ?_)
  have h : Hx g [(t, .inl (g.2.2 0, 0, .inl (fun _ => 0))), (x, .inr (1, [.ref q_2, .int 20, .null, .null, .null, .null, .null, .null, .null, .null, .int 0, .int (-1)])), (q_2, .inl (g.2.2 0, 5000, .inl u_11))] A s.heap _ _ := h
  refine lv_iconst (v := 1) hx hb dE_feed_59 (by decide) ?_
  have h : Hx g [] A s.heap _ _ := h.cut [] (by decide) rfl
  exact KI.ret C hr hlk () h rfl rfl (by decide) (by decide) dE_feed_60

set_option maxHeartbeats 4000000 in
set_option maxRecDepth 100000 in
/-- Names -/
theorem i_Na20 (l : Launch) (g : GG) (o : Nat) : KV l yNa_init cNa_init 2 (rD 1 2 40) g [(o, .inr (7, [.null, .null, .int 0]))] (fun u : Nat × Nat => [(o, .inr (7, [.ref u.1, .ref u.2, .int 0]))]) [.ref o, .int 20] (fun u : Nat × Nat => True) := by
  refine KV.of (by decide) (Nat.le_of_ble_eq_true rfl) ?_
  intro p e s m below meth c A ls C hr hlk hnm h hl
  have hx := C.1.1
  have hb := C.1.2.1
  have hl : lv_has ls 2 [(0, .ref o), (1, .int 20)] := hl
  refine lv_aload_n hx hb dNa_init_0 rfl (lv_at hl 0 rfl) ?_
  refine W.objInit hx hb C.1.2.2.2.1 (C.1.2.2.2.2 _ koNa) (C.1.2.2.2.2 _ k_objI) (C.1.2.2.2.2 _ k_objC) rfl (by rw [C.1.2.2.1]; exact hl.1) rfl dNa_init_1 (Nat.le_of_ble_eq_true rfl) (Nat.le_of_ble_eq_true rfl) ?_
  refine W.eq (g2 := F0 m 4 ls []) rfl ?_
  refine lv_aload_n hx hb dNa_init_4 rfl (lv_at hl 0 rfl) ?_
  refine lv_iload_n hx hb dNa_init_5 rfl (lv_at hl 1 rfl) ?_
  refine newA_j C h (N := 20) (by decide) (by decide) (by decide) (by decide) (by decide) dNa_init_6 (fun q_1 H h => ?_)
  have h : Hx g [(o, .inr (7, [.null, .null, .int 0])), (q_1, .inl (g.2.2 2, 20, .inr (.inl (fun _ => 0))))] A s.heap _ _ := h
  refine W.widen (k := 1) (n := 20) (by decide) (by decide) ?_
  refine opF C h laysNa tyNa tyNa_ok nmNa hnm rfl 0 rfl rfl 0 (by decide) flNa_9 rfl rfl (v := .ref q_1) rfl rfl (Nat.le_of_ble_eq_true rfl) (w' := [(o, .inr (7, [.ref q_1, .null, .int 0])), (q_1, .inl (g.2.2 2, 20, .inr (.inl (fun _ => 0))))]) rfl dNa_init_8 (fun H locs h => ?_)
  refine lv_aload_n hx hb dNa_init_11 rfl (lv_at hl 0 rfl) ?_
  refine lv_iload_n hx hb dNa_init_12 rfl (lv_at hl 1 rfl) ?_
  refine newA_i C h (N := 20) (by decide) (by decide) (by decide) (by decide) (by decide) dNa_init_13 (fun q_2 H h => ?_)
  have h : Hx g [(o, .inr (7, [.ref q_1, .null, .int 0])), (q_1, .inl (g.2.2 2, 20, .inr (.inl (fun _ => 0)))), (q_2, .inl (g.2.2 1, 20, .inl (fun _ => 0)))] A s.heap _ _ := h
  refine W.widen (k := 2) (n := 40) (by decide) (by decide) ?_
  refine opF C h laysNa tyNa tyNa_ok nmNa hnm rfl 0 rfl rfl 1 (by decide) flNa_15 rfl rfl (v := .ref q_2) rfl rfl (Nat.le_of_ble_eq_true rfl) (w' := [(o, .inr (7, [.ref q_1, .ref q_2, .int 0])), (q_1, .inl (g.2.2 2, 20, .inr (.inl (fun _ => 0)))), (q_2, .inl (g.2.2 1, 20, .inl (fun _ => 0)))]) rfl dNa_init_15 (fun H locs h => ?_)
  have h : Hx g [(o, .inr (7, [.ref q_1, .ref q_2, .int 0]))] A s.heap _ _ := h.cut [0] (by decide) rfl
  exact KV.ret C hr hlk (q_1, q_2) h trivial (by decide) (by decide) dNa_init_18

set_option maxHeartbeats 4000000 in
set_option maxRecDepth 100000 in
/-- Names -/
theorem i_Na10 (l : Launch) (g : GG) (o : Nat) : KV l yNa_init cNa_init 2 (rD 1 2 20) g [(o, .inr (7, [.null, .null, .int 0]))] (fun u : Nat × Nat => [(o, .inr (7, [.ref u.1, .ref u.2, .int 0]))]) [.ref o, .int 10] (fun u : Nat × Nat => True) := by
  refine KV.of (by decide) (Nat.le_of_ble_eq_true rfl) ?_
  intro p e s m below meth c A ls C hr hlk hnm h hl
  have hx := C.1.1
  have hb := C.1.2.1
  have hl : lv_has ls 2 [(0, .ref o), (1, .int 10)] := hl
  refine lv_aload_n hx hb dNa_init_0 rfl (lv_at hl 0 rfl) ?_
  refine W.objInit hx hb C.1.2.2.2.1 (C.1.2.2.2.2 _ koNa) (C.1.2.2.2.2 _ k_objI) (C.1.2.2.2.2 _ k_objC) rfl (by rw [C.1.2.2.1]; exact hl.1) rfl dNa_init_1 (Nat.le_of_ble_eq_true rfl) (Nat.le_of_ble_eq_true rfl) ?_
  refine W.eq (g2 := F0 m 4 ls []) rfl ?_
  refine lv_aload_n hx hb dNa_init_4 rfl (lv_at hl 0 rfl) ?_
  refine lv_iload_n hx hb dNa_init_5 rfl (lv_at hl 1 rfl) ?_
  refine newA_j C h (N := 10) (by decide) (by decide) (by decide) (by decide) (by decide) dNa_init_6 (fun q_1 H h => ?_)
  have h : Hx g [(o, .inr (7, [.null, .null, .int 0])), (q_1, .inl (g.2.2 2, 10, .inr (.inl (fun _ => 0))))] A s.heap _ _ := h
  refine W.widen (k := 1) (n := 10) (by decide) (by decide) ?_
  refine opF C h laysNa tyNa tyNa_ok nmNa hnm rfl 0 rfl rfl 0 (by decide) flNa_9 rfl rfl (v := .ref q_1) rfl rfl (Nat.le_of_ble_eq_true rfl) (w' := [(o, .inr (7, [.ref q_1, .null, .int 0])), (q_1, .inl (g.2.2 2, 10, .inr (.inl (fun _ => 0))))]) rfl dNa_init_8 (fun H locs h => ?_)
  refine lv_aload_n hx hb dNa_init_11 rfl (lv_at hl 0 rfl) ?_
  refine lv_iload_n hx hb dNa_init_12 rfl (lv_at hl 1 rfl) ?_
  refine newA_i C h (N := 10) (by decide) (by decide) (by decide) (by decide) (by decide) dNa_init_13 (fun q_2 H h => ?_)
  have h : Hx g [(o, .inr (7, [.ref q_1, .null, .int 0])), (q_1, .inl (g.2.2 2, 10, .inr (.inl (fun _ => 0)))), (q_2, .inl (g.2.2 1, 10, .inl (fun _ => 0)))] A s.heap _ _ := h
  refine W.widen (k := 2) (n := 20) (by decide) (by decide) ?_
  refine opF C h laysNa tyNa tyNa_ok nmNa hnm rfl 0 rfl rfl 1 (by decide) flNa_15 rfl rfl (v := .ref q_2) rfl rfl (Nat.le_of_ble_eq_true rfl) (w' := [(o, .inr (7, [.ref q_1, .ref q_2, .int 0])), (q_1, .inl (g.2.2 2, 10, .inr (.inl (fun _ => 0)))), (q_2, .inl (g.2.2 1, 10, .inl (fun _ => 0)))]) rfl dNa_init_15 (fun H locs h => ?_)
  have h : Hx g [(o, .inr (7, [.ref q_1, .ref q_2, .int 0]))] A s.heap _ _ := h.cut [0] (by decide) rfl
  exact KV.ret C hr hlk (q_1, q_2) h trivial (by decide) (by decide) dNa_init_18

set_option maxHeartbeats 4000000 in
set_option maxRecDepth 100000 in
/-- Names -/
theorem i_Na6 (l : Launch) (g : GG) (o : Nat) : KV l yNa_init cNa_init 2 (rD 1 2 12) g [(o, .inr (7, [.null, .null, .int 0]))] (fun u : Nat × Nat => [(o, .inr (7, [.ref u.1, .ref u.2, .int 0]))]) [.ref o, .int 6] (fun u : Nat × Nat => True) := by
  refine KV.of (by decide) (Nat.le_of_ble_eq_true rfl) ?_
  intro p e s m below meth c A ls C hr hlk hnm h hl
  have hx := C.1.1
  have hb := C.1.2.1
  have hl : lv_has ls 2 [(0, .ref o), (1, .int 6)] := hl
  refine lv_aload_n hx hb dNa_init_0 rfl (lv_at hl 0 rfl) ?_
  refine W.objInit hx hb C.1.2.2.2.1 (C.1.2.2.2.2 _ koNa) (C.1.2.2.2.2 _ k_objI) (C.1.2.2.2.2 _ k_objC) rfl (by rw [C.1.2.2.1]; exact hl.1) rfl dNa_init_1 (Nat.le_of_ble_eq_true rfl) (Nat.le_of_ble_eq_true rfl) ?_
  refine W.eq (g2 := F0 m 4 ls []) rfl ?_
  refine lv_aload_n hx hb dNa_init_4 rfl (lv_at hl 0 rfl) ?_
  refine lv_iload_n hx hb dNa_init_5 rfl (lv_at hl 1 rfl) ?_
  refine newA_j C h (N := 6) (by decide) (by decide) (by decide) (by decide) (by decide) dNa_init_6 (fun q_1 H h => ?_)
  have h : Hx g [(o, .inr (7, [.null, .null, .int 0])), (q_1, .inl (g.2.2 2, 6, .inr (.inl (fun _ => 0))))] A s.heap _ _ := h
  refine W.widen (k := 1) (n := 6) (by decide) (by decide) ?_
  refine opF C h laysNa tyNa tyNa_ok nmNa hnm rfl 0 rfl rfl 0 (by decide) flNa_9 rfl rfl (v := .ref q_1) rfl rfl (Nat.le_of_ble_eq_true rfl) (w' := [(o, .inr (7, [.ref q_1, .null, .int 0])), (q_1, .inl (g.2.2 2, 6, .inr (.inl (fun _ => 0))))]) rfl dNa_init_8 (fun H locs h => ?_)
  refine lv_aload_n hx hb dNa_init_11 rfl (lv_at hl 0 rfl) ?_
  refine lv_iload_n hx hb dNa_init_12 rfl (lv_at hl 1 rfl) ?_
  refine newA_i C h (N := 6) (by decide) (by decide) (by decide) (by decide) (by decide) dNa_init_13 (fun q_2 H h => ?_)
  have h : Hx g [(o, .inr (7, [.ref q_1, .null, .int 0])), (q_1, .inl (g.2.2 2, 6, .inr (.inl (fun _ => 0)))), (q_2, .inl (g.2.2 1, 6, .inl (fun _ => 0)))] A s.heap _ _ := h
  refine W.widen (k := 2) (n := 12) (by decide) (by decide) ?_
  refine opF C h laysNa tyNa tyNa_ok nmNa hnm rfl 0 rfl rfl 1 (by decide) flNa_15 rfl rfl (v := .ref q_2) rfl rfl (Nat.le_of_ble_eq_true rfl) (w' := [(o, .inr (7, [.ref q_1, .ref q_2, .int 0])), (q_1, .inl (g.2.2 2, 6, .inr (.inl (fun _ => 0)))), (q_2, .inl (g.2.2 1, 6, .inl (fun _ => 0)))]) rfl dNa_init_15 (fun H locs h => ?_)
  have h : Hx g [(o, .inr (7, [.ref q_1, .ref q_2, .int 0]))] A s.heap _ _ := h.cut [0] (by decide) rfl
  exact KV.ret C hr hlk (q_1, q_2) h trivial (by decide) (by decide) dNa_init_18

set_option maxHeartbeats 4000000 in
set_option maxRecDepth 100000 in
/-- Names -/
theorem i_Na8 (l : Launch) (g : GG) (o : Nat) : KV l yNa_init cNa_init 2 (rD 1 2 16) g [(o, .inr (7, [.null, .null, .int 0]))] (fun u : Nat × Nat => [(o, .inr (7, [.ref u.1, .ref u.2, .int 0]))]) [.ref o, .int 8] (fun u : Nat × Nat => True) := by
  refine KV.of (by decide) (Nat.le_of_ble_eq_true rfl) ?_
  intro p e s m below meth c A ls C hr hlk hnm h hl
  have hx := C.1.1
  have hb := C.1.2.1
  have hl : lv_has ls 2 [(0, .ref o), (1, .int 8)] := hl
  refine lv_aload_n hx hb dNa_init_0 rfl (lv_at hl 0 rfl) ?_
  refine W.objInit hx hb C.1.2.2.2.1 (C.1.2.2.2.2 _ koNa) (C.1.2.2.2.2 _ k_objI) (C.1.2.2.2.2 _ k_objC) rfl (by rw [C.1.2.2.1]; exact hl.1) rfl dNa_init_1 (Nat.le_of_ble_eq_true rfl) (Nat.le_of_ble_eq_true rfl) ?_
  refine W.eq (g2 := F0 m 4 ls []) rfl ?_
  refine lv_aload_n hx hb dNa_init_4 rfl (lv_at hl 0 rfl) ?_
  refine lv_iload_n hx hb dNa_init_5 rfl (lv_at hl 1 rfl) ?_
  refine newA_j C h (N := 8) (by decide) (by decide) (by decide) (by decide) (by decide) dNa_init_6 (fun q_1 H h => ?_)
  have h : Hx g [(o, .inr (7, [.null, .null, .int 0])), (q_1, .inl (g.2.2 2, 8, .inr (.inl (fun _ => 0))))] A s.heap _ _ := h
  refine W.widen (k := 1) (n := 8) (by decide) (by decide) ?_
  refine opF C h laysNa tyNa tyNa_ok nmNa hnm rfl 0 rfl rfl 0 (by decide) flNa_9 rfl rfl (v := .ref q_1) rfl rfl (Nat.le_of_ble_eq_true rfl) (w' := [(o, .inr (7, [.ref q_1, .null, .int 0])), (q_1, .inl (g.2.2 2, 8, .inr (.inl (fun _ => 0))))]) rfl dNa_init_8 (fun H locs h => ?_)
  refine lv_aload_n hx hb dNa_init_11 rfl (lv_at hl 0 rfl) ?_
  refine lv_iload_n hx hb dNa_init_12 rfl (lv_at hl 1 rfl) ?_
  refine newA_i C h (N := 8) (by decide) (by decide) (by decide) (by decide) (by decide) dNa_init_13 (fun q_2 H h => ?_)
  have h : Hx g [(o, .inr (7, [.ref q_1, .null, .int 0])), (q_1, .inl (g.2.2 2, 8, .inr (.inl (fun _ => 0)))), (q_2, .inl (g.2.2 1, 8, .inl (fun _ => 0)))] A s.heap _ _ := h
  refine W.widen (k := 2) (n := 16) (by decide) (by decide) ?_
  refine opF C h laysNa tyNa tyNa_ok nmNa hnm rfl 0 rfl rfl 1 (by decide) flNa_15 rfl rfl (v := .ref q_2) rfl rfl (Nat.le_of_ble_eq_true rfl) (w' := [(o, .inr (7, [.ref q_1, .ref q_2, .int 0])), (q_1, .inl (g.2.2 2, 8, .inr (.inl (fun _ => 0)))), (q_2, .inl (g.2.2 1, 8, .inl (fun _ => 0)))]) rfl dNa_init_15 (fun H locs h => ?_)
  have h : Hx g [(o, .inr (7, [.ref q_1, .ref q_2, .int 0]))] A s.heap _ _ := h.cut [0] (by decide) rfl
  exact KV.ret C hr hlk (q_1, q_2) h trivial (by decide) (by decide) dNa_init_18

set_option maxHeartbeats 4000000 in
set_option maxRecDepth 100000 in
/-- Names -/
theorem i_Na3 (l : Launch) (g : GG) (o : Nat) : KV l yNa_init cNa_init 2 (rD 1 2 6) g [(o, .inr (7, [.null, .null, .int 0]))] (fun u : Nat × Nat => [(o, .inr (7, [.ref u.1, .ref u.2, .int 0]))]) [.ref o, .int 3] (fun u : Nat × Nat => True) := by
  refine KV.of (by decide) (Nat.le_of_ble_eq_true rfl) ?_
  intro p e s m below meth c A ls C hr hlk hnm h hl
  have hx := C.1.1
  have hb := C.1.2.1
  have hl : lv_has ls 2 [(0, .ref o), (1, .int 3)] := hl
  refine lv_aload_n hx hb dNa_init_0 rfl (lv_at hl 0 rfl) ?_
  refine W.objInit hx hb C.1.2.2.2.1 (C.1.2.2.2.2 _ koNa) (C.1.2.2.2.2 _ k_objI) (C.1.2.2.2.2 _ k_objC) rfl (by rw [C.1.2.2.1]; exact hl.1) rfl dNa_init_1 (Nat.le_of_ble_eq_true rfl) (Nat.le_of_ble_eq_true rfl) ?_
  refine W.eq (g2 := F0 m 4 ls []) rfl ?_
  refine lv_aload_n hx hb dNa_init_4 rfl (lv_at hl 0 rfl) ?_
  refine lv_iload_n hx hb dNa_init_5 rfl (lv_at hl 1 rfl) ?_
  refine newA_j C h (N := 3) (by decide) (by decide) (by decide) (by decide) (by decide) dNa_init_6 (fun q_1 H h => ?_)
  have h : Hx g [(o, .inr (7, [.null, .null, .int 0])), (q_1, .inl (g.2.2 2, 3, .inr (.inl (fun _ => 0))))] A s.heap _ _ := h
  refine W.widen (k := 1) (n := 3) (by decide) (by decide) ?_
  refine opF C h laysNa tyNa tyNa_ok nmNa hnm rfl 0 rfl rfl 0 (by decide) flNa_9 rfl rfl (v := .ref q_1) rfl rfl (Nat.le_of_ble_eq_true rfl) (w' := [(o, .inr (7, [.ref q_1, .null, .int 0])), (q_1, .inl (g.2.2 2, 3, .inr (.inl (fun _ => 0))))]) rfl dNa_init_8 (fun H locs h => ?_)
  refine lv_aload_n hx hb dNa_init_11 rfl (lv_at hl 0 rfl) ?_
  refine lv_iload_n hx hb dNa_init_12 rfl (lv_at hl 1 rfl) ?_
  refine newA_i C h (N := 3) (by decide) (by decide) (by decide) (by decide) (by decide) dNa_init_13 (fun q_2 H h => ?_)
  have h : Hx g [(o, .inr (7, [.ref q_1, .null, .int 0])), (q_1, .inl (g.2.2 2, 3, .inr (.inl (fun _ => 0)))), (q_2, .inl (g.2.2 1, 3, .inl (fun _ => 0)))] A s.heap _ _ := h
  refine W.widen (k := 2) (n := 6) (by decide) (by decide) ?_
  refine opF C h laysNa tyNa tyNa_ok nmNa hnm rfl 0 rfl rfl 1 (by decide) flNa_15 rfl rfl (v := .ref q_2) rfl rfl (Nat.le_of_ble_eq_true rfl) (w' := [(o, .inr (7, [.ref q_1, .ref q_2, .int 0])), (q_1, .inl (g.2.2 2, 3, .inr (.inl (fun _ => 0)))), (q_2, .inl (g.2.2 1, 3, .inl (fun _ => 0)))]) rfl dNa_init_15 (fun H locs h => ?_)
  have h : Hx g [(o, .inr (7, [.ref q_1, .ref q_2, .int 0]))] A s.heap _ _ := h.cut [0] (by decide) rfl
  exact KV.ret C hr hlk (q_1, q_2) h trivial (by decide) (by decide) dNa_init_18

set_option maxHeartbeats 4000000 in
set_option maxRecDepth 100000 in
/-- Names -/
theorem i_Na12 (l : Launch) (g : GG) (o : Nat) : KV l yNa_init cNa_init 2 (rD 1 2 24) g [(o, .inr (7, [.null, .null, .int 0]))] (fun u : Nat × Nat => [(o, .inr (7, [.ref u.1, .ref u.2, .int 0]))]) [.ref o, .int 12] (fun u : Nat × Nat => True) := by
  refine KV.of (by decide) (Nat.le_of_ble_eq_true rfl) ?_
  intro p e s m below meth c A ls C hr hlk hnm h hl
  have hx := C.1.1
  have hb := C.1.2.1
  have hl : lv_has ls 2 [(0, .ref o), (1, .int 12)] := hl
  refine lv_aload_n hx hb dNa_init_0 rfl (lv_at hl 0 rfl) ?_
  refine W.objInit hx hb C.1.2.2.2.1 (C.1.2.2.2.2 _ koNa) (C.1.2.2.2.2 _ k_objI) (C.1.2.2.2.2 _ k_objC) rfl (by rw [C.1.2.2.1]; exact hl.1) rfl dNa_init_1 (Nat.le_of_ble_eq_true rfl) (Nat.le_of_ble_eq_true rfl) ?_
  refine W.eq (g2 := F0 m 4 ls []) rfl ?_
  refine lv_aload_n hx hb dNa_init_4 rfl (lv_at hl 0 rfl) ?_
  refine lv_iload_n hx hb dNa_init_5 rfl (lv_at hl 1 rfl) ?_
  refine newA_j C h (N := 12) (by decide) (by decide) (by decide) (by decide) (by decide) dNa_init_6 (fun q_1 H h => ?_)
  have h : Hx g [(o, .inr (7, [.null, .null, .int 0])), (q_1, .inl (g.2.2 2, 12, .inr (.inl (fun _ => 0))))] A s.heap _ _ := h
  refine W.widen (k := 1) (n := 12) (by decide) (by decide) ?_
  refine opF C h laysNa tyNa tyNa_ok nmNa hnm rfl 0 rfl rfl 0 (by decide) flNa_9 rfl rfl (v := .ref q_1) rfl rfl (Nat.le_of_ble_eq_true rfl) (w' := [(o, .inr (7, [.ref q_1, .null, .int 0])), (q_1, .inl (g.2.2 2, 12, .inr (.inl (fun _ => 0))))]) rfl dNa_init_8 (fun H locs h => ?_)
  refine lv_aload_n hx hb dNa_init_11 rfl (lv_at hl 0 rfl) ?_
  refine lv_iload_n hx hb dNa_init_12 rfl (lv_at hl 1 rfl) ?_
  refine newA_i C h (N := 12) (by decide) (by decide) (by decide) (by decide) (by decide) dNa_init_13 (fun q_2 H h => ?_)
  have h : Hx g [(o, .inr (7, [.ref q_1, .null, .int 0])), (q_1, .inl (g.2.2 2, 12, .inr (.inl (fun _ => 0)))), (q_2, .inl (g.2.2 1, 12, .inl (fun _ => 0)))] A s.heap _ _ := h
  refine W.widen (k := 2) (n := 24) (by decide) (by decide) ?_
  refine opF C h laysNa tyNa tyNa_ok nmNa hnm rfl 0 rfl rfl 1 (by decide) flNa_15 rfl rfl (v := .ref q_2) rfl rfl (Nat.le_of_ble_eq_true rfl) (w' := [(o, .inr (7, [.ref q_1, .ref q_2, .int 0])), (q_1, .inl (g.2.2 2, 12, .inr (.inl (fun _ => 0)))), (q_2, .inl (g.2.2 1, 12, .inl (fun _ => 0)))]) rfl dNa_init_15 (fun H locs h => ?_)
  have h : Hx g [(o, .inr (7, [.ref q_1, .ref q_2, .int 0]))] A s.heap _ _ := h.cut [0] (by decide) rfl
  exact KV.ret C hr hlk (q_1, q_2) h trivial (by decide) (by decide) dNa_init_18

set_option maxHeartbeats 4000000 in
set_option maxRecDepth 100000 in
/-- Kind -/
theorem i_Kd (l : Launch) (g : GG) (o : Nat) : KV l yKd_init cKd_init 1 (rD 2 16 112) g [(o, .inr (6, [.null, .null, .null, .null, .null, .null, .null, .null, .int 0, .int 0, .int 0, .int 0, .int 0, .int 0, .int 0, .int 0, .int 0]))] (fun u : Nat → Nat => [(o, .inr (6, [.ref (u 0), .ref (u 1), .ref (u 2), .ref (u 3), .ref (u 4), .ref (u 5), .ref (u 6), .ref (u 7), .int 0, .int 0, .int 0, .int 0, .int 0, .int 0, .int 0, .int 0, .int 0]))]) [.ref o] (fun u : Nat → Nat => True) := by
  refine KV.of (by decide) (Nat.le_of_ble_eq_true rfl) ?_
  intro p e s m below meth c A ls C hr hlk hnm h hl
  have hx := C.1.1
  have hb := C.1.2.1
  have hl : lv_has ls 1 [(0, .ref o)] := hl
  refine lv_aload_n hx hb dKd_init_0 rfl (lv_at hl 0 rfl) ?_
  refine W.objInit hx hb C.1.2.2.2.1 (C.1.2.2.2.2 _ koKd) (C.1.2.2.2.2 _ k_objI) (C.1.2.2.2.2 _ k_objC) rfl (by rw [C.1.2.2.1]; exact hl.1) rfl dKd_init_1 (Nat.le_of_ble_eq_true rfl) (Nat.le_of_ble_eq_true rfl) ?_
  refine W.eq (g2 := F0 m 4 ls []) rfl ?_
  refine lv_aload_n hx hb dKd_init_4 rfl (lv_at hl 0 rfl) ?_
  refine on (ci := 7) C h laysNa tyNa tyNa_ok clKd_7 kiNa knNa rfl dfNa (by decide) (by decide) dKd_init_5 (fun q_1 H h => ?_)
  have h : Hx g [(o, .inr (6, [.null, .null, .null, .null, .null, .null, .null, .null, .int 0, .int 0, .int 0, .int 0, .int 0, .int 0, .int 0, .int 0, .int 0])), (q_1, .inr (7, [.null, .null, .int 0]))] A s.heap _ _ := h
  refine W.widen (k := 1) (n := 3) (by decide) (by decide) ?_
  refine lv_dup hx hb dKd_init_8 rfl ?_
  refine lv_bipush (v := 8) hx hb dKd_init_9 (by decide) ?_
  refine KV.callI (As := [.int 8]) (wc := [(q_1, .inr (7, [.null, .null, .int 0]))]) (wr := [(o, .inr (6, [.null, .null, .null, .null, .null, .null, .null, .null, .int 0, .int 0, .int 0, .int 0, .int 0, .int 0, .int 0, .int 0, .int 0]))]) C h [1] [0] rfl rfl (by decide) (by decide) (by decide) (i_Na8 l g q_1) mlKd_11 imNa_init iiNa_init icNa_init npNa_init rfl ⟨by decide, by decide⟩ hl.1 rfl (Nat.le_of_ble_eq_true rfl) dKd_init_11 ⟨by decide, by decide⟩ (fun u_2 H locs hp h => ?_)
  have h : Hx g [(o, .inr (6, [.null, .null, .null, .null, .null, .null, .null, .null, .int 0, .int 0, .int 0, .int 0, .int 0, .int 0, .int 0, .int 0, .int 0])), (q_1, .inr (7, [.ref u_2.1, .ref u_2.2, .int 0]))] A s.heap _ _ := h
  refine W.widen (k := 3) (n := 19) (by decide) (by decide) ?_
  refine opF C h laysKd tyKd tyKd_ok nmKd hnm rfl 0 rfl rfl 0 (by decide) flKd_14 rfl rfl (v := .ref q_1) rfl rfl (Nat.le_of_ble_eq_true rfl) (w' := [(o, .inr (6, [.ref q_1, .null, .null, .null, .null, .null, .null, .null, .int 0, .int 0, .int 0, .int 0, .int 0, .int 0, .int 0, .int 0, .int 0])), (q_1, .inr (7, [.ref u_2.1, .ref u_2.2, .int 0]))]) rfl dKd_init_14 (fun H locs h => ?_)
  refine lv_aload_n hx hb dKd_init_17 rfl (lv_at hl 0 rfl) ?_
  refine on (ci := 7) C h laysNa tyNa tyNa_ok clKd_7 kiNa knNa rfl dfNa (by decide) (by decide) dKd_init_18 (fun q_3 H h => ?_)
  have h : Hx g [(o, .inr (6, [.ref q_1, .null, .null, .null, .null, .null, .null, .null, .int 0, .int 0, .int 0, .int 0, .int 0, .int 0, .int 0, .int 0, .int 0])), (q_1, .inr (7, [.ref u_2.1, .ref u_2.2, .int 0])), (q_3, .inr (7, [.null, .null, .int 0]))] A s.heap _ _ := h
  refine W.widen (k := 4) (n := 22) (by decide) (by decide) ?_
  refine lv_dup hx hb dKd_init_21 rfl ?_
  refine lv_iconst (v := 3) hx hb dKd_init_22 (by decide) ?_
  refine KV.callI (As := [.int 3]) (wc := [(q_3, .inr (7, [.null, .null, .int 0]))]) (wr := [(o, .inr (6, [.ref q_1, .null, .null, .null, .null, .null, .null, .null, .int 0, .int 0, .int 0, .int 0, .int 0, .int 0, .int 0, .int 0, .int 0])), (q_1, .inr (7, [.ref u_2.1, .ref u_2.2, .int 0]))]) C h [2] [0, 1] rfl rfl (by decide) (by decide) (by decide) (i_Na3 l g q_3) mlKd_11 imNa_init iiNa_init icNa_init npNa_init rfl ⟨by decide, by decide⟩ hl.1 rfl (Nat.le_of_ble_eq_true rfl) dKd_init_23 ⟨by decide, by decide⟩ (fun u_4 H locs hp h => ?_)
  have h : Hx g [(o, .inr (6, [.ref q_1, .null, .null, .null, .null, .null, .null, .null, .int 0, .int 0, .int 0, .int 0, .int 0, .int 0, .int 0, .int 0, .int 0])), (q_1, .inr (7, [.ref u_2.1, .ref u_2.2, .int 0])), (q_3, .inr (7, [.ref u_4.1, .ref u_4.2, .int 0]))] A s.heap _ _ := h
  refine W.widen (k := 6) (n := 28) (by decide) (by decide) ?_
  refine opF C h laysKd tyKd tyKd_ok nmKd hnm rfl 0 rfl rfl 1 (by decide) flKd_20 rfl rfl (v := .ref q_3) rfl rfl (Nat.le_of_ble_eq_true rfl) (w' := [(o, .inr (6, [.ref q_1, .ref q_3, .null, .null, .null, .null, .null, .null, .int 0, .int 0, .int 0, .int 0, .int 0, .int 0, .int 0, .int 0, .int 0])), (q_1, .inr (7, [.ref u_2.1, .ref u_2.2, .int 0])), (q_3, .inr (7, [.ref u_4.1, .ref u_4.2, .int 0]))]) rfl dKd_init_26 (fun H locs h => ?_)
  refine lv_aload_n hx hb dKd_init_29 rfl (lv_at hl 0 rfl) ?_
  refine on (ci := 7) C h laysNa tyNa tyNa_ok clKd_7 kiNa knNa rfl dfNa (by decide) (by decide) dKd_init_30 (fun q_5 H h => ?_)
  have h : Hx g [(o, .inr (6, [.ref q_1, .ref q_3, .null, .null, .null, .null, .null, .null, .int 0, .int 0, .int 0, .int 0, .int 0, .int 0, .int 0, .int 0, .int 0])), (q_1, .inr (7, [.ref u_2.1, .ref u_2.2, .int 0])), (q_3, .inr (7, [.ref u_4.1, .ref u_4.2, .int 0])), (q_5, .inr (7, [.null, .null, .int 0]))] A s.heap _ _ := h
  refine W.widen (k := 7) (n := 31) (by decide) (by decide) ?_
  refine lv_dup hx hb dKd_init_33 rfl ?_
  refine lv_bipush (v := 12) hx hb dKd_init_34 (by decide) ?_
  refine KV.callI (As := [.int 12]) (wc := [(q_5, .inr (7, [.null, .null, .int 0]))]) (wr := [(o, .inr (6, [.ref q_1, .ref q_3, .null, .null, .null, .null, .null, .null, .int 0, .int 0, .int 0, .int 0, .int 0, .int 0, .int 0, .int 0, .int 0])), (q_1, .inr (7, [.ref u_2.1, .ref u_2.2, .int 0])), (q_3, .inr (7, [.ref u_4.1, .ref u_4.2, .int 0]))]) C h [3] [0, 1, 2] rfl rfl (by decide) (by decide) (by decide) (i_Na12 l g q_5) mlKd_11 imNa_init iiNa_init icNa_init npNa_init rfl ⟨by decide, by decide⟩ hl.1 rfl (Nat.le_of_ble_eq_true rfl) dKd_init_36 ⟨by decide, by decide⟩ (fun u_6 H locs hp h => ?_)
  have h : Hx g [(o, .inr (6, [.ref q_1, .ref q_3, .null, .null, .null, .null, .null, .null, .int 0, .int 0, .int 0, .int 0, .int 0, .int 0, .int 0, .int 0, .int 0])), (q_1, .inr (7, [.ref u_2.1, .ref u_2.2, .int 0])), (q_3, .inr (7, [.ref u_4.1, .ref u_4.2, .int 0])), (q_5, .inr (7, [.ref u_6.1, .ref u_6.2, .int 0]))] A s.heap _ _ := h
  refine W.widen (k := 9) (n := 55) (by decide) (by decide) ?_
  refine opF C h laysKd tyKd tyKd_ok nmKd hnm rfl 0 rfl rfl 2 (by decide) flKd_23 rfl rfl (v := .ref q_5) rfl rfl (Nat.le_of_ble_eq_true rfl) (w' := [(o, .inr (6, [.ref q_1, .ref q_3, .ref q_5, .null, .null, .null, .null, .null, .int 0, .int 0, .int 0, .int 0, .int 0, .int 0, .int 0, .int 0, .int 0])), (q_1, .inr (7, [.ref u_2.1, .ref u_2.2, .int 0])), (q_3, .inr (7, [.ref u_4.1, .ref u_4.2, .int 0])), (q_5, .inr (7, [.ref u_6.1, .ref u_6.2, .int 0]))]) rfl dKd_init_39 (fun H locs h => ?_)
  refine lv_aload_n hx hb dKd_init_42 rfl (lv_at hl 0 rfl) ?_
  refine on (ci := 7) C h laysNa tyNa tyNa_ok clKd_7 kiNa knNa rfl dfNa (by decide) (by decide) dKd_init_43 (fun q_7 H h => ?_)
  have h : Hx g [(o, .inr (6, [.ref q_1, .ref q_3, .ref q_5, .null, .null, .null, .null, .null, .int 0, .int 0, .int 0, .int 0, .int 0, .int 0, .int 0, .int 0, .int 0])), (q_1, .inr (7, [.ref u_2.1, .ref u_2.2, .int 0])), (q_3, .inr (7, [.ref u_4.1, .ref u_4.2, .int 0])), (q_5, .inr (7, [.ref u_6.1, .ref u_6.2, .int 0])), (q_7, .inr (7, [.null, .null, .int 0]))] A s.heap _ _ := h
  refine W.widen (k := 10) (n := 58) (by decide) (by decide) ?_
  refine lv_dup hx hb dKd_init_46 rfl ?_
  refine lv_bipush (v := 10) hx hb dKd_init_47 (by decide) ?_
  refine KV.callI (As := [.int 10]) (wc := [(q_7, .inr (7, [.null, .null, .int 0]))]) (wr := [(o, .inr (6, [.ref q_1, .ref q_3, .ref q_5, .null, .null, .null, .null, .null, .int 0, .int 0, .int 0, .int 0, .int 0, .int 0, .int 0, .int 0, .int 0])), (q_1, .inr (7, [.ref u_2.1, .ref u_2.2, .int 0])), (q_3, .inr (7, [.ref u_4.1, .ref u_4.2, .int 0])), (q_5, .inr (7, [.ref u_6.1, .ref u_6.2, .int 0]))]) C h [4] [0, 1, 2, 3] rfl rfl (by decide) (by decide) (by decide) (i_Na10 l g q_7) mlKd_11 imNa_init iiNa_init icNa_init npNa_init rfl ⟨by decide, by decide⟩ hl.1 rfl (Nat.le_of_ble_eq_true rfl) dKd_init_49 ⟨by decide, by decide⟩ (fun u_8 H locs hp h => ?_)
  have h : Hx g [(o, .inr (6, [.ref q_1, .ref q_3, .ref q_5, .null, .null, .null, .null, .null, .int 0, .int 0, .int 0, .int 0, .int 0, .int 0, .int 0, .int 0, .int 0])), (q_1, .inr (7, [.ref u_2.1, .ref u_2.2, .int 0])), (q_3, .inr (7, [.ref u_4.1, .ref u_4.2, .int 0])), (q_5, .inr (7, [.ref u_6.1, .ref u_6.2, .int 0])), (q_7, .inr (7, [.ref u_8.1, .ref u_8.2, .int 0]))] A s.heap _ _ := h
  refine W.widen (k := 12) (n := 78) (by decide) (by decide) ?_
  refine opF C h laysKd tyKd tyKd_ok nmKd hnm rfl 0 rfl rfl 3 (by decide) flKd_26 rfl rfl (v := .ref q_7) rfl rfl (Nat.le_of_ble_eq_true rfl) (w' := [(o, .inr (6, [.ref q_1, .ref q_3, .ref q_5, .ref q_7, .null, .null, .null, .null, .int 0, .int 0, .int 0, .int 0, .int 0, .int 0, .int 0, .int 0, .int 0])), (q_1, .inr (7, [.ref u_2.1, .ref u_2.2, .int 0])), (q_3, .inr (7, [.ref u_4.1, .ref u_4.2, .int 0])), (q_5, .inr (7, [.ref u_6.1, .ref u_6.2, .int 0])), (q_7, .inr (7, [.ref u_8.1, .ref u_8.2, .int 0]))]) rfl dKd_init_52 (fun H locs h => ?_)
  refine lv_aload_n hx hb dKd_init_55 rfl (lv_at hl 0 rfl) ?_
  refine lv_bipush (v := 8) hx hb dKd_init_56 (by decide) ?_
  refine newA_i C h (N := 8) (by decide) (by decide) (by decide) (by decide) (by decide) dKd_init_58 (fun q_9 H h => ?_)
  have h : Hx g [(o, .inr (6, [.ref q_1, .ref q_3, .ref q_5, .ref q_7, .null, .null, .null, .null, .int 0, .int 0, .int 0, .int 0, .int 0, .int 0, .int 0, .int 0, .int 0])), (q_1, .inr (7, [.ref u_2.1, .ref u_2.2, .int 0])), (q_3, .inr (7, [.ref u_4.1, .ref u_4.2, .int 0])), (q_5, .inr (7, [.ref u_6.1, .ref u_6.2, .int 0])), (q_7, .inr (7, [.ref u_8.1, .ref u_8.2, .int 0])), (q_9, .inl (g.2.2 1, 8, .inl (fun _ => 0)))] A s.heap _ _ := h
  refine W.widen (k := 13) (n := 86) (by decide) (by decide) ?_
  refine opF C h laysKd tyKd tyKd_ok nmKd hnm rfl 0 rfl rfl 4 (by decide) flKd_29 rfl rfl (v := .ref q_9) rfl rfl (Nat.le_of_ble_eq_true rfl) (w' := [(o, .inr (6, [.ref q_1, .ref q_3, .ref q_5, .ref q_7, .ref q_9, .null, .null, .null, .int 0, .int 0, .int 0, .int 0, .int 0, .int 0, .int 0, .int 0, .int 0])), (q_1, .inr (7, [.ref u_2.1, .ref u_2.2, .int 0])), (q_3, .inr (7, [.ref u_4.1, .ref u_4.2, .int 0])), (q_5, .inr (7, [.ref u_6.1, .ref u_6.2, .int 0])), (q_7, .inr (7, [.ref u_8.1, .ref u_8.2, .int 0])), (q_9, .inl (g.2.2 1, 8, .inl (fun _ => 0)))]) rfl dKd_init_60 (fun H locs h => ?_)
  refine lv_aload_n hx hb dKd_init_63 rfl (lv_at hl 0 rfl) ?_
  refine lv_bipush (v := 8) hx hb dKd_init_64 (by decide) ?_
  refine newA_i C h (N := 8) (by decide) (by decide) (by decide) (by decide) (by decide) dKd_init_66 (fun q_10 H h => ?_)
  have h : Hx g [(o, .inr (6, [.ref q_1, .ref q_3, .ref q_5, .ref q_7, .ref q_9, .null, .null, .null, .int 0, .int 0, .int 0, .int 0, .int 0, .int 0, .int 0, .int 0, .int 0])), (q_1, .inr (7, [.ref u_2.1, .ref u_2.2, .int 0])), (q_3, .inr (7, [.ref u_4.1, .ref u_4.2, .int 0])), (q_5, .inr (7, [.ref u_6.1, .ref u_6.2, .int 0])), (q_7, .inr (7, [.ref u_8.1, .ref u_8.2, .int 0])), (q_9, .inl (g.2.2 1, 8, .inl (fun _ => 0))), (q_10, .inl (g.2.2 1, 8, .inl (fun _ => 0)))] A s.heap _ _ := h
  refine W.widen (k := 14) (n := 94) (by decide) (by decide) ?_
  refine opF C h laysKd tyKd tyKd_ok nmKd hnm rfl 0 rfl rfl 5 (by decide) flKd_33 rfl rfl (v := .ref q_10) rfl rfl (Nat.le_of_ble_eq_true rfl) (w' := [(o, .inr (6, [.ref q_1, .ref q_3, .ref q_5, .ref q_7, .ref q_9, .ref q_10, .null, .null, .int 0, .int 0, .int 0, .int 0, .int 0, .int 0, .int 0, .int 0, .int 0])), (q_1, .inr (7, [.ref u_2.1, .ref u_2.2, .int 0])), (q_3, .inr (7, [.ref u_4.1, .ref u_4.2, .int 0])), (q_5, .inr (7, [.ref u_6.1, .ref u_6.2, .int 0])), (q_7, .inr (7, [.ref u_8.1, .ref u_8.2, .int 0])), (q_9, .inl (g.2.2 1, 8, .inl (fun _ => 0))), (q_10, .inl (g.2.2 1, 8, .inl (fun _ => 0)))]) rfl dKd_init_68 (fun H locs h => ?_)
  refine lv_aload_n hx hb dKd_init_71 rfl (lv_at hl 0 rfl) ?_
  refine lv_bipush (v := 8) hx hb dKd_init_72 (by decide) ?_
  refine newA_i C h (N := 8) (by decide) (by decide) (by decide) (by decide) (by decide) dKd_init_74 (fun q_11 H h => ?_)
  have h : Hx g [(o, .inr (6, [.ref q_1, .ref q_3, .ref q_5, .ref q_7, .ref q_9, .ref q_10, .null, .null, .int 0, .int 0, .int 0, .int 0, .int 0, .int 0, .int 0, .int 0, .int 0])), (q_1, .inr (7, [.ref u_2.1, .ref u_2.2, .int 0])), (q_3, .inr (7, [.ref u_4.1, .ref u_4.2, .int 0])), (q_5, .inr (7, [.ref u_6.1, .ref u_6.2, .int 0])), (q_7, .inr (7, [.ref u_8.1, .ref u_8.2, .int 0])), (q_9, .inl (g.2.2 1, 8, .inl (fun _ => 0))), (q_10, .inl (g.2.2 1, 8, .inl (fun _ => 0))), (q_11, .inl (g.2.2 1, 8, .inl (fun _ => 0)))] A s.heap _ _ := h
  refine W.widen (k := 15) (n := 102) (by decide) (by decide) ?_
  refine opF C h laysKd tyKd tyKd_ok nmKd hnm rfl 0 rfl rfl 6 (by decide) flKd_36 rfl rfl (v := .ref q_11) rfl rfl (Nat.le_of_ble_eq_true rfl) (w' := [(o, .inr (6, [.ref q_1, .ref q_3, .ref q_5, .ref q_7, .ref q_9, .ref q_10, .ref q_11, .null, .int 0, .int 0, .int 0, .int 0, .int 0, .int 0, .int 0, .int 0, .int 0])), (q_1, .inr (7, [.ref u_2.1, .ref u_2.2, .int 0])), (q_3, .inr (7, [.ref u_4.1, .ref u_4.2, .int 0])), (q_5, .inr (7, [.ref u_6.1, .ref u_6.2, .int 0])), (q_7, .inr (7, [.ref u_8.1, .ref u_8.2, .int 0])), (q_9, .inl (g.2.2 1, 8, .inl (fun _ => 0))), (q_10, .inl (g.2.2 1, 8, .inl (fun _ => 0))), (q_11, .inl (g.2.2 1, 8, .inl (fun _ => 0)))]) rfl dKd_init_76 (fun H locs h => ?_)
  refine lv_aload_n hx hb dKd_init_79 rfl (lv_at hl 0 rfl) ?_
  refine lv_bipush (v := 10) hx hb dKd_init_80 (by decide) ?_
  refine newA_i C h (N := 10) (by decide) (by decide) (by decide) (by decide) (by decide) dKd_init_82 (fun q_12 H h => ?_)
  have h : Hx g [(o, .inr (6, [.ref q_1, .ref q_3, .ref q_5, .ref q_7, .ref q_9, .ref q_10, .ref q_11, .null, .int 0, .int 0, .int 0, .int 0, .int 0, .int 0, .int 0, .int 0, .int 0])), (q_1, .inr (7, [.ref u_2.1, .ref u_2.2, .int 0])), (q_3, .inr (7, [.ref u_4.1, .ref u_4.2, .int 0])), (q_5, .inr (7, [.ref u_6.1, .ref u_6.2, .int 0])), (q_7, .inr (7, [.ref u_8.1, .ref u_8.2, .int 0])), (q_9, .inl (g.2.2 1, 8, .inl (fun _ => 0))), (q_10, .inl (g.2.2 1, 8, .inl (fun _ => 0))), (q_11, .inl (g.2.2 1, 8, .inl (fun _ => 0))), (q_12, .inl (g.2.2 1, 10, .inl (fun _ => 0)))] A s.heap _ _ := h
  refine W.widen (k := 16) (n := 112) (by decide) (by decide) ?_
  refine opF C h laysKd tyKd tyKd_ok nmKd hnm rfl 0 rfl rfl 7 (by decide) flKd_39 rfl rfl (v := .ref q_12) rfl rfl (Nat.le_of_ble_eq_true rfl) (w' := [(o, .inr (6, [.ref q_1, .ref q_3, .ref q_5, .ref q_7, .ref q_9, .ref q_10, .ref q_11, .ref q_12, .int 0, .int 0, .int 0, .int 0, .int 0, .int 0, .int 0, .int 0, .int 0])), (q_1, .inr (7, [.ref u_2.1, .ref u_2.2, .int 0])), (q_3, .inr (7, [.ref u_4.1, .ref u_4.2, .int 0])), (q_5, .inr (7, [.ref u_6.1, .ref u_6.2, .int 0])), (q_7, .inr (7, [.ref u_8.1, .ref u_8.2, .int 0])), (q_9, .inl (g.2.2 1, 8, .inl (fun _ => 0))), (q_10, .inl (g.2.2 1, 8, .inl (fun _ => 0))), (q_11, .inl (g.2.2 1, 8, .inl (fun _ => 0))), (q_12, .inl (g.2.2 1, 10, .inl (fun _ => 0)))]) rfl dKd_init_84 (fun H locs h => ?_)
  have h : Hx g [(o, .inr (6, [.ref q_1, .ref q_3, .ref q_5, .ref q_7, .ref q_9, .ref q_10, .ref q_11, .ref q_12, .int 0, .int 0, .int 0, .int 0, .int 0, .int 0, .int 0, .int 0, .int 0]))] A s.heap _ _ := h.cut [0] (by decide) rfl
  exact KV.ret C hr hlk (fun i => ([q_1, q_3, q_5, q_7, q_9, q_10, q_11, q_12] : List Nat).getD i 0) h trivial (by decide) (by decide) dKd_init_87

set_option maxHeartbeats 4000000 in
set_option maxRecDepth 100000 in
/-- Judge -/
theorem i_Ju {ak sv : Nat → Nat} (l : Launch) (g : GG) (o tk : Nat) : KVx ak sv l yJu_init cJu_init 2 (rD 3 20 398) g [(o, .inr (4, [.null, .null, .null, .int 0, .null, .null, .int 0, .null, .int 0, .int 0]))] (fun u : Unit => []) [.ref o, .ref tk] (fun u : Unit => True) := by
  refine KVx.of (by decide) (Nat.le_of_ble_eq_true rfl) ?_
  intro p e s m below meth c A ls C hr hlk hnm h hE hl
  have hx := C.1.1
  have hb := C.1.2.1
  have hl : lv_has ls 2 [(0, .ref o), (1, .ref tk)] := hl
  refine lv_aload_n hx hb dJu_init_0 rfl (lv_at hl 0 rfl) ?_
  refine W.objInit hx hb C.1.2.2.2.1 (C.1.2.2.2.2 _ koJu) (C.1.2.2.2.2 _ k_objI) (C.1.2.2.2.2 _ k_objC) rfl (by rw [C.1.2.2.1]; exact hl.1) rfl dJu_init_1 (Nat.le_of_ble_eq_true rfl) (Nat.le_of_ble_eq_true rfl) ?_
  refine W.eq (g2 := F0 m 4 ls []) rfl ?_
  refine lv_aload_n hx hb dJu_init_4 rfl (lv_at hl 0 rfl) ?_
  refine on (ci := 6) C h laysKd tyKd tyKd_ok clJu_9 kiKd knKd rfl dfKd (by decide) (by decide) dJu_init_5 (fun q_1 H h => ?_)
  have h : Hx g [(o, .inr (4, [.null, .null, .null, .int 0, .null, .null, .int 0, .null, .int 0, .int 0])), (q_1, .inr (6, [.null, .null, .null, .null, .null, .null, .null, .null, .int 0, .int 0, .int 0, .int 0, .int 0, .int 0, .int 0, .int 0, .int 0]))] A s.heap _ _ := h
  refine W.widen (k := 1) (n := 17) (by decide) (by decide) ?_
  refine lv_dup hx hb dJu_init_8 rfl ?_
  refine KV.callIN (As := []) (wc := [(q_1, .inr (6, [.null, .null, .null, .null, .null, .null, .null, .null, .int 0, .int 0, .int 0, .int 0, .int 0, .int 0, .int 0, .int 0, .int 0]))]) (wr := [(o, .inr (4, [.null, .null, .null, .int 0, .null, .null, .int 0, .null, .int 0, .int 0]))]) C h [1] [0] rfl rfl (by decide) (by decide) (by decide) (i_Kd l g q_1) (hE.2.2.2.2.1 (RJu, 11, yKd_init, "ExchangeHouse") (List.mem_of_getElem? (i := 1) rfl)) imKd_init iiKd_init icKd_init npKd_init rfl ⟨by decide, by decide⟩ hl.1 rfl (Nat.le_of_ble_eq_true rfl) dJu_init_9 ⟨by decide, by decide⟩ (fun u_2 H locs hp h => ?_)
  have h : Hx g [(o, .inr (4, [.null, .null, .null, .int 0, .null, .null, .int 0, .null, .int 0, .int 0])), (q_1, .inr (6, [.ref (u_2 0), .ref (u_2 1), .ref (u_2 2), .ref (u_2 3), .ref (u_2 4), .ref (u_2 5), .ref (u_2 6), .ref (u_2 7), .int 0, .int 0, .int 0, .int 0, .int 0, .int 0, .int 0, .int 0, .int 0]))] A s.heap _ _ := h
  refine W.widen (k := 17) (n := 129) (by decide) (by decide) ?_
  refine op C h laysJu tyJu tyJu_ok nmJu 0 rfl rfl 2 (by decide) flJu_12 rfl rfl (v := .ref q_1) rfl rfl (Nat.le_of_ble_eq_true rfl) (w' := [(o, .inr (4, [.null, .null, .ref q_1, .int 0, .null, .null, .int 0, .null, .int 0, .int 0])), (q_1, .inr (6, [.ref (u_2 0), .ref (u_2 1), .ref (u_2 2), .ref (u_2 3), .ref (u_2 4), .ref (u_2 5), .ref (u_2 6), .ref (u_2 7), .int 0, .int 0, .int 0, .int 0, .int 0, .int 0, .int 0, .int 0, .int 0]))]) rfl dJu_init_12 (fun H locs h => ?_)
  refine lv_aload_n hx hb dJu_init_15 rfl (lv_at hl 0 rfl) ?_
  refine lv_sipush (v := 128) hx hb dJu_init_16 (by decide) ?_
  refine newA_i C h (N := 128) (by decide) (by decide) (by decide) (by decide) (by decide) dJu_init_19 (fun q_3 H h => ?_)
  have h : Hx g [(o, .inr (4, [.null, .null, .ref q_1, .int 0, .null, .null, .int 0, .null, .int 0, .int 0])), (q_1, .inr (6, [.ref (u_2 0), .ref (u_2 1), .ref (u_2 2), .ref (u_2 3), .ref (u_2 4), .ref (u_2 5), .ref (u_2 6), .ref (u_2 7), .int 0, .int 0, .int 0, .int 0, .int 0, .int 0, .int 0, .int 0, .int 0])), (q_3, .inl (g.2.2 1, 128, .inl (fun _ => 0)))] A s.heap _ _ := h
  refine W.widen (k := 18) (n := 257) (by decide) (by decide) ?_
  refine opF C h laysJu tyJu tyJu_ok nmJu hnm rfl 0 rfl rfl 4 (by decide) flJu_18 rfl rfl (v := .ref q_3) rfl rfl (Nat.le_of_ble_eq_true rfl) (w' := [(o, .inr (4, [.null, .null, .ref q_1, .int 0, .ref q_3, .null, .int 0, .null, .int 0, .int 0])), (q_1, .inr (6, [.ref (u_2 0), .ref (u_2 1), .ref (u_2 2), .ref (u_2 3), .ref (u_2 4), .ref (u_2 5), .ref (u_2 6), .ref (u_2 7), .int 0, .int 0, .int 0, .int 0, .int 0, .int 0, .int 0, .int 0, .int 0])), (q_3, .inl (g.2.2 1, 128, .inl (fun _ => 0)))]) rfl dJu_init_21 (fun H locs h => ?_)
  refine lv_aload_n hx hb dJu_init_24 rfl (lv_at hl 0 rfl) ?_
  refine lv_sipush (v := 128) hx hb dJu_init_25 (by decide) ?_
  refine newA_i C h (N := 128) (by decide) (by decide) (by decide) (by decide) (by decide) dJu_init_28 (fun q_4 H h => ?_)
  have h : Hx g [(o, .inr (4, [.null, .null, .ref q_1, .int 0, .ref q_3, .null, .int 0, .null, .int 0, .int 0])), (q_1, .inr (6, [.ref (u_2 0), .ref (u_2 1), .ref (u_2 2), .ref (u_2 3), .ref (u_2 4), .ref (u_2 5), .ref (u_2 6), .ref (u_2 7), .int 0, .int 0, .int 0, .int 0, .int 0, .int 0, .int 0, .int 0, .int 0])), (q_3, .inl (g.2.2 1, 128, .inl (fun _ => 0))), (q_4, .inl (g.2.2 1, 128, .inl (fun _ => 0)))] A s.heap _ _ := h
  refine W.widen (k := 19) (n := 385) (by decide) (by decide) ?_
  refine opF C h laysJu tyJu tyJu_ok nmJu hnm rfl 0 rfl rfl 5 (by decide) flJu_22 rfl rfl (v := .ref q_4) rfl rfl (Nat.le_of_ble_eq_true rfl) (w' := [(o, .inr (4, [.null, .null, .ref q_1, .int 0, .ref q_3, .ref q_4, .int 0, .null, .int 0, .int 0])), (q_1, .inr (6, [.ref (u_2 0), .ref (u_2 1), .ref (u_2 2), .ref (u_2 3), .ref (u_2 4), .ref (u_2 5), .ref (u_2 6), .ref (u_2 7), .int 0, .int 0, .int 0, .int 0, .int 0, .int 0, .int 0, .int 0, .int 0])), (q_3, .inl (g.2.2 1, 128, .inl (fun _ => 0))), (q_4, .inl (g.2.2 1, 128, .inl (fun _ => 0)))]) rfl dJu_init_30 (fun H locs h => ?_)
  refine lv_aload_n hx hb dJu_init_33 rfl (lv_at hl 0 rfl) ?_
  refine lv_bipush (v := 13) hx hb dJu_init_34 (by decide) ?_
  refine newA_i C h (N := 13) (by decide) (by decide) (by decide) (by decide) (by decide) dJu_init_36 (fun q_5 H h => ?_)
  have h : Hx g [(o, .inr (4, [.null, .null, .ref q_1, .int 0, .ref q_3, .ref q_4, .int 0, .null, .int 0, .int 0])), (q_1, .inr (6, [.ref (u_2 0), .ref (u_2 1), .ref (u_2 2), .ref (u_2 3), .ref (u_2 4), .ref (u_2 5), .ref (u_2 6), .ref (u_2 7), .int 0, .int 0, .int 0, .int 0, .int 0, .int 0, .int 0, .int 0, .int 0])), (q_3, .inl (g.2.2 1, 128, .inl (fun _ => 0))), (q_4, .inl (g.2.2 1, 128, .inl (fun _ => 0))), (q_5, .inl (g.2.2 1, 13, .inl (fun _ => 0)))] A s.heap _ _ := h
  refine W.widen (k := 20) (n := 398) (by decide) (by decide) ?_
  refine opF C h laysJu tyJu tyJu_ok nmJu hnm rfl 0 rfl rfl 7 (by decide) flJu_27 rfl rfl (v := .ref q_5) rfl rfl (Nat.le_of_ble_eq_true rfl) (w' := [(o, .inr (4, [.null, .null, .ref q_1, .int 0, .ref q_3, .ref q_4, .int 0, .ref q_5, .int 0, .int 0])), (q_1, .inr (6, [.ref (u_2 0), .ref (u_2 1), .ref (u_2 2), .ref (u_2 3), .ref (u_2 4), .ref (u_2 5), .ref (u_2 6), .ref (u_2 7), .int 0, .int 0, .int 0, .int 0, .int 0, .int 0, .int 0, .int 0, .int 0])), (q_3, .inl (g.2.2 1, 128, .inl (fun _ => 0))), (q_4, .inl (g.2.2 1, 128, .inl (fun _ => 0))), (q_5, .inl (g.2.2 1, 13, .inl (fun _ => 0)))]) rfl dJu_init_38 (fun H locs h => ?_)
  refine lv_aload_n hx hb dJu_init_41 rfl (lv_at hl 0 rfl) ?_
  refine lv_aload_n hx hb dJu_init_42 rfl (lv_at hl 1 rfl) ?_
  refine opF C h laysJu tyJu tyJu_ok nmJu hnm rfl 0 rfl rfl 0 (by decide) flJu_30 rfl rfl (v := .ref tk) rfl rfl (Nat.le_of_ble_eq_true rfl) (w' := [(o, .inr (4, [.ref tk, .null, .ref q_1, .int 0, .ref q_3, .ref q_4, .int 0, .ref q_5, .int 0, .int 0])), (q_1, .inr (6, [.ref (u_2 0), .ref (u_2 1), .ref (u_2 2), .ref (u_2 3), .ref (u_2 4), .ref (u_2 5), .ref (u_2 6), .ref (u_2 7), .int 0, .int 0, .int 0, .int 0, .int 0, .int 0, .int 0, .int 0, .int 0])), (q_3, .inl (g.2.2 1, 128, .inl (fun _ => 0))), (q_4, .inl (g.2.2 1, 128, .inl (fun _ => 0))), (q_5, .inl (g.2.2 1, 13, .inl (fun _ => 0)))]) rfl dJu_init_43 (fun H locs h => ?_)
  have h : Hx g [] A s.heap _ _ := h.cut [] (by decide) rfl
  exact KV.ret C hr hlk () h trivial (by decide) (by decide) dJu_init_46

set_option maxHeartbeats 4000000 in
set_option maxRecDepth 100000 in
/-- Parser -/
theorem i_Pa {ak sv : Nat → Nat} (l : Launch) (g : GG) (o tk : Nat) : KVx ak sv l yPa_init cPa_init 2 (rD 3 17 129) g [(o, .inr (3, [.null, .null, .null, .int 0, .int 0, .int 0]))] (fun u : Nat => [(o, .inr (3, [.ref tk, .null, .ref u, .int 0, .int 0, .int 0]))]) [.ref o, .ref tk] (fun u : Nat => True) := by
  refine KVx.of (by decide) (Nat.le_of_ble_eq_true rfl) ?_
  intro p e s m below meth c A ls C hr hlk hnm h hE hl
  have hx := C.1.1
  have hb := C.1.2.1
  have hl : lv_has ls 2 [(0, .ref o), (1, .ref tk)] := hl
  refine lv_aload_n hx hb dPa_init_0 rfl (lv_at hl 0 rfl) ?_
  refine W.objInit hx hb C.1.2.2.2.1 (C.1.2.2.2.2 _ koPa) (C.1.2.2.2.2 _ k_objI) (C.1.2.2.2.2 _ k_objC) rfl (by rw [C.1.2.2.1]; exact hl.1) rfl dPa_init_1 (Nat.le_of_ble_eq_true rfl) (Nat.le_of_ble_eq_true rfl) ?_
  refine W.eq (g2 := F0 m 4 ls []) rfl ?_
  refine lv_aload_n hx hb dPa_init_4 rfl (lv_at hl 0 rfl) ?_
  refine on (ci := 6) C h laysKd tyKd tyKd_ok clPa_1 kiKd knKd rfl dfKd (by decide) (by decide) dPa_init_5 (fun q_1 H h => ?_)
  have h : Hx g [(o, .inr (3, [.null, .null, .null, .int 0, .int 0, .int 0])), (q_1, .inr (6, [.null, .null, .null, .null, .null, .null, .null, .null, .int 0, .int 0, .int 0, .int 0, .int 0, .int 0, .int 0, .int 0, .int 0]))] A s.heap _ _ := h
  refine W.widen (k := 1) (n := 17) (by decide) (by decide) ?_
  refine lv_dup hx hb dPa_init_8 rfl ?_
  refine KV.callIN (As := []) (wc := [(q_1, .inr (6, [.null, .null, .null, .null, .null, .null, .null, .null, .int 0, .int 0, .int 0, .int 0, .int 0, .int 0, .int 0, .int 0, .int 0]))]) (wr := [(o, .inr (3, [.null, .null, .null, .int 0, .int 0, .int 0]))]) C h [1] [0] rfl rfl (by decide) (by decide) (by decide) (i_Kd l g q_1) (hE.2.2.2.2.1 (RPa, 13, yKd_init, "ExchangeHouse") (List.mem_of_getElem? (i := 0) rfl)) imKd_init iiKd_init icKd_init npKd_init rfl ⟨by decide, by decide⟩ hl.1 rfl (Nat.le_of_ble_eq_true rfl) dPa_init_9 ⟨by decide, by decide⟩ (fun u_2 H locs hp h => ?_)
  have h : Hx g [(o, .inr (3, [.null, .null, .null, .int 0, .int 0, .int 0])), (q_1, .inr (6, [.ref (u_2 0), .ref (u_2 1), .ref (u_2 2), .ref (u_2 3), .ref (u_2 4), .ref (u_2 5), .ref (u_2 6), .ref (u_2 7), .int 0, .int 0, .int 0, .int 0, .int 0, .int 0, .int 0, .int 0, .int 0]))] A s.heap _ _ := h
  refine W.widen (k := 17) (n := 129) (by decide) (by decide) ?_
  refine op C h laysPa tyPa tyPa_ok nmPa 0 rfl rfl 2 (by decide) flPa_14 rfl rfl (v := .ref q_1) rfl rfl (Nat.le_of_ble_eq_true rfl) (w' := [(o, .inr (3, [.null, .null, .ref q_1, .int 0, .int 0, .int 0])), (q_1, .inr (6, [.ref (u_2 0), .ref (u_2 1), .ref (u_2 2), .ref (u_2 3), .ref (u_2 4), .ref (u_2 5), .ref (u_2 6), .ref (u_2 7), .int 0, .int 0, .int 0, .int 0, .int 0, .int 0, .int 0, .int 0, .int 0]))]) rfl dPa_init_12 (fun H locs h => ?_)
  refine lv_aload_n hx hb dPa_init_15 rfl (lv_at hl 0 rfl) ?_
  refine lv_aload_n hx hb dPa_init_16 rfl (lv_at hl 1 rfl) ?_
  refine opF C h laysPa tyPa tyPa_ok nmPa hnm rfl 0 rfl rfl 0 (by decide) flPa_18 rfl rfl (v := .ref tk) rfl rfl (Nat.le_of_ble_eq_true rfl) (w' := [(o, .inr (3, [.ref tk, .null, .ref q_1, .int 0, .int 0, .int 0])), (q_1, .inr (6, [.ref (u_2 0), .ref (u_2 1), .ref (u_2 2), .ref (u_2 3), .ref (u_2 4), .ref (u_2 5), .ref (u_2 6), .ref (u_2 7), .int 0, .int 0, .int 0, .int 0, .int 0, .int 0, .int 0, .int 0, .int 0]))]) rfl dPa_init_17 (fun H locs h => ?_)
  have h : Hx g [(o, .inr (3, [.ref tk, .null, .ref q_1, .int 0, .int 0, .int 0]))] A s.heap _ _ := h.cut [0] (by decide) rfl
  exact KV.ret C hr hlk q_1 h trivial (by decide) (by decide) dPa_init_20

