set_option maxHeartbeats 4000000 in
set_option maxRecDepth 100000 in
/-- place on a fresh object -/
theorem e_place (l : Launch) (g : GG) (x t : Nat) : KI l yE_place cE_place 1 (some .int) (rD 0 0 0) g [(x, .inr (1, [.ref t, .int 0, .null, .null, .null, .null, .null, .null, .null, .null, .int 0, .int (-1)])), (t, .inl (g.2.2 0, 0, .inl (fun _ => 0)))] (fun u : Unit => [(x, .inr (1, [.ref t, .int 0, .null, .null, .null, .null, .null, .null, .null, .null, .int 0, .int (-1)])), (t, .inl (g.2.2 0, 0, .inl (fun _ => 0)))]) [.ref x] (fun (r : Int32) (u : Unit) => r = -1) := by
  refine KI.of (by decide) (Nat.le_of_ble_eq_true rfl) ?_
  intro p e s m below meth c A ls C hr hlk hnm h hl
  have hx := C.1.1
  have hb := C.1.2.1
  have hl : lv_has ls 1 [(0, .ref x)] := hl
  refine lv_aload_n hx hb dE_place_0 rfl (lv_at hl 0 rfl) ?_
  refine og C h laysE 0 rfl rfl 11 (by decide) flE_13 rfl (v := .int (-1)) rfl dE_place_1 ?_
  exact KI.ret C hr hlk () h rfl rfl (by decide) (by decide) dE_place_4

set_option maxHeartbeats 4000000 in
set_option maxRecDepth 100000 in
/-- warning on a fresh object -/
theorem e_warning (l : Launch) (g : GG) (x t : Nat) (a1 a2 : Int32) : KI l yE_warning cE_warning 3 (some .int) (rD 0 0 0) g [(x, .inr (1, [.ref t, .int 0, .null, .null, .null, .null, .null, .null, .null, .null, .int 0, .int (-1)])), (t, .inl (g.2.2 0, 0, .inl (fun _ => 0)))] (fun u : Unit => [(x, .inr (1, [.ref t, .int 0, .null, .null, .null, .null, .null, .null, .null, .null, .int 0, .int (-1)])), (t, .inl (g.2.2 0, 0, .inl (fun _ => 0)))]) [.ref x, .int a1, .int a2] (fun (r : Int32) (u : Unit) => r = -1) := by
  refine KI.of (by decide) (Nat.le_of_ble_eq_true rfl) ?_
  intro p e s m below meth c A ls C hr hlk hnm h hl
  have hx := C.1.1
  have hb := C.1.2.1
  have hl : lv_has ls 3 [(0, .ref x), (1, .int a1), (2, .int a2)] := hl
  refine lv_aload_n hx hb dE_warning_0 rfl (lv_at hl 0 rfl) ?_
  refine og C h laysE 0 rfl rfl 8 (by decide) flE_77 rfl (v := .null) rfl dE_warning_1 ?_
  refine lv_ifnullN (tgt := 31) hx hb dE_warning_4 (by decide) ?_
  refine lv_iconst (v := -1) hx hb dE_warning_31 (by decide) ?_
  exact KI.ret C hr hlk () h rfl rfl (by decide) (by decide) dE_warning_32

set_option maxHeartbeats 4000000 in
set_option maxRecDepth 100000 in
/-- begin on a fresh object -/
theorem e_begin (l : Launch) (g : GG) (x t : Nat) (a1 : Int32) : KI l yE_begin cE_begin 2 (some .int) (rD 0 0 0) g [(x, .inr (1, [.ref t, .int 0, .null, .null, .null, .null, .null, .null, .null, .null, .int 0, .int (-1)])), (t, .inl (g.2.2 0, 0, .inl (fun _ => 0)))] (fun u : Unit => [(x, .inr (1, [.ref t, .int 0, .null, .null, .null, .null, .null, .null, .null, .null, .int 0, .int (-1)])), (t, .inl (g.2.2 0, 0, .inl (fun _ => 0)))]) [.ref x, .int a1] (fun (r : Int32) (u : Unit) => r = -1) := by
  refine KI.of (by decide) (Nat.le_of_ble_eq_true rfl) ?_
  intro p e s m below meth c A ls C hr hlk hnm h hl
  have hx := C.1.1
  have hb := C.1.2.1
  have hl : lv_has ls 2 [(0, .ref x), (1, .int a1)] := hl
  refine lv_aload_n hx hb dE_begin_0 rfl (lv_at hl 0 rfl) ?_
  refine og C h laysE 0 rfl rfl 8 (by decide) flE_77 rfl (v := .null) rfl dE_begin_1 ?_
  refine lv_ifnonnullN hx hb dE_begin_4 ?_
  refine lv_iconst (v := -1) hx hb dE_begin_7 (by decide) ?_
  exact KI.ret C hr hlk () h rfl rfl (by decide) (by decide) dE_begin_8

set_option maxHeartbeats 4000000 in
set_option maxRecDepth 100000 in
/-- run on a fresh object -/
theorem e_run (l : Launch) (g : GG) (x t : Nat) (a1 : Int32) : KI l yE_run cE_run 2 (some .int) (rD 0 0 0) g [(x, .inr (1, [.ref t, .int 0, .null, .null, .null, .null, .null, .null, .null, .null, .int 0, .int (-1)])), (t, .inl (g.2.2 0, 0, .inl (fun _ => 0)))] (fun u : Unit => [(x, .inr (1, [.ref t, .int 0, .null, .null, .null, .null, .null, .null, .null, .null, .int 0, .int (-1)])), (t, .inl (g.2.2 0, 0, .inl (fun _ => 0)))]) [.ref x, .int a1] (fun (r : Int32) (u : Unit) => r = -1) := by
  refine KI.of (by decide) (Nat.le_of_ble_eq_true rfl) ?_
  intro p e s m below meth c A ls C hr hlk hnm h hl
  have hx := C.1.1
  have hb := C.1.2.1
  have hl : lv_has ls 2 [(0, .ref x), (1, .int a1)] := hl
  refine lv_aload_n hx hb dE_run_0 rfl (lv_at hl 0 rfl) ?_
  refine og C h laysE 0 rfl rfl 10 (by decide) flE_80 rfl (v := .int 0) rfl dE_run_1 ?_
  refine lv_if_eq (tgt := 30) hx hb dE_run_4 (by decide) (fun c4 => ?_) (fun c4 => absurd c4 (by decide))
  refine lv_iconst (v := -1) hx hb dE_run_30 (by decide) ?_
  exact KI.ret C hr hlk () h rfl rfl (by decide) (by decide) dE_run_31

set_option maxHeartbeats 4000000 in
set_option maxRecDepth 100000 in
/-- go on a fresh object -/
theorem e_go (l : Launch) (g : GG) (x t : Nat) (a1 : Int32) : KI l yE_go cE_go 2 (some .int) (rD 0 0 0) g [(x, .inr (1, [.ref t, .int 0, .null, .null, .null, .null, .null, .null, .null, .null, .int 0, .int (-1)])), (t, .inl (g.2.2 0, 0, .inl (fun _ => 0)))] (fun u : Unit => [(x, .inr (1, [.ref t, .int 0, .null, .null, .null, .null, .null, .null, .null, .null, .int 0, .int (-1)])), (t, .inl (g.2.2 0, 0, .inl (fun _ => 0)))]) [.ref x, .int a1] (fun (r : Int32) (u : Unit) => r = -1) := by
  refine KI.of (by decide) (Nat.le_of_ble_eq_true rfl) ?_
  intro p e s m below meth c A ls C hr hlk hnm h hl
  have hx := C.1.1
  have hb := C.1.2.1
  have hl : lv_has ls 2 [(0, .ref x), (1, .int a1)] := hl
  refine lv_aload_n hx hb dE_go_0 rfl (lv_at hl 0 rfl) ?_
  refine og C h laysE 0 rfl rfl 10 (by decide) flE_80 rfl (v := .int 0) rfl dE_go_1 ?_
  refine lv_if_eq (tgt := 18) hx hb dE_go_4 (by decide) (fun c4 => ?_) (fun c4 => absurd c4 (by decide))
  refine lv_iconst (v := -1) hx hb dE_go_18 (by decide) ?_
  exact KI.ret C hr hlk () h rfl rfl (by decide) (by decide) dE_go_19

set_option maxHeartbeats 4000000 in
set_option maxRecDepth 100000 in
/-- none on a fresh object -/
theorem e_none (l : Launch) (g : GG) (x t : Nat) (a1 a2 : Int32) : KI l yE_none cE_none 3 (some .int) (rD 0 0 0) g [(x, .inr (1, [.ref t, .int 0, .null, .null, .null, .null, .null, .null, .null, .null, .int 0, .int (-1)])), (t, .inl (g.2.2 0, 0, .inl (fun _ => 0)))] (fun u : Unit => [(x, .inr (1, [.ref t, .int 0, .null, .null, .null, .null, .null, .null, .null, .null, .int 0, .int (-1)])), (t, .inl (g.2.2 0, 0, .inl (fun _ => 0)))]) [.ref x, .int a1, .int a2] (fun (r : Int32) (u : Unit) => r = -1) := by
  refine KI.of (by decide) (Nat.le_of_ble_eq_true rfl) ?_
  intro p e s m below meth c A ls C hr hlk hnm h hl
  have hx := C.1.1
  have hb := C.1.2.1
  have hl : lv_has ls 3 [(0, .ref x), (1, .int a1), (2, .int a2)] := hl
  refine lv_aload_n hx hb dE_none_0 rfl (lv_at hl 0 rfl) ?_
  refine og C h laysE 0 rfl rfl 10 (by decide) flE_80 rfl (v := .int 0) rfl dE_none_1 ?_
  refine lv_if_eq (tgt := 19) hx hb dE_none_4 (by decide) (fun c4 => ?_) (fun c4 => absurd c4 (by decide))
  refine lv_iconst (v := -1) hx hb dE_none_19 (by decide) ?_
  exact KI.ret C hr hlk () h rfl rfl (by decide) (by decide) dE_none_20

set_option maxHeartbeats 4000000 in
set_option maxRecDepth 100000 in
/-- wait on a fresh object -/
theorem e_wait (l : Launch) (g : GG) (x t : Nat) (a1 : Int32) : KI l yE_wait cE_wait 2 (some .int) (rD 0 0 0) g [(x, .inr (1, [.ref t, .int 0, .null, .null, .null, .null, .null, .null, .null, .null, .int 0, .int (-1)])), (t, .inl (g.2.2 0, 0, .inl (fun _ => 0)))] (fun u : Unit => [(x, .inr (1, [.ref t, .int 0, .null, .null, .null, .null, .null, .null, .null, .null, .int 0, .int (-1)])), (t, .inl (g.2.2 0, 0, .inl (fun _ => 0)))]) [.ref x, .int a1] (fun (r : Int32) (u : Unit) => r = -1) := by
  refine KI.of (by decide) (Nat.le_of_ble_eq_true rfl) ?_
  intro p e s m below meth c A ls C hr hlk hnm h hl
  have hx := C.1.1
  have hb := C.1.2.1
  have hl : lv_has ls 2 [(0, .ref x), (1, .int a1)] := hl
  refine lv_aload_n hx hb dE_wait_0 rfl (lv_at hl 0 rfl) ?_
  refine og C h laysE 0 rfl rfl 10 (by decide) flE_80 rfl (v := .int 0) rfl dE_wait_1 ?_
  refine lv_if_eq (tgt := 17) hx hb dE_wait_4 (by decide) (fun c4 => ?_) (fun c4 => absurd c4 (by decide))
  refine lv_iconst (v := -1) hx hb dE_wait_17 (by decide) ?_
  exact KI.ret C hr hlk () h rfl rfl (by decide) (by decide) dE_wait_18

set_option maxHeartbeats 4000000 in
set_option maxRecDepth 100000 in
/-- put on a fresh object -/
theorem e_put (l : Launch) (g : GG) (x t : Nat) (a1 a2 a3 a4 a5 : Int32) : KI l yE_put cE_put 6 (some .int) (rD 0 0 0) g [(x, .inr (1, [.ref t, .int 0, .null, .null, .null, .null, .null, .null, .null, .null, .int 0, .int (-1)])), (t, .inl (g.2.2 0, 0, .inl (fun _ => 0)))] (fun u : Unit => [(x, .inr (1, [.ref t, .int 0, .null, .null, .null, .null, .null, .null, .null, .null, .int 0, .int (-1)])), (t, .inl (g.2.2 0, 0, .inl (fun _ => 0)))]) [.ref x, .int a1, .int a2, .int a3, .int a4, .int a5] (fun (r : Int32) (u : Unit) => r = -1) := by
  refine KI.of (by decide) (Nat.le_of_ble_eq_true rfl) ?_
  intro p e s m below meth c A ls C hr hlk hnm h hl
  have hx := C.1.1
  have hb := C.1.2.1
  have hl : lv_has ls 6 [(0, .ref x), (1, .int a1), (2, .int a2), (3, .int a3), (4, .int a4), (5, .int a5)] := hl
  refine lv_aload_n hx hb dE_put_0 rfl (lv_at hl 0 rfl) ?_
  refine og C h laysE 0 rfl rfl 10 (by decide) flE_80 rfl (v := .int 0) rfl dE_put_1 ?_
  refine lv_if_ne (tgt := 9) hx hb dE_put_4 (by decide) (fun c4 => absurd c4 (by decide)) (fun c4 => ?_)
  refine lv_iconst (v := -1) hx hb dE_put_7 (by decide) ?_
  exact KI.ret C hr hlk () h rfl rfl (by decide) (by decide) dE_put_8

set_option maxHeartbeats 4000000 in
set_option maxRecDepth 100000 in
/-- alive on a fresh object -/
theorem e_alive (l : Launch) (g : GG) (x t : Nat) (a1 : Int32) : KI l yE_alive cE_alive 2 (some .int) (rD 0 0 0) g [(x, .inr (1, [.ref t, .int 0, .null, .null, .null, .null, .null, .null, .null, .null, .int 0, .int (-1)])), (t, .inl (g.2.2 0, 0, .inl (fun _ => 0)))] (fun u : Unit => [(x, .inr (1, [.ref t, .int 0, .null, .null, .null, .null, .null, .null, .null, .null, .int 0, .int (-1)])), (t, .inl (g.2.2 0, 0, .inl (fun _ => 0)))]) [.ref x, .int a1] (fun (r : Int32) (u : Unit) => r = -1) := by
  refine KI.of (by decide) (Nat.le_of_ble_eq_true rfl) ?_
  intro p e s m below meth c A ls C hr hlk hnm h hl
  have hx := C.1.1
  have hb := C.1.2.1
  have hl : lv_has ls 2 [(0, .ref x), (1, .int a1)] := hl
  refine lv_aload_n hx hb dE_alive_0 rfl (lv_at hl 0 rfl) ?_
  refine og C h laysE 0 rfl rfl 10 (by decide) flE_80 rfl (v := .int 0) rfl dE_alive_1 ?_
  refine lv_if_eq (tgt := 40) hx hb dE_alive_4 (by decide) (fun c4 => ?_) (fun c4 => absurd c4 (by decide))
  refine lv_iconst (v := -1) hx hb dE_alive_40 (by decide) ?_
  exact KI.ret C hr hlk () h rfl rfl (by decide) (by decide) dE_alive_41

set_option maxHeartbeats 4000000 in
set_option maxRecDepth 100000 in
/-- slot on a fresh object -/
theorem e_slot (l : Launch) (g : GG) (x t : Nat) (a1 : Int32) : KI l yE_slot cE_slot 2 (some .int) (rD 0 0 0) g [(x, .inr (1, [.ref t, .int 0, .null, .null, .null, .null, .null, .null, .null, .null, .int 0, .int (-1)])), (t, .inl (g.2.2 0, 0, .inl (fun _ => 0)))] (fun u : Unit => [(x, .inr (1, [.ref t, .int 0, .null, .null, .null, .null, .null, .null, .null, .null, .int 0, .int (-1)])), (t, .inl (g.2.2 0, 0, .inl (fun _ => 0)))]) [.ref x, .int a1] (fun (r : Int32) (u : Unit) => r = -1) := by
  refine KI.of (by decide) (Nat.le_of_ble_eq_true rfl) ?_
  intro p e s m below meth c A ls C hr hlk hnm h hl
  have hx := C.1.1
  have hb := C.1.2.1
  have hl : lv_has ls 2 [(0, .ref x), (1, .int a1)] := hl
  refine lv_aload_n hx hb dE_slot_0 rfl (lv_at hl 0 rfl) ?_
  refine og C h laysE 0 rfl rfl 10 (by decide) flE_80 rfl (v := .int 0) rfl dE_slot_1 ?_
  refine lv_if_eq (tgt := 21) hx hb dE_slot_4 (by decide) (fun c4 => ?_) (fun c4 => absurd c4 (by decide))
  refine lv_iconst (v := -1) hx hb dE_slot_21 (by decide) ?_
  exact KI.ret C hr hlk () h rfl rfl (by decide) (by decide) dE_slot_22

set_option maxHeartbeats 4000000 in
set_option maxRecDepth 100000 in
/-- way on a fresh object -/
theorem e_way (l : Launch) (g : GG) (x t : Nat) (a1 a2 a3 : Int32) : KI l yE_way cE_way 5 (some .int) (rD 0 0 0) g [(x, .inr (1, [.ref t, .int 0, .null, .null, .null, .null, .null, .null, .null, .null, .int 0, .int (-1)])), (t, .inl (g.2.2 0, 0, .inl (fun _ => 0)))] (fun u : Unit => [(x, .inr (1, [.ref t, .int 0, .null, .null, .null, .null, .null, .null, .null, .null, .int 0, .int (-1)])), (t, .inl (g.2.2 0, 0, .inl (fun _ => 0)))]) [.ref x, .int a1, .int a2, .int a3] (fun (r : Int32) (u : Unit) => r = -1) := by
  refine KI.of (by decide) (Nat.le_of_ble_eq_true rfl) ?_
  intro p e s m below meth c A ls C hr hlk hnm h hl
  have hx := C.1.1
  have hb := C.1.2.1
  have hl : lv_has ls 5 [(0, .ref x), (1, .int a1), (2, .int a2), (3, .int a3)] := hl
  refine lv_aload_n hx hb dE_way_0 rfl (lv_at hl 0 rfl) ?_
  refine og C h laysE 0 rfl rfl 10 (by decide) flE_80 rfl (v := .int 0) rfl dE_way_1 ?_
  refine lv_if_eq (tgt := 35) hx hb dE_way_4 (by decide) (fun c4 => ?_) (fun c4 => absurd c4 (by decide))
  refine lv_iconst (v := -1) hx hb dE_way_35 (by decide) ?_
  exact KI.ret C hr hlk () h rfl rfl (by decide) (by decide) dE_way_36

set_option maxHeartbeats 4000000 in
set_option maxRecDepth 100000 in
/-- out on a fresh object -/
theorem e_out (l : Launch) (g : GG) (x t : Nat) (a1 a2 : Int32) : KI l yE_out cE_out 3 (some .int) (rD 0 0 0) g [(x, .inr (1, [.ref t, .int 0, .null, .null, .null, .null, .null, .null, .null, .null, .int 0, .int (-1)])), (t, .inl (g.2.2 0, 0, .inl (fun _ => 0)))] (fun u : Unit => [(x, .inr (1, [.ref t, .int 0, .null, .null, .null, .null, .null, .null, .null, .null, .int 0, .int (-1)])), (t, .inl (g.2.2 0, 0, .inl (fun _ => 0)))]) [.ref x, .int a1, .int a2] (fun (r : Int32) (u : Unit) => r = -1) := by
  refine KI.of (by decide) (Nat.le_of_ble_eq_true rfl) ?_
  intro p e s m below meth c A ls C hr hlk hnm h hl
  have hx := C.1.1
  have hb := C.1.2.1
  have hl : lv_has ls 3 [(0, .ref x), (1, .int a1), (2, .int a2)] := hl
  refine lv_aload_n hx hb dE_out_0 rfl (lv_at hl 0 rfl) ?_
  refine og C h laysE 0 rfl rfl 10 (by decide) flE_80 rfl (v := .int 0) rfl dE_out_1 ?_
  refine lv_if_eq (tgt := 22) hx hb dE_out_4 (by decide) (fun c4 => ?_) (fun c4 => absurd c4 (by decide))
  refine lv_iconst (v := -1) hx hb dE_out_22 (by decide) ?_
  exact KI.ret C hr hlk () h rfl rfl (by decide) (by decide) dE_out_23

set_option maxHeartbeats 4000000 in
set_option maxRecDepth 100000 in
/-- event on a fresh object -/
theorem e_event (l : Launch) (g : GG) (x t : Nat) (a1 a2 : Int32) : KI l yE_event cE_event 3 (some .int) (rD 0 0 0) g [(x, .inr (1, [.ref t, .int 0, .null, .null, .null, .null, .null, .null, .null, .null, .int 0, .int (-1)])), (t, .inl (g.2.2 0, 0, .inl (fun _ => 0)))] (fun u : Unit => [(x, .inr (1, [.ref t, .int 0, .null, .null, .null, .null, .null, .null, .null, .null, .int 0, .int (-1)])), (t, .inl (g.2.2 0, 0, .inl (fun _ => 0)))]) [.ref x, .int a1, .int a2] (fun (r : Int32) (u : Unit) => r = -1) := by
  refine KI.of (by decide) (Nat.le_of_ble_eq_true rfl) ?_
  intro p e s m below meth c A ls C hr hlk hnm h hl
  have hx := C.1.1
  have hb := C.1.2.1
  have hl : lv_has ls 3 [(0, .ref x), (1, .int a1), (2, .int a2)] := hl
  refine lv_aload_n hx hb dE_event_0 rfl (lv_at hl 0 rfl) ?_
  refine og C h laysE 0 rfl rfl 10 (by decide) flE_80 rfl (v := .int 0) rfl dE_event_1 ?_
  refine lv_if_eq (tgt := 22) hx hb dE_event_4 (by decide) (fun c4 => ?_) (fun c4 => absurd c4 (by decide))
  refine lv_iconst (v := -1) hx hb dE_event_22 (by decide) ?_
  exact KI.ret C hr hlk () h rfl rfl (by decide) (by decide) dE_event_23

set_option maxHeartbeats 4000000 in
set_option maxRecDepth 100000 in
/-- type on a fresh object -/
theorem e_type (l : Launch) (g : GG) (x t : Nat) (a1 a2 : Int32) : KI l yE_type cE_type 4 (some .int) (rD 0 0 0) g [(x, .inr (1, [.ref t, .int 0, .null, .null, .null, .null, .null, .null, .null, .null, .int 0, .int (-1)])), (t, .inl (g.2.2 0, 0, .inl (fun _ => 0)))] (fun u : Unit => [(x, .inr (1, [.ref t, .int 0, .null, .null, .null, .null, .null, .null, .null, .null, .int 0, .int (-1)])), (t, .inl (g.2.2 0, 0, .inl (fun _ => 0)))]) [.ref x, .int a1, .int a2] (fun (r : Int32) (u : Unit) => r = -1) := by
  refine KI.of (by decide) (Nat.le_of_ble_eq_true rfl) ?_
  intro p e s m below meth c A ls C hr hlk hnm h hl
  have hx := C.1.1
  have hb := C.1.2.1
  have hl : lv_has ls 4 [(0, .ref x), (1, .int a1), (2, .int a2)] := hl
  refine lv_aload_n hx hb dE_type_0 rfl (lv_at hl 0 rfl) ?_
  refine og C h laysE 0 rfl rfl 8 (by decide) flE_77 rfl (v := .null) rfl dE_type_1 ?_
  refine lv_ifnullN (tgt := 25) hx hb dE_type_4 (by decide) ?_
  refine lv_iconst (v := -1) hx hb dE_type_25 (by decide) ?_
  exact KI.ret C hr hlk () h rfl rfl (by decide) (by decide) dE_type_26

set_option maxHeartbeats 4000000 in
set_option maxRecDepth 100000 in
/-- search on a fresh object -/
theorem e_search (l : Launch) (g : GG) (x t : Nat) (a1 : Int32) : KI l yE_search cE_search 2 (some .int) (rD 0 0 0) g [(x, .inr (1, [.ref t, .int 0, .null, .null, .null, .null, .null, .null, .null, .null, .int 0, .int (-1)])), (t, .inl (g.2.2 0, 0, .inl (fun _ => 0)))] (fun u : Unit => [(x, .inr (1, [.ref t, .int 0, .null, .null, .null, .null, .null, .null, .null, .null, .int 0, .int (-1)])), (t, .inl (g.2.2 0, 0, .inl (fun _ => 0)))]) [.ref x, .int a1] (fun (r : Int32) (u : Unit) => r = -1) := by
  refine KI.of (by decide) (Nat.le_of_ble_eq_true rfl) ?_
  intro p e s m below meth c A ls C hr hlk hnm h hl
  have hx := C.1.1
  have hb := C.1.2.1
  have hl : lv_has ls 2 [(0, .ref x), (1, .int a1)] := hl
  refine lv_aload_n hx hb dE_search_0 rfl (lv_at hl 0 rfl) ?_
  refine og C h laysE 0 rfl rfl 10 (by decide) flE_80 rfl (v := .int 0) rfl dE_search_1 ?_
  refine lv_if_eq (tgt := 41) hx hb dE_search_4 (by decide) (fun c4 => ?_) (fun c4 => absurd c4 (by decide))
  refine lv_iconst (v := -1) hx hb dE_search_41 (by decide) ?_
  exact KI.ret C hr hlk () h rfl rfl (by decide) (by decide) dE_search_42

set_option maxHeartbeats 4000000 in
set_option maxRecDepth 100000 in
/-- state on a fresh object -/
theorem e_state (l : Launch) (g : GG) (x t : Nat) (a1 a2 : Int32) : KI l yE_state cE_state 3 (some .int) (rD 0 0 0) g [(x, .inr (1, [.ref t, .int 0, .null, .null, .null, .null, .null, .null, .null, .null, .int 0, .int (-1)])), (t, .inl (g.2.2 0, 0, .inl (fun _ => 0)))] (fun u : Unit => [(x, .inr (1, [.ref t, .int 0, .null, .null, .null, .null, .null, .null, .null, .null, .int 0, .int (-1)])), (t, .inl (g.2.2 0, 0, .inl (fun _ => 0)))]) [.ref x, .int a1, .int a2] (fun (r : Int32) (u : Unit) => r = -1) := by
  refine KI.of (by decide) (Nat.le_of_ble_eq_true rfl) ?_
  intro p e s m below meth c A ls C hr hlk hnm h hl
  have hx := C.1.1
  have hb := C.1.2.1
  have hl : lv_has ls 3 [(0, .ref x), (1, .int a1), (2, .int a2)] := hl
  refine lv_aload_n hx hb dE_state_0 rfl (lv_at hl 0 rfl) ?_
  refine og C h laysE 0 rfl rfl 10 (by decide) flE_80 rfl (v := .int 0) rfl dE_state_1 ?_
  refine lv_if_eq (tgt := 19) hx hb dE_state_4 (by decide) (fun c4 => ?_) (fun c4 => absurd c4 (by decide))
  refine lv_iconst (v := -1) hx hb dE_state_19 (by decide) ?_
  exact KI.ret C hr hlk () h rfl rfl (by decide) (by decide) dE_state_20

set_option maxHeartbeats 4000000 in
set_option maxRecDepth 100000 in
/-- first on a fresh object -/
theorem e_first (l : Launch) (g : GG) (x t : Nat) (a1 a2 a3 : Int32) : KI l yE_first cE_first 4 (some .int) (rD 0 0 0) g [(x, .inr (1, [.ref t, .int 0, .null, .null, .null, .null, .null, .null, .null, .null, .int 0, .int (-1)])), (t, .inl (g.2.2 0, 0, .inl (fun _ => 0)))] (fun u : Unit => [(x, .inr (1, [.ref t, .int 0, .null, .null, .null, .null, .null, .null, .null, .null, .int 0, .int (-1)])), (t, .inl (g.2.2 0, 0, .inl (fun _ => 0)))]) [.ref x, .int a1, .int a2, .int a3] (fun (r : Int32) (u : Unit) => r = -1) := by
  refine KI.of (by decide) (Nat.le_of_ble_eq_true rfl) ?_
  intro p e s m below meth c A ls C hr hlk hnm h hl
  have hx := C.1.1
  have hb := C.1.2.1
  have hl : lv_has ls 4 [(0, .ref x), (1, .int a1), (2, .int a2), (3, .int a3)] := hl
  refine lv_aload_n hx hb dE_first_0 rfl (lv_at hl 0 rfl) ?_
  refine og C h laysE 0 rfl rfl 10 (by decide) flE_80 rfl (v := .int 0) rfl dE_first_1 ?_
  refine lv_if_eq (tgt := 20) hx hb dE_first_4 (by decide) (fun c4 => ?_) (fun c4 => absurd c4 (by decide))
  refine lv_iconst (v := -1) hx hb dE_first_20 (by decide) ?_
  exact KI.ret C hr hlk () h rfl rfl (by decide) (by decide) dE_first_21

set_option maxHeartbeats 4000000 in
set_option maxRecDepth 100000 in
/-- visit on a fresh object -/
theorem e_visit (l : Launch) (g : GG) (x t : Nat) (a1 : Int32) : KI l yE_visit cE_visit 2 (some .int) (rD 0 0 0) g [(x, .inr (1, [.ref t, .int 0, .null, .null, .null, .null, .null, .null, .null, .null, .int 0, .int (-1)])), (t, .inl (g.2.2 0, 0, .inl (fun _ => 0)))] (fun u : Unit => [(x, .inr (1, [.ref t, .int 0, .null, .null, .null, .null, .null, .null, .null, .null, .int 0, .int (-1)])), (t, .inl (g.2.2 0, 0, .inl (fun _ => 0)))]) [.ref x, .int a1] (fun (r : Int32) (u : Unit) => r = -1) := by
  refine KI.of (by decide) (Nat.le_of_ble_eq_true rfl) ?_
  intro p e s m below meth c A ls C hr hlk hnm h hl
  have hx := C.1.1
  have hb := C.1.2.1
  have hl : lv_has ls 2 [(0, .ref x), (1, .int a1)] := hl
  refine lv_aload_n hx hb dE_visit_0 rfl (lv_at hl 0 rfl) ?_
  refine og C h laysE 0 rfl rfl 10 (by decide) flE_80 rfl (v := .int 0) rfl dE_visit_1 ?_
  refine lv_if_ne (tgt := 9) hx hb dE_visit_4 (by decide) (fun c4 => absurd c4 (by decide)) (fun c4 => ?_)
  refine lv_iconst (v := -1) hx hb dE_visit_7 (by decide) ?_
  exact KI.ret C hr hlk () h rfl rfl (by decide) (by decide) dE_visit_8

set_option maxHeartbeats 4000000 in
set_option maxRecDepth 100000 in
/-- instance on a fresh object -/
theorem e_instance (l : Launch) (g : GG) (x t : Nat) (a1 a2 : Int32) : KI l yE_instance cE_instance 5 (some .int) (rD 1 0 0) g [(x, .inr (1, [.ref t, .int 0, .null, .null, .null, .null, .null, .null, .null, .null, .int 0, .int (-1)])), (t, .inl (g.2.2 0, 0, .inl (fun _ => 0)))] (fun u : Unit => [(x, .inr (1, [.ref t, .int 0, .null, .null, .null, .null, .null, .null, .null, .null, .int 0, .int (-1)])), (t, .inl (g.2.2 0, 0, .inl (fun _ => 0)))]) [.ref x, .int a1, .int a2] (fun (r : Int32) (u : Unit) => r = -1) := by
  refine KI.of (by decide) (Nat.le_of_ble_eq_true rfl) ?_
  intro p e s m below meth c A ls C hr hlk hnm h hl
  have hx := C.1.1
  have hb := C.1.2.1
  have hl : lv_has ls 5 [(0, .ref x), (1, .int a1), (2, .int a2)] := hl
  refine lv_aload_n hx hb dE_instance_0 rfl (lv_at hl 0 rfl) ?_
  refine lv_iload_n hx hb dE_instance_1 rfl (lv_at hl 1 rfl) ?_
  refine KI.callVs (As := [.int a1]) (q0 := 0) (ci := 1) (wc := [(x, .inr (1, [.ref t, .int 0, .null, .null, .null, .null, .null, .null, .null, .null, .int 0, .int (-1)])), (t, .inl (g.2.2 0, 0, .inl (fun _ => 0)))]) (wr := []) C h [0, 1] [] rfl rfl (by decide) (by decide) (by decide) (e_slot l g x t a1) vE_instance_158 ⟨by decide, by decide⟩ rfl rfl hl.1 rfl (Nat.le_of_ble_eq_true rfl) dE_instance_2 ⟨by decide, by decide⟩ (fun r_1 _ H locs hp h => ?_)
  have h : Hx g [(x, .inr (1, [.ref t, .int 0, .null, .null, .null, .null, .null, .null, .null, .null, .int 0, .int (-1)])), (t, .inl (g.2.2 0, 0, .inl (fun _ => 0)))] A s.heap _ _ := h
  subst hp
  refine lv_istore_n (lv' := [(3, .int (-1)), (0, .ref x), (1, .int (a1)), (2, .int (a2))]) hx hb dE_instance_5 rfl hl (by decide) rfl (fun ls hl => ?_)
  refine lv_iload_n hx hb dE_instance_6 rfl (lv_at hl 0 rfl) ?_
  refine lv_iconst (v := -1) hx hb dE_instance_7 (by decide) ?_
  refine lv_icmp_ne (tgt := 13) hx hb dE_instance_8 (by decide) (fun c8 => absurd c8 (by decide)) (fun c8 => ?_)
  refine lv_iconst (v := -1) hx hb dE_instance_11 (by decide) ?_
  exact KI.ret C hr hlk () h rfl rfl (by decide) (by decide) dE_instance_12

set_option maxHeartbeats 4000000 in
set_option maxRecDepth 100000 in
/-- cell on a fresh object -/
theorem e_cell (l : Launch) (g : GG) (x t : Nat) (a1 a2 : Int32) : KI l yE_cell cE_cell 4 (some .int) (rD 1 0 0) g [(x, .inr (1, [.ref t, .int 0, .null, .null, .null, .null, .null, .null, .null, .null, .int 0, .int (-1)])), (t, .inl (g.2.2 0, 0, .inl (fun _ => 0)))] (fun u : Unit => [(x, .inr (1, [.ref t, .int 0, .null, .null, .null, .null, .null, .null, .null, .null, .int 0, .int (-1)])), (t, .inl (g.2.2 0, 0, .inl (fun _ => 0)))]) [.ref x, .int a1, .int a2] (fun (r : Int32) (u : Unit) => r = 0) := by
  refine KI.of (by decide) (Nat.le_of_ble_eq_true rfl) ?_
  intro p e s m below meth c A ls C hr hlk hnm h hl
  have hx := C.1.1
  have hb := C.1.2.1
  have hl : lv_has ls 4 [(0, .ref x), (1, .int a1), (2, .int a2)] := hl
  refine lv_aload_n hx hb dE_cell_0 rfl (lv_at hl 0 rfl) ?_
  refine lv_iload_n hx hb dE_cell_1 rfl (lv_at hl 1 rfl) ?_
  refine KI.callVs (As := [.int a1]) (q0 := 0) (ci := 1) (wc := [(x, .inr (1, [.ref t, .int 0, .null, .null, .null, .null, .null, .null, .null, .null, .int 0, .int (-1)])), (t, .inl (g.2.2 0, 0, .inl (fun _ => 0)))]) (wr := []) C h [0, 1] [] rfl rfl (by decide) (by decide) (by decide) (e_slot l g x t a1) vE_cell_158 ⟨by decide, by decide⟩ rfl rfl hl.1 rfl (Nat.le_of_ble_eq_true rfl) dE_cell_2 ⟨by decide, by decide⟩ (fun r_1 _ H locs hp h => ?_)
  have h : Hx g [(x, .inr (1, [.ref t, .int 0, .null, .null, .null, .null, .null, .null, .null, .null, .int 0, .int (-1)])), (t, .inl (g.2.2 0, 0, .inl (fun _ => 0)))] A s.heap _ _ := h
  subst hp
  refine lv_istore_n (lv' := [(3, .int (-1)), (0, .ref x), (1, .int (a1)), (2, .int (a2))]) hx hb dE_cell_5 rfl hl (by decide) rfl (fun ls hl => ?_)
  refine lv_iload_n hx hb dE_cell_6 rfl (lv_at hl 0 rfl) ?_
  refine lv_iconst (v := -1) hx hb dE_cell_7 (by decide) ?_
  refine lv_icmp_eq (tgt := 42) hx hb dE_cell_8 (by decide) (fun c8 => ?_) (fun c8 => absurd c8 (by decide))
  refine lv_iconst (v := 0) hx hb dE_cell_42 (by decide) ?_
  exact KI.ret C hr hlk () h rfl rfl (by decide) (by decide) dE_cell_43

set_option maxHeartbeats 4000000 in
set_option maxRecDepth 100000 in
/-- timer on a fresh object -/
theorem e_timer (l : Launch) (g : GG) (x t : Nat) (a1 a2 : Int32) : KI l yE_timer cE_timer 4 (some .int) (rD 1 0 0) g [(x, .inr (1, [.ref t, .int 0, .null, .null, .null, .null, .null, .null, .null, .null, .int 0, .int (-1)])), (t, .inl (g.2.2 0, 0, .inl (fun _ => 0)))] (fun u : Unit => [(x, .inr (1, [.ref t, .int 0, .null, .null, .null, .null, .null, .null, .null, .null, .int 0, .int (-1)])), (t, .inl (g.2.2 0, 0, .inl (fun _ => 0)))]) [.ref x, .int a1, .int a2] (fun (r : Int32) (u : Unit) => r = -1) := by
  refine KI.of (by decide) (Nat.le_of_ble_eq_true rfl) ?_
  intro p e s m below meth c A ls C hr hlk hnm h hl
  have hx := C.1.1
  have hb := C.1.2.1
  have hl : lv_has ls 4 [(0, .ref x), (1, .int a1), (2, .int a2)] := hl
  refine lv_aload_n hx hb dE_timer_0 rfl (lv_at hl 0 rfl) ?_
  refine lv_iload_n hx hb dE_timer_1 rfl (lv_at hl 1 rfl) ?_
  refine KI.callVs (As := [.int a1]) (q0 := 0) (ci := 1) (wc := [(x, .inr (1, [.ref t, .int 0, .null, .null, .null, .null, .null, .null, .null, .null, .int 0, .int (-1)])), (t, .inl (g.2.2 0, 0, .inl (fun _ => 0)))]) (wr := []) C h [0, 1] [] rfl rfl (by decide) (by decide) (by decide) (e_slot l g x t a1) vE_timer_158 ⟨by decide, by decide⟩ rfl rfl hl.1 rfl (Nat.le_of_ble_eq_true rfl) dE_timer_2 ⟨by decide, by decide⟩ (fun r_1 _ H locs hp h => ?_)
  have h : Hx g [(x, .inr (1, [.ref t, .int 0, .null, .null, .null, .null, .null, .null, .null, .null, .int 0, .int (-1)])), (t, .inl (g.2.2 0, 0, .inl (fun _ => 0)))] A s.heap _ _ := h
  subst hp
  refine lv_istore_n (lv' := [(3, .int (-1)), (0, .ref x), (1, .int (a1)), (2, .int (a2))]) hx hb dE_timer_5 rfl hl (by decide) rfl (fun ls hl => ?_)
  refine lv_iload_n hx hb dE_timer_6 rfl (lv_at hl 0 rfl) ?_
  refine lv_iconst (v := -1) hx hb dE_timer_7 (by decide) ?_
  refine lv_icmp_eq (tgt := 20) hx hb dE_timer_8 (by decide) (fun c8 => ?_) (fun c8 => absurd c8 (by decide))
  refine lv_iconst (v := -1) hx hb dE_timer_20 (by decide) ?_
  exact KI.ret C hr hlk () h rfl rfl (by decide) (by decide) dE_timer_21

set_option maxHeartbeats 4000000 in
set_option maxRecDepth 100000 in
/-- queued on a fresh object -/
theorem e_queued (l : Launch) (g : GG) (x t : Nat) (a1 a2 a3 : Int32) : KI l yE_queued cE_queued 6 (some .int) (rD 1 0 0) g [(x, .inr (1, [.ref t, .int 0, .null, .null, .null, .null, .null, .null, .null, .null, .int 0, .int (-1)])), (t, .inl (g.2.2 0, 0, .inl (fun _ => 0)))] (fun u : Unit => [(x, .inr (1, [.ref t, .int 0, .null, .null, .null, .null, .null, .null, .null, .null, .int 0, .int (-1)])), (t, .inl (g.2.2 0, 0, .inl (fun _ => 0)))]) [.ref x, .int a1, .int a2, .int a3] (fun (r : Int32) (u : Unit) => r = -1) := by
  refine KI.of (by decide) (Nat.le_of_ble_eq_true rfl) ?_
  intro p e s m below meth c A ls C hr hlk hnm h hl
  have hx := C.1.1
  have hb := C.1.2.1
  have hl : lv_has ls 6 [(0, .ref x), (1, .int a1), (2, .int a2), (3, .int a3)] := hl
  refine lv_aload_n hx hb dE_queued_0 rfl (lv_at hl 0 rfl) ?_
  refine lv_iload_n hx hb dE_queued_1 rfl (lv_at hl 1 rfl) ?_
  refine KI.callVs (As := [.int a1]) (q0 := 0) (ci := 1) (wc := [(x, .inr (1, [.ref t, .int 0, .null, .null, .null, .null, .null, .null, .null, .null, .int 0, .int (-1)])), (t, .inl (g.2.2 0, 0, .inl (fun _ => 0)))]) (wr := []) C h [0, 1] [] rfl rfl (by decide) (by decide) (by decide) (e_slot l g x t a1) vE_queued_158 ⟨by decide, by decide⟩ rfl rfl hl.1 rfl (Nat.le_of_ble_eq_true rfl) dE_queued_2 ⟨by decide, by decide⟩ (fun r_1 _ H locs hp h => ?_)
  have h : Hx g [(x, .inr (1, [.ref t, .int 0, .null, .null, .null, .null, .null, .null, .null, .null, .int 0, .int (-1)])), (t, .inl (g.2.2 0, 0, .inl (fun _ => 0)))] A s.heap _ _ := h
  subst hp
  refine lv_istore (lv' := [(4, .int (-1)), (0, .ref x), (1, .int (a1)), (2, .int (a2)), (3, .int (a3))]) hx hb dE_queued_5 hl (by decide) rfl (fun ls hl => ?_)
  refine lv_iload hx hb dE_queued_7 (lv_at hl 0 rfl) ?_
  refine lv_iconst (v := -1) hx hb dE_queued_9 (by decide) ?_
  refine lv_icmp_eq (tgt := 43) hx hb dE_queued_10 (by decide) (fun c10 => ?_) (fun c10 => absurd c10 (by decide))
  refine lv_iconst (v := -1) hx hb dE_queued_43 (by decide) ?_
  exact KI.ret C hr hlk () h rfl rfl (by decide) (by decide) dE_queued_44

set_option maxHeartbeats 4000000 in
set_option maxRecDepth 100000 in
/-- count on a fresh object -/
theorem e_count (l : Launch) (g : GG) (x t : Nat) (a1 : Int32) : KI l yE_count cE_count 2 (some .int) (rD 0 0 0) g [(x, .inr (1, [.ref t, .int 0, .null, .null, .null, .null, .null, .null, .null, .null, .int 0, .int (-1)])), (t, .inl (g.2.2 0, 0, .inl (fun _ => 0)))] (fun u : Unit => [(x, .inr (1, [.ref t, .int 0, .null, .null, .null, .null, .null, .null, .null, .null, .int 0, .int (-1)])), (t, .inl (g.2.2 0, 0, .inl (fun _ => 0)))]) [.ref x, .int a1] (fun (r : Int32) (u : Unit) => r = nCount a1) := by
  refine KI.of (by decide) (Nat.le_of_ble_eq_true rfl) ?_
  intro p e s m below meth c A ls C hr hlk hnm h hl
  have hx := C.1.1
  have hb := C.1.2.1
  have hl : lv_has ls 2 [(0, .ref x), (1, .int a1)] := hl
  refine lv_iload_n hx hb dE_count_0 rfl (lv_at hl 1 rfl) ?_
  refine lv_if_lt (tgt := 10) hx hb dE_count_1 (by decide) (fun c1 => ?_) (fun c1 => ?_)
  · refine lv_iconst (v := -1) hx hb dE_count_10 (by decide) ?_
    exact KI.ret C hr hlk () h rfl (by unfold nCount; rw [if_pos c1]) (by decide) (by decide) dE_count_11
  · refine lv_iload_n hx hb dE_count_4 rfl (lv_at hl 1 rfl) ?_
    refine lv_bipush (v := 18) hx hb dE_count_5 (by decide) ?_
    refine lv_icmp_le (tgt := 12) hx hb dE_count_7 (by decide) (fun c7 => ?_) (fun c7 => ?_)
    · refine lv_iload_n hx hb dE_count_12 rfl (lv_at hl 1 rfl) ?_
      refine lv_bipush (v := 14) hx hb dE_count_13 (by decide) ?_
      refine lv_icmp_ne (tgt := 23) hx hb dE_count_15 (by decide) (fun c15 => ?_) (fun c15 => ?_)
      · refine lv_iload_n hx hb dE_count_23 rfl (lv_at hl 1 rfl) ?_
        refine lv_iconst (v := 4) hx hb dE_count_24 (by decide) ?_
        refine lv_icmp_ge (tgt := 45) hx hb dE_count_25 (by decide) (fun c25 => ?_) (fun c25 => ?_)
        · refine lv_aload_n hx hb dE_count_45 rfl (lv_at hl 0 rfl) ?_
          refine og C h laysE 0 rfl rfl 10 (by decide) flE_80 rfl (v := .int 0) rfl dE_count_46 ?_
          refine lv_if_ne (tgt := 54) hx hb dE_count_49 (by decide) (fun c49 => absurd c49 (by decide)) (fun c49 => ?_)
          refine lv_iconst (v := 0) hx hb dE_count_52 (by decide) ?_
          exact KI.ret C hr hlk () h rfl (by unfold nCount; rw [if_neg c1, if_pos c7]) (by decide) (by decide) dE_count_53
        · refine lv_aload_n hx hb dE_count_28 rfl (lv_at hl 0 rfl) ?_
          refine og C h laysE 0 rfl rfl 8 (by decide) flE_77 rfl (v := .null) rfl dE_count_29 ?_
          refine lv_ifnonnullN hx hb dE_count_32 ?_
          refine lv_iconst (v := 0) hx hb dE_count_35 (by decide) ?_
          refine lv_goto (tgt := 44) hx hb dE_count_36 (by decide) ?_
          exact KI.ret C hr hlk () h rfl (by unfold nCount; rw [if_neg c1, if_pos c7]) (by decide) (by decide) dE_count_44
      · refine lv_aload_n hx hb dE_count_18 rfl (lv_at hl 0 rfl) ?_
        refine og C h laysE 0 rfl rfl 1 (by decide) flE_17 rfl (v := .int 0) rfl dE_count_19 ?_
        exact KI.ret C hr hlk () h rfl (by unfold nCount; rw [if_neg c1, if_pos c7]) (by decide) (by decide) dE_count_22
    · refine lv_iconst (v := -1) hx hb dE_count_10 (by decide) ?_
      exact KI.ret C hr hlk () h rfl (by unfold nCount; rw [if_neg c1, if_neg c7]) (by decide) (by decide) dE_count_11

set_option maxHeartbeats 4000000 in
set_option maxRecDepth 100000 in
/-- choices on a fresh object -/
theorem e_choices (l : Launch) (g : GG) (x t : Nat) (a1 : Int32) : KI l yE_choices cE_choices 2 (some .int) (rD 0 0 0) g [(x, .inr (1, [.ref t, .int 0, .null, .null, .null, .null, .null, .null, .null, .null, .int 0, .int (-1)])), (t, .inl (g.2.2 0, 0, .inl (fun _ => 0)))] (fun u : Unit => [(x, .inr (1, [.ref t, .int 0, .null, .null, .null, .null, .null, .null, .null, .null, .int 0, .int (-1)])), (t, .inl (g.2.2 0, 0, .inl (fun _ => 0)))]) [.ref x, .int a1] (fun (r : Int32) (u : Unit) => r = nChoices a1) := by
  refine KI.of (by decide) (Nat.le_of_ble_eq_true rfl) ?_
  intro p e s m below meth c A ls C hr hlk hnm h hl
  have hx := C.1.1
  have hb := C.1.2.1
  have hl : lv_has ls 2 [(0, .ref x), (1, .int a1)] := hl
  refine lv_iload_n hx hb dE_choices_0 rfl (lv_at hl 1 rfl) ?_
  by_cases s1_0 : a1 = 0
  · subst s1_0
    refine lv_lookup (off := 27) (tgt := 28) hx hb dE_choices_1 (by decide) (by decide) (by decide) ?_
    refine lv_aload_n hx hb dE_choices_28 rfl (lv_at hl 0 rfl) ?_
    refine og C h laysE 0 rfl rfl 7 (by decide) flE_294 rfl (v := .null) rfl dE_choices_29 ?_
    refine lv_ifnonnullN hx hb dE_choices_32 ?_
    refine lv_iconst (v := 0) hx hb dE_choices_35 (by decide) ?_
    refine lv_goto (tgt := 46) hx hb dE_choices_36 (by decide) ?_
    exact KI.ret C hr hlk () h rfl (by decide) (by decide) (by decide) dE_choices_46
  by_cases s1_1 : a1 = 1
  · subst s1_1
    refine lv_lookup (off := 46) (tgt := 47) hx hb dE_choices_1 (by decide) (by decide) (by decide) ?_
    refine lv_aload_n hx hb dE_choices_47 rfl (lv_at hl 0 rfl) ?_
    refine og C h laysE 0 rfl rfl 7 (by decide) flE_294 rfl (v := .null) rfl dE_choices_48 ?_
    refine lv_ifnonnullN hx hb dE_choices_51 ?_
    refine lv_iconst (v := 0) hx hb dE_choices_54 (by decide) ?_
    refine lv_goto (tgt := 65) hx hb dE_choices_55 (by decide) ?_
    exact KI.ret C hr hlk () h rfl (by decide) (by decide) (by decide) dE_choices_65
  refine lv_lookup (off := 65) (tgt := 66) hx hb dE_choices_1 (by decide) ((lv_osw s1_0 (by decide)).trans ((lv_osw s1_1 (by decide)).trans rfl)) (by decide) ?_
  refine lv_iconst (v := -1) hx hb dE_choices_66 (by decide) ?_
  exact KI.ret C hr hlk () h rfl (by unfold nChoices; rw [if_neg s1_0, if_neg s1_1]) (by decide) (by decide) dE_choices_67

set_option maxHeartbeats 4000000 in
set_option maxRecDepth 100000 in
/-- chart() on a fresh object -/
theorem e_chart (l : Launch) (g : GG) (x t : Nat) (a1 : Int32) : KI l yE_chart cE_chart 3 (some .int) (rD 0 0 0) g [(x, .inr (1, [.ref t, .int 0, .null, .null, .null, .null, .null, .null, .null, .null, .int 0, .int (-1)])), (t, .inl (g.2.2 0, 0, .inl (fun _ => 0)))] (fun u : Unit => []) [.ref x, .int a1] (fun (r : Int32) (u : Unit) => r = nChart a1) := by
  refine KI.of (by decide) (Nat.le_of_ble_eq_true rfl) ?_
  intro p e s m below meth c A ls C hr hlk hnm h hl
  have hx := C.1.1
  have hb := C.1.2.1
  have hl : lv_has ls 3 [(0, .ref x), (1, .int a1)] := hl
  refine lv_iload_n hx hb dE_chart_0 rfl (lv_at hl 1 rfl) ?_
  refine lv_if_lt (tgt := 12) hx hb dE_chart_1 (by decide) (fun c1 => ?_) (fun c1 => ?_)
  · refine lv_bipush (v := -2) hx hb dE_chart_12 (by decide) ?_
    have h : Hx g [] A s.heap _ _ := h.cut [] (by decide) rfl
    exact KI.ret C hr hlk () h rfl (if_neg (fun z => by rw [z] at c1; exact absurd c1 (by decide))).symm (by decide) (by decide) dE_chart_14
  · refine lv_iload_n hx hb dE_chart_4 rfl (lv_at hl 1 rfl) ?_
    refine lv_aload_n hx hb dE_chart_5 rfl (lv_at hl 0 rfl) ?_
    refine og C h laysE 0 rfl rfl 1 (by decide) flE_17 rfl (v := .int 0) rfl dE_chart_6 ?_
    refine lv_icmp_le (tgt := 15) hx hb dE_chart_9 (by decide) (fun c9 => ?_) (fun c9 => ?_)
    · refine lv_aload_n hx hb dE_chart_15 rfl (lv_at hl 0 rfl) ?_
      refine lv_iconst (v := 0) hx hb dE_chart_16 (by decide) ?_
      refine op C h laysE tyE tyE_ok nmE 0 rfl rfl 1 (by decide) flE_17 rfl rfl (v := .int 0) rfl rfl (Nat.le_of_ble_eq_true rfl) (w' := [(x, .inr (1, [.ref t, .int 0, .null, .null, .null, .null, .null, .null, .null, .null, .int 0, .int (-1)])), (t, .inl (g.2.2 0, 0, .inl (fun _ => 0)))]) rfl dE_chart_17 (fun H locs h => ?_)
      refine lv_aload_n hx hb dE_chart_20 rfl (lv_at hl 0 rfl) ?_
      refine og C h laysE 0 rfl rfl 10 (by decide) flE_80 rfl (v := .int 0) rfl dE_chart_21 ?_
      refine lv_if_ne (tgt := 29) hx hb dE_chart_24 (by decide) (fun c24 => absurd c24 (by decide)) (fun c24 => ?_)
      refine lv_iconst (v := -1) hx hb dE_chart_27 (by decide) ?_
      have h : Hx g [] A s.heap _ _ := h.cut [] (by decide) rfl
      exact KI.ret C hr hlk () h rfl (if_pos (Int32.le_antisymm c9 (Int32.not_lt.mp c1))).symm (by decide) (by decide) dE_chart_28
    · refine lv_bipush (v := -2) hx hb dE_chart_12 (by decide) ?_
      have h : Hx g [] A s.heap _ _ := h.cut [] (by decide) rfl
      exact KI.ret C hr hlk () h rfl (if_neg (fun z => by rw [z] at c9; exact absurd c9 (by decide))).symm (by decide) (by decide) dE_chart_14

set_option maxHeartbeats 4000000 in
set_option maxRecDepth 100000 in
/-- a new object -/
theorem e_init (l : Launch) (g : GG) (x : Nat) : KV l yE_init cE_init 1 (rD 1 1 0) g [(x, .inr (1, [.null, .int 0, .null, .null, .null, .null, .null, .null, .null, .null, .int 0, .int 0]))] (fun u : Nat => [(x, .inr (1, [.ref u, .int 0, .null, .null, .null, .null, .null, .null, .null, .null, .int 0, .int (-1)])), (u, .inl (g.2.2 0, 0, .inl (fun _ => 0)))]) [.ref x] (fun u : Nat => True) := by
  refine KV.of (by decide) (Nat.le_of_ble_eq_true rfl) ?_
  intro p e s m below meth c A ls C hr hlk hnm h hl
  have hx := C.1.1
  have hb := C.1.2.1
  have hl : lv_has ls 1 [(0, .ref x)] := hl
  refine lv_aload_n hx hb dE_init_0 rfl (lv_at hl 0 rfl) ?_
  refine W.objInit hx hb C.1.2.2.2.1 (C.1.2.2.2.2 _ koE) (C.1.2.2.2.2 _ k_objI) (C.1.2.2.2.2 _ k_objC) rfl (by rw [C.1.2.2.1]; exact hl.1) rfl dE_init_1 (Nat.le_of_ble_eq_true rfl) (Nat.le_of_ble_eq_true rfl) ?_
  refine W.eq (g2 := F0 m 4 ls []) rfl ?_
  refine lv_aload_n hx hb dE_init_4 rfl (lv_at hl 0 rfl) ?_
  refine lv_iconst (v := 0) hx hb dE_init_5 (by decide) ?_
  refine newA_b C h (N := 0) (by decide) (by decide) (by decide) (by decide) (by decide) dE_init_6 (fun q_1 H h => ?_)
  have h : Hx g [(x, .inr (1, [.null, .int 0, .null, .null, .null, .null, .null, .null, .null, .null, .int 0, .int 0])), (q_1, .inl (g.2.2 0, 0, .inl (fun _ => 0)))] A s.heap _ _ := h
  refine W.widen (k := 1) (n := 0) (by decide) (by decide) ?_
  refine op C h laysE tyE tyE_ok nmE 0 rfl rfl 0 (by decide) flE_7 rfl rfl (v := .ref q_1) rfl rfl (Nat.le_of_ble_eq_true rfl) (w' := [(x, .inr (1, [.ref q_1, .int 0, .null, .null, .null, .null, .null, .null, .null, .null, .int 0, .int 0])), (q_1, .inl (g.2.2 0, 0, .inl (fun _ => 0)))]) rfl dE_init_8 (fun H locs h => ?_)
  refine lv_aload_n hx hb dE_init_11 rfl (lv_at hl 0 rfl) ?_
  refine lv_iconst (v := -1) hx hb dE_init_12 (by decide) ?_
  refine op C h laysE tyE tyE_ok nmE 0 rfl rfl 11 (by decide) flE_13 rfl rfl (v := .int (-1)) rfl rfl (Nat.le_of_ble_eq_true rfl) (w' := [(x, .inr (1, [.ref q_1, .int 0, .null, .null, .null, .null, .null, .null, .null, .null, .int 0, .int (-1)])), (q_1, .inl (g.2.2 0, 0, .inl (fun _ => 0)))]) rfl dE_init_13 (fun H locs h => ?_)
  exact KV.ret C hr hlk q_1 h trivial (by decide) (by decide) dE_init_16

