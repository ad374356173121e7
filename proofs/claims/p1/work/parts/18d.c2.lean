set_option maxHeartbeats 4000000 in
set_option maxRecDepth 100000 in
/-- clear() -/
theorem t_clear (l : Launch) (g : GG) (o : Nat) (w : Nat → Nat) : KV l yPl_clear cPl_clear 1 (rD 1 0 0) g [(o, .inr (5, [.ref (w 0), .ref (w 1), .ref (w 2), .ref (w 3), .ref (w 4), .ref (w 5), .ref (w 6), .ref (w 7), .ref (w 8), .ref (w 9), .ref (w 10), .ref (w 11), .ref (w 12), .ref (w 13), .int 0, .ref (w 14), .int 0, .ref (w 15), .ref (w 16), .int 0])), (w 0, .inr (7, [.ref (w 17), .ref (w 18), .int 0])), (w 1, .inr (7, [.ref (w 19), .ref (w 20), .int 0])), (w 2, .inr (7, [.ref (w 21), .ref (w 22), .int 0])), (w 4, .inl (g.2.2 1, 80, .inl (fun _ => 0))), (w 7, .inl (g.2.2 1, 10, .inl (fun _ => 0))), (w 15, .inl (g.2.2 1, 1728, .inl (fun _ => 0)))] (fun u : Unit => []) [.ref o] (fun u : Unit => True) := by
  refine KV.of (by decide) (Nat.le_of_ble_eq_true rfl) ?_
  intro p e s m below meth c A ls C hr hlk hnm h hl
  have hx := C.1.1
  have hb := C.1.2.1
  have hl : lv_has ls 1 [(0, .ref o)] := hl
  refine lv_aload_n hx hb dPl_clear_0 rfl (lv_at hl 0 rfl) ?_
  refine og C h laysPl 0 rfl rfl 0 (by decide) flPl_18 rfl (v := .ref (w 0)) rfl dPl_clear_1 ?_
  refine lv_iconst (v := 0) hx hb dPl_clear_4 (by decide) ?_
  refine op C h laysNa tyNa tyNa_ok nmNa 1 rfl rfl 2 (by decide) flPl_75 rfl rfl (v := .int 0) rfl rfl (Nat.le_of_ble_eq_true rfl) (w' := [(o, .inr (5, [.ref (w 0), .ref (w 1), .ref (w 2), .ref (w 3), .ref (w 4), .ref (w 5), .ref (w 6), .ref (w 7), .ref (w 8), .ref (w 9), .ref (w 10), .ref (w 11), .ref (w 12), .ref (w 13), .int 0, .ref (w 14), .int 0, .ref (w 15), .ref (w 16), .int 0])), (w 0, .inr (7, [.ref (w 17), .ref (w 18), .int 0])), (w 1, .inr (7, [.ref (w 19), .ref (w 20), .int 0])), (w 2, .inr (7, [.ref (w 21), .ref (w 22), .int 0])), (w 4, .inl (g.2.2 1, 80, .inl (fun _ => 0))), (w 7, .inl (g.2.2 1, 10, .inl (fun _ => 0))), (w 15, .inl (g.2.2 1, 1728, .inl (fun _ => 0)))]) rfl dPl_clear_5 (fun H locs h => ?_)
  refine lv_aload_n hx hb dPl_clear_8 rfl (lv_at hl 0 rfl) ?_
  refine og C h laysPl 0 rfl rfl 1 (by decide) flPl_22 rfl (v := .ref (w 1)) rfl dPl_clear_9 ?_
  refine lv_iconst (v := 0) hx hb dPl_clear_12 (by decide) ?_
  refine op C h laysNa tyNa tyNa_ok nmNa 2 rfl rfl 2 (by decide) flPl_75 rfl rfl (v := .int 0) rfl rfl (Nat.le_of_ble_eq_true rfl) (w' := [(o, .inr (5, [.ref (w 0), .ref (w 1), .ref (w 2), .ref (w 3), .ref (w 4), .ref (w 5), .ref (w 6), .ref (w 7), .ref (w 8), .ref (w 9), .ref (w 10), .ref (w 11), .ref (w 12), .ref (w 13), .int 0, .ref (w 14), .int 0, .ref (w 15), .ref (w 16), .int 0])), (w 0, .inr (7, [.ref (w 17), .ref (w 18), .int 0])), (w 1, .inr (7, [.ref (w 19), .ref (w 20), .int 0])), (w 2, .inr (7, [.ref (w 21), .ref (w 22), .int 0])), (w 4, .inl (g.2.2 1, 80, .inl (fun _ => 0))), (w 7, .inl (g.2.2 1, 10, .inl (fun _ => 0))), (w 15, .inl (g.2.2 1, 1728, .inl (fun _ => 0)))]) rfl dPl_clear_13 (fun H locs h => ?_)
  refine lv_aload_n hx hb dPl_clear_16 rfl (lv_at hl 0 rfl) ?_
  refine og C h laysPl 0 rfl rfl 2 (by decide) flPl_25 rfl (v := .ref (w 2)) rfl dPl_clear_17 ?_
  refine lv_iconst (v := 0) hx hb dPl_clear_20 (by decide) ?_
  refine op C h laysNa tyNa tyNa_ok nmNa 3 rfl rfl 2 (by decide) flPl_75 rfl rfl (v := .int 0) rfl rfl (Nat.le_of_ble_eq_true rfl) (w' := [(o, .inr (5, [.ref (w 0), .ref (w 1), .ref (w 2), .ref (w 3), .ref (w 4), .ref (w 5), .ref (w 6), .ref (w 7), .ref (w 8), .ref (w 9), .ref (w 10), .ref (w 11), .ref (w 12), .ref (w 13), .int 0, .ref (w 14), .int 0, .ref (w 15), .ref (w 16), .int 0])), (w 0, .inr (7, [.ref (w 17), .ref (w 18), .int 0])), (w 1, .inr (7, [.ref (w 19), .ref (w 20), .int 0])), (w 2, .inr (7, [.ref (w 21), .ref (w 22), .int 0])), (w 4, .inl (g.2.2 1, 80, .inl (fun _ => 0))), (w 7, .inl (g.2.2 1, 10, .inl (fun _ => 0))), (w 15, .inl (g.2.2 1, 1728, .inl (fun _ => 0)))]) rfl dPl_clear_21 (fun H locs h => ?_)
  refine lv_aload_n hx hb dPl_clear_24 rfl (lv_at hl 0 rfl) ?_
  refine lv_iconst (v := 0) hx hb dPl_clear_25 (by decide) ?_
  refine op C h laysPl tyPl tyPl_ok nmPl 0 rfl rfl 14 (by decide) flPl_79 rfl rfl (v := .int 0) rfl rfl (Nat.le_of_ble_eq_true rfl) (w' := [(o, .inr (5, [.ref (w 0), .ref (w 1), .ref (w 2), .ref (w 3), .ref (w 4), .ref (w 5), .ref (w 6), .ref (w 7), .ref (w 8), .ref (w 9), .ref (w 10), .ref (w 11), .ref (w 12), .ref (w 13), .int 0, .ref (w 14), .int 0, .ref (w 15), .ref (w 16), .int 0])), (w 0, .inr (7, [.ref (w 17), .ref (w 18), .int 0])), (w 1, .inr (7, [.ref (w 19), .ref (w 20), .int 0])), (w 2, .inr (7, [.ref (w 21), .ref (w 22), .int 0])), (w 4, .inl (g.2.2 1, 80, .inl (fun _ => 0))), (w 7, .inl (g.2.2 1, 10, .inl (fun _ => 0))), (w 15, .inl (g.2.2 1, 1728, .inl (fun _ => 0)))]) rfl dPl_clear_26 (fun H locs h => ?_)
  refine lv_aload_n hx hb dPl_clear_29 rfl (lv_at hl 0 rfl) ?_
  refine lv_iconst (v := 0) hx hb dPl_clear_30 (by decide) ?_
  refine op C h laysPl tyPl tyPl_ok nmPl 0 rfl rfl 16 (by decide) flPl_80 rfl rfl (v := .int 0) rfl rfl (Nat.le_of_ble_eq_true rfl) (w' := [(o, .inr (5, [.ref (w 0), .ref (w 1), .ref (w 2), .ref (w 3), .ref (w 4), .ref (w 5), .ref (w 6), .ref (w 7), .ref (w 8), .ref (w 9), .ref (w 10), .ref (w 11), .ref (w 12), .ref (w 13), .int 0, .ref (w 14), .int 0, .ref (w 15), .ref (w 16), .int 0])), (w 0, .inr (7, [.ref (w 17), .ref (w 18), .int 0])), (w 1, .inr (7, [.ref (w 19), .ref (w 20), .int 0])), (w 2, .inr (7, [.ref (w 21), .ref (w 22), .int 0])), (w 4, .inl (g.2.2 1, 80, .inl (fun _ => 0))), (w 7, .inl (g.2.2 1, 10, .inl (fun _ => 0))), (w 15, .inl (g.2.2 1, 1728, .inl (fun _ => 0)))]) rfl dPl_clear_31 (fun H locs h => ?_)
  refine lv_aload_n hx hb dPl_clear_34 rfl (lv_at hl 0 rfl) ?_
  refine lv_iconst (v := 0) hx hb dPl_clear_35 (by decide) ?_
  refine op C h laysPl tyPl tyPl_ok nmPl 0 rfl rfl 19 (by decide) flPl_83 rfl rfl (v := .int 0) rfl rfl (Nat.le_of_ble_eq_true rfl) (w' := [(o, .inr (5, [.ref (w 0), .ref (w 1), .ref (w 2), .ref (w 3), .ref (w 4), .ref (w 5), .ref (w 6), .ref (w 7), .ref (w 8), .ref (w 9), .ref (w 10), .ref (w 11), .ref (w 12), .ref (w 13), .int 0, .ref (w 14), .int 0, .ref (w 15), .ref (w 16), .int 0])), (w 0, .inr (7, [.ref (w 17), .ref (w 18), .int 0])), (w 1, .inr (7, [.ref (w 19), .ref (w 20), .int 0])), (w 2, .inr (7, [.ref (w 21), .ref (w 22), .int 0])), (w 4, .inl (g.2.2 1, 80, .inl (fun _ => 0))), (w 7, .inl (g.2.2 1, 10, .inl (fun _ => 0))), (w 15, .inl (g.2.2 1, 1728, .inl (fun _ => 0)))]) rfl dPl_clear_36 (fun H locs h => ?_)
  refine lv_aload_n hx hb dPl_clear_39 rfl (lv_at hl 0 rfl) ?_
  refine og C h laysPl 0 rfl rfl 4 (by decide) flPl_34 rfl (v := .ref (w 4)) rfl dPl_clear_40 ?_
  refine lv_iconst (v := 0) hx hb dPl_clear_43 (by decide) ?_
  refine KV.callSs (As := [.ref (w 4), .int 0]) (wc := [(w 4, .inl (g.2.2 1, 80, .inl (fun _ => 0)))]) (wr := [(o, .inr (5, [.ref (w 0), .ref (w 1), .ref (w 2), .ref (w 3), .ref (w 4), .ref (w 5), .ref (w 6), .ref (w 7), .ref (w 8), .ref (w 9), .ref (w 10), .ref (w 11), .ref (w 12), .ref (w 13), .int 0, .ref (w 14), .int 0, .ref (w 15), .ref (w 16), .int 0])), (w 0, .inr (7, [.ref (w 17), .ref (w 18), .int 0])), (w 1, .inr (7, [.ref (w 19), .ref (w 20), .int 0])), (w 2, .inr (7, [.ref (w 21), .ref (w 22), .int 0])), (w 7, .inl (g.2.2 1, 10, .inl (fun _ => 0))), (w 15, .inl (g.2.2 1, 1728, .inl (fun _ => 0)))]) C h [4] [0, 1, 2, 3, 5, 6] rfl rfl (by decide) (by decide) (by decide) (j_fill l g (w 4) 80 (by decide) 0 (fun _ => 0)) mlPl_86 isJ7_fill_53178 iiJ7_fill_53178 icJ7_fill_53178 npJ7_fill_53178 ⟨by decide, by decide⟩ hl.1 rfl (Nat.le_of_ble_eq_true rfl) dPl_clear_44 ⟨by decide, by decide⟩ (fun u_1 H locs hp h => ?_)
  have h : Hx g [(o, .inr (5, [.ref (w 0), .ref (w 1), .ref (w 2), .ref (w 3), .ref (w 4), .ref (w 5), .ref (w 6), .ref (w 7), .ref (w 8), .ref (w 9), .ref (w 10), .ref (w 11), .ref (w 12), .ref (w 13), .int 0, .ref (w 14), .int 0, .ref (w 15), .ref (w 16), .int 0])), (w 0, .inr (7, [.ref (w 17), .ref (w 18), .int 0])), (w 1, .inr (7, [.ref (w 19), .ref (w 20), .int 0])), (w 2, .inr (7, [.ref (w 21), .ref (w 22), .int 0])), (w 7, .inl (g.2.2 1, 10, .inl (fun _ => 0))), (w 15, .inl (g.2.2 1, 1728, .inl (fun _ => 0))), ((w 4), .inl (g.2.2 1, 80, .inl u_1))] A s.heap _ _ := h
  refine lv_aload_n hx hb dPl_clear_47 rfl (lv_at hl 0 rfl) ?_
  refine og C h laysPl 0 rfl rfl 7 (by decide) flPl_44 rfl (v := .ref (w 7)) rfl dPl_clear_48 ?_
  refine lv_iconst (v := 0) hx hb dPl_clear_51 (by decide) ?_
  refine KV.callSs (As := [.ref (w 7), .int 0]) (wc := [(w 7, .inl (g.2.2 1, 10, .inl (fun _ => 0)))]) (wr := [(o, .inr (5, [.ref (w 0), .ref (w 1), .ref (w 2), .ref (w 3), .ref (w 4), .ref (w 5), .ref (w 6), .ref (w 7), .ref (w 8), .ref (w 9), .ref (w 10), .ref (w 11), .ref (w 12), .ref (w 13), .int 0, .ref (w 14), .int 0, .ref (w 15), .ref (w 16), .int 0])), (w 0, .inr (7, [.ref (w 17), .ref (w 18), .int 0])), (w 1, .inr (7, [.ref (w 19), .ref (w 20), .int 0])), (w 2, .inr (7, [.ref (w 21), .ref (w 22), .int 0])), (w 15, .inl (g.2.2 1, 1728, .inl (fun _ => 0))), ((w 4), .inl (g.2.2 1, 80, .inl u_1))]) C h [4] [0, 1, 2, 3, 5, 6] rfl rfl (by decide) (by decide) (by decide) (j_fill l g (w 7) 10 (by decide) 0 (fun _ => 0)) mlPl_86 isJ7_fill_53178 iiJ7_fill_53178 icJ7_fill_53178 npJ7_fill_53178 ⟨by decide, by decide⟩ hl.1 rfl (Nat.le_of_ble_eq_true rfl) dPl_clear_52 ⟨by decide, by decide⟩ (fun u_2 H locs hp h => ?_)
  have h : Hx g [(o, .inr (5, [.ref (w 0), .ref (w 1), .ref (w 2), .ref (w 3), .ref (w 4), .ref (w 5), .ref (w 6), .ref (w 7), .ref (w 8), .ref (w 9), .ref (w 10), .ref (w 11), .ref (w 12), .ref (w 13), .int 0, .ref (w 14), .int 0, .ref (w 15), .ref (w 16), .int 0])), (w 0, .inr (7, [.ref (w 17), .ref (w 18), .int 0])), (w 1, .inr (7, [.ref (w 19), .ref (w 20), .int 0])), (w 2, .inr (7, [.ref (w 21), .ref (w 22), .int 0])), (w 15, .inl (g.2.2 1, 1728, .inl (fun _ => 0))), ((w 4), .inl (g.2.2 1, 80, .inl u_1)), ((w 7), .inl (g.2.2 1, 10, .inl u_2))] A s.heap _ _ := h
  refine lv_aload_n hx hb dPl_clear_55 rfl (lv_at hl 0 rfl) ?_
  refine og C h laysPl 0 rfl rfl 17 (by decide) flPl_68 rfl (v := .ref (w 15)) rfl dPl_clear_56 ?_
  refine lv_iconst (v := 0) hx hb dPl_clear_59 (by decide) ?_
  refine KV.callSs (As := [.ref (w 15), .int 0]) (wc := [(w 15, .inl (g.2.2 1, 1728, .inl (fun _ => 0)))]) (wr := [(o, .inr (5, [.ref (w 0), .ref (w 1), .ref (w 2), .ref (w 3), .ref (w 4), .ref (w 5), .ref (w 6), .ref (w 7), .ref (w 8), .ref (w 9), .ref (w 10), .ref (w 11), .ref (w 12), .ref (w 13), .int 0, .ref (w 14), .int 0, .ref (w 15), .ref (w 16), .int 0])), (w 0, .inr (7, [.ref (w 17), .ref (w 18), .int 0])), (w 1, .inr (7, [.ref (w 19), .ref (w 20), .int 0])), (w 2, .inr (7, [.ref (w 21), .ref (w 22), .int 0])), ((w 4), .inl (g.2.2 1, 80, .inl u_1)), ((w 7), .inl (g.2.2 1, 10, .inl u_2))]) C h [4] [0, 1, 2, 3, 5, 6] rfl rfl (by decide) (by decide) (by decide) (j_fill l g (w 15) 1728 (by decide) 0 (fun _ => 0)) mlPl_86 isJ7_fill_53178 iiJ7_fill_53178 icJ7_fill_53178 npJ7_fill_53178 ⟨by decide, by decide⟩ hl.1 rfl (Nat.le_of_ble_eq_true rfl) dPl_clear_60 ⟨by decide, by decide⟩ (fun u_3 H locs hp h => ?_)
  have h : Hx g [(o, .inr (5, [.ref (w 0), .ref (w 1), .ref (w 2), .ref (w 3), .ref (w 4), .ref (w 5), .ref (w 6), .ref (w 7), .ref (w 8), .ref (w 9), .ref (w 10), .ref (w 11), .ref (w 12), .ref (w 13), .int 0, .ref (w 14), .int 0, .ref (w 15), .ref (w 16), .int 0])), (w 0, .inr (7, [.ref (w 17), .ref (w 18), .int 0])), (w 1, .inr (7, [.ref (w 19), .ref (w 20), .int 0])), (w 2, .inr (7, [.ref (w 21), .ref (w 22), .int 0])), ((w 4), .inl (g.2.2 1, 80, .inl u_1)), ((w 7), .inl (g.2.2 1, 10, .inl u_2)), ((w 15), .inl (g.2.2 1, 1728, .inl u_3))] A s.heap _ _ := h
  have h : Hx g [] A s.heap _ _ := h.cut [] (by decide) rfl
  exact KV.ret C hr hlk () h trivial (by decide) (by decide) dPl_clear_63

set_option maxHeartbeats 4000000 in
set_option maxRecDepth 100000 in
/-- isOver(0) -/
theorem t_isOver0 (l : Launch) (g : GG) (pa o kd pl : Nat) : KI l yPa_isOver cPa_isOver 2 (some .boolean) (rD 0 0 0) g [(pa, .inr (3, [.ref o, .ref pl, .ref kd, .int 0, .int 0, .int 0]))] (fun u : Unit => [(pa, .inr (3, [.ref o, .ref pl, .ref kd, .int 0, .int 0, .int 0]))]) [.ref pa, .int 0] (fun (r : Int32) (u : Unit) => r = 0) := by
  refine KI.of (by decide) (Nat.le_of_ble_eq_true rfl) ?_
  intro p e s m below meth c A ls C hr hlk hnm h hl
  have hx := C.1.1
  have hb := C.1.2.1
  have hl : lv_has ls 2 [(0, .ref pa), (1, .int 0)] := hl
  refine lv_iload_n hx hb dPa_isOver_0 rfl (lv_at hl 1 rfl) ?_
  refine lv_if_le (tgt := 25) hx hb dPa_isOver_1 (by decide) (fun c1 => ?_) (fun c1 => absurd c1 (by decide))
  refine lv_iconst (v := 0) hx hb dPa_isOver_25 (by decide) ?_
  exact KI.ret C hr hlk () h rfl rfl (by decide) (by decide) dPa_isOver_26

set_option maxHeartbeats 4000000 in
set_option maxRecDepth 100000 in
/-- fits(): the end fits nowhere -/
theorem t_fits0 (l : Launch) (g : GG) (pa o kd pl : Nat) : KI l yPa_fits cPa_fits 2 (some .boolean) (rD 0 0 0) g [(pa, .inr (3, [.ref o, .ref pl, .ref kd, .int 0, .int 0, .int 0]))] (fun u : Unit => [(pa, .inr (3, [.ref o, .ref pl, .ref kd, .int 0, .int 0, .int 0]))]) [.ref pa, .int 0] (fun (r : Int32) (u : Unit) => r = 0) := by
  refine KI.of (by decide) (Nat.le_of_ble_eq_true rfl) ?_
  intro p e s m below meth c A ls C hr hlk hnm h hl
  have hx := C.1.1
  have hb := C.1.2.1
  have hl : lv_has ls 2 [(0, .ref pa), (1, .int 0)] := hl
  refine lv_aload_n hx hb dPa_fits_0 rfl (lv_at hl 0 rfl) ?_
  refine og C h laysPa 0 rfl rfl 3 (by decide) flPa_31 rfl (v := .int 0) rfl dPa_fits_1 ?_
  refine lv_tableIn (off := 28) (tgt := 32) hx hb dPa_fits_4 (by decide) (by decide) (by decide) (by decide) ?_
  refine lv_iload_n hx hb dPa_fits_32 rfl (lv_at hl 1 rfl) ?_
  refine lv_bipush (v := 40) hx hb dPa_fits_33 (by decide) ?_
  refine lv_icmp_eq (tgt := 50) hx hb dPa_fits_35 (by decide) (fun c35 => absurd c35 (by decide)) (fun c35 => ?_)
  refine lv_iload_n hx hb dPa_fits_38 rfl (lv_at hl 1 rfl) ?_
  refine lv_bipush (v := 41) hx hb dPa_fits_39 (by decide) ?_
  refine lv_icmp_eq (tgt := 50) hx hb dPa_fits_41 (by decide) (fun c41 => absurd c41 (by decide)) (fun c41 => ?_)
  refine lv_iload_n hx hb dPa_fits_44 rfl (lv_at hl 1 rfl) ?_
  refine lv_bipush (v := 42) hx hb dPa_fits_45 (by decide) ?_
  refine lv_icmp_ne (tgt := 54) hx hb dPa_fits_47 (by decide) (fun c47 => ?_) (fun c47 => absurd c47 (by decide))
  refine lv_iconst (v := 0) hx hb dPa_fits_54 (by decide) ?_
  exact KI.ret C hr hlk () h rfl rfl (by decide) (by decide) dPa_fits_55

set_option maxHeartbeats 4000000 in
set_option maxRecDepth 100000 in
/-- parse() of an empty text: SYNTAX -/
theorem t_parseE (l : Launch) (g : GG) (pa o kd pl k pp v kw t : Nat) (w : Nat → Nat) : KV l yPa_parse cPa_parse 4 (rD 2 0 0) g [(pa, .inr (3, [.ref o, .null, .ref kd, .int 0, .int 0, .int 0])), (o, .inr (2, [.ref k, .ref pp, .ref v, .int 0, .int 0, .int 0, .int 0, .int 0, .int 0, .ref kw, .ref t, .int 0])), (k, .inl (g.2.2 1, 1202, .inl (upd (fun _ => 0) (0 : Int32).toNatClampNeg 0))), (pp, .inl (g.2.2 1, 1202, .inl (upd (fun _ => 0) (0 : Int32).toNatClampNeg 0))), (pl, .inr (5, [.ref (w 0), .ref (w 1), .ref (w 2), .ref (w 3), .ref (w 4), .ref (w 5), .ref (w 6), .ref (w 7), .ref (w 8), .ref (w 9), .ref (w 10), .ref (w 11), .ref (w 12), .ref (w 13), .int 0, .ref (w 14), .int 0, .ref (w 15), .ref (w 16), .int 0])), (w 0, .inr (7, [.ref (w 17), .ref (w 18), .int 0])), (w 1, .inr (7, [.ref (w 19), .ref (w 20), .int 0])), (w 2, .inr (7, [.ref (w 21), .ref (w 22), .int 0])), (w 4, .inl (g.2.2 1, 80, .inl (fun _ => 0))), (w 7, .inl (g.2.2 1, 10, .inl (fun _ => 0))), (w 15, .inl (g.2.2 1, 1728, .inl (fun _ => 0)))] (fun u : Unit => [(o, .inr (2, [.ref k, .ref pp, .ref v, .int 0, .int 0, .int 1, .int 0, .int 0, .int 0, .ref kw, .ref t, .int 0])), (k, .inl (g.2.2 1, 1202, .inl (upd (fun _ => 0) (0 : Int32).toNatClampNeg 0))), (pp, .inl (g.2.2 1, 1202, .inl (upd (fun _ => 0) (0 : Int32).toNatClampNeg 0)))]) [.ref pa, .ref pl] (fun u : Unit => True) := by
  refine KV.of (by decide) (Nat.le_of_ble_eq_true rfl) ?_
  intro p e s m below meth c A ls C hr hlk hnm h hl
  have hx := C.1.1
  have hb := C.1.2.1
  have hl : lv_has ls 4 [(0, .ref pa), (1, .ref pl)] := hl
  refine lv_aload_n hx hb dPa_parse_0 rfl (lv_at hl 0 rfl) ?_
  refine lv_aload_n hx hb dPa_parse_1 rfl (lv_at hl 1 rfl) ?_
  refine op C h laysPa tyPa tyPa_ok nmPa 0 rfl rfl 1 (by decide) flPa_22 rfl rfl (v := .ref pl) rfl rfl (Nat.le_of_ble_eq_true rfl) (w' := [(pa, .inr (3, [.ref o, .ref pl, .ref kd, .int 0, .int 0, .int 0])), (o, .inr (2, [.ref k, .ref pp, .ref v, .int 0, .int 0, .int 0, .int 0, .int 0, .int 0, .ref kw, .ref t, .int 0])), (k, .inl (g.2.2 1, 1202, .inl (upd (fun _ => 0) (0 : Int32).toNatClampNeg 0))), (pp, .inl (g.2.2 1, 1202, .inl (upd (fun _ => 0) (0 : Int32).toNatClampNeg 0))), (pl, .inr (5, [.ref (w 0), .ref (w 1), .ref (w 2), .ref (w 3), .ref (w 4), .ref (w 5), .ref (w 6), .ref (w 7), .ref (w 8), .ref (w 9), .ref (w 10), .ref (w 11), .ref (w 12), .ref (w 13), .int 0, .ref (w 14), .int 0, .ref (w 15), .ref (w 16), .int 0])), (w 0, .inr (7, [.ref (w 17), .ref (w 18), .int 0])), (w 1, .inr (7, [.ref (w 19), .ref (w 20), .int 0])), (w 2, .inr (7, [.ref (w 21), .ref (w 22), .int 0])), (w 4, .inl (g.2.2 1, 80, .inl (fun _ => 0))), (w 7, .inl (g.2.2 1, 10, .inl (fun _ => 0))), (w 15, .inl (g.2.2 1, 1728, .inl (fun _ => 0)))]) rfl dPa_parse_2 (fun H locs h => ?_)
  refine lv_aload_n hx hb dPa_parse_5 rfl (lv_at hl 0 rfl) ?_
  refine og C h laysPa 0 rfl rfl 1 (by decide) flPa_22 rfl (v := .ref pl) rfl dPa_parse_6 ?_
  refine KV.callVs (As := []) (q0 := 4) (ci := 5) (wc := [(pl, .inr (5, [.ref (w 0), .ref (w 1), .ref (w 2), .ref (w 3), .ref (w 4), .ref (w 5), .ref (w 6), .ref (w 7), .ref (w 8), .ref (w 9), .ref (w 10), .ref (w 11), .ref (w 12), .ref (w 13), .int 0, .ref (w 14), .int 0, .ref (w 15), .ref (w 16), .int 0])), (w 0, .inr (7, [.ref (w 17), .ref (w 18), .int 0])), (w 1, .inr (7, [.ref (w 19), .ref (w 20), .int 0])), (w 2, .inr (7, [.ref (w 21), .ref (w 22), .int 0])), (w 4, .inl (g.2.2 1, 80, .inl (fun _ => 0))), (w 7, .inl (g.2.2 1, 10, .inl (fun _ => 0))), (w 15, .inl (g.2.2 1, 1728, .inl (fun _ => 0)))]) (wr := [(pa, .inr (3, [.ref o, .ref pl, .ref kd, .int 0, .int 0, .int 0])), (o, .inr (2, [.ref k, .ref pp, .ref v, .int 0, .int 0, .int 0, .int 0, .int 0, .int 0, .ref kw, .ref t, .int 0])), (k, .inl (g.2.2 1, 1202, .inl (upd (fun _ => 0) (0 : Int32).toNatClampNeg 0))), (pp, .inl (g.2.2 1, 1202, .inl (upd (fun _ => 0) (0 : Int32).toNatClampNeg 0)))]) C h [4, 5, 6, 7, 8, 9, 10] [0, 1, 2, 3] rfl rfl (by decide) (by decide) (by decide) (t_clear l g pl w) vPa_parse_26 ⟨by decide, by decide⟩ rfl rfl hl.1 rfl (Nat.le_of_ble_eq_true rfl) dPa_parse_9 ⟨by decide, by decide⟩ (fun _ H locs hp h => ?_)
  have h : Hx g [(pa, .inr (3, [.ref o, .ref pl, .ref kd, .int 0, .int 0, .int 0])), (o, .inr (2, [.ref k, .ref pp, .ref v, .int 0, .int 0, .int 0, .int 0, .int 0, .int 0, .ref kw, .ref t, .int 0])), (k, .inl (g.2.2 1, 1202, .inl (upd (fun _ => 0) (0 : Int32).toNatClampNeg 0))), (pp, .inl (g.2.2 1, 1202, .inl (upd (fun _ => 0) (0 : Int32).toNatClampNeg 0)))] A s.heap _ _ := h
  refine lv_aload_n hx hb dPa_parse_12 rfl (lv_at hl 0 rfl) ?_
  refine lv_iconst (v := 0) hx hb dPa_parse_13 (by decide) ?_
  refine op C h laysPa tyPa tyPa_ok nmPa 0 rfl rfl 3 (by decide) flPa_31 rfl rfl (v := .int 0) rfl rfl (Nat.le_of_ble_eq_true rfl) (w' := [(pa, .inr (3, [.ref o, .ref pl, .ref kd, .int 0, .int 0, .int 0])), (o, .inr (2, [.ref k, .ref pp, .ref v, .int 0, .int 0, .int 0, .int 0, .int 0, .int 0, .ref kw, .ref t, .int 0])), (k, .inl (g.2.2 1, 1202, .inl (upd (fun _ => 0) (0 : Int32).toNatClampNeg 0))), (pp, .inl (g.2.2 1, 1202, .inl (upd (fun _ => 0) (0 : Int32).toNatClampNeg 0)))]) rfl dPa_parse_14 (fun H locs h => ?_)
  refine lv_iconst (v := 0) hx hb dPa_parse_17 (by decide) ?_
  refine lv_istore_n (lv' := [(2, .int (0)), (0, .ref pa), (1, .ref pl)]) hx hb dPa_parse_18 rfl hl (by decide) rfl (fun ls hl => ?_)
  refine lv_iload_n hx hb dPa_parse_19 rfl (lv_at hl 0 rfl) ?_
  refine lv_sipush (v := 1200) hx hb dPa_parse_20 (by decide) ?_
  refine lv_icmp_gt (tgt := 303) hx hb dPa_parse_23 (by decide) (fun c23 => absurd c23 (by decide)) (fun c23 => ?_)
  refine lv_aload_n hx hb dPa_parse_26 rfl (lv_at hl 1 rfl) ?_
  refine og C h laysPa 0 rfl rfl 0 (by decide) flPa_18 rfl (v := .ref o) rfl dPa_parse_27 ?_
  refine og C h laysTk 1 rfl rfl 5 (by decide) flPa_37 rfl (v := .int 0) rfl dPa_parse_30 ?_
  refine lv_if_ne (tgt := 303) hx hb dPa_parse_33 (by decide) (fun c33 => absurd c33 (by decide)) (fun c33 => ?_)
  refine lv_aload_n hx hb dPa_parse_36 rfl (lv_at hl 1 rfl) ?_
  refine lv_iload_n hx hb dPa_parse_37 rfl (lv_at hl 0 rfl) ?_
  refine KI.callVs (As := [.int 0]) (q0 := 0) (ci := 3) (wc := [(pa, .inr (3, [.ref o, .ref pl, .ref kd, .int 0, .int 0, .int 0]))]) (wr := [(o, .inr (2, [.ref k, .ref pp, .ref v, .int 0, .int 0, .int 0, .int 0, .int 0, .int 0, .ref kw, .ref t, .int 0])), (k, .inl (g.2.2 1, 1202, .inl (upd (fun _ => 0) (0 : Int32).toNatClampNeg 0))), (pp, .inl (g.2.2 1, 1202, .inl (upd (fun _ => 0) (0 : Int32).toNatClampNeg 0)))]) C h [0] [1, 2, 3] rfl rfl (by decide) (by decide) (by decide) (t_isOver0 l g pa o kd pl) vPa_parse_40 ⟨by decide, by decide⟩ rfl rfl hl.1 rfl (Nat.le_of_ble_eq_true rfl) dPa_parse_38 ⟨by decide, by decide⟩ (fun r_2 _ H locs hp h => ?_)
  have h : Hx g [(o, .inr (2, [.ref k, .ref pp, .ref v, .int 0, .int 0, .int 0, .int 0, .int 0, .int 0, .ref kw, .ref t, .int 0])), (k, .inl (g.2.2 1, 1202, .inl (upd (fun _ => 0) (0 : Int32).toNatClampNeg 0))), (pp, .inl (g.2.2 1, 1202, .inl (upd (fun _ => 0) (0 : Int32).toNatClampNeg 0))), (pa, .inr (3, [.ref o, .ref pl, .ref kd, .int 0, .int 0, .int 0]))] A s.heap _ _ := h
  subst hp
  refine lv_if_ne (tgt := 303) hx hb dPa_parse_41 (by decide) (fun c41 => absurd c41 (by decide)) (fun c41 => ?_)
  refine lv_aload_n hx hb dPa_parse_44 rfl (lv_at hl 1 rfl) ?_
  refine og C h laysPa 3 rfl rfl 0 (by decide) flPa_18 rfl (v := .ref o) rfl dPa_parse_45 ?_
  refine KI.callVs (As := []) (q0 := 0) (ci := 2) (wc := [(o, .inr (2, [.ref k, .ref pp, .ref v, .int 0, .int 0, .int 0, .int 0, .int 0, .int 0, .ref kw, .ref t, .int 0])), (k, .inl (g.2.2 1, 1202, .inl (upd (fun _ => 0) (0 : Int32).toNatClampNeg 0))), (pp, .inl (g.2.2 1, 1202, .inl (upd (fun _ => 0) (0 : Int32).toNatClampNeg 0)))]) (wr := [(pa, .inr (3, [.ref o, .ref pl, .ref kd, .int 0, .int 0, .int 0]))]) C h [0, 1, 2] [3] rfl rfl (by decide) (by decide) (by decide) (t_seen0 l g o k pp v kw t) vPa_parse_44 ⟨by decide, by decide⟩ rfl rfl hl.1 rfl (Nat.le_of_ble_eq_true rfl) dPa_parse_48 ⟨by decide, by decide⟩ (fun r_3 _ H locs hp h => ?_)
  have h : Hx g [(pa, .inr (3, [.ref o, .ref pl, .ref kd, .int 0, .int 0, .int 0])), (o, .inr (2, [.ref k, .ref pp, .ref v, .int 0, .int 0, .int 0, .int 0, .int 0, .int 0, .ref kw, .ref t, .int 0])), (k, .inl (g.2.2 1, 1202, .inl (upd (fun _ => 0) (0 : Int32).toNatClampNeg 0))), (pp, .inl (g.2.2 1, 1202, .inl (upd (fun _ => 0) (0 : Int32).toNatClampNeg 0)))] A s.heap _ _ := h
  subst hp
  refine lv_istore_n (lv' := [(3, .int (0)), (2, .int (0)), (0, .ref pa), (1, .ref pl)]) hx hb dPa_parse_51 rfl hl (by decide) rfl (fun ls hl => ?_)
  refine lv_aload_n hx hb dPa_parse_52 rfl (lv_at hl 2 rfl) ?_
  refine lv_iload_n hx hb dPa_parse_53 rfl (lv_at hl 0 rfl) ?_
  refine KI.callVs (As := [.int 0]) (q0 := 0) (ci := 3) (wc := [(pa, .inr (3, [.ref o, .ref pl, .ref kd, .int 0, .int 0, .int 0]))]) (wr := [(o, .inr (2, [.ref k, .ref pp, .ref v, .int 0, .int 0, .int 0, .int 0, .int 0, .int 0, .ref kw, .ref t, .int 0])), (k, .inl (g.2.2 1, 1202, .inl (upd (fun _ => 0) (0 : Int32).toNatClampNeg 0))), (pp, .inl (g.2.2 1, 1202, .inl (upd (fun _ => 0) (0 : Int32).toNatClampNeg 0)))]) C h [0] [1, 2, 3] rfl rfl (by decide) (by decide) (by decide) (t_fits0 l g pa o kd pl) vPa_parse_48 ⟨by decide, by decide⟩ rfl rfl hl.1 rfl (Nat.le_of_ble_eq_true rfl) dPa_parse_54 ⟨by decide, by decide⟩ (fun r_4 _ H locs hp h => ?_)
  have h : Hx g [(o, .inr (2, [.ref k, .ref pp, .ref v, .int 0, .int 0, .int 0, .int 0, .int 0, .int 0, .ref kw, .ref t, .int 0])), (k, .inl (g.2.2 1, 1202, .inl (upd (fun _ => 0) (0 : Int32).toNatClampNeg 0))), (pp, .inl (g.2.2 1, 1202, .inl (upd (fun _ => 0) (0 : Int32).toNatClampNeg 0))), (pa, .inr (3, [.ref o, .ref pl, .ref kd, .int 0, .int 0, .int 0]))] A s.heap _ _ := h
  subst hp
  refine lv_if_ne (tgt := 75) hx hb dPa_parse_57 (by decide) (fun c57 => absurd c57 (by decide)) (fun c57 => ?_)
  refine lv_aload_n hx hb dPa_parse_60 rfl (lv_at hl 2 rfl) ?_
  refine og C h laysPa 3 rfl rfl 0 (by decide) flPa_18 rfl (v := .ref o) rfl dPa_parse_61 ?_
  refine lv_iconst (v := 1) hx hb dPa_parse_64 (by decide) ?_
  refine lv_aload_n hx hb dPa_parse_65 rfl (lv_at hl 2 rfl) ?_
  refine og C h laysPa 3 rfl rfl 0 (by decide) flPa_18 rfl (v := .ref o) rfl dPa_parse_66 ?_
  refine og C h laysTk 0 rfl rfl 3 (by decide) flPa_51 rfl (v := .int 0) rfl dPa_parse_69 ?_
  refine KV.callVs (As := [.int 1, .int 0]) (q0 := 0) (ci := 2) (wc := [(o, .inr (2, [.ref k, .ref pp, .ref v, .int 0, .int 0, .int 0, .int 0, .int 0, .int 0, .ref kw, .ref t, .int 0])), (k, .inl (g.2.2 1, 1202, .inl (upd (fun _ => 0) (0 : Int32).toNatClampNeg 0))), (pp, .inl (g.2.2 1, 1202, .inl (upd (fun _ => 0) (0 : Int32).toNatClampNeg 0)))]) (wr := [(pa, .inr (3, [.ref o, .ref pl, .ref kd, .int 0, .int 0, .int 0]))]) C h [0, 1, 2] [3] rfl rfl (by decide) (by decide) (by decide) (t_fail0 l g o k pp v kw t) vPa_parse_54 ⟨by decide, by decide⟩ rfl rfl hl.1 rfl (Nat.le_of_ble_eq_true rfl) dPa_parse_72 ⟨by decide, by decide⟩ (fun _ H locs hp h => ?_)
  have h : Hx g [(pa, .inr (3, [.ref o, .ref pl, .ref kd, .int 0, .int 0, .int 0])), (o, .inr (2, [.ref k, .ref pp, .ref v, .int 0, .int 0, .int 1, .int 0, .int 0, .int 0, .ref kw, .ref t, .int 0])), (k, .inl (g.2.2 1, 1202, .inl (upd (fun _ => 0) (0 : Int32).toNatClampNeg 0))), (pp, .inl (g.2.2 1, 1202, .inl (upd (fun _ => 0) (0 : Int32).toNatClampNeg 0)))] A s.heap _ _ := h
  refine lv_aload_n hx hb dPa_parse_75 rfl (lv_at hl 2 rfl) ?_
  refine og C h laysPa 0 rfl rfl 0 (by decide) flPa_18 rfl (v := .ref o) rfl dPa_parse_76 ?_
  refine lv_iload_n hx hb dPa_parse_79 rfl (lv_at hl 0 rfl) ?_
  refine KI.callVs (As := [.int 0]) (q0 := 1) (ci := 2) (wc := [(o, .inr (2, [.ref k, .ref pp, .ref v, .int 0, .int 0, .int 1, .int 0, .int 0, .int 0, .ref kw, .ref t, .int 0])), (k, .inl (g.2.2 1, 1202, .inl (upd (fun _ => 0) (0 : Int32).toNatClampNeg 0))), (pp, .inl (g.2.2 1, 1202, .inl (upd (fun _ => 0) (0 : Int32).toNatClampNeg 0)))]) (wr := [(pa, .inr (3, [.ref o, .ref pl, .ref kd, .int 0, .int 0, .int 0]))]) C h [1, 2, 3] [0] rfl rfl (by decide) (by decide) (by decide) (t_take1 l g o k pp v kw t) vPa_parse_58 ⟨by decide, by decide⟩ rfl rfl hl.1 rfl (Nat.le_of_ble_eq_true rfl) dPa_parse_80 ⟨by decide, by decide⟩ (fun r_6 _ H locs hp h => ?_)
  have h : Hx g [(pa, .inr (3, [.ref o, .ref pl, .ref kd, .int 0, .int 0, .int 0])), (o, .inr (2, [.ref k, .ref pp, .ref v, .int 0, .int 0, .int 1, .int 0, .int 0, .int 0, .ref kw, .ref t, .int 0])), (k, .inl (g.2.2 1, 1202, .inl (upd (fun _ => 0) (0 : Int32).toNatClampNeg 0))), (pp, .inl (g.2.2 1, 1202, .inl (upd (fun _ => 0) (0 : Int32).toNatClampNeg 0)))] A s.heap _ _ := h
  subst hp
  refine lv_pop hx hb dPa_parse_83 rfl ?_
  refine lv_aload_n hx hb dPa_parse_84 rfl (lv_at hl 2 rfl) ?_
  refine og C h laysPa 0 rfl rfl 0 (by decide) flPa_18 rfl (v := .ref o) rfl dPa_parse_85 ?_
  refine og C h laysTk 1 rfl rfl 5 (by decide) flPa_37 rfl (v := .int 1) rfl dPa_parse_88 ?_
  refine lv_if_eq (tgt := 98) hx hb dPa_parse_91 (by decide) (fun c91 => absurd c91 (by decide)) (fun c91 => ?_)
  refine lv_iconst (v := 1) hx hb dPa_parse_94 (by decide) ?_
  refine lv_goto (tgt := 99) hx hb dPa_parse_95 (by decide) ?_
  refine lv_tableOut (tgt := 297) hx hb dPa_parse_99 (by decide) (by decide) ?_
  refine lv_iinc (v := 1) (lv' := [(2, .int (1)), (3, .int (0)), (0, .ref pa), (1, .ref pl)]) hx hb dPa_parse_297 hl (k := 1) rfl (by decide) (by decide) rfl (fun ls hl => ?_)
  refine lv_goto (tgt := 19) hx hb dPa_parse_300 (by decide) ?_
  refine lv_iload_n hx hb dPa_parse_19 rfl (lv_at hl 0 rfl) ?_
  refine lv_sipush (v := 1200) hx hb dPa_parse_20 (by decide) ?_
  refine lv_icmp_gt (tgt := 303) hx hb dPa_parse_23 (by decide) (fun c23 => absurd c23 (by decide)) (fun c23 => ?_)
  refine lv_aload_n hx hb dPa_parse_26 rfl (lv_at hl 2 rfl) ?_
  refine og C h laysPa 0 rfl rfl 0 (by decide) flPa_18 rfl (v := .ref o) rfl dPa_parse_27 ?_
  refine og C h laysTk 1 rfl rfl 5 (by decide) flPa_37 rfl (v := .int 1) rfl dPa_parse_30 ?_
  refine lv_if_ne (tgt := 303) hx hb dPa_parse_33 (by decide) (fun c33 => ?_) (fun c33 => absurd c33 (by decide))
  have h : Hx g [(o, .inr (2, [.ref k, .ref pp, .ref v, .int 0, .int 0, .int 1, .int 0, .int 0, .int 0, .ref kw, .ref t, .int 0])), (k, .inl (g.2.2 1, 1202, .inl (upd (fun _ => 0) (0 : Int32).toNatClampNeg 0))), (pp, .inl (g.2.2 1, 1202, .inl (upd (fun _ => 0) (0 : Int32).toNatClampNeg 0)))] A s.heap _ _ := h.cut [1, 2, 3] (by decide) rfl
  exact KV.ret C hr hlk () h trivial (by decide) (by decide) dPa_parse_303

