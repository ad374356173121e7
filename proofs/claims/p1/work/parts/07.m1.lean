def mStops (M : MS) : Int32 := if M.1 m_fault ≤ 0 then 0 else if M.1 m_judges = 0 then 1 else 0
set_option maxHeartbeats 4000000 in
set_option maxRecDepth 100000 in
/-- stops() -/
theorem t_stops (l : Launch) (g : GG) (o : Nat) (ad : Nat → Nat) (M : MS)  : KI l yM_stops cM_stops 1 (some .boolean) (rD 0 0 0) g (mW g o ad M) (mW g o ad) [.ref o] (fun (r : Int32) (M' : MS) => M' = M ∧ r = mStops M) := by
  refine KI.of (by decide) (Nat.le_of_ble_eq_true rfl) ?_
  intro p e s m below meth c A ls C hr hlk hnm h hl
  have hx := C.1.1
  have hb := C.1.2.1
  have hl : lv_has ls 1 [(0, .ref o)] := hl
  refine lv_aload_n hx hb dM_stops_0 rfl (lv_at hl 0 rfl) ?_
  refine mgi C h m_fault (by decide) rfl (v := M.1 m_fault) rfl rfl dM_stops_1 ?_
  refine lv_if_le (tgt := 18) hx hb dM_stops_4 (by decide) (fun c4 => ?_) (fun c4 => ?_)
  · refine lv_iconst (v := 0) hx hb dM_stops_18 (by decide) ?_
    exact KI.ret C hr hlk M h rfl ⟨rfl, by simp [mStops, c4]⟩ (by decide) (by decide) dM_stops_19
  · refine lv_aload_n hx hb dM_stops_7 rfl (lv_at hl 0 rfl) ?_
    refine mgi C h m_judges (by decide) rfl (v := M.1 m_judges) rfl rfl dM_stops_8 ?_
    refine lv_if_ne (tgt := 18) hx hb dM_stops_11 (by decide) (fun c11 => ?_) (fun c11 => ?_)
    · refine lv_iconst (v := 0) hx hb dM_stops_18 (by decide) ?_
      exact KI.ret C hr hlk M h rfl ⟨rfl, by simp [mStops, c4, c11]⟩ (by decide) (by decide) dM_stops_19
    · refine lv_iconst (v := 1) hx hb dM_stops_14 (by decide) ?_
      refine lv_goto (tgt := 19) hx hb dM_stops_15 (by decide) ?_
      exact KI.ret C hr hlk M h rfl ⟨rfl, by simp [mStops, c4, c11]⟩ (by decide) (by decide) dM_stops_19

set_option maxHeartbeats 4000000 in
set_option maxRecDepth 100000 in
/-- run without a RUN -/
theorem t_run (l : Launch) (g : GG) (o : Nat) (ad : Nat → Nat) (M : MS) (a1 : Int32) (hruns : M.1 m_runs = 0) : KI l yM_run cM_run 5 (some .int) (rD 0 0 0) g (mW g o ad M) (mW g o ad) [.ref o, .int (a1)] (fun (r : Int32) (M' : MS) => M' = M ∧ r = -1) := by
  refine KI.of (by decide) (Nat.le_of_ble_eq_true rfl) ?_
  intro p e s m below meth c A ls C hr hlk hnm h hl
  have hx := C.1.1
  have hb := C.1.2.1
  have hl : lv_has ls 5 [(0, .ref o), (1, .int (a1))] := hl
  refine lv_aload_n hx hb dM_run_0 rfl (lv_at hl 0 rfl) ?_
  refine mgi C h m_runs (by decide) rfl (v := 0) hruns rfl dM_run_1 ?_
  refine lv_if_eq (tgt := 19) hx hb dM_run_4 (by decide) (fun c4 => ?_) (fun c4 => absurd c4 (by decide))
  refine lv_iconst (v := -1) hx hb dM_run_19 (by decide) ?_
  exact KI.ret C hr hlk M h rfl ⟨rfl, rfl⟩ (by decide) (by decide) dM_run_20

set_option maxHeartbeats 4000000 in
set_option maxRecDepth 100000 in
/-- go without a RUN -/
theorem t_go (l : Launch) (g : GG) (o : Nat) (ad : Nat → Nat) (M : MS) (a1 : Int32) (hruns : M.1 m_runs = 0) : KI l yM_go cM_go 4 (some .int) (rD 0 0 0) g (mW g o ad M) (mW g o ad) [.ref o, .int (a1)] (fun (r : Int32) (M' : MS) => M' = M ∧ r = -1) := by
  refine KI.of (by decide) (Nat.le_of_ble_eq_true rfl) ?_
  intro p e s m below meth c A ls C hr hlk hnm h hl
  have hx := C.1.1
  have hb := C.1.2.1
  have hl : lv_has ls 4 [(0, .ref o), (1, .int (a1))] := hl
  refine lv_aload_n hx hb dM_go_0 rfl (lv_at hl 0 rfl) ?_
  refine mgi C h m_runs (by decide) rfl (v := 0) hruns rfl dM_go_1 ?_
  refine lv_if_ne (tgt := 9) hx hb dM_go_4 (by decide) (fun c4 => absurd c4 (by decide)) (fun c4 => ?_)
  refine lv_iconst (v := -1) hx hb dM_go_7 (by decide) ?_
  exact KI.ret C hr hlk M h rfl ⟨rfl, rfl⟩ (by decide) (by decide) dM_go_8

set_option maxHeartbeats 4000000 in
set_option maxRecDepth 100000 in
/-- none without a RUN -/
theorem t_none (l : Launch) (g : GG) (o : Nat) (ad : Nat → Nat) (M : MS) (a1 : Int32) (a2 : Int32) (hruns : M.1 m_runs = 0) : KI l yM_none cM_none 5 (some .int) (rD 0 0 0) g (mW g o ad M) (mW g o ad) [.ref o, .int (a1), .int (a2)] (fun (r : Int32) (M' : MS) => M' = M ∧ r = -1) := by
  refine KI.of (by decide) (Nat.le_of_ble_eq_true rfl) ?_
  intro p e s m below meth c A ls C hr hlk hnm h hl
  have hx := C.1.1
  have hb := C.1.2.1
  have hl : lv_has ls 5 [(0, .ref o), (1, .int (a1)), (2, .int (a2))] := hl
  refine lv_aload_n hx hb dM_none_0 rfl (lv_at hl 0 rfl) ?_
  refine mgi C h m_runs (by decide) rfl (v := 0) hruns rfl dM_none_1 ?_
  refine lv_if_ne (tgt := 9) hx hb dM_none_4 (by decide) (fun c4 => absurd c4 (by decide)) (fun c4 => ?_)
  refine lv_iconst (v := -1) hx hb dM_none_7 (by decide) ?_
  exact KI.ret C hr hlk M h rfl ⟨rfl, rfl⟩ (by decide) (by decide) dM_none_8

set_option maxHeartbeats 4000000 in
set_option maxRecDepth 100000 in
/-- wait without a RUN -/
theorem t_wait (l : Launch) (g : GG) (o : Nat) (ad : Nat → Nat) (M : MS) (a1 : Int32) (hruns : M.1 m_runs = 0) : KI l yM_wait cM_wait 2 (some .int) (rD 0 0 0) g (mW g o ad M) (mW g o ad) [.ref o, .int (a1)] (fun (r : Int32) (M' : MS) => M' = M ∧ r = -1) := by
  refine KI.of (by decide) (Nat.le_of_ble_eq_true rfl) ?_
  intro p e s m below meth c A ls C hr hlk hnm h hl
  have hx := C.1.1
  have hb := C.1.2.1
  have hl : lv_has ls 2 [(0, .ref o), (1, .int (a1))] := hl
  refine lv_aload_n hx hb dM_wait_0 rfl (lv_at hl 0 rfl) ?_
  refine mgi C h m_runs (by decide) rfl (v := 0) hruns rfl dM_wait_1 ?_
  refine lv_if_eq (tgt := 18) hx hb dM_wait_4 (by decide) (fun c4 => ?_) (fun c4 => absurd c4 (by decide))
  refine lv_iconst (v := -1) hx hb dM_wait_18 (by decide) ?_
  exact KI.ret C hr hlk M h rfl ⟨rfl, rfl⟩ (by decide) (by decide) dM_wait_19

set_option maxHeartbeats 4000000 in
set_option maxRecDepth 100000 in
/-- alive without a RUN -/
theorem t_alive (l : Launch) (g : GG) (o : Nat) (ad : Nat → Nat) (M : MS) (a1 : Int32) (hruns : M.1 m_runs = 0) : KI l yM_alive cM_alive 2 (some .int) (rD 0 0 0) g (mW g o ad M) (mW g o ad) [.ref o, .int (a1)] (fun (r : Int32) (M' : MS) => M' = M ∧ r = -1) := by
  refine KI.of (by decide) (Nat.le_of_ble_eq_true rfl) ?_
  intro p e s m below meth c A ls C hr hlk hnm h hl
  have hx := C.1.1
  have hb := C.1.2.1
  have hl : lv_has ls 2 [(0, .ref o), (1, .int (a1))] := hl
  refine lv_aload_n hx hb dM_alive_0 rfl (lv_at hl 0 rfl) ?_
  refine mgi C h m_runs (by decide) rfl (v := 0) hruns rfl dM_alive_1 ?_
  refine lv_if_eq (tgt := 33) hx hb dM_alive_4 (by decide) (fun c4 => ?_) (fun c4 => absurd c4 (by decide))
  refine lv_iconst (v := -1) hx hb dM_alive_33 (by decide) ?_
  exact KI.ret C hr hlk M h rfl ⟨rfl, rfl⟩ (by decide) (by decide) dM_alive_34

set_option maxHeartbeats 4000000 in
set_option maxRecDepth 100000 in
/-- way without a RUN -/
theorem t_way (l : Launch) (g : GG) (o : Nat) (ad : Nat → Nat) (M : MS) (a1 : Int32) (a2 : Int32) (a3 : Int32) (hruns : M.1 m_runs = 0) : KI l yM_way cM_way 4 (some .int) (rD 0 0 0) g (mW g o ad M) (mW g o ad) [.ref o, .int (a1), .int (a2), .int (a3)] (fun (r : Int32) (M' : MS) => M' = M ∧ r = -1) := by
  refine KI.of (by decide) (Nat.le_of_ble_eq_true rfl) ?_
  intro p e s m below meth c A ls C hr hlk hnm h hl
  have hx := C.1.1
  have hb := C.1.2.1
  have hl : lv_has ls 4 [(0, .ref o), (1, .int (a1)), (2, .int (a2)), (3, .int (a3))] := hl
  refine lv_aload_n hx hb dM_way_0 rfl (lv_at hl 0 rfl) ?_
  refine mgi C h m_runs (by decide) rfl (v := 0) hruns rfl dM_way_1 ?_
  refine lv_if_eq (tgt := 46) hx hb dM_way_4 (by decide) (fun c4 => ?_) (fun c4 => absurd c4 (by decide))
  refine lv_iconst (v := -1) hx hb dM_way_46 (by decide) ?_
  exact KI.ret C hr hlk M h rfl ⟨rfl, rfl⟩ (by decide) (by decide) dM_way_47

set_option maxHeartbeats 4000000 in
set_option maxRecDepth 100000 in
/-- out without a RUN -/
theorem t_out (l : Launch) (g : GG) (o : Nat) (ad : Nat → Nat) (M : MS) (a1 : Int32) (a2 : Int32) (hruns : M.1 m_runs = 0) : KI l yM_out cM_out 3 (some .int) (rD 0 0 0) g (mW g o ad M) (mW g o ad) [.ref o, .int (a1), .int (a2)] (fun (r : Int32) (M' : MS) => M' = M ∧ r = -1) := by
  refine KI.of (by decide) (Nat.le_of_ble_eq_true rfl) ?_
  intro p e s m below meth c A ls C hr hlk hnm h hl
  have hx := C.1.1
  have hb := C.1.2.1
  have hl : lv_has ls 3 [(0, .ref o), (1, .int (a1)), (2, .int (a2))] := hl
  refine lv_aload_n hx hb dM_out_0 rfl (lv_at hl 0 rfl) ?_
  refine mgi C h m_runs (by decide) rfl (v := 0) hruns rfl dM_out_1 ?_
  refine lv_if_eq (tgt := 28) hx hb dM_out_4 (by decide) (fun c4 => ?_) (fun c4 => absurd c4 (by decide))
  refine lv_iconst (v := -1) hx hb dM_out_28 (by decide) ?_
  exact KI.ret C hr hlk M h rfl ⟨rfl, rfl⟩ (by decide) (by decide) dM_out_29

set_option maxHeartbeats 4000000 in
set_option maxRecDepth 100000 in
/-- event without a RUN -/
theorem t_event (l : Launch) (g : GG) (o : Nat) (ad : Nat → Nat) (M : MS) (a1 : Int32) (a2 : Int32) (hruns : M.1 m_runs = 0) : KI l yM_event cM_event 3 (some .int) (rD 0 0 0) g (mW g o ad M) (mW g o ad) [.ref o, .int (a1), .int (a2)] (fun (r : Int32) (M' : MS) => M' = M ∧ r = -1) := by
  refine KI.of (by decide) (Nat.le_of_ble_eq_true rfl) ?_
  intro p e s m below meth c A ls C hr hlk hnm h hl
  have hx := C.1.1
  have hb := C.1.2.1
  have hl : lv_has ls 3 [(0, .ref o), (1, .int (a1)), (2, .int (a2))] := hl
  refine lv_aload_n hx hb dM_event_0 rfl (lv_at hl 0 rfl) ?_
  refine mgi C h m_runs (by decide) rfl (v := 0) hruns rfl dM_event_1 ?_
  refine lv_if_eq (tgt := 28) hx hb dM_event_4 (by decide) (fun c4 => ?_) (fun c4 => absurd c4 (by decide))
  refine lv_iconst (v := -1) hx hb dM_event_28 (by decide) ?_
  exact KI.ret C hr hlk M h rfl ⟨rfl, rfl⟩ (by decide) (by decide) dM_event_29

set_option maxHeartbeats 4000000 in
set_option maxRecDepth 100000 in
/-- search without a RUN -/
theorem t_search (l : Launch) (g : GG) (o : Nat) (ad : Nat → Nat) (M : MS) (a1 : Int32) (hruns : M.1 m_runs = 0) : KI l yM_search cM_search 3 (some .int) (rD 0 0 0) g (mW g o ad M) (mW g o ad) [.ref o, .int (a1)] (fun (r : Int32) (M' : MS) => M' = M ∧ r = -1) := by
  refine KI.of (by decide) (Nat.le_of_ble_eq_true rfl) ?_
  intro p e s m below meth c A ls C hr hlk hnm h hl
  have hx := C.1.1
  have hb := C.1.2.1
  have hl : lv_has ls 3 [(0, .ref o), (1, .int (a1))] := hl
  refine lv_aload_n hx hb dM_search_0 rfl (lv_at hl 0 rfl) ?_
  refine mgi C h m_runs (by decide) rfl (v := 0) hruns rfl dM_search_1 ?_
  refine lv_if_eq (tgt := 19) hx hb dM_search_4 (by decide) (fun c4 => ?_) (fun c4 => absurd c4 (by decide))
  refine lv_iconst (v := -1) hx hb dM_search_19 (by decide) ?_
  exact KI.ret C hr hlk M h rfl ⟨rfl, rfl⟩ (by decide) (by decide) dM_search_20

set_option maxHeartbeats 4000000 in
set_option maxRecDepth 100000 in
/-- first without a RUN -/
theorem t_first (l : Launch) (g : GG) (o : Nat) (ad : Nat → Nat) (M : MS) (a1 : Int32) (a2 : Int32) (a3 : Int32) (hruns : M.1 m_runs = 0) : KI l yM_first cM_first 6 (some .int) (rD 0 0 0) g (mW g o ad M) (mW g o ad) [.ref o, .int (a1), .int (a2), .int (a3)] (fun (r : Int32) (M' : MS) => M' = M ∧ r = -1) := by
  refine KI.of (by decide) (Nat.le_of_ble_eq_true rfl) ?_
  intro p e s m below meth c A ls C hr hlk hnm h hl
  have hx := C.1.1
  have hb := C.1.2.1
  have hl : lv_has ls 6 [(0, .ref o), (1, .int (a1)), (2, .int (a2)), (3, .int (a3))] := hl
  refine lv_aload_n hx hb dM_first_0 rfl (lv_at hl 0 rfl) ?_
  refine mgi C h m_runs (by decide) rfl (v := 0) hruns rfl dM_first_1 ?_
  refine lv_if_eq (tgt := 16) hx hb dM_first_4 (by decide) (fun c4 => ?_) (fun c4 => absurd c4 (by decide))
  refine lv_iconst (v := -1) hx hb dM_first_16 (by decide) ?_
  exact KI.ret C hr hlk M h rfl ⟨rfl, rfl⟩ (by decide) (by decide) dM_first_17

set_option maxHeartbeats 4000000 in
set_option maxRecDepth 100000 in
/-- visit without a RUN -/
theorem t_visit (l : Launch) (g : GG) (o : Nat) (ad : Nat → Nat) (M : MS) (a1 : Int32) (hruns : M.1 m_runs = 0) : KI l yM_visit cM_visit 4 (some .int) (rD 0 0 0) g (mW g o ad M) (mW g o ad) [.ref o, .int (a1)] (fun (r : Int32) (M' : MS) => M' = M ∧ r = -1) := by
  refine KI.of (by decide) (Nat.le_of_ble_eq_true rfl) ?_
  intro p e s m below meth c A ls C hr hlk hnm h hl
  have hx := C.1.1
  have hb := C.1.2.1
  have hl : lv_has ls 4 [(0, .ref o), (1, .int (a1))] := hl
  refine lv_aload_n hx hb dM_visit_0 rfl (lv_at hl 0 rfl) ?_
  refine mgi C h m_runs (by decide) rfl (v := 0) hruns rfl dM_visit_1 ?_
  refine lv_if_ne (tgt := 9) hx hb dM_visit_4 (by decide) (fun c4 => absurd c4 (by decide)) (fun c4 => ?_)
  refine lv_iconst (v := -1) hx hb dM_visit_7 (by decide) ?_
  exact KI.ret C hr hlk M h rfl ⟨rfl, rfl⟩ (by decide) (by decide) dM_visit_8

set_option maxHeartbeats 4000000 in
set_option maxRecDepth 100000 in
/-- slotAsked without a RUN -/
theorem t_slotAsked (l : Launch) (g : GG) (o : Nat) (ad : Nat → Nat) (M : MS) (a1 : Int32) (hruns : M.1 m_runs = 0) : KI l yM_slotAsked cM_slotAsked 2 (some .int) (rD 0 0 0) g (mW g o ad M) (mW g o ad) [.ref o, .int (a1)] (fun (r : Int32) (M' : MS) => M' = M ∧ r = -1) := by
  refine KI.of (by decide) (Nat.le_of_ble_eq_true rfl) ?_
  intro p e s m below meth c A ls C hr hlk hnm h hl
  have hx := C.1.1
  have hb := C.1.2.1
  have hl : lv_has ls 2 [(0, .ref o), (1, .int (a1))] := hl
  refine lv_aload_n hx hb dM_slotAsked_0 rfl (lv_at hl 0 rfl) ?_
  refine mgi C h m_runs (by decide) rfl (v := 0) hruns rfl dM_slotAsked_1 ?_
  refine lv_if_eq (tgt := 19) hx hb dM_slotAsked_4 (by decide) (fun c4 => ?_) (fun c4 => absurd c4 (by decide))
  refine lv_iconst (v := -1) hx hb dM_slotAsked_19 (by decide) ?_
  exact KI.ret C hr hlk M h rfl ⟨rfl, rfl⟩ (by decide) (by decide) dM_slotAsked_20

