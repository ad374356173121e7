def mStops (M : MS) : Int32 := if M.1 m_fault ≤ 0 then 0 else if M.1 m_judges = 0 then 1 else 0
set_option maxHeartbeats 4000000 in
set_option maxRecDepth 100000 in
/-- stops() -/
theorem t_stops (l : Launch) (g : GG) (o : Nat) (ad : Nat → Nat) (M : MS)  : KI l yM_stops cM_stops 1 (some .boolean) (rD 0 0 0) g (mW g o ad M) (mW g o ad) [.ref o] (fun (r : Int32) (M' : MS) => M' = M ∧ r = mStops M) := by
  refine KI.of (by decide) (Nat.le_of_ble_eq_true rfl) ?_
  intro p e s m below meth c A ls C hr hlk hnm h hl
  have hx := C.1.1
  have hb := C.1.2.1
  have hl : lv_has ls 1 [(0, .ref o)] := hl
  refine lv_aload_n hx hb dM_stops_0 rfl (lv_at hl 0 rfl) ?_
  refine mgi C h m_fault (by decide) rfl (v := M.1 m_fault) rfl rfl dM_stops_1 ?_
  refine lv_if_le (tgt := 18) hx hb dM_stops_4 (by decide) (fun c4 => ?_) (fun c4 => ?_)
  · refine lv_iconst (v := 0) hx hb dM_stops_18 (by decide) ?_
    exact KI.ret C hr hlk M h rfl ⟨rfl, by simp [mStops, c4]⟩ (by decide) (by decide) dM_stops_19
  · refine lv_aload_n hx hb dM_stops_7 rfl (lv_at hl 0 rfl) ?_
    refine mgi C h m_judges (by decide) rfl (v := M.1 m_judges) rfl rfl dM_stops_8 ?_
    refine lv_if_ne (tgt := 18) hx hb dM_stops_11 (by decide) (fun c11 => ?_) (fun c11 => ?_)
    · refine lv_iconst (v := 0) hx hb dM_stops_18 (by decide) ?_
      exact KI.ret C hr hlk M h rfl ⟨rfl, by simp [mStops, c4, c11]⟩ (by decide) (by decide) dM_stops_19
    · refine lv_iconst (v := 1) hx hb dM_stops_14 (by decide) ?_
      refine lv_goto (tgt := 19) hx hb dM_stops_15 (by decide) ?_
      exact KI.ret C hr hlk M h rfl ⟨rfl, by simp [mStops, c4, c11]⟩ (by decide) (by decide) dM_stops_19

set_option maxHeartbeats 4000000 in
set_option maxRecDepth 100000 in
/-- run without a RUN (a system) -/
theorem t_run (l : Launch) (g : GG) (o : Nat) (ad : Nat → Nat) (M : MS) (a1 : Int32) (hruns : M.1 m_runs = 0) : KI l yM_run cM_run 5 (some .int) (rD 0 0 0) g (mW g o ad M) (mW g o ad) [.ref o, .int (a1)] (fun (r : Int32) (M' : MS) => M' = M ∧ r = -1) := by
  refine KI.of (by decide) (Nat.le_of_ble_eq_true rfl) ?_
  intro p e s m below meth c A ls C hr hlk hnm h hl
  have hx := C.1.1
  have hb := C.1.2.1
  have hl : lv_has ls 5 [(0, .ref o), (1, .int (a1))] := hl
  refine lv_aload_n hx hb dM_run_0 rfl (lv_at hl 0 rfl) ?_
  refine mgi C h m_runs (by decide) rfl (v := 0) hruns rfl dM_run_1 ?_
  refine lv_if_eq (tgt := 19) hx hb dM_run_4 (by decide) (fun c4 => ?_) (fun c4 => absurd c4 (by decide))
  refine lv_iconst (v := -1) hx hb dM_run_19 (by decide) ?_
  exact KI.ret C hr hlk M h rfl ⟨rfl, rfl⟩ (by decide) (by decide) dM_run_20

set_option maxHeartbeats 4000000 in
set_option maxRecDepth 100000 in
/-- go without a RUN (a system) -/
theorem t_go (l : Launch) (g : GG) (o : Nat) (ad : Nat → Nat) (M : MS) (a1 : Int32) (hruns : M.1 m_runs = 0) : KI l yM_go cM_go 4 (some .int) (rD 0 0 0) g (mW g o ad M) (mW g o ad) [.ref o, .int (a1)] (fun (r : Int32) (M' : MS) => M' = M ∧ r = -1) := by
  refine KI.of (by decide) (Nat.le_of_ble_eq_true rfl) ?_
  intro p e s m below meth c A ls C hr hlk hnm h hl
  have hx := C.1.1
  have hb := C.1.2.1
  have hl : lv_has ls 4 [(0, .ref o), (1, .int (a1))] := hl
  refine lv_aload_n hx hb dM_go_0 rfl (lv_at hl 0 rfl) ?_
  refine mgi C h m_runs (by decide) rfl (v := 0) hruns rfl dM_go_1 ?_
  refine lv_if_ne (tgt := 9) hx hb dM_go_4 (by decide) (fun c4 => absurd c4 (by decide)) (fun c4 => ?_)
  refine lv_iconst (v := -1) hx hb dM_go_7 (by decide) ?_
  exact KI.ret C hr hlk M h rfl ⟨rfl, rfl⟩ (by decide) (by decide) dM_go_8

set_option maxHeartbeats 4000000 in
set_option maxRecDepth 100000 in
/-- none without a RUN (a system) -/
theorem t_none (l : Launch) (g : GG) (o : Nat) (ad : Nat → Nat) (M : MS) (a1 : Int32) (a2 : Int32) (hruns : M.1 m_runs = 0) : KI l yM_none cM_none 5 (some .int) (rD 0 0 0) g (mW g o ad M) (mW g o ad) [.ref o, .int (a1), .int (a2)] (fun (r : Int32) (M' : MS) => M' = M ∧ r = -1) := by
  refine KI.of (by decide) (Nat.le_of_ble_eq_true rfl) ?_
  intro p e s m below meth c A ls C hr hlk hnm h hl
  have hx := C.1.1
  have hb := C.1.2.1
  have hl : lv_has ls 5 [(0, .ref o), (1, .int (a1)), (2, .int (a2))] := hl
  refine lv_aload_n hx hb dM_none_0 rfl (lv_at hl 0 rfl) ?_
  refine mgi C h m_runs (by decide) rfl (v := 0) hruns rfl dM_none_1 ?_
  refine lv_if_ne (tgt := 9) hx hb dM_none_4 (by decide) (fun c4 => absurd c4 (by decide)) (fun c4 => ?_)
  refine lv_iconst (v := -1) hx hb dM_none_7 (by decide) ?_
  exact KI.ret C hr hlk M h rfl ⟨rfl, rfl⟩ (by decide) (by decide) dM_none_8

set_option maxHeartbeats 4000000 in
set_option maxRecDepth 100000 in
/-- wait without a RUN (a system) -/
theorem t_wait (l : Launch) (g : GG) (o : Nat) (ad : Nat → Nat) (M : MS) (a1 : Int32) (hruns : M.1 m_runs = 0) : KI l yM_wait cM_wait 2 (some .int) (rD 0 0 0) g (mW g o ad M) (mW g o ad) [.ref o, .int (a1)] (fun (r : Int32) (M' : MS) => M' = M ∧ r = -1) := by
  refine KI.of (by decide) (Nat.le_of_ble_eq_true rfl) ?_
  intro p e s m below meth c A ls C hr hlk hnm h hl
  have hx := C.1.1
  have hb := C.1.2.1
  have hl : lv_has ls 2 [(0, .ref o), (1, .int (a1))] := hl
  refine lv_aload_n hx hb dM_wait_0 rfl (lv_at hl 0 rfl) ?_
  refine mgi C h m_runs (by decide) rfl (v := 0) hruns rfl dM_wait_1 ?_
  refine lv_if_eq (tgt := 18) hx hb dM_wait_4 (by decide) (fun c4 => ?_) (fun c4 => absurd c4 (by decide))
  refine lv_iconst (v := -1) hx hb dM_wait_18 (by decide) ?_
  exact KI.ret C hr hlk M h rfl ⟨rfl, rfl⟩ (by decide) (by decide) dM_wait_19

set_option maxHeartbeats 4000000 in
set_option maxRecDepth 100000 in
/-- alive without a RUN (a system) -/
theorem t_alive (l : Launch) (g : GG) (o : Nat) (ad : Nat → Nat) (M : MS) (a1 : Int32) (hruns : M.1 m_runs = 0) : KI l yM_alive cM_alive 2 (some .int) (rD 0 0 0) g (mW g o ad M) (mW g o ad) [.ref o, .int (a1)] (fun (r : Int32) (M' : MS) => M' = M ∧ r = -1) := by
  refine KI.of (by decide) (Nat.le_of_ble_eq_true rfl) ?_
  intro p e s m below meth c A ls C hr hlk hnm h hl
  have hx := C.1.1
  have hb := C.1.2.1
  have hl : lv_has ls 2 [(0, .ref o), (1, .int (a1))] := hl
  refine lv_aload_n hx hb dM_alive_0 rfl (lv_at hl 0 rfl) ?_
  refine mgi C h m_runs (by decide) rfl (v := 0) hruns rfl dM_alive_1 ?_
  refine lv_if_eq (tgt := 33) hx hb dM_alive_4 (by decide) (fun c4 => ?_) (fun c4 => absurd c4 (by decide))
  refine lv_iconst (v := -1) hx hb dM_alive_33 (by decide) ?_
  exact KI.ret C hr hlk M h rfl ⟨rfl, rfl⟩ (by decide) (by decide) dM_alive_34

set_option maxHeartbeats 4000000 in
set_option maxRecDepth 100000 in
/-- way without a RUN (a system) -/
theorem t_way (l : Launch) (g : GG) (o : Nat) (ad : Nat → Nat) (M : MS) (a1 : Int32) (a2 : Int32) (a3 : Int32) (hruns : M.1 m_runs = 0) : KI l yM_way cM_way 4 (some .int) (rD 0 0 0) g (mW g o ad M) (mW g o ad) [.ref o, .int (a1), .int (a2), .int (a3)] (fun (r : Int32) (M' : MS) => M' = M ∧ r = -1) := by
  refine KI.of (by decide) (Nat.le_of_ble_eq_true rfl) ?_
  intro p e s m below meth c A ls C hr hlk hnm h hl
  have hx := C.1.1
  have hb := C.1.2.1
  have hl : lv_has ls 4 [(0, .ref o), (1, .int (a1)), (2, .int (a2)), (3, .int (a3))] := hl
  refine lv_aload_n hx hb dM_way_0 rfl (lv_at hl 0 rfl) ?_
  refine mgi C h m_runs (by decide) rfl (v := 0) hruns rfl dM_way_1 ?_
  refine lv_if_eq (tgt := 46) hx hb dM_way_4 (by decide) (fun c4 => ?_) (fun c4 => absurd c4 (by decide))
  refine lv_iconst (v := -1) hx hb dM_way_46 (by decide) ?_
  exact KI.ret C hr hlk M h rfl ⟨rfl, rfl⟩ (by decide) (by decide) dM_way_47

set_option maxHeartbeats 4000000 in
set_option maxRecDepth 100000 in
/-- out without a RUN (a system) -/
theorem t_out (l : Launch) (g : GG) (o : Nat) (ad : Nat → Nat) (M : MS) (a1 : Int32) (a2 : Int32) (hruns : M.1 m_runs = 0) : KI l yM_out cM_out 3 (some .int) (rD 0 0 0) g (mW g o ad M) (mW g o ad) [.ref o, .int (a1), .int (a2)] (fun (r : Int32) (M' : MS) => M' = M ∧ r = -1) := by
  refine KI.of (by decide) (Nat.le_of_ble_eq_true rfl) ?_
  intro p e s m below meth c A ls C hr hlk hnm h hl
  have hx := C.1.1
  have hb := C.1.2.1
  have hl : lv_has ls 3 [(0, .ref o), (1, .int (a1)), (2, .int (a2))] := hl
  refine lv_aload_n hx hb dM_out_0 rfl (lv_at hl 0 rfl) ?_
  refine mgi C h m_runs (by decide) rfl (v := 0) hruns rfl dM_out_1 ?_
  refine lv_if_eq (tgt := 28) hx hb dM_out_4 (by decide) (fun c4 => ?_) (fun c4 => absurd c4 (by decide))
  refine lv_iconst (v := -1) hx hb dM_out_28 (by decide) ?_
  exact KI.ret C hr hlk M h rfl ⟨rfl, rfl⟩ (by decide) (by decide) dM_out_29

set_option maxHeartbeats 4000000 in
set_option maxRecDepth 100000 in
/-- event without a RUN (a system) -/
theorem t_event (l : Launch) (g : GG) (o : Nat) (ad : Nat → Nat) (M : MS) (a1 : Int32) (a2 : Int32) (hruns : M.1 m_runs = 0) : KI l yM_event cM_event 3 (some .int) (rD 0 0 0) g (mW g o ad M) (mW g o ad) [.ref o, .int (a1), .int (a2)] (fun (r : Int32) (M' : MS) => M' = M ∧ r = -1) := by
  refine KI.of (by decide) (Nat.le_of_ble_eq_true rfl) ?_
  intro p e s m below meth c A ls C hr hlk hnm h hl
  have hx := C.1.1
  have hb := C.1.2.1
  have hl : lv_has ls 3 [(0, .ref o), (1, .int (a1)), (2, .int (a2))] := hl
  refine lv_aload_n hx hb dM_event_0 rfl (lv_at hl 0 rfl) ?_
  refine mgi C h m_runs (by decide) rfl (v := 0) hruns rfl dM_event_1 ?_
  refine lv_if_eq (tgt := 28) hx hb dM_event_4 (by decide) (fun c4 => ?_) (fun c4 => absurd c4 (by decide))
  refine lv_iconst (v := -1) hx hb dM_event_28 (by decide) ?_
  exact KI.ret C hr hlk M h rfl ⟨rfl, rfl⟩ (by decide) (by decide) dM_event_29

set_option maxHeartbeats 4000000 in
set_option maxRecDepth 100000 in
/-- search without a RUN (a system) -/
theorem t_search (l : Launch) (g : GG) (o : Nat) (ad : Nat → Nat) (M : MS) (a1 : Int32) (hruns : M.1 m_runs = 0) : KI l yM_search cM_search 3 (some .int) (rD 0 0 0) g (mW g o ad M) (mW g o ad) [.ref o, .int (a1)] (fun (r : Int32) (M' : MS) => M' = M ∧ r = -1) := by
  refine KI.of (by decide) (Nat.le_of_ble_eq_true rfl) ?_
  intro p e s m below meth c A ls C hr hlk hnm h hl
  have hx := C.1.1
  have hb := C.1.2.1
  have hl : lv_has ls 3 [(0, .ref o), (1, .int (a1))] := hl
  refine lv_aload_n hx hb dM_search_0 rfl (lv_at hl 0 rfl) ?_
  refine mgi C h m_runs (by decide) rfl (v := 0) hruns rfl dM_search_1 ?_
  refine lv_if_eq (tgt := 19) hx hb dM_search_4 (by decide) (fun c4 => ?_) (fun c4 => absurd c4 (by decide))
  refine lv_iconst (v := -1) hx hb dM_search_19 (by decide) ?_
  exact KI.ret C hr hlk M h rfl ⟨rfl, rfl⟩ (by decide) (by decide) dM_search_20

set_option maxHeartbeats 4000000 in
set_option maxRecDepth 100000 in
/-- state without a RUN (a system) -/
theorem t_state (l : Launch) (g : GG) (o : Nat) (ad : Nat → Nat) (M : MS) (a1 : Int32) (a2 : Int32) (hruns : M.1 m_runs = 0) : KI l yM_state cM_state 3 (some .int) (rD 0 0 0) g (mW g o ad M) (mW g o ad) [.ref o, .int (a1), .int (a2)] (fun (r : Int32) (M' : MS) => M' = M ∧ r = -1) := by
  refine KI.of (by decide) (Nat.le_of_ble_eq_true rfl) ?_
  intro p e s m below meth c A ls C hr hlk hnm h hl
  have hx := C.1.1
  have hb := C.1.2.1
  have hl : lv_has ls 3 [(0, .ref o), (1, .int (a1)), (2, .int (a2))] := hl
  refine lv_aload_n hx hb dM_state_0 rfl (lv_at hl 0 rfl) ?_
  refine mgi C h m_runs (by decide) rfl (v := 0) hruns rfl dM_state_1 ?_
  refine lv_if_eq (tgt := 19) hx hb dM_state_4 (by decide) (fun c4 => ?_) (fun c4 => absurd c4 (by decide))
  refine lv_iconst (v := -1) hx hb dM_state_19 (by decide) ?_
  exact KI.ret C hr hlk M h rfl ⟨rfl, rfl⟩ (by decide) (by decide) dM_state_20

set_option maxHeartbeats 4000000 in
set_option maxRecDepth 100000 in
/-- first without a RUN (a system) -/
theorem t_first (l : Launch) (g : GG) (o : Nat) (ad : Nat → Nat) (M : MS) (a1 : Int32) (a2 : Int32) (a3 : Int32) (hruns : M.1 m_runs = 0) : KI l yM_first cM_first 6 (some .int) (rD 0 0 0) g (mW g o ad M) (mW g o ad) [.ref o, .int (a1), .int (a2), .int (a3)] (fun (r : Int32) (M' : MS) => M' = M ∧ r = -1) := by
  refine KI.of (by decide) (Nat.le_of_ble_eq_true rfl) ?_
  intro p e s m below meth c A ls C hr hlk hnm h hl
  have hx := C.1.1
  have hb := C.1.2.1
  have hl : lv_has ls 6 [(0, .ref o), (1, .int (a1)), (2, .int (a2)), (3, .int (a3))] := hl
  refine lv_aload_n hx hb dM_first_0 rfl (lv_at hl 0 rfl) ?_
  refine mgi C h m_runs (by decide) rfl (v := 0) hruns rfl dM_first_1 ?_
  refine lv_if_eq (tgt := 16) hx hb dM_first_4 (by decide) (fun c4 => ?_) (fun c4 => absurd c4 (by decide))
  refine lv_iconst (v := -1) hx hb dM_first_16 (by decide) ?_
  exact KI.ret C hr hlk M h rfl ⟨rfl, rfl⟩ (by decide) (by decide) dM_first_17

set_option maxHeartbeats 4000000 in
set_option maxRecDepth 100000 in
/-- visit without a RUN (a system) -/
theorem t_visit (l : Launch) (g : GG) (o : Nat) (ad : Nat → Nat) (M : MS) (a1 : Int32) (hruns : M.1 m_runs = 0) : KI l yM_visit cM_visit 4 (some .int) (rD 0 0 0) g (mW g o ad M) (mW g o ad) [.ref o, .int (a1)] (fun (r : Int32) (M' : MS) => M' = M ∧ r = -1) := by
  refine KI.of (by decide) (Nat.le_of_ble_eq_true rfl) ?_
  intro p e s m below meth c A ls C hr hlk hnm h hl
  have hx := C.1.1
  have hb := C.1.2.1
  have hl : lv_has ls 4 [(0, .ref o), (1, .int (a1))] := hl
  refine lv_aload_n hx hb dM_visit_0 rfl (lv_at hl 0 rfl) ?_
  refine mgi C h m_runs (by decide) rfl (v := 0) hruns rfl dM_visit_1 ?_
  refine lv_if_ne (tgt := 9) hx hb dM_visit_4 (by decide) (fun c4 => absurd c4 (by decide)) (fun c4 => ?_)
  refine lv_iconst (v := -1) hx hb dM_visit_7 (by decide) ?_
  exact KI.ret C hr hlk M h rfl ⟨rfl, rfl⟩ (by decide) (by decide) dM_visit_8

set_option maxHeartbeats 4000000 in
set_option maxRecDepth 100000 in
/-- slotAsked without a RUN (a system) -/
theorem t_slotAsked (l : Launch) (g : GG) (o : Nat) (ad : Nat → Nat) (M : MS) (a1 : Int32) (hruns : M.1 m_runs = 0) : KI l yM_slotAsked cM_slotAsked 2 (some .int) (rD 0 0 0) g (mW g o ad M) (mW g o ad) [.ref o, .int (a1)] (fun (r : Int32) (M' : MS) => M' = M ∧ r = -1) := by
  refine KI.of (by decide) (Nat.le_of_ble_eq_true rfl) ?_
  intro p e s m below meth c A ls C hr hlk hnm h hl
  have hx := C.1.1
  have hb := C.1.2.1
  have hl : lv_has ls 2 [(0, .ref o), (1, .int (a1))] := hl
  refine lv_aload_n hx hb dM_slotAsked_0 rfl (lv_at hl 0 rfl) ?_
  refine mgi C h m_runs (by decide) rfl (v := 0) hruns rfl dM_slotAsked_1 ?_
  refine lv_if_eq (tgt := 19) hx hb dM_slotAsked_4 (by decide) (fun c4 => ?_) (fun c4 => absurd c4 (by decide))
  refine lv_iconst (v := -1) hx hb dM_slotAsked_19 (by decide) ?_
  exact KI.ret C hr hlk M h rfl ⟨rfl, rfl⟩ (by decide) (by decide) dM_slotAsked_20

set_option maxHeartbeats 4000000 in
set_option maxRecDepth 100000 in
/-- put_ without a RUN (a system) -/
theorem t_put_ (l : Launch) (g : GG) (o : Nat) (ad : Nat → Nat) (M : MS) (a1 : Int32) (a2 : Int32) (a3 : Int32) (a4 : Int32) (a5 : Int32) (hruns : M.1 m_runs = 0) : KI l yM_put_ cM_put_ 10 (some .int) (rD 0 0 0) g (mW g o ad M) (mW g o ad) [.ref o, .int (a1), .int (a2), .int (a3), .int (a4), .int (a5)] (fun (r : Int32) (M' : MS) => M' = M ∧ r = -1) := by
  refine KI.of (by decide) (Nat.le_of_ble_eq_true rfl) ?_
  intro p e s m below meth c A ls C hr hlk hnm h hl
  have hx := C.1.1
  have hb := C.1.2.1
  have hl : lv_has ls 10 [(0, .ref o), (1, .int (a1)), (2, .int (a2)), (3, .int (a3)), (4, .int (a4)), (5, .int (a5))] := hl
  refine lv_aload_n hx hb dM_put__0 rfl (lv_at hl 0 rfl) ?_
  refine mgi C h m_runs (by decide) rfl (v := 0) hruns rfl dM_put__1 ?_
  refine lv_if_ne (tgt := 9) hx hb dM_put__4 (by decide) (fun c4 => absurd c4 (by decide)) (fun c4 => ?_)
  refine lv_iconst (v := -1) hx hb dM_put__7 (by decide) ?_
  exact KI.ret C hr hlk M h rfl ⟨rfl, rfl⟩ (by decide) (by decide) dM_put__8

set_option maxHeartbeats 4000000 in
set_option maxRecDepth 100000 in
/-- begin without a RUN (a system) -/
theorem t_begin (l : Launch) (g : GG) (o : Nat) (ad : Nat → Nat) (M : MS) (a1 : Int32) (hthere : M.1 m_there = 0) : KI l yM_begin cM_begin 4 (some .int) (rD 0 0 0) g (mW g o ad M) (mW g o ad) [.ref o, .int (a1)] (fun (r : Int32) (M' : MS) => M' = M ∧ r = -1) := by
  refine KI.of (by decide) (Nat.le_of_ble_eq_true rfl) ?_
  intro p e s m below meth c A ls C hr hlk hnm h hl
  have hx := C.1.1
  have hb := C.1.2.1
  have hl : lv_has ls 4 [(0, .ref o), (1, .int (a1))] := hl
  refine lv_aload_n hx hb dM_begin_0 rfl (lv_at hl 0 rfl) ?_
  refine mgi C h m_there (by decide) rfl (v := 0) hthere rfl dM_begin_1 ?_
  refine lv_if_ne (tgt := 9) hx hb dM_begin_4 (by decide) (fun c4 => absurd c4 (by decide)) (fun c4 => ?_)
  refine lv_iconst (v := -1) hx hb dM_begin_7 (by decide) ?_
  exact KI.ret C hr hlk M h rfl ⟨rfl, rfl⟩ (by decide) (by decide) dM_begin_8

set_option maxHeartbeats 4000000 in
set_option maxRecDepth 100000 in
/-- type without a RUN (a system) -/
theorem t_type (l : Launch) (g : GG) (o : Nat) (ad : Nat → Nat) (M : MS) (a1 : Int32) (a2 : Int32) (hthere : M.1 m_there = 0) : KI l yM_type cM_type 3 (some .int) (rD 0 0 0) g (mW g o ad M) (mW g o ad) [.ref o, .int (a1), .int (a2)] (fun (r : Int32) (M' : MS) => M' = M ∧ r = -1) := by
  refine KI.of (by decide) (Nat.le_of_ble_eq_true rfl) ?_
  intro p e s m below meth c A ls C hr hlk hnm h hl
  have hx := C.1.1
  have hb := C.1.2.1
  have hl : lv_has ls 3 [(0, .ref o), (1, .int (a1)), (2, .int (a2))] := hl
  refine lv_aload_n hx hb dM_type_0 rfl (lv_at hl 0 rfl) ?_
  refine mgi C h m_there (by decide) rfl (v := 0) hthere rfl dM_type_1 ?_
  refine lv_if_eq (tgt := 19) hx hb dM_type_4 (by decide) (fun c4 => ?_) (fun c4 => absurd c4 (by decide))
  refine lv_iconst (v := -1) hx hb dM_type_19 (by decide) ?_
  exact KI.ret C hr hlk M h rfl ⟨rfl, rfl⟩ (by decide) (by decide) dM_type_20

set_option maxHeartbeats 4000000 in
set_option maxRecDepth 100000 in
/-- place() -/
theorem t_place (l : Launch) (g : GG) (o : Nat) (ad : Nat → Nat) (M : MS)  : KI l yM_place cM_place 1 (some .int) (rD 0 0 0) g (mW g o ad M) (mW g o ad) [.ref o] (fun (r : Int32) (M' : MS) => M' = M ∧ r = M.1 m_place) := by
  refine KI.of (by decide) (Nat.le_of_ble_eq_true rfl) ?_
  intro p e s m below meth c A ls C hr hlk hnm h hl
  have hx := C.1.1
  have hb := C.1.2.1
  have hl : lv_has ls 1 [(0, .ref o)] := hl
  refine lv_aload_n hx hb dM_place_0 rfl (lv_at hl 0 rfl) ?_
  refine mgi C h m_place (by decide) rfl (v := M.1 m_place) rfl rfl dM_place_1 ?_
  exact KI.ret C hr hlk M h rfl ⟨rfl, rfl⟩ (by decide) (by decide) dM_place_4

set_option maxHeartbeats 4000000 in
set_option maxRecDepth 100000 in
/-- instance without a RUN -/
theorem t_instance (l : Launch) (g : GG) (o : Nat) (ad : Nat → Nat) (M : MS) (a1 : Int32) (a2 : Int32) (hruns : M.1 m_runs = 0) : KI l yM_instance cM_instance 5 (some .int) (rD 1 0 0) g (mW g o ad M) (mW g o ad) [.ref o, .int (a1), .int (a2)] (fun (r : Int32) (M' : MS) => M' = M ∧ r = -1) := by
  refine KI.of (by decide) (Nat.le_of_ble_eq_true rfl) ?_
  intro p e s m below meth c A ls C hr hlk hnm h hl
  have hx := C.1.1
  have hb := C.1.2.1
  have hl : lv_has ls 5 [(0, .ref o), (1, .int (a1)), (2, .int (a2))] := hl
  refine lv_aload_n hx hb dM_instance_0 rfl (lv_at hl 0 rfl) ?_
  refine lv_iload_n hx hb dM_instance_1 rfl (lv_at hl 1 rfl) ?_
  refine KI.callV (As := [.int (a1)]) (q0 := 0) (ci := 0) C h (t_slotAsked l g o ad M a1 hruns) vM_instance_1042 ⟨by decide, by decide⟩ rfl rfl hl.1 rfl (Nat.le_of_ble_eq_true rfl) dM_instance_2 ⟨by decide, by decide⟩ (fun r_1 u_2 H locs hp h => ?_)
  obtain ⟨eu, er⟩ := hp
  rw [eu] at h
  subst er
  refine lv_istore_n (lv' := [(3, .int (-1)), (0, .ref o), (1, .int (a1)), (2, .int (a2))]) hx hb dM_instance_5 rfl hl (by decide) rfl (fun ls hl => ?_)
  refine lv_iload_n hx hb dM_instance_6 rfl (lv_at hl 0 rfl) ?_
  refine lv_if_ge (tgt := 12) hx hb dM_instance_7 (by decide) (fun c7 => absurd c7 (by decide)) (fun c7 => ?_)
  refine lv_iconst (v := -1) hx hb dM_instance_10 (by decide) ?_
  exact KI.ret C hr hlk M h rfl ⟨rfl, rfl⟩ (by decide) (by decide) dM_instance_11

set_option maxHeartbeats 4000000 in
set_option maxRecDepth 100000 in
/-- cell without a RUN -/
theorem t_cell (l : Launch) (g : GG) (o : Nat) (ad : Nat → Nat) (M : MS) (a1 : Int32) (a2 : Int32) (hruns : M.1 m_runs = 0) : KI l yM_cell cM_cell 4 (some .int) (rD 1 0 0) g (mW g o ad M) (mW g o ad) [.ref o, .int (a1), .int (a2)] (fun (r : Int32) (M' : MS) => M' = M ∧ r = 0) := by
  refine KI.of (by decide) (Nat.le_of_ble_eq_true rfl) ?_
  intro p e s m below meth c A ls C hr hlk hnm h hl
  have hx := C.1.1
  have hb := C.1.2.1
  have hl : lv_has ls 4 [(0, .ref o), (1, .int (a1)), (2, .int (a2))] := hl
  refine lv_aload_n hx hb dM_cell_0 rfl (lv_at hl 0 rfl) ?_
  refine lv_iload_n hx hb dM_cell_1 rfl (lv_at hl 1 rfl) ?_
  refine KI.callV (As := [.int (a1)]) (q0 := 0) (ci := 0) C h (t_slotAsked l g o ad M a1 hruns) vM_cell_1042 ⟨by decide, by decide⟩ rfl rfl hl.1 rfl (Nat.le_of_ble_eq_true rfl) dM_cell_2 ⟨by decide, by decide⟩ (fun r_1 u_2 H locs hp h => ?_)
  obtain ⟨eu, er⟩ := hp
  rw [eu] at h
  subst er
  refine lv_istore_n (lv' := [(3, .int (-1)), (0, .ref o), (1, .int (a1)), (2, .int (a2))]) hx hb dM_cell_5 rfl hl (by decide) rfl (fun ls hl => ?_)
  refine lv_iload_n hx hb dM_cell_6 rfl (lv_at hl 0 rfl) ?_
  refine lv_if_lt (tgt := 34) hx hb dM_cell_7 (by decide) (fun c7 => ?_) (fun c7 => absurd c7 (by decide))
  refine lv_iconst (v := 0) hx hb dM_cell_34 (by decide) ?_
  refine lv_goto (tgt := 52) hx hb dM_cell_35 (by decide) ?_
  exact KI.ret C hr hlk M h rfl ⟨rfl, rfl⟩ (by decide) (by decide) dM_cell_52

set_option maxHeartbeats 4000000 in
set_option maxRecDepth 100000 in
/-- timer without a RUN -/
theorem t_timer (l : Launch) (g : GG) (o : Nat) (ad : Nat → Nat) (M : MS) (a1 : Int32) (a2 : Int32) (hruns : M.1 m_runs = 0) : KI l yM_timer cM_timer 4 (some .int) (rD 1 0 0) g (mW g o ad M) (mW g o ad) [.ref o, .int (a1), .int (a2)] (fun (r : Int32) (M' : MS) => M' = M ∧ r = -1) := by
  refine KI.of (by decide) (Nat.le_of_ble_eq_true rfl) ?_
  intro p e s m below meth c A ls C hr hlk hnm h hl
  have hx := C.1.1
  have hb := C.1.2.1
  have hl : lv_has ls 4 [(0, .ref o), (1, .int (a1)), (2, .int (a2))] := hl
  refine lv_aload_n hx hb dM_timer_0 rfl (lv_at hl 0 rfl) ?_
  refine lv_iload_n hx hb dM_timer_1 rfl (lv_at hl 1 rfl) ?_
  refine KI.callV (As := [.int (a1)]) (q0 := 0) (ci := 0) C h (t_slotAsked l g o ad M a1 hruns) vM_timer_1042 ⟨by decide, by decide⟩ rfl rfl hl.1 rfl (Nat.le_of_ble_eq_true rfl) dM_timer_2 ⟨by decide, by decide⟩ (fun r_1 u_2 H locs hp h => ?_)
  obtain ⟨eu, er⟩ := hp
  rw [eu] at h
  subst er
  refine lv_istore_n (lv' := [(3, .int (-1)), (0, .ref o), (1, .int (a1)), (2, .int (a2))]) hx hb dM_timer_5 rfl hl (by decide) rfl (fun ls hl => ?_)
  refine lv_iload_n hx hb dM_timer_6 rfl (lv_at hl 0 rfl) ?_
  refine lv_if_lt (tgt := 34) hx hb dM_timer_7 (by decide) (fun c7 => ?_) (fun c7 => absurd c7 (by decide))
  refine lv_iconst (v := -1) hx hb dM_timer_34 (by decide) ?_
  refine lv_goto (tgt := 52) hx hb dM_timer_35 (by decide) ?_
  exact KI.ret C hr hlk M h rfl ⟨rfl, rfl⟩ (by decide) (by decide) dM_timer_52

set_option maxHeartbeats 4000000 in
set_option maxRecDepth 100000 in
/-- queued without a RUN -/
theorem t_queued (l : Launch) (g : GG) (o : Nat) (ad : Nat → Nat) (M : MS) (a1 : Int32) (a2 : Int32) (a3 : Int32) (hruns : M.1 m_runs = 0) : KI l yM_queued cM_queued 5 (some .int) (rD 1 0 0) g (mW g o ad M) (mW g o ad) [.ref o, .int (a1), .int (a2), .int (a3)] (fun (r : Int32) (M' : MS) => M' = M ∧ r = -1) := by
  refine KI.of (by decide) (Nat.le_of_ble_eq_true rfl) ?_
  intro p e s m below meth c A ls C hr hlk hnm h hl
  have hx := C.1.1
  have hb := C.1.2.1
  have hl : lv_has ls 5 [(0, .ref o), (1, .int (a1)), (2, .int (a2)), (3, .int (a3))] := hl
  refine lv_aload_n hx hb dM_queued_0 rfl (lv_at hl 0 rfl) ?_
  refine lv_iload_n hx hb dM_queued_1 rfl (lv_at hl 1 rfl) ?_
  refine KI.callV (As := [.int (a1)]) (q0 := 0) (ci := 0) C h (t_slotAsked l g o ad M a1 hruns) vM_queued_1042 ⟨by decide, by decide⟩ rfl rfl hl.1 rfl (Nat.le_of_ble_eq_true rfl) dM_queued_2 ⟨by decide, by decide⟩ (fun r_1 u_2 H locs hp h => ?_)
  obtain ⟨eu, er⟩ := hp
  rw [eu] at h
  subst er
  refine lv_istore (lv' := [(4, .int (-1)), (0, .ref o), (1, .int (a1)), (2, .int (a2)), (3, .int (a3))]) hx hb dM_queued_5 hl (by decide) rfl (fun ls hl => ?_)
  refine lv_iload hx hb dM_queued_7 (lv_at hl 0 rfl) ?_
  refine lv_if_lt (tgt := 42) hx hb dM_queued_9 (by decide) (fun c9 => ?_) (fun c9 => absurd c9 (by decide))
  refine lv_iconst (v := -1) hx hb dM_queued_42 (by decide) ?_
  exact KI.ret C hr hlk M h rfl ⟨rfl, rfl⟩ (by decide) (by decide) dM_queued_43

set_option maxHeartbeats 4000000 in
set_option maxRecDepth 100000 in
/-- warning() where there is none -/
theorem t_warning (l : Launch) (g : GG) (o : Nat) (ad : Nat → Nat) (M : MS) (a1 : Int32) (a2 : Int32) (hw : M.1 m_warnings = 0) : KI l yM_warning cM_warning 3 (some .int) (rD 0 0 0) g (mW g o ad M) (mW g o ad) [.ref o, .int (a1), .int (a2)] (fun (r : Int32) (M' : MS) => M' = M ∧ r = -1) := by
  refine KI.of (by decide) (Nat.le_of_ble_eq_true rfl) ?_
  intro p e s m below meth c A ls C hr hlk hnm h hl
  have hx := C.1.1
  have hb := C.1.2.1
  have hl : lv_has ls 3 [(0, .ref o), (1, .int (a1)), (2, .int (a2))] := hl
  refine lv_iload_n hx hb dM_warning_0 rfl (lv_at hl 1 rfl) ?_
  refine lv_if_lt (tgt := 21) hx hb dM_warning_1 (by decide) (fun c1 => ?_) (fun c1 => ?_)
  · refine lv_iconst (v := -1) hx hb dM_warning_21 (by decide) ?_
    exact KI.ret C hr hlk M h rfl ⟨rfl, rfl⟩ (by decide) (by decide) dM_warning_22
  · refine lv_iload_n hx hb dM_warning_4 rfl (lv_at hl 1 rfl) ?_
    refine lv_aload_n hx hb dM_warning_5 rfl (lv_at hl 0 rfl) ?_
    refine mgi C h m_warnings (by decide) rfl (v := 0) hw rfl dM_warning_6 ?_
    refine lv_icmp_ge (tgt := 21) hx hb dM_warning_9 (by decide) (fun c9 => ?_) (fun c9 => absurd (Int32.not_lt.mp c1) c9)
    refine lv_iconst (v := -1) hx hb dM_warning_21 (by decide) ?_
    exact KI.ret C hr hlk M h rfl ⟨rfl, rfl⟩ (by decide) (by decide) dM_warning_22

def nCount (a : Int32) : Int32 := if a < 0 then -1 else if a ≤ 18 then 0 else -1
set_option maxHeartbeats 4000000 in
set_option maxRecDepth 100000 in
/-- count() on a fresh object -/
theorem t_count (l : Launch) (g : GG) (o : Nat) (ad : Nat → Nat) (M : MS) (a1 : Int32) (hruns : M.1 m_runs = 0) (hthere : M.1 m_there = 0) (htap : M.1 m_taped = 0) : KI l yM_count cM_count 2 (some .int) (rD 0 0 0) g (mW g o ad M) (mW g o ad) [.ref o, .int (a1)] (fun (r : Int32) (M' : MS) => M' = M ∧ r = nCount a1) := by
  refine KI.of (by decide) (Nat.le_of_ble_eq_true rfl) ?_
  intro p e s m below meth c A ls C hr hlk hnm h hl
  have hx := C.1.1
  have hb := C.1.2.1
  have hl : lv_has ls 2 [(0, .ref o), (1, .int (a1))] := hl
  refine lv_iload_n hx hb dM_count_0 rfl (lv_at hl 1 rfl) ?_
  by_cases s1_0 : a1 = 0
  · subst s1_0
    refine lv_tableIn (off := 75) (tgt := 76) hx hb dM_count_1 (by decide) (by decide) (by decide) (by decide) ?_
    refine lv_aload_n hx hb dM_count_76 rfl (lv_at hl 0 rfl) ?_
    refine mgi C h m_there (by decide) rfl (v := 0) hthere rfl dM_count_77 ?_
    refine lv_if_eq (tgt := 90) hx hb dM_count_80 (by decide) (fun c80 => ?_) (fun c80 => absurd c80 (by decide))
    refine lv_iconst (v := 0) hx hb dM_count_90 (by decide) ?_
    exact KI.ret C hr hlk M h rfl ⟨rfl, by decide⟩ (by decide) (by decide) dM_count_91
  by_cases s1_1 : a1 = 1
  · subst s1_1
    refine lv_tableIn (off := 91) (tgt := 92) hx hb dM_count_1 (by decide) (by decide) (by decide) (by decide) ?_
    refine lv_aload_n hx hb dM_count_92 rfl (lv_at hl 0 rfl) ?_
    refine mgi C h m_there (by decide) rfl (v := 0) hthere rfl dM_count_93 ?_
    refine lv_if_eq (tgt := 106) hx hb dM_count_96 (by decide) (fun c96 => ?_) (fun c96 => absurd c96 (by decide))
    refine lv_iconst (v := 0) hx hb dM_count_106 (by decide) ?_
    exact KI.ret C hr hlk M h rfl ⟨rfl, by decide⟩ (by decide) (by decide) dM_count_107
  by_cases s1_2 : a1 = 2
  · subst s1_2
    refine lv_tableIn (off := 107) (tgt := 108) hx hb dM_count_1 (by decide) (by decide) (by decide) (by decide) ?_
    refine lv_aload_n hx hb dM_count_108 rfl (lv_at hl 0 rfl) ?_
    refine mgi C h m_there (by decide) rfl (v := 0) hthere rfl dM_count_109 ?_
    refine lv_if_eq (tgt := 122) hx hb dM_count_112 (by decide) (fun c112 => ?_) (fun c112 => absurd c112 (by decide))
    refine lv_iconst (v := 0) hx hb dM_count_122 (by decide) ?_
    exact KI.ret C hr hlk M h rfl ⟨rfl, by decide⟩ (by decide) (by decide) dM_count_123
  by_cases s1_3 : a1 = 3
  · subst s1_3
    refine lv_tableIn (off := 123) (tgt := 124) hx hb dM_count_1 (by decide) (by decide) (by decide) (by decide) ?_
    refine lv_aload_n hx hb dM_count_124 rfl (lv_at hl 0 rfl) ?_
    refine mgi C h m_there (by decide) rfl (v := 0) hthere rfl dM_count_125 ?_
    refine lv_if_eq (tgt := 138) hx hb dM_count_128 (by decide) (fun c128 => ?_) (fun c128 => absurd c128 (by decide))
    refine lv_iconst (v := 0) hx hb dM_count_138 (by decide) ?_
    exact KI.ret C hr hlk M h rfl ⟨rfl, by decide⟩ (by decide) (by decide) dM_count_139
  by_cases s1_4 : a1 = 4
  · subst s1_4
    refine lv_tableIn (off := 144) (tgt := 145) hx hb dM_count_1 (by decide) (by decide) (by decide) (by decide) ?_
    refine lv_iload_n hx hb dM_count_145 rfl (lv_at hl 1 rfl) ?_
    refine lv_if_lt (tgt := 155) hx hb dM_count_146 (by decide) (fun c146 => absurd c146 (by decide)) (fun c146 => ?_)
    refine lv_iload_n hx hb dM_count_149 rfl (lv_at hl 1 rfl) ?_
    refine lv_bipush (v := 18) hx hb dM_count_150 (by decide) ?_
    refine lv_icmp_le (tgt := 159) hx hb dM_count_152 (by decide) (fun c152 => ?_) (fun c152 => absurd c152 (by decide))
    refine lv_aload_n hx hb dM_count_159 rfl (lv_at hl 0 rfl) ?_
    refine mgi C h m_runs (by decide) rfl (v := 0) hruns rfl dM_count_160 ?_
    refine lv_if_eq (tgt := 174) hx hb dM_count_163 (by decide) (fun c163 => ?_) (fun c163 => absurd c163 (by decide))
    refine lv_iconst (v := 0) hx hb dM_count_174 (by decide) ?_
    exact KI.ret C hr hlk M h rfl ⟨rfl, by decide⟩ (by decide) (by decide) dM_count_175
  by_cases s1_5 : a1 = 5
  · subst s1_5
    refine lv_tableIn (off := 144) (tgt := 145) hx hb dM_count_1 (by decide) (by decide) (by decide) (by decide) ?_
    refine lv_iload_n hx hb dM_count_145 rfl (lv_at hl 1 rfl) ?_
    refine lv_if_lt (tgt := 155) hx hb dM_count_146 (by decide) (fun c146 => absurd c146 (by decide)) (fun c146 => ?_)
    refine lv_iload_n hx hb dM_count_149 rfl (lv_at hl 1 rfl) ?_
    refine lv_bipush (v := 18) hx hb dM_count_150 (by decide) ?_
    refine lv_icmp_le (tgt := 159) hx hb dM_count_152 (by decide) (fun c152 => ?_) (fun c152 => absurd c152 (by decide))
    refine lv_aload_n hx hb dM_count_159 rfl (lv_at hl 0 rfl) ?_
    refine mgi C h m_runs (by decide) rfl (v := 0) hruns rfl dM_count_160 ?_
    refine lv_if_eq (tgt := 174) hx hb dM_count_163 (by decide) (fun c163 => ?_) (fun c163 => absurd c163 (by decide))
    refine lv_iconst (v := 0) hx hb dM_count_174 (by decide) ?_
    exact KI.ret C hr hlk M h rfl ⟨rfl, by decide⟩ (by decide) (by decide) dM_count_175
  by_cases s1_6 : a1 = 6
  · subst s1_6
    refine lv_tableIn (off := 144) (tgt := 145) hx hb dM_count_1 (by decide) (by decide) (by decide) (by decide) ?_
    refine lv_iload_n hx hb dM_count_145 rfl (lv_at hl 1 rfl) ?_
    refine lv_if_lt (tgt := 155) hx hb dM_count_146 (by decide) (fun c146 => absurd c146 (by decide)) (fun c146 => ?_)
    refine lv_iload_n hx hb dM_count_149 rfl (lv_at hl 1 rfl) ?_
    refine lv_bipush (v := 18) hx hb dM_count_150 (by decide) ?_
    refine lv_icmp_le (tgt := 159) hx hb dM_count_152 (by decide) (fun c152 => ?_) (fun c152 => absurd c152 (by decide))
    refine lv_aload_n hx hb dM_count_159 rfl (lv_at hl 0 rfl) ?_
    refine mgi C h m_runs (by decide) rfl (v := 0) hruns rfl dM_count_160 ?_
    refine lv_if_eq (tgt := 174) hx hb dM_count_163 (by decide) (fun c163 => ?_) (fun c163 => absurd c163 (by decide))
    refine lv_iconst (v := 0) hx hb dM_count_174 (by decide) ?_
    exact KI.ret C hr hlk M h rfl ⟨rfl, by decide⟩ (by decide) (by decide) dM_count_175
  by_cases s1_7 : a1 = 7
  · subst s1_7
    refine lv_tableIn (off := 144) (tgt := 145) hx hb dM_count_1 (by decide) (by decide) (by decide) (by decide) ?_
    refine lv_iload_n hx hb dM_count_145 rfl (lv_at hl 1 rfl) ?_
    refine lv_if_lt (tgt := 155) hx hb dM_count_146 (by decide) (fun c146 => absurd c146 (by decide)) (fun c146 => ?_)
    refine lv_iload_n hx hb dM_count_149 rfl (lv_at hl 1 rfl) ?_
    refine lv_bipush (v := 18) hx hb dM_count_150 (by decide) ?_
    refine lv_icmp_le (tgt := 159) hx hb dM_count_152 (by decide) (fun c152 => ?_) (fun c152 => absurd c152 (by decide))
    refine lv_aload_n hx hb dM_count_159 rfl (lv_at hl 0 rfl) ?_
    refine mgi C h m_runs (by decide) rfl (v := 0) hruns rfl dM_count_160 ?_
    refine lv_if_eq (tgt := 174) hx hb dM_count_163 (by decide) (fun c163 => ?_) (fun c163 => absurd c163 (by decide))
    refine lv_iconst (v := 0) hx hb dM_count_174 (by decide) ?_
    exact KI.ret C hr hlk M h rfl ⟨rfl, by decide⟩ (by decide) (by decide) dM_count_175
  by_cases s1_8 : a1 = 8
  · subst s1_8
    refine lv_tableIn (off := 144) (tgt := 145) hx hb dM_count_1 (by decide) (by decide) (by decide) (by decide) ?_
    refine lv_iload_n hx hb dM_count_145 rfl (lv_at hl 1 rfl) ?_
    refine lv_if_lt (tgt := 155) hx hb dM_count_146 (by decide) (fun c146 => absurd c146 (by decide)) (fun c146 => ?_)
    refine lv_iload_n hx hb dM_count_149 rfl (lv_at hl 1 rfl) ?_
    refine lv_bipush (v := 18) hx hb dM_count_150 (by decide) ?_
    refine lv_icmp_le (tgt := 159) hx hb dM_count_152 (by decide) (fun c152 => ?_) (fun c152 => absurd c152 (by decide))
    refine lv_aload_n hx hb dM_count_159 rfl (lv_at hl 0 rfl) ?_
    refine mgi C h m_runs (by decide) rfl (v := 0) hruns rfl dM_count_160 ?_
    refine lv_if_eq (tgt := 174) hx hb dM_count_163 (by decide) (fun c163 => ?_) (fun c163 => absurd c163 (by decide))
    refine lv_iconst (v := 0) hx hb dM_count_174 (by decide) ?_
    exact KI.ret C hr hlk M h rfl ⟨rfl, by decide⟩ (by decide) (by decide) dM_count_175
  by_cases s1_9 : a1 = 9
  · subst s1_9
    refine lv_tableIn (off := 144) (tgt := 145) hx hb dM_count_1 (by decide) (by decide) (by decide) (by decide) ?_
    refine lv_iload_n hx hb dM_count_145 rfl (lv_at hl 1 rfl) ?_
    refine lv_if_lt (tgt := 155) hx hb dM_count_146 (by decide) (fun c146 => absurd c146 (by decide)) (fun c146 => ?_)
    refine lv_iload_n hx hb dM_count_149 rfl (lv_at hl 1 rfl) ?_
    refine lv_bipush (v := 18) hx hb dM_count_150 (by decide) ?_
    refine lv_icmp_le (tgt := 159) hx hb dM_count_152 (by decide) (fun c152 => ?_) (fun c152 => absurd c152 (by decide))
    refine lv_aload_n hx hb dM_count_159 rfl (lv_at hl 0 rfl) ?_
    refine mgi C h m_runs (by decide) rfl (v := 0) hruns rfl dM_count_160 ?_
    refine lv_if_eq (tgt := 174) hx hb dM_count_163 (by decide) (fun c163 => ?_) (fun c163 => absurd c163 (by decide))
    refine lv_iconst (v := 0) hx hb dM_count_174 (by decide) ?_
    exact KI.ret C hr hlk M h rfl ⟨rfl, by decide⟩ (by decide) (by decide) dM_count_175
  by_cases s1_10 : a1 = 10
  · subst s1_10
    refine lv_tableIn (off := 144) (tgt := 145) hx hb dM_count_1 (by decide) (by decide) (by decide) (by decide) ?_
    refine lv_iload_n hx hb dM_count_145 rfl (lv_at hl 1 rfl) ?_
    refine lv_if_lt (tgt := 155) hx hb dM_count_146 (by decide) (fun c146 => absurd c146 (by decide)) (fun c146 => ?_)
    refine lv_iload_n hx hb dM_count_149 rfl (lv_at hl 1 rfl) ?_
    refine lv_bipush (v := 18) hx hb dM_count_150 (by decide) ?_
    refine lv_icmp_le (tgt := 159) hx hb dM_count_152 (by decide) (fun c152 => ?_) (fun c152 => absurd c152 (by decide))
    refine lv_aload_n hx hb dM_count_159 rfl (lv_at hl 0 rfl) ?_
    refine mgi C h m_runs (by decide) rfl (v := 0) hruns rfl dM_count_160 ?_
    refine lv_if_eq (tgt := 174) hx hb dM_count_163 (by decide) (fun c163 => ?_) (fun c163 => absurd c163 (by decide))
    refine lv_iconst (v := 0) hx hb dM_count_174 (by decide) ?_
    exact KI.ret C hr hlk M h rfl ⟨rfl, by decide⟩ (by decide) (by decide) dM_count_175
  by_cases s1_11 : a1 = 11
  · subst s1_11
    refine lv_tableIn (off := 144) (tgt := 145) hx hb dM_count_1 (by decide) (by decide) (by decide) (by decide) ?_
    refine lv_iload_n hx hb dM_count_145 rfl (lv_at hl 1 rfl) ?_
    refine lv_if_lt (tgt := 155) hx hb dM_count_146 (by decide) (fun c146 => absurd c146 (by decide)) (fun c146 => ?_)
    refine lv_iload_n hx hb dM_count_149 rfl (lv_at hl 1 rfl) ?_
    refine lv_bipush (v := 18) hx hb dM_count_150 (by decide) ?_
    refine lv_icmp_le (tgt := 159) hx hb dM_count_152 (by decide) (fun c152 => ?_) (fun c152 => absurd c152 (by decide))
    refine lv_aload_n hx hb dM_count_159 rfl (lv_at hl 0 rfl) ?_
    refine mgi C h m_runs (by decide) rfl (v := 0) hruns rfl dM_count_160 ?_
    refine lv_if_eq (tgt := 174) hx hb dM_count_163 (by decide) (fun c163 => ?_) (fun c163 => absurd c163 (by decide))
    refine lv_iconst (v := 0) hx hb dM_count_174 (by decide) ?_
    exact KI.ret C hr hlk M h rfl ⟨rfl, by decide⟩ (by decide) (by decide) dM_count_175
  by_cases s1_12 : a1 = 12
  · subst s1_12
    refine lv_tableIn (off := 144) (tgt := 145) hx hb dM_count_1 (by decide) (by decide) (by decide) (by decide) ?_
    refine lv_iload_n hx hb dM_count_145 rfl (lv_at hl 1 rfl) ?_
    refine lv_if_lt (tgt := 155) hx hb dM_count_146 (by decide) (fun c146 => absurd c146 (by decide)) (fun c146 => ?_)
    refine lv_iload_n hx hb dM_count_149 rfl (lv_at hl 1 rfl) ?_
    refine lv_bipush (v := 18) hx hb dM_count_150 (by decide) ?_
    refine lv_icmp_le (tgt := 159) hx hb dM_count_152 (by decide) (fun c152 => ?_) (fun c152 => absurd c152 (by decide))
    refine lv_aload_n hx hb dM_count_159 rfl (lv_at hl 0 rfl) ?_
    refine mgi C h m_runs (by decide) rfl (v := 0) hruns rfl dM_count_160 ?_
    refine lv_if_eq (tgt := 174) hx hb dM_count_163 (by decide) (fun c163 => ?_) (fun c163 => absurd c163 (by decide))
    refine lv_iconst (v := 0) hx hb dM_count_174 (by decide) ?_
    exact KI.ret C hr hlk M h rfl ⟨rfl, by decide⟩ (by decide) (by decide) dM_count_175
  by_cases s1_13 : a1 = 13
  · subst s1_13
    refine lv_tableIn (off := 144) (tgt := 145) hx hb dM_count_1 (by decide) (by decide) (by decide) (by decide) ?_
    refine lv_iload_n hx hb dM_count_145 rfl (lv_at hl 1 rfl) ?_
    refine lv_if_lt (tgt := 155) hx hb dM_count_146 (by decide) (fun c146 => absurd c146 (by decide)) (fun c146 => ?_)
    refine lv_iload_n hx hb dM_count_149 rfl (lv_at hl 1 rfl) ?_
    refine lv_bipush (v := 18) hx hb dM_count_150 (by decide) ?_
    refine lv_icmp_le (tgt := 159) hx hb dM_count_152 (by decide) (fun c152 => ?_) (fun c152 => absurd c152 (by decide))
    refine lv_aload_n hx hb dM_count_159 rfl (lv_at hl 0 rfl) ?_
    refine mgi C h m_runs (by decide) rfl (v := 0) hruns rfl dM_count_160 ?_
    refine lv_if_eq (tgt := 174) hx hb dM_count_163 (by decide) (fun c163 => ?_) (fun c163 => absurd c163 (by decide))
    refine lv_iconst (v := 0) hx hb dM_count_174 (by decide) ?_
    exact KI.ret C hr hlk M h rfl ⟨rfl, by decide⟩ (by decide) (by decide) dM_count_175
  by_cases s1_14 : a1 = 14
  · subst s1_14
    refine lv_tableIn (off := 139) (tgt := 140) hx hb dM_count_1 (by decide) (by decide) (by decide) (by decide) ?_
    refine lv_aload_n hx hb dM_count_140 rfl (lv_at hl 0 rfl) ?_
    refine mgi C h m_taped (by decide) rfl (v := 0) htap rfl dM_count_141 ?_
    exact KI.ret C hr hlk M h rfl ⟨rfl, by decide⟩ (by decide) (by decide) dM_count_144
  have z1_0 := lv_neT (a := 0) s1_0 (by decide)
  have z1_1 := lv_neT (a := 1) s1_1 (by decide)
  have z1_2 := lv_neT (a := 2) s1_2 (by decide)
  have z1_3 := lv_neT (a := 3) s1_3 (by decide)
  have z1_4 := lv_neT (a := 4) s1_4 (by decide)
  have z1_5 := lv_neT (a := 5) s1_5 (by decide)
  have z1_6 := lv_neT (a := 6) s1_6 (by decide)
  have z1_7 := lv_neT (a := 7) s1_7 (by decide)
  have z1_8 := lv_neT (a := 8) s1_8 (by decide)
  have z1_9 := lv_neT (a := 9) s1_9 (by decide)
  have z1_10 := lv_neT (a := 10) s1_10 (by decide)
  have z1_11 := lv_neT (a := 11) s1_11 (by decide)
  have z1_12 := lv_neT (a := 12) s1_12 (by decide)
  have z1_13 := lv_neT (a := 13) s1_13 (by decide)
  have z1_14 := lv_neT (a := 14) s1_14 (by decide)
  have z1 : (a1).toInt < 0 ∨ 14 < (a1).toInt := by omega
  refine lv_tableOut (tgt := 145) hx hb dM_count_1 z1 (by decide) ?_
  refine lv_iload_n hx hb dM_count_145 rfl (lv_at hl 1 rfl) ?_
  refine lv_if_lt (tgt := 155) hx hb dM_count_146 (by decide) (fun c146 => ?_) (fun c146 => ?_)
  · refine lv_iconst (v := -1) hx hb dM_count_155 (by decide) ?_
    refine lv_goto (tgt := 175) hx hb dM_count_156 (by decide) ?_
    exact KI.ret C hr hlk M h rfl ⟨rfl, by simp [nCount, c146]⟩ (by decide) (by decide) dM_count_175
  · refine lv_iload_n hx hb dM_count_149 rfl (lv_at hl 1 rfl) ?_
    refine lv_bipush (v := 18) hx hb dM_count_150 (by decide) ?_
    refine lv_icmp_le (tgt := 159) hx hb dM_count_152 (by decide) (fun c152 => ?_) (fun c152 => ?_)
    · refine lv_aload_n hx hb dM_count_159 rfl (lv_at hl 0 rfl) ?_
      refine mgi C h m_runs (by decide) rfl (v := 0) hruns rfl dM_count_160 ?_
      refine lv_if_eq (tgt := 174) hx hb dM_count_163 (by decide) (fun c163 => ?_) (fun c163 => absurd c163 (by decide))
      refine lv_iconst (v := 0) hx hb dM_count_174 (by decide) ?_
      exact KI.ret C hr hlk M h rfl ⟨rfl, by simp [nCount, c146, c152]⟩ (by decide) (by decide) dM_count_175
    · refine lv_iconst (v := -1) hx hb dM_count_155 (by decide) ?_
      refine lv_goto (tgt := 175) hx hb dM_count_156 (by decide) ?_
      exact KI.ret C hr hlk M h rfl ⟨rfl, by simp [nCount, c146, c152]⟩ (by decide) (by decide) dM_count_175

def nChoices (a : Int32) : Int32 := if a = 0 then 0 else if a = 1 then 0 else -1
set_option maxHeartbeats 4000000 in
set_option maxRecDepth 100000 in
/-- choices() on a fresh object -/
theorem t_choices (l : Launch) (g : GG) (o : Nat) (ad : Nat → Nat) (M : MS) (a1 : Int32) (hlt : M.1 m_linesTold = 0) (hck : M.1 m_choicesKept = 0) : KI l yM_choices cM_choices 2 (some .int) (rD 0 0 0) g (mW g o ad M) (mW g o ad) [.ref o, .int (a1)] (fun (r : Int32) (M' : MS) => M' = M ∧ r = nChoices a1) := by
  refine KI.of (by decide) (Nat.le_of_ble_eq_true rfl) ?_
  intro p e s m below meth c A ls C hr hlk hnm h hl
  have hx := C.1.1
  have hb := C.1.2.1
  have hl : lv_has ls 2 [(0, .ref o), (1, .int (a1))] := hl
  refine lv_iload_n hx hb dM_choices_0 rfl (lv_at hl 1 rfl) ?_
  refine lv_if_ne (tgt := 11) hx hb dM_choices_1 (by decide) (fun c1 => ?_) (fun c1 => ?_)
  · refine lv_iload_n hx hb dM_choices_11 rfl (lv_at hl 1 rfl) ?_
    refine lv_iconst (v := 1) hx hb dM_choices_12 (by decide) ?_
    refine lv_icmp_ne (tgt := 23) hx hb dM_choices_13 (by decide) (fun c13 => ?_) (fun c13 => ?_)
    · refine lv_iconst (v := -1) hx hb dM_choices_23 (by decide) ?_
      exact KI.ret C hr hlk M h rfl ⟨rfl, by simp [nChoices, c1, c13]⟩ (by decide) (by decide) dM_choices_24
    · refine lv_aload_n hx hb dM_choices_16 rfl (lv_at hl 0 rfl) ?_
      refine mgi C h m_choicesKept (by decide) rfl (v := 0) hck rfl dM_choices_17 ?_
      refine lv_goto (tgt := 24) hx hb dM_choices_20 (by decide) ?_
      exact KI.ret C hr hlk M h rfl ⟨rfl, by simp [nChoices, c1, c13]⟩ (by decide) (by decide) dM_choices_24
  · refine lv_aload_n hx hb dM_choices_4 rfl (lv_at hl 0 rfl) ?_
    refine mgi C h m_linesTold (by decide) rfl (v := 0) hlt rfl dM_choices_5 ?_
    refine lv_goto (tgt := 24) hx hb dM_choices_8 (by decide) ?_
    exact KI.ret C hr hlk M h rfl ⟨rfl, by simp [nChoices, c1]⟩ (by decide) (by decide) dM_choices_24

set_option maxHeartbeats 4000000 in
set_option maxRecDepth 100000 in
/-- four(): taped grows -/
theorem t_four0 (l : Launch) (g : GG) (o : Nat) (ad : Nat → Nat) (M : MS) (a1 : Int32) (htap : M.1 m_taped = 0) : KV l yM_four cM_four 3 (rD 0 0 0) g (mW g o ad M) (mW g o ad) [.ref o, .int (a1)] (fun M' : MS => M'.1 m_taped = 4) := by
  refine KV.of (by decide) (Nat.le_of_ble_eq_true rfl) ?_
  intro p e s m below meth c A ls C hr hlk hnm h hl
  have hx := C.1.1
  have hb := C.1.2.1
  have hl : lv_has ls 3 [(0, .ref o), (1, .int (a1))] := hl
  refine lv_bipush (v := 24) hx hb dM_four_0 (by decide) ?_
  refine lv_istore_n (lv' := [(2, .int (24)), (0, .ref o), (1, .int (a1))]) hx hb dM_four_2 rfl hl (by decide) rfl (fun ls hl => ?_)
  refine lv_iload_n hx hb dM_four_3 rfl (lv_at hl 0 rfl) ?_
  refine lv_if_lt (tgt := 36) hx hb dM_four_4 (by decide) (fun c4 => absurd c4 (by decide)) (fun c4 => ?_)
  refine lv_aload_n hx hb dM_four_7 rfl (lv_at hl 1 rfl) ?_
  refine mga C h m_tape (by decide) (by decide) rfl dM_four_8 ?_
  refine lv_aload_n hx hb dM_four_11 rfl (lv_at hl 1 rfl) ?_
  refine mgi C h m_taped (by decide) rfl (v := 0) htap rfl dM_four_12 ?_
  refine lv_iload_n hx hb dM_four_15 rfl (lv_at hl 2 rfl) ?_
  refine lv_iload_n hx hb dM_four_16 rfl (lv_at hl 0 rfl) ?_
  refine lv_ishr hx hb dM_four_17 ?_
  refine lv_i2b hx hb dM_four_18 rfl ?_
  refine msb C h m_tape (by decide) rfl (pk_in 0 5000 (by decide) rfl) dM_four_19 (fun H locs h => ?_)
  refine lv_aload_n hx hb dM_four_20 rfl (lv_at hl 1 rfl) ?_
  refine lv_dup hx hb dM_four_21 rfl ?_
  refine mgi C h m_taped (by decide) rfl (v := 0) htap rfl dM_four_22 ?_
  refine lv_iconst (v := 1) hx hb dM_four_25 (by decide) ?_
  refine lv_iadd hx hb dM_four_26 ?_
  refine lv_topi (fun n_1 en_1 => ?_)
  have en_1 : n_1 = 1 := en_1.trans (by decide)
  subst en_1
  refine mpi C h m_taped (by decide) rfl rfl rfl (v := 1) rfl rfl dM_four_27 (fun H locs h => ?_)
  refine lv_iinc (v := 16) (lv' := [(2, .int (16)), (0, .ref o), (1, .int (a1))]) hx hb dM_four_30 hl (k := 0) rfl (by decide) (by decide) rfl (fun ls hl => ?_)
  refine lv_goto (tgt := 3) hx hb dM_four_33 (by decide) ?_
  refine lv_iload_n hx hb dM_four_3 rfl (lv_at hl 0 rfl) ?_
  refine lv_if_lt (tgt := 36) hx hb dM_four_4 (by decide) (fun c4 => absurd c4 (by decide)) (fun c4 => ?_)
  refine lv_aload_n hx hb dM_four_7 rfl (lv_at hl 1 rfl) ?_
  refine mga C h m_tape (by decide) (by decide) rfl dM_four_8 ?_
  refine lv_aload_n hx hb dM_four_11 rfl (lv_at hl 1 rfl) ?_
  refine mgi C h m_taped (by decide) rfl (v := 1) rfl rfl dM_four_12 ?_
  refine lv_iload_n hx hb dM_four_15 rfl (lv_at hl 2 rfl) ?_
  refine lv_iload_n hx hb dM_four_16 rfl (lv_at hl 0 rfl) ?_
  refine lv_ishr hx hb dM_four_17 ?_
  refine lv_i2b hx hb dM_four_18 rfl ?_
  refine msb C h m_tape (by decide) rfl (pk_in 1 5000 (by decide) rfl) dM_four_19 (fun H locs h => ?_)
  refine lv_aload_n hx hb dM_four_20 rfl (lv_at hl 1 rfl) ?_
  refine lv_dup hx hb dM_four_21 rfl ?_
  refine mgi C h m_taped (by decide) rfl (v := 1) rfl rfl dM_four_22 ?_
  refine lv_iconst (v := 1) hx hb dM_four_25 (by decide) ?_
  refine lv_iadd hx hb dM_four_26 ?_
  refine lv_topi (fun n_2 en_2 => ?_)
  have en_2 : n_2 = 2 := en_2.trans (by decide)
  subst en_2
  refine mpi C h m_taped (by decide) rfl rfl rfl (v := 2) rfl rfl dM_four_27 (fun H locs h => ?_)
  refine lv_iinc (v := 8) (lv' := [(2, .int (8)), (0, .ref o), (1, .int (a1))]) hx hb dM_four_30 hl (k := 0) rfl (by decide) (by decide) rfl (fun ls hl => ?_)
  refine lv_goto (tgt := 3) hx hb dM_four_33 (by decide) ?_
  refine lv_iload_n hx hb dM_four_3 rfl (lv_at hl 0 rfl) ?_
  refine lv_if_lt (tgt := 36) hx hb dM_four_4 (by decide) (fun c4 => absurd c4 (by decide)) (fun c4 => ?_)
  refine lv_aload_n hx hb dM_four_7 rfl (lv_at hl 1 rfl) ?_
  refine mga C h m_tape (by decide) (by decide) rfl dM_four_8 ?_
  refine lv_aload_n hx hb dM_four_11 rfl (lv_at hl 1 rfl) ?_
  refine mgi C h m_taped (by decide) rfl (v := 2) rfl rfl dM_four_12 ?_
  refine lv_iload_n hx hb dM_four_15 rfl (lv_at hl 2 rfl) ?_
  refine lv_iload_n hx hb dM_four_16 rfl (lv_at hl 0 rfl) ?_
  refine lv_ishr hx hb dM_four_17 ?_
  refine lv_i2b hx hb dM_four_18 rfl ?_
  refine msb C h m_tape (by decide) rfl (pk_in 2 5000 (by decide) rfl) dM_four_19 (fun H locs h => ?_)
  refine lv_aload_n hx hb dM_four_20 rfl (lv_at hl 1 rfl) ?_
  refine lv_dup hx hb dM_four_21 rfl ?_
  refine mgi C h m_taped (by decide) rfl (v := 2) rfl rfl dM_four_22 ?_
  refine lv_iconst (v := 1) hx hb dM_four_25 (by decide) ?_
  refine lv_iadd hx hb dM_four_26 ?_
  refine lv_topi (fun n_3 en_3 => ?_)
  have en_3 : n_3 = 3 := en_3.trans (by decide)
  subst en_3
  refine mpi C h m_taped (by decide) rfl rfl rfl (v := 3) rfl rfl dM_four_27 (fun H locs h => ?_)
  refine lv_iinc (v := 0) (lv' := [(2, .int (0)), (0, .ref o), (1, .int (a1))]) hx hb dM_four_30 hl (k := 0) rfl (by decide) (by decide) rfl (fun ls hl => ?_)
  refine lv_goto (tgt := 3) hx hb dM_four_33 (by decide) ?_
  refine lv_iload_n hx hb dM_four_3 rfl (lv_at hl 0 rfl) ?_
  refine lv_if_lt (tgt := 36) hx hb dM_four_4 (by decide) (fun c4 => absurd c4 (by decide)) (fun c4 => ?_)
  refine lv_aload_n hx hb dM_four_7 rfl (lv_at hl 1 rfl) ?_
  refine mga C h m_tape (by decide) (by decide) rfl dM_four_8 ?_
  refine lv_aload_n hx hb dM_four_11 rfl (lv_at hl 1 rfl) ?_
  refine mgi C h m_taped (by decide) rfl (v := 3) rfl rfl dM_four_12 ?_
  refine lv_iload_n hx hb dM_four_15 rfl (lv_at hl 2 rfl) ?_
  refine lv_iload_n hx hb dM_four_16 rfl (lv_at hl 0 rfl) ?_
  refine lv_ishr hx hb dM_four_17 ?_
  refine lv_i2b hx hb dM_four_18 rfl ?_
  refine msb C h m_tape (by decide) rfl (pk_in 3 5000 (by decide) rfl) dM_four_19 (fun H locs h => ?_)
  refine lv_aload_n hx hb dM_four_20 rfl (lv_at hl 1 rfl) ?_
  refine lv_dup hx hb dM_four_21 rfl ?_
  refine mgi C h m_taped (by decide) rfl (v := 3) rfl rfl dM_four_22 ?_
  refine lv_iconst (v := 1) hx hb dM_four_25 (by decide) ?_
  refine lv_iadd hx hb dM_four_26 ?_
  refine lv_topi (fun n_4 en_4 => ?_)
  have en_4 : n_4 = 4 := en_4.trans (by decide)
  subst en_4
  refine mpi C h m_taped (by decide) rfl rfl rfl (v := 4) rfl rfl dM_four_27 (fun H locs h => ?_)
  refine lv_iinc (v := -8) (lv' := [(2, .int (-8)), (0, .ref o), (1, .int (a1))]) hx hb dM_four_30 hl (k := 0) rfl (by decide) (by decide) rfl (fun ls hl => ?_)
  refine lv_goto (tgt := 3) hx hb dM_four_33 (by decide) ?_
  refine lv_iload_n hx hb dM_four_3 rfl (lv_at hl 0 rfl) ?_
  refine lv_if_lt (tgt := 36) hx hb dM_four_4 (by decide) (fun c4 => ?_) (fun c4 => absurd c4 (by decide))
  exact KV.ret C hr hlk (mput (mseti (mput (mseti (mput (mseti (mput (mseti M m_tape (0 : Int32).toNatClampNeg (vp_nar .byte (((a1 >>> (24 &&& 31))).toInt8.toInt32))) m_taped 1) m_tape (1 : Int32).toNatClampNeg (vp_nar .byte (((a1 >>> (16 &&& 31))).toInt8.toInt32))) m_taped 2) m_tape (2 : Int32).toNatClampNeg (vp_nar .byte (((a1 >>> (8 &&& 31))).toInt8.toInt32))) m_taped 3) m_tape (3 : Int32).toNatClampNeg (vp_nar .byte (((a1 >>> (0 &&& 31))).toInt8.toInt32))) m_taped 4) h rfl (by decide) (by decide) dM_four_36

set_option maxHeartbeats 4000000 in
set_option maxRecDepth 100000 in
/-- four(): taped grows -/
theorem t_four4 (l : Launch) (g : GG) (o : Nat) (ad : Nat → Nat) (M : MS) (a1 : Int32) (htap : M.1 m_taped = 4) : KV l yM_four cM_four 3 (rD 0 0 0) g (mW g o ad M) (mW g o ad) [.ref o, .int (a1)] (fun M' : MS => M'.1 m_taped = 8) := by
  refine KV.of (by decide) (Nat.le_of_ble_eq_true rfl) ?_
  intro p e s m below meth c A ls C hr hlk hnm h hl
  have hx := C.1.1
  have hb := C.1.2.1
  have hl : lv_has ls 3 [(0, .ref o), (1, .int (a1))] := hl
  refine lv_bipush (v := 24) hx hb dM_four_0 (by decide) ?_
  refine lv_istore_n (lv' := [(2, .int (24)), (0, .ref o), (1, .int (a1))]) hx hb dM_four_2 rfl hl (by decide) rfl (fun ls hl => ?_)
  refine lv_iload_n hx hb dM_four_3 rfl (lv_at hl 0 rfl) ?_
  refine lv_if_lt (tgt := 36) hx hb dM_four_4 (by decide) (fun c4 => absurd c4 (by decide)) (fun c4 => ?_)
  refine lv_aload_n hx hb dM_four_7 rfl (lv_at hl 1 rfl) ?_
  refine mga C h m_tape (by decide) (by decide) rfl dM_four_8 ?_
  refine lv_aload_n hx hb dM_four_11 rfl (lv_at hl 1 rfl) ?_
  refine mgi C h m_taped (by decide) rfl (v := 4) htap rfl dM_four_12 ?_
  refine lv_iload_n hx hb dM_four_15 rfl (lv_at hl 2 rfl) ?_
  refine lv_iload_n hx hb dM_four_16 rfl (lv_at hl 0 rfl) ?_
  refine lv_ishr hx hb dM_four_17 ?_
  refine lv_i2b hx hb dM_four_18 rfl ?_
  refine msb C h m_tape (by decide) rfl (pk_in 4 5000 (by decide) rfl) dM_four_19 (fun H locs h => ?_)
  refine lv_aload_n hx hb dM_four_20 rfl (lv_at hl 1 rfl) ?_
  refine lv_dup hx hb dM_four_21 rfl ?_
  refine mgi C h m_taped (by decide) rfl (v := 4) htap rfl dM_four_22 ?_
  refine lv_iconst (v := 1) hx hb dM_four_25 (by decide) ?_
  refine lv_iadd hx hb dM_four_26 ?_
  refine lv_topi (fun n_1 en_1 => ?_)
  have en_1 : n_1 = 5 := en_1.trans (by decide)
  subst en_1
  refine mpi C h m_taped (by decide) rfl rfl rfl (v := 5) rfl rfl dM_four_27 (fun H locs h => ?_)
  refine lv_iinc (v := 16) (lv' := [(2, .int (16)), (0, .ref o), (1, .int (a1))]) hx hb dM_four_30 hl (k := 0) rfl (by decide) (by decide) rfl (fun ls hl => ?_)
  refine lv_goto (tgt := 3) hx hb dM_four_33 (by decide) ?_
  refine lv_iload_n hx hb dM_four_3 rfl (lv_at hl 0 rfl) ?_
  refine lv_if_lt (tgt := 36) hx hb dM_four_4 (by decide) (fun c4 => absurd c4 (by decide)) (fun c4 => ?_)
  refine lv_aload_n hx hb dM_four_7 rfl (lv_at hl 1 rfl) ?_
  refine mga C h m_tape (by decide) (by decide) rfl dM_four_8 ?_
  refine lv_aload_n hx hb dM_four_11 rfl (lv_at hl 1 rfl) ?_
  refine mgi C h m_taped (by decide) rfl (v := 5) rfl rfl dM_four_12 ?_
  refine lv_iload_n hx hb dM_four_15 rfl (lv_at hl 2 rfl) ?_
  refine lv_iload_n hx hb dM_four_16 rfl (lv_at hl 0 rfl) ?_
  refine lv_ishr hx hb dM_four_17 ?_
  refine lv_i2b hx hb dM_four_18 rfl ?_
  refine msb C h m_tape (by decide) rfl (pk_in 5 5000 (by decide) rfl) dM_four_19 (fun H locs h => ?_)
  refine lv_aload_n hx hb dM_four_20 rfl (lv_at hl 1 rfl) ?_
  refine lv_dup hx hb dM_four_21 rfl ?_
  refine mgi C h m_taped (by decide) rfl (v := 5) rfl rfl dM_four_22 ?_
  refine lv_iconst (v := 1) hx hb dM_four_25 (by decide) ?_
  refine lv_iadd hx hb dM_four_26 ?_
  refine lv_topi (fun n_2 en_2 => ?_)
  have en_2 : n_2 = 6 := en_2.trans (by decide)
  subst en_2
  refine mpi C h m_taped (by decide) rfl rfl rfl (v := 6) rfl rfl dM_four_27 (fun H locs h => ?_)
  refine lv_iinc (v := 8) (lv' := [(2, .int (8)), (0, .ref o), (1, .int (a1))]) hx hb dM_four_30 hl (k := 0) rfl (by decide) (by decide) rfl (fun ls hl => ?_)
  refine lv_goto (tgt := 3) hx hb dM_four_33 (by decide) ?_
  refine lv_iload_n hx hb dM_four_3 rfl (lv_at hl 0 rfl) ?_
  refine lv_if_lt (tgt := 36) hx hb dM_four_4 (by decide) (fun c4 => absurd c4 (by decide)) (fun c4 => ?_)
  refine lv_aload_n hx hb dM_four_7 rfl (lv_at hl 1 rfl) ?_
  refine mga C h m_tape (by decide) (by decide) rfl dM_four_8 ?_
  refine lv_aload_n hx hb dM_four_11 rfl (lv_at hl 1 rfl) ?_
  refine mgi C h m_taped (by decide) rfl (v := 6) rfl rfl dM_four_12 ?_
  refine lv_iload_n hx hb dM_four_15 rfl (lv_at hl 2 rfl) ?_
  refine lv_iload_n hx hb dM_four_16 rfl (lv_at hl 0 rfl) ?_
  refine lv_ishr hx hb dM_four_17 ?_
  refine lv_i2b hx hb dM_four_18 rfl ?_
  refine msb C h m_tape (by decide) rfl (pk_in 6 5000 (by decide) rfl) dM_four_19 (fun H locs h => ?_)
  refine lv_aload_n hx hb dM_four_20 rfl (lv_at hl 1 rfl) ?_
  refine lv_dup hx hb dM_four_21 rfl ?_
  refine mgi C h m_taped (by decide) rfl (v := 6) rfl rfl dM_four_22 ?_
  refine lv_iconst (v := 1) hx hb dM_four_25 (by decide) ?_
  refine lv_iadd hx hb dM_four_26 ?_
  refine lv_topi (fun n_3 en_3 => ?_)
  have en_3 : n_3 = 7 := en_3.trans (by decide)
  subst en_3
  refine mpi C h m_taped (by decide) rfl rfl rfl (v := 7) rfl rfl dM_four_27 (fun H locs h => ?_)
  refine lv_iinc (v := 0) (lv' := [(2, .int (0)), (0, .ref o), (1, .int (a1))]) hx hb dM_four_30 hl (k := 0) rfl (by decide) (by decide) rfl (fun ls hl => ?_)
  refine lv_goto (tgt := 3) hx hb dM_four_33 (by decide) ?_
  refine lv_iload_n hx hb dM_four_3 rfl (lv_at hl 0 rfl) ?_
  refine lv_if_lt (tgt := 36) hx hb dM_four_4 (by decide) (fun c4 => absurd c4 (by decide)) (fun c4 => ?_)
  refine lv_aload_n hx hb dM_four_7 rfl (lv_at hl 1 rfl) ?_
  refine mga C h m_tape (by decide) (by decide) rfl dM_four_8 ?_
  refine lv_aload_n hx hb dM_four_11 rfl (lv_at hl 1 rfl) ?_
  refine mgi C h m_taped (by decide) rfl (v := 7) rfl rfl dM_four_12 ?_
  refine lv_iload_n hx hb dM_four_15 rfl (lv_at hl 2 rfl) ?_
  refine lv_iload_n hx hb dM_four_16 rfl (lv_at hl 0 rfl) ?_
  refine lv_ishr hx hb dM_four_17 ?_
  refine lv_i2b hx hb dM_four_18 rfl ?_
  refine msb C h m_tape (by decide) rfl (pk_in 7 5000 (by decide) rfl) dM_four_19 (fun H locs h => ?_)
  refine lv_aload_n hx hb dM_four_20 rfl (lv_at hl 1 rfl) ?_
  refine lv_dup hx hb dM_four_21 rfl ?_
  refine mgi C h m_taped (by decide) rfl (v := 7) rfl rfl dM_four_22 ?_
  refine lv_iconst (v := 1) hx hb dM_four_25 (by decide) ?_
  refine lv_iadd hx hb dM_four_26 ?_
  refine lv_topi (fun n_4 en_4 => ?_)
  have en_4 : n_4 = 8 := en_4.trans (by decide)
  subst en_4
  refine mpi C h m_taped (by decide) rfl rfl rfl (v := 8) rfl rfl dM_four_27 (fun H locs h => ?_)
  refine lv_iinc (v := -8) (lv' := [(2, .int (-8)), (0, .ref o), (1, .int (a1))]) hx hb dM_four_30 hl (k := 0) rfl (by decide) (by decide) rfl (fun ls hl => ?_)
  refine lv_goto (tgt := 3) hx hb dM_four_33 (by decide) ?_
  refine lv_iload_n hx hb dM_four_3 rfl (lv_at hl 0 rfl) ?_
  refine lv_if_lt (tgt := 36) hx hb dM_four_4 (by decide) (fun c4 => ?_) (fun c4 => absurd c4 (by decide))
  exact KV.ret C hr hlk (mput (mseti (mput (mseti (mput (mseti (mput (mseti M m_tape (4 : Int32).toNatClampNeg (vp_nar .byte (((a1 >>> (24 &&& 31))).toInt8.toInt32))) m_taped 5) m_tape (5 : Int32).toNatClampNeg (vp_nar .byte (((a1 >>> (16 &&& 31))).toInt8.toInt32))) m_taped 6) m_tape (6 : Int32).toNatClampNeg (vp_nar .byte (((a1 >>> (8 &&& 31))).toInt8.toInt32))) m_taped 7) m_tape (7 : Int32).toNatClampNeg (vp_nar .byte (((a1 >>> (0 &&& 31))).toInt8.toInt32))) m_taped 8) h rfl (by decide) (by decide) dM_four_36

set_option maxHeartbeats 4000000 in
set_option maxRecDepth 100000 in
/-- four(): taped grows -/
theorem t_four8 (l : Launch) (g : GG) (o : Nat) (ad : Nat → Nat) (M : MS) (a1 : Int32) (htap : M.1 m_taped = 8) : KV l yM_four cM_four 3 (rD 0 0 0) g (mW g o ad M) (mW g o ad) [.ref o, .int (a1)] (fun M' : MS => M'.1 m_taped = 12) := by
  refine KV.of (by decide) (Nat.le_of_ble_eq_true rfl) ?_
  intro p e s m below meth c A ls C hr hlk hnm h hl
  have hx := C.1.1
  have hb := C.1.2.1
  have hl : lv_has ls 3 [(0, .ref o), (1, .int (a1))] := hl
  refine lv_bipush (v := 24) hx hb dM_four_0 (by decide) ?_
  refine lv_istore_n (lv' := [(2, .int (24)), (0, .ref o), (1, .int (a1))]) hx hb dM_four_2 rfl hl (by decide) rfl (fun ls hl => ?_)
  refine lv_iload_n hx hb dM_four_3 rfl (lv_at hl 0 rfl) ?_
  refine lv_if_lt (tgt := 36) hx hb dM_four_4 (by decide) (fun c4 => absurd c4 (by decide)) (fun c4 => ?_)
  refine lv_aload_n hx hb dM_four_7 rfl (lv_at hl 1 rfl) ?_
  refine mga C h m_tape (by decide) (by decide) rfl dM_four_8 ?_
  refine lv_aload_n hx hb dM_four_11 rfl (lv_at hl 1 rfl) ?_
  refine mgi C h m_taped (by decide) rfl (v := 8) htap rfl dM_four_12 ?_
  refine lv_iload_n hx hb dM_four_15 rfl (lv_at hl 2 rfl) ?_
  refine lv_iload_n hx hb dM_four_16 rfl (lv_at hl 0 rfl) ?_
  refine lv_ishr hx hb dM_four_17 ?_
  refine lv_i2b hx hb dM_four_18 rfl ?_
  refine msb C h m_tape (by decide) rfl (pk_in 8 5000 (by decide) rfl) dM_four_19 (fun H locs h => ?_)
  refine lv_aload_n hx hb dM_four_20 rfl (lv_at hl 1 rfl) ?_
  refine lv_dup hx hb dM_four_21 rfl ?_
  refine mgi C h m_taped (by decide) rfl (v := 8) htap rfl dM_four_22 ?_
  refine lv_iconst (v := 1) hx hb dM_four_25 (by decide) ?_
  refine lv_iadd hx hb dM_four_26 ?_
  refine lv_topi (fun n_1 en_1 => ?_)
  have en_1 : n_1 = 9 := en_1.trans (by decide)
  subst en_1
  refine mpi C h m_taped (by decide) rfl rfl rfl (v := 9) rfl rfl dM_four_27 (fun H locs h => ?_)
  refine lv_iinc (v := 16) (lv' := [(2, .int (16)), (0, .ref o), (1, .int (a1))]) hx hb dM_four_30 hl (k := 0) rfl (by decide) (by decide) rfl (fun ls hl => ?_)
  refine lv_goto (tgt := 3) hx hb dM_four_33 (by decide) ?_
  refine lv_iload_n hx hb dM_four_3 rfl (lv_at hl 0 rfl) ?_
  refine lv_if_lt (tgt := 36) hx hb dM_four_4 (by decide) (fun c4 => absurd c4 (by decide)) (fun c4 => ?_)
  refine lv_aload_n hx hb dM_four_7 rfl (lv_at hl 1 rfl) ?_
  refine mga C h m_tape (by decide) (by decide) rfl dM_four_8 ?_
  refine lv_aload_n hx hb dM_four_11 rfl (lv_at hl 1 rfl) ?_
  refine mgi C h m_taped (by decide) rfl (v := 9) rfl rfl dM_four_12 ?_
  refine lv_iload_n hx hb dM_four_15 rfl (lv_at hl 2 rfl) ?_
  refine lv_iload_n hx hb dM_four_16 rfl (lv_at hl 0 rfl) ?_
  refine lv_ishr hx hb dM_four_17 ?_
  refine lv_i2b hx hb dM_four_18 rfl ?_
  refine msb C h m_tape (by decide) rfl (pk_in 9 5000 (by decide) rfl) dM_four_19 (fun H locs h => ?_)
  refine lv_aload_n hx hb dM_four_20 rfl (lv_at hl 1 rfl) ?_
  refine lv_dup hx hb dM_four_21 rfl ?_
  refine mgi C h m_taped (by decide) rfl (v := 9) rfl rfl dM_four_22 ?_
  refine lv_iconst (v := 1) hx hb dM_four_25 (by decide) ?_
  refine lv_iadd hx hb dM_four_26 ?_
  refine lv_topi (fun n_2 en_2 => ?_)
  have en_2 : n_2 = 10 := en_2.trans (by decide)
  subst en_2
  refine mpi C h m_taped (by decide) rfl rfl rfl (v := 10) rfl rfl dM_four_27 (fun H locs h => ?_)
  refine lv_iinc (v := 8) (lv' := [(2, .int (8)), (0, .ref o), (1, .int (a1))]) hx hb dM_four_30 hl (k := 0) rfl (by decide) (by decide) rfl (fun ls hl => ?_)
  refine lv_goto (tgt := 3) hx hb dM_four_33 (by decide) ?_
  refine lv_iload_n hx hb dM_four_3 rfl (lv_at hl 0 rfl) ?_
  refine lv_if_lt (tgt := 36) hx hb dM_four_4 (by decide) (fun c4 => absurd c4 (by decide)) (fun c4 => ?_)
  refine lv_aload_n hx hb dM_four_7 rfl (lv_at hl 1 rfl) ?_
  refine mga C h m_tape (by decide) (by decide) rfl dM_four_8 ?_
  refine lv_aload_n hx hb dM_four_11 rfl (lv_at hl 1 rfl) ?_
  refine mgi C h m_taped (by decide) rfl (v := 10) rfl rfl dM_four_12 ?_
  refine lv_iload_n hx hb dM_four_15 rfl (lv_at hl 2 rfl) ?_
  refine lv_iload_n hx hb dM_four_16 rfl (lv_at hl 0 rfl) ?_
  refine lv_ishr hx hb dM_four_17 ?_
  refine lv_i2b hx hb dM_four_18 rfl ?_
  refine msb C h m_tape (by decide) rfl (pk_in 10 5000 (by decide) rfl) dM_four_19 (fun H locs h => ?_)
  refine lv_aload_n hx hb dM_four_20 rfl (lv_at hl 1 rfl) ?_
  refine lv_dup hx hb dM_four_21 rfl ?_
  refine mgi C h m_taped (by decide) rfl (v := 10) rfl rfl dM_four_22 ?_
  refine lv_iconst (v := 1) hx hb dM_four_25 (by decide) ?_
  refine lv_iadd hx hb dM_four_26 ?_
  refine lv_topi (fun n_3 en_3 => ?_)
  have en_3 : n_3 = 11 := en_3.trans (by decide)
  subst en_3
  refine mpi C h m_taped (by decide) rfl rfl rfl (v := 11) rfl rfl dM_four_27 (fun H locs h => ?_)
  refine lv_iinc (v := 0) (lv' := [(2, .int (0)), (0, .ref o), (1, .int (a1))]) hx hb dM_four_30 hl (k := 0) rfl (by decide) (by decide) rfl (fun ls hl => ?_)
  refine lv_goto (tgt := 3) hx hb dM_four_33 (by decide) ?_
  refine lv_iload_n hx hb dM_four_3 rfl (lv_at hl 0 rfl) ?_
  refine lv_if_lt (tgt := 36) hx hb dM_four_4 (by decide) (fun c4 => absurd c4 (by decide)) (fun c4 => ?_)
  refine lv_aload_n hx hb dM_four_7 rfl (lv_at hl 1 rfl) ?_
  refine mga C h m_tape (by decide) (by decide) rfl dM_four_8 ?_
  refine lv_aload_n hx hb dM_four_11 rfl (lv_at hl 1 rfl) ?_
  refine mgi C h m_taped (by decide) rfl (v := 11) rfl rfl dM_four_12 ?_
  refine lv_iload_n hx hb dM_four_15 rfl (lv_at hl 2 rfl) ?_
  refine lv_iload_n hx hb dM_four_16 rfl (lv_at hl 0 rfl) ?_
  refine lv_ishr hx hb dM_four_17 ?_
  refine lv_i2b hx hb dM_four_18 rfl ?_
  refine msb C h m_tape (by decide) rfl (pk_in 11 5000 (by decide) rfl) dM_four_19 (fun H locs h => ?_)
  refine lv_aload_n hx hb dM_four_20 rfl (lv_at hl 1 rfl) ?_
  refine lv_dup hx hb dM_four_21 rfl ?_
  refine mgi C h m_taped (by decide) rfl (v := 11) rfl rfl dM_four_22 ?_
  refine lv_iconst (v := 1) hx hb dM_four_25 (by decide) ?_
  refine lv_iadd hx hb dM_four_26 ?_
  refine lv_topi (fun n_4 en_4 => ?_)
  have en_4 : n_4 = 12 := en_4.trans (by decide)
  subst en_4
  refine mpi C h m_taped (by decide) rfl rfl rfl (v := 12) rfl rfl dM_four_27 (fun H locs h => ?_)
  refine lv_iinc (v := -8) (lv' := [(2, .int (-8)), (0, .ref o), (1, .int (a1))]) hx hb dM_four_30 hl (k := 0) rfl (by decide) (by decide) rfl (fun ls hl => ?_)
  refine lv_goto (tgt := 3) hx hb dM_four_33 (by decide) ?_
  refine lv_iload_n hx hb dM_four_3 rfl (lv_at hl 0 rfl) ?_
  refine lv_if_lt (tgt := 36) hx hb dM_four_4 (by decide) (fun c4 => ?_) (fun c4 => absurd c4 (by decide))
  exact KV.ret C hr hlk (mput (mseti (mput (mseti (mput (mseti (mput (mseti M m_tape (8 : Int32).toNatClampNeg (vp_nar .byte (((a1 >>> (24 &&& 31))).toInt8.toInt32))) m_taped 9) m_tape (9 : Int32).toNatClampNeg (vp_nar .byte (((a1 >>> (16 &&& 31))).toInt8.toInt32))) m_taped 10) m_tape (10 : Int32).toNatClampNeg (vp_nar .byte (((a1 >>> (8 &&& 31))).toInt8.toInt32))) m_taped 11) m_tape (11 : Int32).toNatClampNeg (vp_nar .byte (((a1 >>> (0 &&& 31))).toInt8.toInt32))) m_taped 12) h rfl (by decide) (by decide) dM_four_36

set_option maxHeartbeats 4000000 in
set_option maxRecDepth 100000 in
/-- four(): taped grows -/
theorem t_four12 (l : Launch) (g : GG) (o : Nat) (ad : Nat → Nat) (M : MS) (a1 : Int32) (htap : M.1 m_taped = 12) : KV l yM_four cM_four 3 (rD 0 0 0) g (mW g o ad M) (mW g o ad) [.ref o, .int (a1)] (fun M' : MS => M'.1 m_taped = 16) := by
  refine KV.of (by decide) (Nat.le_of_ble_eq_true rfl) ?_
  intro p e s m below meth c A ls C hr hlk hnm h hl
  have hx := C.1.1
  have hb := C.1.2.1
  have hl : lv_has ls 3 [(0, .ref o), (1, .int (a1))] := hl
  refine lv_bipush (v := 24) hx hb dM_four_0 (by decide) ?_
  refine lv_istore_n (lv' := [(2, .int (24)), (0, .ref o), (1, .int (a1))]) hx hb dM_four_2 rfl hl (by decide) rfl (fun ls hl => ?_)
  refine lv_iload_n hx hb dM_four_3 rfl (lv_at hl 0 rfl) ?_
  refine lv_if_lt (tgt := 36) hx hb dM_four_4 (by decide) (fun c4 => absurd c4 (by decide)) (fun c4 => ?_)
  refine lv_aload_n hx hb dM_four_7 rfl (lv_at hl 1 rfl) ?_
  refine mga C h m_tape (by decide) (by decide) rfl dM_four_8 ?_
  refine lv_aload_n hx hb dM_four_11 rfl (lv_at hl 1 rfl) ?_
  refine mgi C h m_taped (by decide) rfl (v := 12) htap rfl dM_four_12 ?_
  refine lv_iload_n hx hb dM_four_15 rfl (lv_at hl 2 rfl) ?_
  refine lv_iload_n hx hb dM_four_16 rfl (lv_at hl 0 rfl) ?_
  refine lv_ishr hx hb dM_four_17 ?_
  refine lv_i2b hx hb dM_four_18 rfl ?_
  refine msb C h m_tape (by decide) rfl (pk_in 12 5000 (by decide) rfl) dM_four_19 (fun H locs h => ?_)
  refine lv_aload_n hx hb dM_four_20 rfl (lv_at hl 1 rfl) ?_
  refine lv_dup hx hb dM_four_21 rfl ?_
  refine mgi C h m_taped (by decide) rfl (v := 12) htap rfl dM_four_22 ?_
  refine lv_iconst (v := 1) hx hb dM_four_25 (by decide) ?_
  refine lv_iadd hx hb dM_four_26 ?_
  refine lv_topi (fun n_1 en_1 => ?_)
  have en_1 : n_1 = 13 := en_1.trans (by decide)
  subst en_1
  refine mpi C h m_taped (by decide) rfl rfl rfl (v := 13) rfl rfl dM_four_27 (fun H locs h => ?_)
  refine lv_iinc (v := 16) (lv' := [(2, .int (16)), (0, .ref o), (1, .int (a1))]) hx hb dM_four_30 hl (k := 0) rfl (by decide) (by decide) rfl (fun ls hl => ?_)
  refine lv_goto (tgt := 3) hx hb dM_four_33 (by decide) ?_
  refine lv_iload_n hx hb dM_four_3 rfl (lv_at hl 0 rfl) ?_
  refine lv_if_lt (tgt := 36) hx hb dM_four_4 (by decide) (fun c4 => absurd c4 (by decide)) (fun c4 => ?_)
  refine lv_aload_n hx hb dM_four_7 rfl (lv_at hl 1 rfl) ?_
  refine mga C h m_tape (by decide) (by decide) rfl dM_four_8 ?_
  refine lv_aload_n hx hb dM_four_11 rfl (lv_at hl 1 rfl) ?_
  refine mgi C h m_taped (by decide) rfl (v := 13) rfl rfl dM_four_12 ?_
  refine lv_iload_n hx hb dM_four_15 rfl (lv_at hl 2 rfl) ?_
  refine lv_iload_n hx hb dM_four_16 rfl (lv_at hl 0 rfl) ?_
  refine lv_ishr hx hb dM_four_17 ?_
  refine lv_i2b hx hb dM_four_18 rfl ?_
  refine msb C h m_tape (by decide) rfl (pk_in 13 5000 (by decide) rfl) dM_four_19 (fun H locs h => ?_)
  refine lv_aload_n hx hb dM_four_20 rfl (lv_at hl 1 rfl) ?_
  refine lv_dup hx hb dM_four_21 rfl ?_
  refine mgi C h m_taped (by decide) rfl (v := 13) rfl rfl dM_four_22 ?_
  refine lv_iconst (v := 1) hx hb dM_four_25 (by decide) ?_
  refine lv_iadd hx hb dM_four_26 ?_
  refine lv_topi (fun n_2 en_2 => ?_)
  have en_2 : n_2 = 14 := en_2.trans (by decide)
  subst en_2
  refine mpi C h m_taped (by decide) rfl rfl rfl (v := 14) rfl rfl dM_four_27 (fun H locs h => ?_)
  refine lv_iinc (v := 8) (lv' := [(2, .int (8)), (0, .ref o), (1, .int (a1))]) hx hb dM_four_30 hl (k := 0) rfl (by decide) (by decide) rfl (fun ls hl => ?_)
  refine lv_goto (tgt := 3) hx hb dM_four_33 (by decide) ?_
  refine lv_iload_n hx hb dM_four_3 rfl (lv_at hl 0 rfl) ?_
  refine lv_if_lt (tgt := 36) hx hb dM_four_4 (by decide) (fun c4 => absurd c4 (by decide)) (fun c4 => ?_)
  refine lv_aload_n hx hb dM_four_7 rfl (lv_at hl 1 rfl) ?_
  refine mga C h m_tape (by decide) (by decide) rfl dM_four_8 ?_
  refine lv_aload_n hx hb dM_four_11 rfl (lv_at hl 1 rfl) ?_
  refine mgi C h m_taped (by decide) rfl (v := 14) rfl rfl dM_four_12 ?_
  refine lv_iload_n hx hb dM_four_15 rfl (lv_at hl 2 rfl) ?_
  refine lv_iload_n hx hb dM_four_16 rfl (lv_at hl 0 rfl) ?_
  refine lv_ishr hx hb dM_four_17 ?_
  refine lv_i2b hx hb dM_four_18 rfl ?_
  refine msb C h m_tape (by decide) rfl (pk_in 14 5000 (by decide) rfl) dM_four_19 (fun H locs h => ?_)
  refine lv_aload_n hx hb dM_four_20 rfl (lv_at hl 1 rfl) ?_
  refine lv_dup hx hb dM_four_21 rfl ?_
  refine mgi C h m_taped (by decide) rfl (v := 14) rfl rfl dM_four_22 ?_
  refine lv_iconst (v := 1) hx hb dM_four_25 (by decide) ?_
  refine lv_iadd hx hb dM_four_26 ?_
  refine lv_topi (fun n_3 en_3 => ?_)
  have en_3 : n_3 = 15 := en_3.trans (by decide)
  subst en_3
  refine mpi C h m_taped (by decide) rfl rfl rfl (v := 15) rfl rfl dM_four_27 (fun H locs h => ?_)
  refine lv_iinc (v := 0) (lv' := [(2, .int (0)), (0, .ref o), (1, .int (a1))]) hx hb dM_four_30 hl (k := 0) rfl (by decide) (by decide) rfl (fun ls hl => ?_)
  refine lv_goto (tgt := 3) hx hb dM_four_33 (by decide) ?_
  refine lv_iload_n hx hb dM_four_3 rfl (lv_at hl 0 rfl) ?_
  refine lv_if_lt (tgt := 36) hx hb dM_four_4 (by decide) (fun c4 => absurd c4 (by decide)) (fun c4 => ?_)
  refine lv_aload_n hx hb dM_four_7 rfl (lv_at hl 1 rfl) ?_
  refine mga C h m_tape (by decide) (by decide) rfl dM_four_8 ?_
  refine lv_aload_n hx hb dM_four_11 rfl (lv_at hl 1 rfl) ?_
  refine mgi C h m_taped (by decide) rfl (v := 15) rfl rfl dM_four_12 ?_
  refine lv_iload_n hx hb dM_four_15 rfl (lv_at hl 2 rfl) ?_
  refine lv_iload_n hx hb dM_four_16 rfl (lv_at hl 0 rfl) ?_
  refine lv_ishr hx hb dM_four_17 ?_
  refine lv_i2b hx hb dM_four_18 rfl ?_
  refine msb C h m_tape (by decide) rfl (pk_in 15 5000 (by decide) rfl) dM_four_19 (fun H locs h => ?_)
  refine lv_aload_n hx hb dM_four_20 rfl (lv_at hl 1 rfl) ?_
  refine lv_dup hx hb dM_four_21 rfl ?_
  refine mgi C h m_taped (by decide) rfl (v := 15) rfl rfl dM_four_22 ?_
  refine lv_iconst (v := 1) hx hb dM_four_25 (by decide) ?_
  refine lv_iadd hx hb dM_four_26 ?_
  refine lv_topi (fun n_4 en_4 => ?_)
  have en_4 : n_4 = 16 := en_4.trans (by decide)
  subst en_4
  refine mpi C h m_taped (by decide) rfl rfl rfl (v := 16) rfl rfl dM_four_27 (fun H locs h => ?_)
  refine lv_iinc (v := -8) (lv' := [(2, .int (-8)), (0, .ref o), (1, .int (a1))]) hx hb dM_four_30 hl (k := 0) rfl (by decide) (by decide) rfl (fun ls hl => ?_)
  refine lv_goto (tgt := 3) hx hb dM_four_33 (by decide) ?_
  refine lv_iload_n hx hb dM_four_3 rfl (lv_at hl 0 rfl) ?_
  refine lv_if_lt (tgt := 36) hx hb dM_four_4 (by decide) (fun c4 => ?_) (fun c4 => absurd c4 (by decide))
  exact KV.ret C hr hlk (mput (mseti (mput (mseti (mput (mseti (mput (mseti M m_tape (12 : Int32).toNatClampNeg (vp_nar .byte (((a1 >>> (24 &&& 31))).toInt8.toInt32))) m_taped 13) m_tape (13 : Int32).toNatClampNeg (vp_nar .byte (((a1 >>> (16 &&& 31))).toInt8.toInt32))) m_taped 14) m_tape (14 : Int32).toNatClampNeg (vp_nar .byte (((a1 >>> (8 &&& 31))).toInt8.toInt32))) m_taped 15) m_tape (15 : Int32).toNatClampNeg (vp_nar .byte (((a1 >>> (0 &&& 31))).toInt8.toInt32))) m_taped 16) h rfl (by decide) (by decide) dM_four_36

set_option maxHeartbeats 4000000 in
set_option maxRecDepth 100000 in
/-- four(): taped grows -/
theorem t_four16 (l : Launch) (g : GG) (o : Nat) (ad : Nat → Nat) (M : MS) (a1 : Int32) (htap : M.1 m_taped = 16) : KV l yM_four cM_four 3 (rD 0 0 0) g (mW g o ad M) (mW g o ad) [.ref o, .int (a1)] (fun M' : MS => M'.1 m_taped = 20) := by
  refine KV.of (by decide) (Nat.le_of_ble_eq_true rfl) ?_
  intro p e s m below meth c A ls C hr hlk hnm h hl
  have hx := C.1.1
  have hb := C.1.2.1
  have hl : lv_has ls 3 [(0, .ref o), (1, .int (a1))] := hl
  refine lv_bipush (v := 24) hx hb dM_four_0 (by decide) ?_
  refine lv_istore_n (lv' := [(2, .int (24)), (0, .ref o), (1, .int (a1))]) hx hb dM_four_2 rfl hl (by decide) rfl (fun ls hl => ?_)
  refine lv_iload_n hx hb dM_four_3 rfl (lv_at hl 0 rfl) ?_
  refine lv_if_lt (tgt := 36) hx hb dM_four_4 (by decide) (fun c4 => absurd c4 (by decide)) (fun c4 => ?_)
  refine lv_aload_n hx hb dM_four_7 rfl (lv_at hl 1 rfl) ?_
  refine mga C h m_tape (by decide) (by decide) rfl dM_four_8 ?_
  refine lv_aload_n hx hb dM_four_11 rfl (lv_at hl 1 rfl) ?_
  refine mgi C h m_taped (by decide) rfl (v := 16) htap rfl dM_four_12 ?_
  refine lv_iload_n hx hb dM_four_15 rfl (lv_at hl 2 rfl) ?_
  refine lv_iload_n hx hb dM_four_16 rfl (lv_at hl 0 rfl) ?_
  refine lv_ishr hx hb dM_four_17 ?_
  refine lv_i2b hx hb dM_four_18 rfl ?_
  refine msb C h m_tape (by decide) rfl (pk_in 16 5000 (by decide) rfl) dM_four_19 (fun H locs h => ?_)
  refine lv_aload_n hx hb dM_four_20 rfl (lv_at hl 1 rfl) ?_
  refine lv_dup hx hb dM_four_21 rfl ?_
  refine mgi C h m_taped (by decide) rfl (v := 16) htap rfl dM_four_22 ?_
  refine lv_iconst (v := 1) hx hb dM_four_25 (by decide) ?_
  refine lv_iadd hx hb dM_four_26 ?_
  refine lv_topi (fun n_1 en_1 => ?_)
  have en_1 : n_1 = 17 := en_1.trans (by decide)
  subst en_1
  refine mpi C h m_taped (by decide) rfl rfl rfl (v := 17) rfl rfl dM_four_27 (fun H locs h => ?_)
  refine lv_iinc (v := 16) (lv' := [(2, .int (16)), (0, .ref o), (1, .int (a1))]) hx hb dM_four_30 hl (k := 0) rfl (by decide) (by decide) rfl (fun ls hl => ?_)
  refine lv_goto (tgt := 3) hx hb dM_four_33 (by decide) ?_
  refine lv_iload_n hx hb dM_four_3 rfl (lv_at hl 0 rfl) ?_
  refine lv_if_lt (tgt := 36) hx hb dM_four_4 (by decide) (fun c4 => absurd c4 (by decide)) (fun c4 => ?_)
  refine lv_aload_n hx hb dM_four_7 rfl (lv_at hl 1 rfl) ?_
  refine mga C h m_tape (by decide) (by decide) rfl dM_four_8 ?_
  refine lv_aload_n hx hb dM_four_11 rfl (lv_at hl 1 rfl) ?_
  refine mgi C h m_taped (by decide) rfl (v := 17) rfl rfl dM_four_12 ?_
  refine lv_iload_n hx hb dM_four_15 rfl (lv_at hl 2 rfl) ?_
  refine lv_iload_n hx hb dM_four_16 rfl (lv_at hl 0 rfl) ?_
  refine lv_ishr hx hb dM_four_17 ?_
  refine lv_i2b hx hb dM_four_18 rfl ?_
  refine msb C h m_tape (by decide) rfl (pk_in 17 5000 (by decide) rfl) dM_four_19 (fun H locs h => ?_)
  refine lv_aload_n hx hb dM_four_20 rfl (lv_at hl 1 rfl) ?_
  refine lv_dup hx hb dM_four_21 rfl ?_
  refine mgi C h m_taped (by decide) rfl (v := 17) rfl rfl dM_four_22 ?_
  refine lv_iconst (v := 1) hx hb dM_four_25 (by decide) ?_
  refine lv_iadd hx hb dM_four_26 ?_
  refine lv_topi (fun n_2 en_2 => ?_)
  have en_2 : n_2 = 18 := en_2.trans (by decide)
  subst en_2
  refine mpi C h m_taped (by decide) rfl rfl rfl (v := 18) rfl rfl dM_four_27 (fun H locs h => ?_)
  refine lv_iinc (v := 8) (lv' := [(2, .int (8)), (0, .ref o), (1, .int (a1))]) hx hb dM_four_30 hl (k := 0) rfl (by decide) (by decide) rfl (fun ls hl => ?_)
  refine lv_goto (tgt := 3) hx hb dM_four_33 (by decide) ?_
  refine lv_iload_n hx hb dM_four_3 rfl (lv_at hl 0 rfl) ?_
  refine lv_if_lt (tgt := 36) hx hb dM_four_4 (by decide) (fun c4 => absurd c4 (by decide)) (fun c4 => ?_)
  refine lv_aload_n hx hb dM_four_7 rfl (lv_at hl 1 rfl) ?_
  refine mga C h m_tape (by decide) (by decide) rfl dM_four_8 ?_
  refine lv_aload_n hx hb dM_four_11 rfl (lv_at hl 1 rfl) ?_
  refine mgi C h m_taped (by decide) rfl (v := 18) rfl rfl dM_four_12 ?_
  refine lv_iload_n hx hb dM_four_15 rfl (lv_at hl 2 rfl) ?_
  refine lv_iload_n hx hb dM_four_16 rfl (lv_at hl 0 rfl) ?_
  refine lv_ishr hx hb dM_four_17 ?_
  refine lv_i2b hx hb dM_four_18 rfl ?_
  refine msb C h m_tape (by decide) rfl (pk_in 18 5000 (by decide) rfl) dM_four_19 (fun H locs h => ?_)
  refine lv_aload_n hx hb dM_four_20 rfl (lv_at hl 1 rfl) ?_
  refine lv_dup hx hb dM_four_21 rfl ?_
  refine mgi C h m_taped (by decide) rfl (v := 18) rfl rfl dM_four_22 ?_
  refine lv_iconst (v := 1) hx hb dM_four_25 (by decide) ?_
  refine lv_iadd hx hb dM_four_26 ?_
  refine lv_topi (fun n_3 en_3 => ?_)
  have en_3 : n_3 = 19 := en_3.trans (by decide)
  subst en_3
  refine mpi C h m_taped (by decide) rfl rfl rfl (v := 19) rfl rfl dM_four_27 (fun H locs h => ?_)
  refine lv_iinc (v := 0) (lv' := [(2, .int (0)), (0, .ref o), (1, .int (a1))]) hx hb dM_four_30 hl (k := 0) rfl (by decide) (by decide) rfl (fun ls hl => ?_)
  refine lv_goto (tgt := 3) hx hb dM_four_33 (by decide) ?_
  refine lv_iload_n hx hb dM_four_3 rfl (lv_at hl 0 rfl) ?_
  refine lv_if_lt (tgt := 36) hx hb dM_four_4 (by decide) (fun c4 => absurd c4 (by decide)) (fun c4 => ?_)
  refine lv_aload_n hx hb dM_four_7 rfl (lv_at hl 1 rfl) ?_
  refine mga C h m_tape (by decide) (by decide) rfl dM_four_8 ?_
  refine lv_aload_n hx hb dM_four_11 rfl (lv_at hl 1 rfl) ?_
  refine mgi C h m_taped (by decide) rfl (v := 19) rfl rfl dM_four_12 ?_
  refine lv_iload_n hx hb dM_four_15 rfl (lv_at hl 2 rfl) ?_
  refine lv_iload_n hx hb dM_four_16 rfl (lv_at hl 0 rfl) ?_
  refine lv_ishr hx hb dM_four_17 ?_
  refine lv_i2b hx hb dM_four_18 rfl ?_
  refine msb C h m_tape (by decide) rfl (pk_in 19 5000 (by decide) rfl) dM_four_19 (fun H locs h => ?_)
  refine lv_aload_n hx hb dM_four_20 rfl (lv_at hl 1 rfl) ?_
  refine lv_dup hx hb dM_four_21 rfl ?_
  refine mgi C h m_taped (by decide) rfl (v := 19) rfl rfl dM_four_22 ?_
  refine lv_iconst (v := 1) hx hb dM_four_25 (by decide) ?_
  refine lv_iadd hx hb dM_four_26 ?_
  refine lv_topi (fun n_4 en_4 => ?_)
  have en_4 : n_4 = 20 := en_4.trans (by decide)
  subst en_4
  refine mpi C h m_taped (by decide) rfl rfl rfl (v := 20) rfl rfl dM_four_27 (fun H locs h => ?_)
  refine lv_iinc (v := -8) (lv' := [(2, .int (-8)), (0, .ref o), (1, .int (a1))]) hx hb dM_four_30 hl (k := 0) rfl (by decide) (by decide) rfl (fun ls hl => ?_)
  refine lv_goto (tgt := 3) hx hb dM_four_33 (by decide) ?_
  refine lv_iload_n hx hb dM_four_3 rfl (lv_at hl 0 rfl) ?_
  refine lv_if_lt (tgt := 36) hx hb dM_four_4 (by decide) (fun c4 => ?_) (fun c4 => absurd c4 (by decide))
  exact KV.ret C hr hlk (mput (mseti (mput (mseti (mput (mseti (mput (mseti M m_tape (16 : Int32).toNatClampNeg (vp_nar .byte (((a1 >>> (24 &&& 31))).toInt8.toInt32))) m_taped 17) m_tape (17 : Int32).toNatClampNeg (vp_nar .byte (((a1 >>> (16 &&& 31))).toInt8.toInt32))) m_taped 18) m_tape (18 : Int32).toNatClampNeg (vp_nar .byte (((a1 >>> (8 &&& 31))).toInt8.toInt32))) m_taped 19) m_tape (19 : Int32).toNatClampNeg (vp_nar .byte (((a1 >>> (0 &&& 31))).toInt8.toInt32))) m_taped 20) h rfl (by decide) (by decide) dM_four_36

set_option maxHeartbeats 4000000 in
set_option maxRecDepth 100000 in
/-- feed() on a fresh object -/
theorem t_feed (l : Launch) (g : GG) (o : Nat) (ad : Nat → Nat) (M : MS) (a1 : Int32) (a2 : Int32) (a3 : Int32) (a4 : Int32) (a5 : Int32) (htap : M.1 m_taped = 0) : KI l yM_feed cM_feed 6 (some .boolean) (rD 1 0 0) g (mW g o ad M) (mW g o ad) [.ref o, .int (a1), .int (a2), .int (a3), .int (a4), .int (a5)] (fun (r : Int32) (M' : MS) => r = 1) := by
  refine KI.of (by decide) (Nat.le_of_ble_eq_true rfl) ?_
  intro p e s m below meth c A ls C hr hlk hnm h hl
  have hx := C.1.1
  have hb := C.1.2.1
  have hl : lv_has ls 6 [(0, .ref o), (1, .int (a1)), (2, .int (a2)), (3, .int (a3)), (4, .int (a4)), (5, .int (a5))] := hl
  refine lv_aload_n hx hb dM_feed_0 rfl (lv_at hl 0 rfl) ?_
  refine mgi C h m_taped (by decide) rfl (v := 0) htap rfl dM_feed_1 ?_
  refine lv_sipush (v := 4980) hx hb dM_feed_4 (by decide) ?_
  refine lv_icmp_le (tgt := 12) hx hb dM_feed_7 (by decide) (fun c7 => ?_) (fun c7 => absurd c7 (by decide))
  refine lv_aload_n hx hb dM_feed_12 rfl (lv_at hl 0 rfl) ?_
  refine lv_iload_n hx hb dM_feed_13 rfl (lv_at hl 1 rfl) ?_
  refine KV.callV (As := [.int (a1)]) (q0 := 0) (ci := 0) C h (t_four0 l g o ad M a1 htap) vM_feed_405 ⟨by decide, by decide⟩ rfl rfl hl.1 rfl (Nat.le_of_ble_eq_true rfl) dM_feed_14 ⟨by decide, by decide⟩ (fun u_2 H locs hp h => ?_)
  have hq4 := hp
  refine lv_aload_n hx hb dM_feed_17 rfl (lv_at hl 0 rfl) ?_
  refine lv_iload_n hx hb dM_feed_18 rfl (lv_at hl 2 rfl) ?_
  refine KV.callV (As := [.int (a2)]) (q0 := 0) (ci := 0) C h (t_four4 l g o ad u_2 a2 hq4) vM_feed_405 ⟨by decide, by decide⟩ rfl rfl hl.1 rfl (Nat.le_of_ble_eq_true rfl) dM_feed_19 ⟨by decide, by decide⟩ (fun u_4 H locs hp h => ?_)
  have hq8 := hp
  refine lv_aload_n hx hb dM_feed_22 rfl (lv_at hl 0 rfl) ?_
  refine lv_iload_n hx hb dM_feed_23 rfl (lv_at hl 3 rfl) ?_
  refine KV.callV (As := [.int (a3)]) (q0 := 0) (ci := 0) C h (t_four8 l g o ad u_4 a3 hq8) vM_feed_405 ⟨by decide, by decide⟩ rfl rfl hl.1 rfl (Nat.le_of_ble_eq_true rfl) dM_feed_24 ⟨by decide, by decide⟩ (fun u_6 H locs hp h => ?_)
  have hq12 := hp
  refine lv_aload_n hx hb dM_feed_27 rfl (lv_at hl 0 rfl) ?_
  refine lv_iload hx hb dM_feed_28 (lv_at hl 4 rfl) ?_
  refine KV.callV (As := [.int (a4)]) (q0 := 0) (ci := 0) C h (t_four12 l g o ad u_6 a4 hq12) vM_feed_405 ⟨by decide, by decide⟩ rfl rfl hl.1 rfl (Nat.le_of_ble_eq_true rfl) dM_feed_30 ⟨by decide, by decide⟩ (fun u_8 H locs hp h => ?_)
  have hq16 := hp
  refine lv_aload_n hx hb dM_feed_33 rfl (lv_at hl 0 rfl) ?_
  refine lv_iload hx hb dM_feed_34 (lv_at hl 5 rfl) ?_
  refine KV.callV (As := [.int (a5)]) (q0 := 0) (ci := 0) C h (t_four16 l g o ad u_8 a5 hq16) vM_feed_405 ⟨by decide, by decide⟩ rfl rfl hl.1 rfl (Nat.le_of_ble_eq_true rfl) dM_feed_36 ⟨by decide, by decide⟩ (fun u_10 H locs hp h => ?_)
  have hq20 := hp
  refine lv_iconst (v := 1) hx hb dM_feed_39 (by decide) ?_
  exact KI.ret C hr hlk u_10 h rfl rfl (by decide) (by decide) dM_feed_40

def s_toText0 (M : MS) : MS := mput (mput M m_length 0) m_taped 0
set_option maxHeartbeats 4000000 in
set_option maxRecDepth 100000 in
/-- toText(0) -/
theorem t_toText0 (l : Launch) (g : GG) (o : Nat) (ad : Nat → Nat) (M : MS)  : KV l yM_toText cM_toText 3 (rD 0 0 0) g (mW g o ad M) (mW g o ad) [.ref o, .int (0)] (fun M' : MS => M' = s_toText0 M) := by
  refine KV.of (by decide) (Nat.le_of_ble_eq_true rfl) ?_
  intro p e s m below meth c A ls C hr hlk hnm h hl
  have hx := C.1.1
  have hb := C.1.2.1
  have hl : lv_has ls 3 [(0, .ref o), (1, .int (0))] := hl
  refine lv_iconst (v := 0) hx hb dM_toText_0 (by decide) ?_
  refine lv_istore_n (lv' := [(2, .int (0)), (0, .ref o), (1, .int (0))]) hx hb dM_toText_1 rfl hl (by decide) rfl (fun ls hl => ?_)
  refine lv_iload_n hx hb dM_toText_2 rfl (lv_at hl 0 rfl) ?_
  refine lv_iload_n hx hb dM_toText_3 rfl (lv_at hl 2 rfl) ?_
  refine lv_icmp_ge (tgt := 25) hx hb dM_toText_4 (by decide) (fun c4 => ?_) (fun c4 => absurd c4 (by decide))
  refine lv_aload_n hx hb dM_toText_25 rfl (lv_at hl 1 rfl) ?_
  refine lv_iload_n hx hb dM_toText_26 rfl (lv_at hl 2 rfl) ?_
  refine mpi C h m_length (by decide) rfl rfl rfl (v := 0) rfl rfl dM_toText_27 (fun H locs h => ?_)
  refine lv_aload_n hx hb dM_toText_30 rfl (lv_at hl 1 rfl) ?_
  refine lv_iconst (v := 0) hx hb dM_toText_31 (by decide) ?_
  refine mpi C h m_taped (by decide) rfl rfl rfl (v := 0) rfl rfl dM_toText_32 (fun H locs h => ?_)
  exact KV.ret C hr hlk (mput (mput M m_length 0) m_taped 0) h rfl (by decide) (by decide) dM_toText_35

set_option maxHeartbeats 4000000 in
set_option maxRecDepth 100000 in
/-- breaks() while there is no fault -/
theorem t_breaks0 (l : Launch) (g : GG) (o : Nat) (ad : Nat → Nat) (M : MS) (a1 : Int32) (a2 : Int32) (hf : M.1 m_fault = 0) : KV l yM_breaks cM_breaks 3 (rD 0 0 0) g (mW g o ad M) (mW g o ad) [.ref o, .int (a1), .int (a2)] (fun M' : MS => M' = mput (mput M m_fault a1) m_faultAt a2) := by
  refine KV.of (by decide) (Nat.le_of_ble_eq_true rfl) ?_
  intro p e s m below meth c A ls C hr hlk hnm h hl
  have hx := C.1.1
  have hb := C.1.2.1
  have hl : lv_has ls 3 [(0, .ref o), (1, .int (a1)), (2, .int (a2))] := hl
  refine lv_aload_n hx hb dM_breaks_0 rfl (lv_at hl 0 rfl) ?_
  refine mgi C h m_fault (by decide) rfl (v := 0) hf rfl dM_breaks_1 ?_
  refine lv_if_ne (tgt := 17) hx hb dM_breaks_4 (by decide) (fun c4 => absurd c4 (by decide)) (fun c4 => ?_)
  refine lv_aload_n hx hb dM_breaks_7 rfl (lv_at hl 0 rfl) ?_
  refine lv_iload_n hx hb dM_breaks_8 rfl (lv_at hl 1 rfl) ?_
  refine mpi C h m_fault (by decide) rfl rfl rfl (v := a1) rfl rfl dM_breaks_9 (fun H locs h => ?_)
  refine lv_aload_n hx hb dM_breaks_12 rfl (lv_at hl 0 rfl) ?_
  refine lv_iload_n hx hb dM_breaks_13 rfl (lv_at hl 2 rfl) ?_
  refine mpi C h m_faultAt (by decide) rfl rfl rfl (v := a2) rfl rfl dM_breaks_14 (fun H locs h => ?_)
  exact KV.ret C hr hlk (mput (mput M m_fault a1) m_faultAt a2) h rfl (by decide) (by decide) dM_breaks_17

def s_wrong0 (M : MS) : MS := mput (mput M m_fault 1) m_faultAt (M.2.1 m_tp (0 : Int32).toNatClampNeg)
set_option maxHeartbeats 4000000 in
set_option maxRecDepth 100000 in
/-- wrong() at the first token -/
theorem t_wrong0 (l : Launch) (g : GG) (o : Nat) (ad : Nat → Nat) (M : MS) (hf : M.1 m_fault = 0) (hat : M.1 m_at = 0) : KV l yM_wrong cM_wrong 1 (rD 1 0 0) g (mW g o ad M) (mW g o ad) [.ref o] (fun M' : MS => M' = s_wrong0 M) := by
  refine KV.of (by decide) (Nat.le_of_ble_eq_true rfl) ?_
  intro p e s m below meth c A ls C hr hlk hnm h hl
  have hx := C.1.1
  have hb := C.1.2.1
  have hl : lv_has ls 1 [(0, .ref o)] := hl
  refine lv_aload_n hx hb dM_wrong_0 rfl (lv_at hl 0 rfl) ?_
  refine lv_iconst (v := 1) hx hb dM_wrong_1 (by decide) ?_
  refine lv_aload_n hx hb dM_wrong_2 rfl (lv_at hl 0 rfl) ?_
  refine mga C h m_tp (by decide) (by decide) rfl dM_wrong_3 ?_
  refine lv_aload_n hx hb dM_wrong_6 rfl (lv_at hl 0 rfl) ?_
  refine mgi C h m_at (by decide) rfl (v := 0) hat rfl dM_wrong_7 ?_
  refine mai C h m_tp (by decide) rfl (pk_in 0 1202 (by decide) rfl) (v := M.2.1 m_tp (0 : Int32).toNatClampNeg) rfl dM_wrong_10 ?_
  refine KV.callV (As := [.int (1), .int (M.2.1 m_tp (0 : Int32).toNatClampNeg)]) (q0 := 0) (ci := 0) C h (t_breaks0 l g o ad M 1 (M.2.1 m_tp (0 : Int32).toNatClampNeg) hf) vM_wrong_453 ⟨by decide, by decide⟩ rfl rfl hl.1 rfl (Nat.le_of_ble_eq_true rfl) dM_wrong_11 ⟨by decide, by decide⟩ (fun u_2 H locs hp h => ?_)
  subst hp
  exact KV.ret C hr hlk (mput (mput M m_fault 1) m_faultAt (M.2.1 m_tp (0 : Int32).toNatClampNeg)) h rfl (by decide) (by decide) dM_wrong_14

def s_token0 (M : MS) (a1 a2 : Int32) (v3 : Int64) : MS := mput (msetj (mseti (mseti M m_tk (0 : Int32).toNatClampNeg a1) m_tp (0 : Int32).toNatClampNeg a2) m_tv (0 : Int32).toNatClampNeg v3) m_many 1
set_option maxHeartbeats 4000000 in
set_option maxRecDepth 100000 in
/-- the first token -/
theorem t_token0 (l : Launch) (g : GG) (o : Nat) (ad : Nat → Nat) (M : MS) (a1 : Int32) (a2 : Int32) (v3 : Int64) (hm : M.1 m_many = 0) : KV l yM_token cM_token 5 (rD 0 0 0) g (mW g o ad M) (mW g o ad) [.ref o, .int (a1), .int (a2), .long (v3)] (fun M' : MS => M' = s_token0 M a1 a2 v3) := by
  refine KV.of (by decide) (Nat.le_of_ble_eq_true rfl) ?_
  intro p e s m below meth c A ls C hr hlk hnm h hl
  have hx := C.1.1
  have hb := C.1.2.1
  have hl : lv_has ls 5 [(0, .ref o), (1, .int (a1)), (2, .int (a2)), (3, .long (v3))] := hl
  refine lv_aload_n hx hb dM_token_0 rfl (lv_at hl 0 rfl) ?_
  refine mga C h m_tk (by decide) (by decide) rfl dM_token_1 ?_
  refine lv_aload_n hx hb dM_token_4 rfl (lv_at hl 0 rfl) ?_
  refine mgi C h m_many (by decide) rfl (v := 0) hm rfl dM_token_5 ?_
  refine lv_iload_n hx hb dM_token_8 rfl (lv_at hl 1 rfl) ?_
  refine msi C h m_tk (by decide) rfl (pk_in 0 1202 (by decide) rfl) dM_token_9 (fun H locs h => ?_)
  refine lv_aload_n hx hb dM_token_10 rfl (lv_at hl 0 rfl) ?_
  refine mga C h m_tp (by decide) (by decide) rfl dM_token_11 ?_
  refine lv_aload_n hx hb dM_token_14 rfl (lv_at hl 0 rfl) ?_
  refine mgi C h m_many (by decide) rfl (v := 0) hm rfl dM_token_15 ?_
  refine lv_iload_n hx hb dM_token_18 rfl (lv_at hl 2 rfl) ?_
  refine msi C h m_tp (by decide) rfl (pk_in 0 1202 (by decide) rfl) dM_token_19 (fun H locs h => ?_)
  refine lv_aload_n hx hb dM_token_20 rfl (lv_at hl 0 rfl) ?_
  refine mga C h m_tv (by decide) (by decide) rfl dM_token_21 ?_
  refine lv_aload_n hx hb dM_token_24 rfl (lv_at hl 0 rfl) ?_
  refine mgi C h m_many (by decide) rfl (v := 0) hm rfl dM_token_25 ?_
  refine lv_lload_n hx hb dM_token_28 rfl (lv_at hl 3 rfl) ?_
  refine msj C h m_tv (by decide) rfl (pk_in 0 1202 (by decide) rfl) dM_token_29 (fun H locs h => ?_)
  refine lv_aload_n hx hb dM_token_30 rfl (lv_at hl 0 rfl) ?_
  refine lv_dup hx hb dM_token_31 rfl ?_
  refine mgi C h m_many (by decide) rfl (v := 0) hm rfl dM_token_32 ?_
  refine lv_iconst (v := 1) hx hb dM_token_35 (by decide) ?_
  refine lv_iadd hx hb dM_token_36 ?_
  refine lv_topi (fun n_1 en_1 => ?_)
  have en_1 : n_1 = 1 := en_1.trans (by decide)
  subst en_1
  refine mpi C h m_many (by decide) rfl rfl rfl (v := 1) rfl rfl dM_token_37 (fun H locs h => ?_)
  exact KV.ret C hr hlk (mput (msetj (mseti (mseti M m_tk (0 : Int32).toNatClampNeg a1) m_tp (0 : Int32).toNatClampNeg a2) m_tv (0 : Int32).toNatClampNeg v3) m_many 1) h rfl (by decide) (by decide) dM_token_40

set_option maxHeartbeats 4000000 in
set_option maxRecDepth 100000 in
/-- behindBlanks(0) of an empty text -/
theorem t_behindBlanks0 (l : Launch) (g : GG) (o : Nat) (ad : Nat → Nat) (M : MS) (hlen : M.1 m_length = 0) : KI l yM_behindBlanks cM_behindBlanks 5 (some .int) (rD 0 0 0) g (mW g o ad M) (mW g o ad) [.ref o, .int (0)] (fun (r : Int32) (M' : MS) => M' = M ∧ r = 0) := by
  refine KI.of (by decide) (Nat.le_of_ble_eq_true rfl) ?_
  intro p e s m below meth c A ls C hr hlk hnm h hl
  have hx := C.1.1
  have hb := C.1.2.1
  have hl : lv_has ls 5 [(0, .ref o), (1, .int (0))] := hl
  refine lv_iload_n hx hb dM_behindBlanks_0 rfl (lv_at hl 1 rfl) ?_
  refine lv_istore_n (lv' := [(2, .int (0)), (0, .ref o), (1, .int (0))]) hx hb dM_behindBlanks_1 rfl hl (by decide) rfl (fun ls hl => ?_)
  refine lv_iconst (v := 1) hx hb dM_behindBlanks_2 (by decide) ?_
  refine lv_istore_n (lv' := [(3, .int (1)), (2, .int (0)), (0, .ref o), (1, .int (0))]) hx hb dM_behindBlanks_3 rfl hl (by decide) rfl (fun ls hl => ?_)
  refine lv_iload_n hx hb dM_behindBlanks_4 rfl (lv_at hl 0 rfl) ?_
  refine lv_if_eq (tgt := 93) hx hb dM_behindBlanks_5 (by decide) (fun c5 => absurd c5 (by decide)) (fun c5 => ?_)
  refine lv_iload_n hx hb dM_behindBlanks_8 rfl (lv_at hl 1 rfl) ?_
  refine lv_aload_n hx hb dM_behindBlanks_9 rfl (lv_at hl 2 rfl) ?_
  refine mgi C h m_length (by decide) rfl (v := 0) hlen rfl dM_behindBlanks_10 ?_
  refine lv_icmp_ge (tgt := 93) hx hb dM_behindBlanks_13 (by decide) (fun c13 => ?_) (fun c13 => absurd c13 (by decide))
  refine lv_iload_n hx hb dM_behindBlanks_93 rfl (lv_at hl 1 rfl) ?_
  exact KI.ret C hr hlk M h rfl ⟨rfl, rfl⟩ (by decide) (by decide) dM_behindBlanks_94

def s_cut0 (M : MS) : MS := s_token0 (mput M m_many 0) 0 0 0
set_option maxHeartbeats 4000000 in
set_option maxRecDepth 100000 in
/-- cut() of an empty text -/
theorem t_cut0 (l : Launch) (g : GG) (o : Nat) (ad : Nat → Nat) (M : MS) (hlen : M.1 m_length = 0) : KV l yM_cut cM_cut 3 (rD 1 0 0) g (mW g o ad M) (mW g o ad) [.ref o] (fun M' : MS => M' = s_cut0 M) := by
  refine KV.of (by decide) (Nat.le_of_ble_eq_true rfl) ?_
  intro p e s m below meth c A ls C hr hlk hnm h hl
  have hx := C.1.1
  have hb := C.1.2.1
  have hl : lv_has ls 3 [(0, .ref o)] := hl
  refine lv_aload_n hx hb dM_cut_0 rfl (lv_at hl 0 rfl) ?_
  refine lv_iconst (v := 0) hx hb dM_cut_1 (by decide) ?_
  refine mpi C h m_many (by decide) rfl rfl rfl (v := 0) rfl rfl dM_cut_2 (fun H locs h => ?_)
  refine lv_iconst (v := 0) hx hb dM_cut_5 (by decide) ?_
  refine lv_istore_n (lv' := [(1, .int (0)), (0, .ref o)]) hx hb dM_cut_6 rfl hl (by decide) rfl (fun ls hl => ?_)
  refine lv_iconst (v := 0) hx hb dM_cut_7 (by decide) ?_
  refine lv_istore_n (lv' := [(2, .int (0)), (1, .int (0)), (0, .ref o)]) hx hb dM_cut_8 rfl hl (by decide) rfl (fun ls hl => ?_)
  refine lv_iload_n hx hb dM_cut_9 rfl (lv_at hl 0 rfl) ?_
  refine lv_if_ne (tgt := 70) hx hb dM_cut_10 (by decide) (fun c10 => absurd c10 (by decide)) (fun c10 => ?_)
  refine lv_aload_n hx hb dM_cut_13 rfl (lv_at hl 2 rfl) ?_
  refine mgi C h m_many (by decide) rfl (v := 0) rfl rfl dM_cut_14 ?_
  refine lv_sipush (v := 1200) hx hb dM_cut_17 (by decide) ?_
  refine lv_icmp_gt (tgt := 70) hx hb dM_cut_20 (by decide) (fun c20 => absurd c20 (by decide)) (fun c20 => ?_)
  refine lv_aload_n hx hb dM_cut_23 rfl (lv_at hl 2 rfl) ?_
  refine lv_iload_n hx hb dM_cut_24 rfl (lv_at hl 1 rfl) ?_
  refine KI.callV (As := [.int (0)]) (q0 := 0) (ci := 0) C h (t_behindBlanks0 l g o ad (mput M m_many 0) hlen) vM_cut_421 ⟨by decide, by decide⟩ rfl rfl hl.1 rfl (Nat.le_of_ble_eq_true rfl) dM_cut_25 ⟨by decide, by decide⟩ (fun r_1 u_2 H locs hp h => ?_)
  obtain ⟨eu, er⟩ := hp
  rw [eu] at h
  subst er
  refine lv_istore_n (lv' := [(1, .int (0)), (2, .int (0)), (0, .ref o)]) hx hb dM_cut_28 rfl hl (by decide) rfl (fun ls hl => ?_)
  refine lv_iload_n hx hb dM_cut_29 rfl (lv_at hl 0 rfl) ?_
  refine lv_aload_n hx hb dM_cut_30 rfl (lv_at hl 2 rfl) ?_
  refine mgi C h m_length (by decide) rfl (v := 0) hlen rfl dM_cut_31 ?_
  refine lv_icmp_lt (tgt := 40) hx hb dM_cut_34 (by decide) (fun c34 => absurd c34 (by decide)) (fun c34 => ?_)
  refine lv_goto (tgt := 70) hx hb dM_cut_37 (by decide) ?_
  refine lv_iload_n hx hb dM_cut_70 rfl (lv_at hl 1 rfl) ?_
  refine lv_if_ne (tgt := 94) hx hb dM_cut_71 (by decide) (fun c71 => absurd c71 (by decide)) (fun c71 => ?_)
  refine lv_aload_n hx hb dM_cut_74 rfl (lv_at hl 2 rfl) ?_
  refine mgi C h m_many (by decide) rfl (v := 0) rfl rfl dM_cut_75 ?_
  refine lv_sipush (v := 1200) hx hb dM_cut_78 (by decide) ?_
  refine lv_icmp_gt (tgt := 94) hx hb dM_cut_81 (by decide) (fun c81 => absurd c81 (by decide)) (fun c81 => ?_)
  refine lv_aload_n hx hb dM_cut_84 rfl (lv_at hl 2 rfl) ?_
  refine lv_iconst (v := 0) hx hb dM_cut_85 (by decide) ?_
  refine lv_aload_n hx hb dM_cut_86 rfl (lv_at hl 2 rfl) ?_
  refine mgi C h m_length (by decide) rfl (v := 0) hlen rfl dM_cut_87 ?_
  refine lv_lconst (v := 0) hx hb dM_cut_90 (by decide) ?_
  refine KV.callV (As := [.int (0), .int (0), .long (0)]) (q0 := 0) (ci := 0) C h (t_token0 l g o ad (mput M m_many 0) 0 0 0 rfl) vM_cut_427 ⟨by decide, by decide⟩ rfl rfl hl.1 rfl (Nat.le_of_ble_eq_true rfl) dM_cut_91 ⟨by decide, by decide⟩ (fun u_4 H locs hp h => ?_)
  subst hp
  exact KV.ret C hr hlk (s_token0 (mput M m_many 0) 0 0 0) h rfl (by decide) (by decide) dM_cut_94

set_option maxHeartbeats 4000000 in
set_option maxRecDepth 100000 in
/-- isWord() at the end of an empty text -/
theorem t_isWord0 (l : Launch) (g : GG) (o : Nat) (ad : Nat → Nat) (M : MS) (a1 : Int32) (hat : M.1 m_at = 0) (htk : M.2.1 m_tk (0 : Int32).toNatClampNeg = 0) : KI l yM_isWord cM_isWord 2 (some .boolean) (rD 0 0 0) g (mW g o ad M) (mW g o ad) [.ref o, .int (a1)] (fun (r : Int32) (M' : MS) => M' = M ∧ r = 0) := by
  refine KI.of (by decide) (Nat.le_of_ble_eq_true rfl) ?_
  intro p e s m below meth c A ls C hr hlk hnm h hl
  have hx := C.1.1
  have hb := C.1.2.1
  have hl : lv_has ls 2 [(0, .ref o), (1, .int (a1))] := hl
  refine lv_aload_n hx hb dM_isWord_0 rfl (lv_at hl 0 rfl) ?_
  refine mga C h m_tk (by decide) (by decide) rfl dM_isWord_1 ?_
  refine lv_aload_n hx hb dM_isWord_4 rfl (lv_at hl 0 rfl) ?_
  refine mgi C h m_at (by decide) rfl (v := 0) hat rfl dM_isWord_5 ?_
  refine mai C h m_tk (by decide) rfl (pk_in 0 1202 (by decide) rfl) (v := 0) htk dM_isWord_8 ?_
  refine lv_iconst (v := 4) hx hb dM_isWord_9 (by decide) ?_
  refine lv_icmp_ne (tgt := 32) hx hb dM_isWord_10 (by decide) (fun c10 => ?_) (fun c10 => absurd c10 (by decide))
  refine lv_iconst (v := 0) hx hb dM_isWord_32 (by decide) ?_
  exact KI.ret C hr hlk M h rfl ⟨rfl, rfl⟩ (by decide) (by decide) dM_isWord_33

set_option maxHeartbeats 4000000 in
set_option maxRecDepth 100000 in
/-- mayWord() at the end of an empty text -/
theorem t_mayWord0 (l : Launch) (g : GG) (o : Nat) (ad : Nat → Nat) (M : MS) (a1 : Int32) (hf : M.1 m_fault = 0) (hat : M.1 m_at = 0) (htk : M.2.1 m_tk (0 : Int32).toNatClampNeg = 0) : KI l yM_mayWord cM_mayWord 3 (some .boolean) (rD 1 0 0) g (mW g o ad M) (mW g o ad) [.ref o, .int (a1)] (fun (r : Int32) (M' : MS) => M' = M ∧ r = 0) := by
  refine KI.of (by decide) (Nat.le_of_ble_eq_true rfl) ?_
  intro p e s m below meth c A ls C hr hlk hnm h hl
  have hx := C.1.1
  have hb := C.1.2.1
  have hl : lv_has ls 3 [(0, .ref o), (1, .int (a1))] := hl
  refine lv_aload_n hx hb dM_mayWord_0 rfl (lv_at hl 0 rfl) ?_
  refine KI.callV (As := []) (q0 := 0) (ci := 0) C h (t_stops l g o ad M) vM_mayWord_461 ⟨by decide, by decide⟩ rfl rfl hl.1 rfl (Nat.le_of_ble_eq_true rfl) dM_mayWord_1 ⟨by decide, by decide⟩ (fun r_1 u_2 H locs hp h => ?_)
  obtain ⟨eu, er⟩ := hp
  rw [eu] at h
  have er : r_1 = 0 := by rw [er]; simp [mStops, hf]
  subst er
  refine lv_if_ne (tgt := 19) hx hb dM_mayWord_4 (by decide) (fun c4 => absurd c4 (by decide)) (fun c4 => ?_)
  refine lv_aload_n hx hb dM_mayWord_7 rfl (lv_at hl 0 rfl) ?_
  refine lv_iload_n hx hb dM_mayWord_8 rfl (lv_at hl 1 rfl) ?_
  refine KI.callV (As := [.int (a1)]) (q0 := 0) (ci := 0) C h (t_isWord0 l g o ad M a1 hat htk) vM_mayWord_471 ⟨by decide, by decide⟩ rfl rfl hl.1 rfl (Nat.le_of_ble_eq_true rfl) dM_mayWord_9 ⟨by decide, by decide⟩ (fun r_3 u_4 H locs hp h => ?_)
  obtain ⟨eu, er⟩ := hp
  rw [eu] at h
  subst er
  refine lv_if_eq (tgt := 19) hx hb dM_mayWord_12 (by decide) (fun c12 => ?_) (fun c12 => absurd c12 (by decide))
  refine lv_iconst (v := 0) hx hb dM_mayWord_19 (by decide) ?_
  refine lv_istore_n (lv' := [(2, .int (0)), (0, .ref o), (1, .int (a1))]) hx hb dM_mayWord_20 rfl hl (by decide) rfl (fun ls hl => ?_)
  refine lv_iload_n hx hb dM_mayWord_21 rfl (lv_at hl 0 rfl) ?_
  refine lv_if_eq (tgt := 29) hx hb dM_mayWord_22 (by decide) (fun c22 => ?_) (fun c22 => absurd c22 (by decide))
  refine lv_iload_n hx hb dM_mayWord_29 rfl (lv_at hl 0 rfl) ?_
  exact KI.ret C hr hlk M h rfl ⟨rfl, rfl⟩ (by decide) (by decide) dM_mayWord_30

set_option maxHeartbeats 4000000 in
set_option maxRecDepth 100000 in
/-- system() of an empty text: SYNTAX -/
theorem t_system0 (l : Launch) (g : GG) (o : Nat) (ad : Nat → Nat) (M : MS) (hf : M.1 m_fault = 0) (hj : M.1 m_judges = 0) (htk : M.2.1 m_tk (0 : Int32).toNatClampNeg = 0) : KV l yM_system cM_system 5 (rD 2 0 0) g (mW g o ad M) (mW g o ad) [.ref o] (fun M' : MS => M'.1 m_fault = 1 ∧ M'.1 m_there = M.1 m_there) := by
  refine KV.of (by decide) (Nat.le_of_ble_eq_true rfl) ?_
  intro p e s m below meth c A ls C hr hlk hnm h hl
  have hx := C.1.1
  have hb := C.1.2.1
  have hl : lv_has ls 5 [(0, .ref o)] := hl
  refine lv_aload_n hx hb dM_system_0 rfl (lv_at hl 0 rfl) ?_
  refine lv_iconst (v := 0) hx hb dM_system_1 (by decide) ?_
  refine mpi C h m_at (by decide) rfl rfl rfl (v := 0) rfl rfl dM_system_2 (fun H locs h => ?_)
  refine lv_aload_n hx hb dM_system_5 rfl (lv_at hl 0 rfl) ?_
  refine lv_iconst (v := 0) hx hb dM_system_6 (by decide) ?_
  refine mpi C h m_open (by decide) rfl rfl rfl (v := 0) rfl rfl dM_system_7 (fun H locs h => ?_)
  refine lv_aload_n hx hb dM_system_10 rfl (lv_at hl 0 rfl) ?_
  refine lv_iconst (v := 0) hx hb dM_system_11 (by decide) ?_
  refine mpi C h m_codes (by decide) rfl rfl rfl (v := 0) rfl rfl dM_system_12 (fun H locs h => ?_)
  refine lv_aload_n hx hb dM_system_15 rfl (lv_at hl 0 rfl) ?_
  refine lv_iconst (v := 0) hx hb dM_system_16 (by decide) ?_
  refine mpi C h m_forms (by decide) rfl rfl rfl (v := 0) rfl rfl dM_system_17 (fun H locs h => ?_)
  refine lv_aload_n hx hb dM_system_20 rfl (lv_at hl 0 rfl) ?_
  refine lv_iconst (v := 0) hx hb dM_system_21 (by decide) ?_
  refine mpi C h m_stims (by decide) rfl rfl rfl (v := 0) rfl rfl dM_system_22 (fun H locs h => ?_)
  refine lv_aload_n hx hb dM_system_25 rfl (lv_at hl 0 rfl) ?_
  refine lv_iconst (v := 0) hx hb dM_system_26 (by decide) ?_
  refine mpi C h m_ins (by decide) rfl rfl rfl (v := 0) rfl rfl dM_system_27 (fun H locs h => ?_)
  refine lv_aload_n hx hb dM_system_30 rfl (lv_at hl 0 rfl) ?_
  refine lv_iconst (v := 0) hx hb dM_system_31 (by decide) ?_
  refine mpi C h m_ranges (by decide) rfl rfl rfl (v := 0) rfl rfl dM_system_32 (fun H locs h => ?_)
  refine lv_aload_n hx hb dM_system_35 rfl (lv_at hl 0 rfl) ?_
  refine lv_iconst (v := 0) hx hb dM_system_36 (by decide) ?_
  refine mpi C h m_transes (by decide) rfl rfl rfl (v := 0) rfl rfl dM_system_37 (fun H locs h => ?_)
  refine lv_iconst (v := 0) hx hb dM_system_40 (by decide) ?_
  refine lv_istore_n (lv' := [(1, .int (0)), (0, .ref o)]) hx hb dM_system_41 rfl hl (by decide) rfl (fun ls hl => ?_)
  refine lv_iconst (v := 0) hx hb dM_system_42 (by decide) ?_
  refine lv_istore_n (lv' := [(2, .int (0)), (1, .int (0)), (0, .ref o)]) hx hb dM_system_43 rfl hl (by decide) rfl (fun ls hl => ?_)
  refine lv_iconst (v := 0) hx hb dM_system_44 (by decide) ?_
  refine lv_istore_n (lv' := [(3, .int (0)), (2, .int (0)), (1, .int (0)), (0, .ref o)]) hx hb dM_system_45 rfl hl (by decide) rfl (fun ls hl => ?_)
  refine lv_iconst (v := 1) hx hb dM_system_46 (by decide) ?_
  refine lv_istore (lv' := [(4, .int (1)), (3, .int (0)), (2, .int (0)), (1, .int (0)), (0, .ref o)]) hx hb dM_system_47 hl (by decide) rfl (fun ls hl => ?_)
  refine lv_aload_n hx hb dM_system_49 rfl (lv_at hl 4 rfl) ?_
  refine KI.callV (As := []) (q0 := 0) (ci := 0) C h (t_stops l g o ad (mput (mput (mput (mput (mput (mput (mput (mput M m_at 0) m_open 0) m_codes 0) m_forms 0) m_stims 0) m_ins 0) m_ranges 0) m_transes 0)) vM_system_461 ⟨by decide, by decide⟩ rfl rfl hl.1 rfl (Nat.le_of_ble_eq_true rfl) dM_system_50 ⟨by decide, by decide⟩ (fun r_1 u_2 H locs hp h => ?_)
  obtain ⟨eu, er⟩ := hp
  rw [eu] at h
  have er : r_1 = 0 := er.trans (by show mStops _ = 0; exact if_pos (by show M.1 m_fault ≤ 0; rw [hf]; decide))
  subst er
  refine lv_if_ne (tgt := 136) hx hb dM_system_53 (by decide) (fun c53 => absurd c53 (by decide)) (fun c53 => ?_)
  refine lv_iload hx hb dM_system_56 (lv_at hl 0 rfl) ?_
  refine lv_if_ne (tgt := 73) hx hb dM_system_58 (by decide) (fun c58 => ?_) (fun c58 => absurd c58 (by decide))
  refine lv_iconst (v := 0) hx hb dM_system_73 (by decide) ?_
  refine lv_istore (lv' := [(4, .int (0)), (3, .int (0)), (2, .int (0)), (1, .int (0)), (0, .ref o)]) hx hb dM_system_74 hl (by decide) rfl (fun ls hl => ?_)
  refine lv_aload_n hx hb dM_system_76 rfl (lv_at hl 4 rfl) ?_
  refine lv_iconst (v := 0) hx hb dM_system_77 (by decide) ?_
  refine KI.callV (As := [.int (0)]) (q0 := 0) (ci := 0) C h (t_mayWord0 l g o ad (mput (mput (mput (mput (mput (mput (mput (mput M m_at 0) m_open 0) m_codes 0) m_forms 0) m_stims 0) m_ins 0) m_ranges 0) m_transes 0) 0 hf rfl htk) vM_system_522 ⟨by decide, by decide⟩ rfl rfl hl.1 rfl (Nat.le_of_ble_eq_true rfl) dM_system_78 ⟨by decide, by decide⟩ (fun r_3 u_4 H locs hp h => ?_)
  obtain ⟨eu, er⟩ := hp
  rw [eu] at h
  subst er
  refine lv_if_eq (tgt := 91) hx hb dM_system_81 (by decide) (fun c81 => ?_) (fun c81 => absurd c81 (by decide))
  refine lv_aload_n hx hb dM_system_91 rfl (lv_at hl 4 rfl) ?_
  refine lv_iconst (v := 1) hx hb dM_system_92 (by decide) ?_
  refine KI.callV (As := [.int (1)]) (q0 := 0) (ci := 0) C h (t_mayWord0 l g o ad (mput (mput (mput (mput (mput (mput (mput (mput M m_at 0) m_open 0) m_codes 0) m_forms 0) m_stims 0) m_ins 0) m_ranges 0) m_transes 0) 1 hf rfl htk) vM_system_522 ⟨by decide, by decide⟩ rfl rfl hl.1 rfl (Nat.le_of_ble_eq_true rfl) dM_system_93 ⟨by decide, by decide⟩ (fun r_5 u_6 H locs hp h => ?_)
  obtain ⟨eu, er⟩ := hp
  rw [eu] at h
  subst er
  refine lv_if_eq (tgt := 110) hx hb dM_system_96 (by decide) (fun c96 => ?_) (fun c96 => absurd c96 (by decide))
  refine lv_aload_n hx hb dM_system_110 rfl (lv_at hl 4 rfl) ?_
  refine lv_iconst (v := 2) hx hb dM_system_111 (by decide) ?_
  refine KI.callV (As := [.int (2)]) (q0 := 0) (ci := 0) C h (t_mayWord0 l g o ad (mput (mput (mput (mput (mput (mput (mput (mput M m_at 0) m_open 0) m_codes 0) m_forms 0) m_stims 0) m_ins 0) m_ranges 0) m_transes 0) 2 hf rfl htk) vM_system_522 ⟨by decide, by decide⟩ rfl rfl hl.1 rfl (Nat.le_of_ble_eq_true rfl) dM_system_112 ⟨by decide, by decide⟩ (fun r_7 u_8 H locs hp h => ?_)
  obtain ⟨eu, er⟩ := hp
  rw [eu] at h
  subst er
  refine lv_if_eq (tgt := 129) hx hb dM_system_115 (by decide) (fun c115 => ?_) (fun c115 => absurd c115 (by decide))
  refine lv_aload_n hx hb dM_system_129 rfl (lv_at hl 4 rfl) ?_
  refine KV.callV (As := []) (q0 := 0) (ci := 0) C h (t_wrong0 l g o ad (mput (mput (mput (mput (mput (mput (mput (mput M m_at 0) m_open 0) m_codes 0) m_forms 0) m_stims 0) m_ins 0) m_ranges 0) m_transes 0) hf rfl) vM_system_474 ⟨by decide, by decide⟩ rfl rfl hl.1 rfl (Nat.le_of_ble_eq_true rfl) dM_system_130 ⟨by decide, by decide⟩ (fun u_10 H locs hp h => ?_)
  subst hp
  refine lv_goto (tgt := 49) hx hb dM_system_133 (by decide) ?_
  refine lv_aload_n hx hb dM_system_49 rfl (lv_at hl 4 rfl) ?_
  refine KI.callV (As := []) (q0 := 0) (ci := 0) C h (t_stops l g o ad (s_wrong0 (mput (mput (mput (mput (mput (mput (mput (mput M m_at 0) m_open 0) m_codes 0) m_forms 0) m_stims 0) m_ins 0) m_ranges 0) m_transes 0))) vM_system_461 ⟨by decide, by decide⟩ rfl rfl hl.1 rfl (Nat.le_of_ble_eq_true rfl) dM_system_50 ⟨by decide, by decide⟩ (fun r_11 u_12 H locs hp h => ?_)
  obtain ⟨eu, er⟩ := hp
  rw [eu] at h
  have er : r_11 = 1 := er.trans (by show (if (1 : Int32) ≤ 0 then (0 : Int32) else if M.1 m_judges = 0 then 1 else 0) = 1; rw [hj]; decide)
  subst er
  refine lv_if_ne (tgt := 136) hx hb dM_system_53 (by decide) (fun c53 => ?_) (fun c53 => absurd c53 (by decide))
  exact KV.ret C hr hlk (s_wrong0 (mput (mput (mput (mput (mput (mput (mput (mput M m_at 0) m_open 0) m_codes 0) m_forms 0) m_stims 0) m_ins 0) m_ranges 0) m_transes 0)) h ⟨rfl, rfl⟩ (by decide) (by decide) dM_system_136

set_option maxHeartbeats 4000000 in
set_option maxRecDepth 100000 in
/-- parse() of an empty text: a fault -/
theorem t_parse0 (l : Launch) (g : GG) (o : Nat) (ad : Nat → Nat) (M : MS) (hlen : M.1 m_length = 0) : KI l yM_parse cM_parse 1 (some .boolean) (rD 3 0 0) g (mW g o ad M) (mW g o ad) [.ref o] (fun (r : Int32) (M' : MS) => r = 0 ∧ M'.1 m_fault = 1 ∧ M'.1 m_there = M.1 m_there) := by
  refine KI.of (by decide) (Nat.le_of_ble_eq_true rfl) ?_
  intro p e s m below meth c A ls C hr hlk hnm h hl
  have hx := C.1.1
  have hb := C.1.2.1
  have hl : lv_has ls 1 [(0, .ref o)] := hl
  refine lv_aload_n hx hb dM_parse_0 rfl (lv_at hl 0 rfl) ?_
  refine lv_iconst (v := 0) hx hb dM_parse_1 (by decide) ?_
  refine mpi C h m_sigs (by decide) rfl rfl rfl (v := 0) rfl rfl dM_parse_2 (fun H locs h => ?_)
  refine lv_aload_n hx hb dM_parse_5 rfl (lv_at hl 0 rfl) ?_
  refine lv_iconst (v := 0) hx hb dM_parse_6 (by decide) ?_
  refine mpi C h m_routes (by decide) rfl rfl rfl (v := 0) rfl rfl dM_parse_7 (fun H locs h => ?_)
  refine lv_aload_n hx hb dM_parse_10 rfl (lv_at hl 0 rfl) ?_
  refine lv_iconst (v := 0) hx hb dM_parse_11 (by decide) ?_
  refine mpi C h m_types (by decide) rfl rfl rfl (v := 0) rfl rfl dM_parse_12 (fun H locs h => ?_)
  refine lv_aload_n hx hb dM_parse_15 rfl (lv_at hl 0 rfl) ?_
  refine lv_iconst (v := 0) hx hb dM_parse_16 (by decide) ?_
  refine mpi C h m_globals (by decide) rfl rfl rfl (v := 0) rfl rfl dM_parse_17 (fun H locs h => ?_)
  refine lv_aload_n hx hb dM_parse_20 rfl (lv_at hl 0 rfl) ?_
  refine lv_iconst (v := 0) hx hb dM_parse_21 (by decide) ?_
  refine mpi C h m_fault (by decide) rfl rfl rfl (v := 0) rfl rfl dM_parse_22 (fun H locs h => ?_)
  refine lv_aload_n hx hb dM_parse_25 rfl (lv_at hl 0 rfl) ?_
  refine lv_iconst (v := 0) hx hb dM_parse_26 (by decide) ?_
  refine mpi C h m_judges (by decide) rfl rfl rfl (v := 0) rfl rfl dM_parse_27 (fun H locs h => ?_)
  refine lv_aload_n hx hb dM_parse_30 rfl (lv_at hl 0 rfl) ?_
  refine KV.callV (As := []) (q0 := 0) (ci := 0) C h (t_cut0 l g o ad (mput (mput (mput (mput (mput (mput M m_sigs 0) m_routes 0) m_types 0) m_globals 0) m_fault 0) m_judges 0) hlen) vM_parse_801 ⟨by decide, by decide⟩ rfl rfl hl.1 rfl (Nat.le_of_ble_eq_true rfl) dM_parse_31 ⟨by decide, by decide⟩ (fun u_2 H locs hp h => ?_)
  subst hp
  refine lv_aload_n hx hb dM_parse_34 rfl (lv_at hl 0 rfl) ?_
  refine KV.callV (As := []) (q0 := 0) (ci := 0) C h (t_system0 l g o ad (s_cut0 (mput (mput (mput (mput (mput (mput M m_sigs 0) m_routes 0) m_types 0) m_globals 0) m_fault 0) m_judges 0)) rfl rfl rfl) vM_parse_804 ⟨by decide, by decide⟩ rfl rfl hl.1 rfl (Nat.le_of_ble_eq_true rfl) dM_parse_35 ⟨by decide, by decide⟩ (fun u_4 H locs hp h => ?_)
  obtain ⟨hq1, hq2⟩ := hp
  refine lv_aload_n hx hb dM_parse_38 rfl (lv_at hl 0 rfl) ?_
  refine mgi C h m_fault (by decide) rfl (v := 1) hq1 rfl dM_parse_39 ?_
  refine lv_if_le (tgt := 47) hx hb dM_parse_42 (by decide) (fun c42 => absurd c42 (by decide)) (fun c42 => ?_)
  refine lv_iconst (v := 0) hx hb dM_parse_45 (by decide) ?_
  exact KI.ret C hr hlk u_4 h rfl ⟨rfl, hq1, hq2⟩ (by decide) (by decide) dM_parse_46

def nLoad (a : Int32) : Int32 := if a = 0 then 1 else -2
set_option maxHeartbeats 4000000 in
set_option maxRecDepth 100000 in
/-- load() on a fresh object -/
theorem t_load0 (l : Launch) (g : GG) (o : Nat) (ad : Nat → Nat) (M : MS) (a1 : Int32) (hthere : M.1 m_there = 0) (htap : M.1 m_taped = 0) : KI l yM_load cM_load 4 (some .int) (rD 4 0 0) g (mW g o ad M) (mW g o ad) [.ref o, .int (a1)] (fun (r : Int32) (M' : MS) => r = nLoad a1) := by
  refine KI.of (by decide) (Nat.le_of_ble_eq_true rfl) ?_
  intro p e s m below meth c A ls C hr hlk hnm h hl
  have hx := C.1.1
  have hb := C.1.2.1
  have hl : lv_has ls 4 [(0, .ref o), (1, .int (a1))] := hl
  refine lv_iload_n hx hb dM_load_0 rfl (lv_at hl 1 rfl) ?_
  refine lv_if_lt (tgt := 12) hx hb dM_load_1 (by decide) (fun c1 => ?_) (fun c1 => ?_)
  · refine lv_bipush (v := -2) hx hb dM_load_12 (by decide) ?_
    exact KI.ret C hr hlk M h rfl (if_neg (fun z => by rw [z] at c1; exact absurd c1 (by decide))).symm (by decide) (by decide) dM_load_14
  · refine lv_iload_n hx hb dM_load_4 rfl (lv_at hl 1 rfl) ?_
    refine lv_aload_n hx hb dM_load_5 rfl (lv_at hl 0 rfl) ?_
    refine mgi C h m_taped (by decide) rfl (v := 0) htap rfl dM_load_6 ?_
    refine lv_icmp_le (tgt := 15) hx hb dM_load_9 (by decide) (fun c9 => ?_) (fun c9 => ?_)
    · have ea : a1 = 0 := Int32.le_antisymm c9 (Int32.not_lt.mp c1)
      subst ea
      refine lv_aload_n hx hb dM_load_15 rfl (lv_at hl 0 rfl) ?_
      refine lv_iload_n hx hb dM_load_16 rfl (lv_at hl 1 rfl) ?_
      refine KV.callV (As := [.int (0)]) (q0 := 0) (ci := 0) C h (t_toText0 l g o ad M) vM_load_810 ⟨by decide, by decide⟩ rfl rfl hl.1 rfl (Nat.le_of_ble_eq_true rfl) dM_load_17 ⟨by decide, by decide⟩ (fun u_2 H locs hp h => ?_)
      subst hp
      refine lv_aload_n hx hb dM_load_20 rfl (lv_at hl 0 rfl) ?_
      refine KI.callV (As := []) (q0 := 0) (ci := 0) C h (t_parse0 l g o ad (s_toText0 M) rfl) vM_load_813 ⟨by decide, by decide⟩ rfl rfl hl.1 rfl (Nat.le_of_ble_eq_true rfl) dM_load_21 ⟨by decide, by decide⟩ (fun r_3 u_4 H locs hp h => ?_)
      obtain ⟨rfl, hq1, hq2⟩ := hp
      have hq2 : u_4.1 m_there = 0 := hq2.trans hthere
      refine lv_if_eq (tgt := 78) hx hb dM_load_24 (by decide) (fun c24 => ?_) (fun c24 => absurd c24 (by decide))
      refine lv_aload_n hx hb dM_load_78 rfl (lv_at hl 0 rfl) ?_
      refine lv_aload_n hx hb dM_load_79 rfl (lv_at hl 0 rfl) ?_
      refine mgi C h m_faultAt (by decide) rfl (v := u_4.1 m_faultAt) rfl rfl dM_load_80 ?_
      refine mpi C h m_place (by decide) rfl rfl rfl (v := u_4.1 m_faultAt) rfl rfl dM_load_83 (fun H locs h => ?_)
      refine lv_aload_n hx hb dM_load_86 rfl (lv_at hl 0 rfl) ?_
      refine mgi C h m_fault (by decide) rfl (v := 1) hq1 rfl dM_load_87 ?_
      refine lv_istore_n (lv' := [(2, .int (1)), (0, .ref o), (1, .int (0))]) hx hb dM_load_90 rfl hl (by decide) rfl (fun ls hl => ?_)
      refine lv_aload_n hx hb dM_load_91 rfl (lv_at hl 1 rfl) ?_
      refine mgi C h m_there (by decide) rfl (v := 0) hq2 rfl dM_load_92 ?_
      refine lv_if_eq (tgt := 139) hx hb dM_load_95 (by decide) (fun c95 => ?_) (fun c95 => absurd c95 (by decide))
      refine lv_iload_n hx hb dM_load_139 rfl (lv_at hl 0 rfl) ?_
      exact KI.ret C hr hlk (mput u_4 m_place (u_4.1 m_faultAt)) h rfl rfl (by decide) (by decide) dM_load_140
    · refine lv_bipush (v := -2) hx hb dM_load_12 (by decide) ?_
      exact KI.ret C hr hlk M h rfl (if_neg (fun z => by rw [z] at c9; exact absurd c9 (by decide))).symm (by decide) (by decide) dM_load_14

def nChart (a : Int32) : Int32 := if a = 0 then -1 else -2
set_option maxHeartbeats 4000000 in
set_option maxRecDepth 100000 in
/-- chart() on a fresh object -/
theorem t_chart0 (l : Launch) (g : GG) (o : Nat) (ad : Nat → Nat) (M : MS) (a1 : Int32) (hruns : M.1 m_runs = 0) (htap : M.1 m_taped = 0) : KI l yM_chart cM_chart 2 (some .int) (rD 1 0 0) g (mW g o ad M) (mW g o ad) [.ref o, .int (a1)] (fun (r : Int32) (M' : MS) => r = nChart a1) := by
  refine KI.of (by decide) (Nat.le_of_ble_eq_true rfl) ?_
  intro p e s m below meth c A ls C hr hlk hnm h hl
  have hx := C.1.1
  have hb := C.1.2.1
  have hl : lv_has ls 2 [(0, .ref o), (1, .int (a1))] := hl
  refine lv_iload_n hx hb dM_chart_0 rfl (lv_at hl 1 rfl) ?_
  refine lv_if_lt (tgt := 12) hx hb dM_chart_1 (by decide) (fun c1 => ?_) (fun c1 => ?_)
  · refine lv_bipush (v := -2) hx hb dM_chart_12 (by decide) ?_
    exact KI.ret C hr hlk M h rfl (if_neg (fun z => by rw [z] at c1; exact absurd c1 (by decide))).symm (by decide) (by decide) dM_chart_14
  · refine lv_iload_n hx hb dM_chart_4 rfl (lv_at hl 1 rfl) ?_
    refine lv_aload_n hx hb dM_chart_5 rfl (lv_at hl 0 rfl) ?_
    refine mgi C h m_taped (by decide) rfl (v := 0) htap rfl dM_chart_6 ?_
    refine lv_icmp_le (tgt := 15) hx hb dM_chart_9 (by decide) (fun c9 => ?_) (fun c9 => ?_)
    · have ea : a1 = 0 := Int32.le_antisymm c9 (Int32.not_lt.mp c1)
      subst ea
      refine lv_aload_n hx hb dM_chart_15 rfl (lv_at hl 0 rfl) ?_
      refine lv_iload_n hx hb dM_chart_16 rfl (lv_at hl 1 rfl) ?_
      refine KV.callV (As := [.int (0)]) (q0 := 0) (ci := 0) C h (t_toText0 l g o ad M) vM_chart_810 ⟨by decide, by decide⟩ rfl rfl hl.1 rfl (Nat.le_of_ble_eq_true rfl) dM_chart_17 ⟨by decide, by decide⟩ (fun u_2 H locs hp h => ?_)
      subst hp
      refine lv_aload_n hx hb dM_chart_20 rfl (lv_at hl 0 rfl) ?_
      refine mgi C h m_runs (by decide) rfl (v := 0) hruns rfl dM_chart_21 ?_
      refine lv_if_ne (tgt := 29) hx hb dM_chart_24 (by decide) (fun c24 => absurd c24 (by decide)) (fun c24 => ?_)
      refine lv_iconst (v := -1) hx hb dM_chart_27 (by decide) ?_
      exact KI.ret C hr hlk (s_toText0 M) h rfl rfl (by decide) (by decide) dM_chart_28
    · refine lv_bipush (v := -2) hx hb dM_chart_12 (by decide) ?_
      exact KI.ret C hr hlk M h rfl (if_neg (fun z => by rw [z] at c9; exact absurd c9 (by decide))).symm (by decide) (by decide) dM_chart_14

