/-- what the reference holds: its numbers, its arrays of ints (bytes, booleans), its arrays of longs, by field -/
abbrev MS : Type := (Nat → Int32) × (Nat → Nat → Int32) × (Nat → Nat → Int64)
def mVal (ad : Nat → Nat) (M : MS) (k : Nat) : Value := if mk k = 5 then .int (M.1 k) else .ref (ad k)
def mObj (ad : Nat → Nat) (M : MS) : List Value := (List.range 190).map (mVal ad M)
def mCell (g : GG) (M : MS) (k : Nat) : va_E := if mk k = 2 then .inl (g.2.2 2, mln k, .inr (.inl (M.2.2 k))) else .inl (g.2.2 (mk k), mln k, .inl (M.2.1 k))
def mW (g : GG) (o : Nat) (ad : Nat → Nat) (M : MS) : va_W := (o, .inr (0, mObj ad M)) :: mArr.map (fun k => (ad k, mCell g M k))
def mput (M : MS) (k : Nat) (v : Int32) : MS := (va_up M.1 k v, M.2)
def mseti (M : MS) (k i : Nat) (x : Int32) : MS := (M.1, va_up M.2.1 k (upd (M.2.1 k) i x), M.2.2)
def msetj (M : MS) (k i : Nat) (x : Int64) : MS := (M.1, M.2.1, va_up M.2.2 k (vp_updL (M.2.2 k) i x))
theorem mObj_get {ad : Nat → Nat} {M : MS} {k : Nat} (hk : k < 190) : (mObj ad M)[k]? = some (mVal ad M k) := by simp [mObj, hk]
theorem mObj_set {ad : Nat → Nat} {M : MS} {k : Nat} (hs : mk k = 5) (v : Int32) : (mObj ad M).set k (.int v) = mObj ad (va_up M.1 k v, M.2) := by
  apply List.ext_getElem?
  intro i
  by_cases hi : i < 190
  · by_cases e : i = k
    · subst e
      rw [List.getElem?_set_self (by simp [mObj]; exact hi), mObj_get hi]
      simp [mVal, hs, va_up]
    · rw [List.getElem?_set_ne (Ne.symm e), mObj_get hi, mObj_get hi]
      simp [mVal, va_up, e]
  · rw [List.getElem?_eq_none (by simp [mObj]; omega), List.getElem?_eq_none (by simp [mObj]; omega)]
theorem mW_at {g : GG} {o : Nat} {ad : Nat → Nat} {M : MS} {k : Nat} (hk : k < 190) (h5 : mk k ≠ 5) : (mW g o ad M)[mps k + 1]? = some (ad k, mCell g M k) := by
  simp [mW, mArr_at k hk h5]
theorem mW_set {g : GG} {o : Nat} {ad : Nat → Nat} {M M' : MS} {k : Nat} (hk : k < 190) (h5 : mk k ≠ 5) {e : va_E} (h1 : M'.1 = M.1) (he : mCell g M' k = e) (hne : ∀ j, j ≠ k → mCell g M' j = mCell g M j) : (mW g o ad M).set (mps k + 1) (ad k, e) = mW g o ad M' := by
  have ho : mObj ad M' = mObj ad M := by unfold mObj mVal; rw [h1]
  unfold mW
  rw [ho, List.set_cons_succ]
  congr 1
  apply List.ext_getElem?
  intro i
  have ha := mArr_at k hk h5
  have hl : mps k < mArr.length := (List.getElem?_eq_some_iff.mp ha).1
  by_cases hi : i = mps k
  · subst hi
    rw [List.getElem?_set_self (by rw [List.length_map]; exact hl), List.getElem?_map, ha]
    simp [he]
  · rw [List.getElem?_set_ne (Ne.symm hi), List.getElem?_map, List.getElem?_map]
    by_cases hlt : i < mArr.length
    · have hj : mArr[i]? = some (mArr.getD i 0) := by rw [List.getD_eq_getElem?_getD, List.getElem?_eq_getElem hlt]; rfl
      have hp := mArr_ps i (by rw [← mArr_len]; exact hlt)
      rw [hj]
      have : mArr.getD i 0 ≠ k := fun z => hi (by rw [← hp, z])
      simp only [Option.map_some, hne _ this]
    · rw [List.getElem?_eq_none (by omega)]
      rfl
section MRows
variable {p : Program} {l : Launch} {e : Env} {R : Room} {s : State} {m : MethodId} {args : Array Value} {below : List Frame} {meth : Method} {c : Code} {H H0 : Heap} {locs : List Loc} {cells slots : Nat} {Q : State → Prop}
variable {cc : ByteArray} {nL : Nat} {g : GG} {A : Nat → Prop} {pc : Nat} {ls : Array Slot} {rest : List Value} {o : Nat} {ad : Nat → Nat} {M : MS}
/-- getfield of a number -/
theorem mgi (C : Cx p s m c cc nL RM args g) (h : Hx g (mW g o ad M) A H0 H locs) (k : Nat) (hk : k < 190) (hs : mk k = 5) {v : Int32} (hv : M.1 k = v) {ix : Nat} (hix : ix = mix k) (hdg : decode cc pc = .ok (.getfield ix, 3)) (kk : W p l e R s m args below meth c H locs cells slots Q (F0 m (pc + 3) ls (.int v :: rest))) : W p l e R s m args below meth c H locs cells slots Q (F0 m pc ls (.ref o :: rest)) := by
  subst hix
  subst hv
  exact va_get (D := (g.1, g.2.1)) (ci := 0) (v := .int (M.1 k)) (C := RM) (T := TM) (N := 190) (ref := RM) C.1.1 C.1.2.1 C.1.2.2.2.2 mLays C.1.2.2.2.1 C.2 h.1 0 rfl rfl k hk (C.1.2.2.2.2 _ (mLinkIn k hk)) (fun x hx => by rw [mOwn k hk] at hx; exact hx) (by rw [mObj_get hk]; simp [mVal, hs]) hdg kk
/-- getfield of an array -/
theorem mga (C : Cx p s m c cc nL RM args g) (h : Hx g (mW g o ad M) A H0 H locs) (k : Nat) (hk : k < 190) (hs : mk k ≠ 5) {ix : Nat} (hix : ix = mix k) (hdg : decode cc pc = .ok (.getfield ix, 3)) (kk : W p l e R s m args below meth c H locs cells slots Q (F0 m (pc + 3) ls (.ref (ad k) :: rest))) : W p l e R s m args below meth c H locs cells slots Q (F0 m pc ls (.ref o :: rest)) := by
  subst hix
  exact va_get (D := (g.1, g.2.1)) (ci := 0) (v := .ref (ad k)) (C := RM) (T := TM) (N := 190) (ref := RM) C.1.1 C.1.2.1 C.1.2.2.2.2 mLays C.1.2.2.2.1 C.2 h.1 0 rfl rfl k hk (C.1.2.2.2.2 _ (mLinkIn k hk)) (fun x hx => by rw [mOwn k hk] at hx; exact hx) (by rw [mObj_get hk]; simp [mVal, hs]) hdg kk
/-- putfield of a number -/
theorem mpi (C : Cx p s m c cc nL RM args g) (h : Hx g (mW g o ad M) A H0 H locs) (k : Nat) (hk : k < 190) (hs : mk k = 5) (hfin : (TM k).2.2.2 = false) {ix : Nat} (hix : ix = mix k) {v : Int32} (hn : narrow (tyM k) (.int v) = .int v) (hfit : fits (tyM k) (.int v) = true) (hdg : decode cc pc = .ok (.putfield ix, 3))
    (kk : ∀ (H1 : Heap) (locs1 : List Loc), Hx g (mW g o ad (mput M k v)) A H0 H1 locs1 → W p l e R s m args below meth c H1 locs1 cells slots Q (F0 m (pc + 3) ls rest)) : W p l e R s m args below meth c H locs cells slots Q (F0 m pc ls (.int v :: .ref o :: rest)) := by
  subst hix
  refine va_put (D := (g.1, g.2.1)) (ci := 0) (v := .int v) (ty := tyM k) (C := RM) (T := TM) (N := 190) (ref := RM) C.1.1 C.1.2.1 C.1.2.2.2.2 mLays tyM tyM_ok nmM C.1.2.2.2.1 C.2 h.1 h.2.1 h.2.2.1 0 rfl rfl k hk (C.1.2.2.2.2 _ (mLinkIn k hk)) (fun x hx => by rw [mOwn k hk] at hx; exact hx) hfin (tyM_ok k hk) hn hfit (by simp [mObj]; exact hk) hdg (fun H1 locs1 hP hD hS => ?_)
  have e1 : (mW g o ad M).set 0 (o, .inr (0, (mObj ad M).set k (.int v))) = mW g o ad (va_up M.1 k v, M.2) := by
    rw [mObj_set hs]; rfl
  rw [e1] at hP hD
  exact kk H1 locs1 ⟨hP, hD, hS, h.2.2.2⟩
theorem mc_i {g : GG} {M : MS} {k : Nat} (h : mk k = 1) : mCell g M k = .inl (g.2.2 1, mln k, .inl (M.2.1 k)) := by simp [mCell, h]
theorem mc_b {g : GG} {M : MS} {k : Nat} (h : mk k = 0) : mCell g M k = .inl (g.2.2 0, mln k, .inl (M.2.1 k)) := by simp [mCell, h]
theorem mc_z {g : GG} {M : MS} {k : Nat} (h : mk k = 3) : mCell g M k = .inl (g.2.2 3, mln k, .inl (M.2.1 k)) := by simp [mCell, h]
theorem mc_j {g : GG} {M : MS} {k : Nat} (h : mk k = 2) : mCell g M k = .inl (g.2.2 2, mln k, .inr (.inl (M.2.2 k))) := by simp [mCell, h]
theorem mn5 {k q : Nat} (h : mk k = q) (hq : q ≠ 5) : mk k ≠ 5 := by rw [h]; exact hq
/-- iaload, baload of bytes and of booleans, laload -/
theorem mai (C : Cx p s m c cc nL RM args g) (h : Hx g (mW g o ad M) A H0 H locs) (k : Nat) (hk : k < 190) (hs : mk k = 1) {i : Int32} (hin : vp_in i (mln k)) {v : Int32} (hv : M.2.1 k i.toNatClampNeg = v) (hdg : decode cc pc = .ok (.iaload, 1)) (kk : W p l e R s m args below meth c H locs cells slots Q (F0 m (pc + 1) ls (.int v :: rest))) : W p l e R s m args below meth c H locs cells slots Q (F0 m pc ls (.int i :: .ref (ad k) :: rest)) := by
  subst hv
  exact va_iald C.1.1 C.1.2.1 C.2 h.1 (mps k + 1) 1 (by rw [mW_at hk (mn5 hs (by decide)), mc_i hs]) rfl hin hdg kk
theorem mab (C : Cx p s m c cc nL RM args g) (h : Hx g (mW g o ad M) A H0 H locs) (k : Nat) (hk : k < 190) (hs : mk k = 0) {i : Int32} (hin : vp_in i (mln k)) {v : Int32} (hv : M.2.1 k i.toNatClampNeg = v) (hdg : decode cc pc = .ok (.baload, 1)) (kk : W p l e R s m args below meth c H locs cells slots Q (F0 m (pc + 1) ls (.int v :: rest))) : W p l e R s m args below meth c H locs cells slots Q (F0 m pc ls (.int i :: .ref (ad k) :: rest)) := by
  subst hv
  exact va_bald C.1.1 C.1.2.1 C.2 h.1 (mps k + 1) 0 (by rw [mW_at hk (mn5 hs (by decide)), mc_b hs]) rfl hin hdg kk
theorem maz (C : Cx p s m c cc nL RM args g) (h : Hx g (mW g o ad M) A H0 H locs) (k : Nat) (hk : k < 190) (hs : mk k = 3) {i : Int32} (hin : vp_in i (mln k)) {v : Int32} (hv : M.2.1 k i.toNatClampNeg = v) (hdg : decode cc pc = .ok (.baload, 1)) (kk : W p l e R s m args below meth c H locs cells slots Q (F0 m (pc + 1) ls (.int v :: rest))) : W p l e R s m args below meth c H locs cells slots Q (F0 m pc ls (.int i :: .ref (ad k) :: rest)) := by
  subst hv
  exact va_zald C.1.1 C.1.2.1 C.2 h.1 (mps k + 1) 3 (by rw [mW_at hk (mn5 hs (by decide)), mc_z hs]) rfl hin hdg kk
theorem maj (C : Cx p s m c cc nL RM args g) (h : Hx g (mW g o ad M) A H0 H locs) (k : Nat) (hk : k < 190) (hs : mk k = 2) {i : Int32} (hin : vp_in i (mln k)) {v : Int64} (hv : M.2.2 k i.toNatClampNeg = v) (hdg : decode cc pc = .ok (.laload, 1)) (kk : W p l e R s m args below meth c H locs cells slots Q (F0 m (pc + 1) ls (.long v :: rest))) : W p l e R s m args below meth c H locs cells slots Q (F0 m pc ls (.int i :: .ref (ad k) :: rest)) := by
  subst hv
  exact va_lald C.1.1 C.1.2.1 C.2 h.1 (mps k + 1) 2 (by rw [mW_at hk (mn5 hs (by decide)), mc_j hs]) rfl hin hdg kk
theorem mc_ne {g : GG} {M : MS} {k : Nat} (f : Nat → Int32) (j : Nat) (hj : j ≠ k) : mCell g (M.1, va_up M.2.1 k f, M.2.2) j = mCell g M j := by simp [mCell, va_up, hj]
theorem mc_neL {g : GG} {M : MS} {k : Nat} (f : Nat → Int64) (j : Nat) (hj : j ≠ k) : mCell g (M.1, M.2.1, va_up M.2.2 k f) j = mCell g M j := by simp [mCell, va_up, hj]
/-- iastore, bastore of bytes and of booleans, lastore -/
theorem msi (C : Cx p s m c cc nL RM args g) (h : Hx g (mW g o ad M) A H0 H locs) (k : Nat) (hk : k < 190) (hs : mk k = 1) {i x : Int32} (hin : vp_in i (mln k)) (hdg : decode cc pc = .ok (.iastore, 1))
    (kk : ∀ (H1 : Heap) (locs1 : List Loc), Hx g (mW g o ad (mseti M k i.toNatClampNeg x)) A H0 H1 locs1 → W p l e R s m args below meth c H1 locs1 cells slots Q (F0 m (pc + 1) ls rest)) : W p l e R s m args below meth c H locs cells slots Q (F0 m pc ls (.int x :: .int i :: .ref (ad k) :: rest)) := by
  refine va_iast C.1.1 C.1.2.1 C.2 h.1 h.2.1 h.2.2.1 (mps k + 1) 1 (by rw [mW_at hk (mn5 hs (by decide)), mc_i hs]) rfl hin hdg (fun H1 locs1 hP hD hS => ?_)
  rw [mW_set (M := M) (M' := (M.1, va_up M.2.1 k (upd (M.2.1 k) i.toNatClampNeg x), M.2.2)) hk (mn5 hs (by decide)) rfl (by rw [mc_i hs]; simp [va_up]) (mc_ne _)] at hP hD
  exact kk H1 locs1 ⟨hP, hD, hS, h.2.2.2⟩
theorem msb (C : Cx p s m c cc nL RM args g) (h : Hx g (mW g o ad M) A H0 H locs) (k : Nat) (hk : k < 190) (hs : mk k = 0) {i x : Int32} (hin : vp_in i (mln k)) (hdg : decode cc pc = .ok (.bastore, 1))
    (kk : ∀ (H1 : Heap) (locs1 : List Loc), Hx g (mW g o ad (mseti M k i.toNatClampNeg (vp_nar .byte x))) A H0 H1 locs1 → W p l e R s m args below meth c H1 locs1 cells slots Q (F0 m (pc + 1) ls rest)) : W p l e R s m args below meth c H locs cells slots Q (F0 m pc ls (.int x :: .int i :: .ref (ad k) :: rest)) := by
  refine va_bast C.1.1 C.1.2.1 C.2 h.1 h.2.1 h.2.2.1 (mps k + 1) 0 (by rw [mW_at hk (mn5 hs (by decide)), mc_b hs]) rfl hin hdg (fun H1 locs1 hP hD hS => ?_)
  rw [mW_set (M := M) (M' := (M.1, va_up M.2.1 k (upd (M.2.1 k) i.toNatClampNeg (vp_nar .byte x)), M.2.2)) hk (mn5 hs (by decide)) rfl (by rw [mc_b hs]; simp [va_up]) (mc_ne _)] at hP hD
  exact kk H1 locs1 ⟨hP, hD, hS, h.2.2.2⟩
theorem msz (C : Cx p s m c cc nL RM args g) (h : Hx g (mW g o ad M) A H0 H locs) (k : Nat) (hk : k < 190) (hs : mk k = 3) {i x : Int32} (hin : vp_in i (mln k)) (hdg : decode cc pc = .ok (.bastore, 1))
    (kk : ∀ (H1 : Heap) (locs1 : List Loc), Hx g (mW g o ad (mseti M k i.toNatClampNeg (vp_nar .boolean x))) A H0 H1 locs1 → W p l e R s m args below meth c H1 locs1 cells slots Q (F0 m (pc + 1) ls rest)) : W p l e R s m args below meth c H locs cells slots Q (F0 m pc ls (.int x :: .int i :: .ref (ad k) :: rest)) := by
  refine va_zast C.1.1 C.1.2.1 C.2 h.1 h.2.1 h.2.2.1 (mps k + 1) 3 (by rw [mW_at hk (mn5 hs (by decide)), mc_z hs]) rfl hin hdg (fun H1 locs1 hP hD hS => ?_)
  rw [mW_set (M := M) (M' := (M.1, va_up M.2.1 k (upd (M.2.1 k) i.toNatClampNeg (vp_nar .boolean x)), M.2.2)) hk (mn5 hs (by decide)) rfl (by rw [mc_z hs]; simp [va_up]) (mc_ne _)] at hP hD
  exact kk H1 locs1 ⟨hP, hD, hS, h.2.2.2⟩
theorem msj (C : Cx p s m c cc nL RM args g) (h : Hx g (mW g o ad M) A H0 H locs) (k : Nat) (hk : k < 190) (hs : mk k = 2) {i : Int32} {x : Int64} (hin : vp_in i (mln k)) (hdg : decode cc pc = .ok (.lastore, 1))
    (kk : ∀ (H1 : Heap) (locs1 : List Loc), Hx g (mW g o ad (msetj M k i.toNatClampNeg x)) A H0 H1 locs1 → W p l e R s m args below meth c H1 locs1 cells slots Q (F0 m (pc + 1) ls rest)) : W p l e R s m args below meth c H locs cells slots Q (F0 m pc ls (.long x :: .int i :: .ref (ad k) :: rest)) := by
  refine va_last C.1.1 C.1.2.1 C.2 h.1 h.2.1 h.2.2.1 (mps k + 1) 2 (by rw [mW_at hk (mn5 hs (by decide)), mc_j hs]) rfl hin hdg (fun H1 locs1 hP hD hS => ?_)
  rw [mW_set (M := M) (M' := (M.1, M.2.1, va_up M.2.2 k (vp_updL (M.2.2 k) i.toNatClampNeg x))) hk (mn5 hs (by decide)) rfl (by rw [mc_j hs]; simp [va_up]) (mc_neL _)] at hP hD
  exact kk H1 locs1 ⟨hP, hD, hS, h.2.2.2⟩
end MRows
