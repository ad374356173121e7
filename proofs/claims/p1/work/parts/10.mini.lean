theorem ac_byte : Cond.arrayClass .byte ∈ tb := tm 366 (by decide +kernel) rfl
theorem ac_int : Cond.arrayClass .int ∈ tb := tm 496 (by decide +kernel) rfl
theorem ac_long : Cond.arrayClass .long ∈ tb := tm 497 (by decide +kernel) rfl
theorem ac_boolean : Cond.arrayClass .boolean ∈ tb := tm 2058 (by decide +kernel) rfl
/-! making the reference: its constructor -/
/-- a static method that reads nothing and changes nothing -/
def KQ (l : Launch) (y : MethodName) (b : ByteArray) (n : Nat) (r : Option FieldType) (d : Nat) (av : List Value) (post : Int32 → Prop) : Prop :=
  Met l y (aw y b n r) (rD d 0 0) (va_Pc av (fun _ => True)) (vp_Si post) 0 0 (fun _ => False)
/-- a method that may use the String constants, without an answer -/
def KVx {σ : Type} (ak sv : Nat → Nat) (l : Launch) (y : MethodName) (b : ByteArray) (n : Nat) (rm : Room) (g : GG) (w : va_W) (wd : σ → va_W) (av : List Value) (post : σ → Prop) : Prop :=
  ∀ sz : Nat, Met l y (aw y b n none) rm (va_Pc av (fun U => gPre g w sz U ∧ sE ak sv (va_A w sz) U U.heap)) (va_Qv post (gB g wd (va_A w sz)) (va_A w sz)) rm.cells rm.slots (va_A w sz)
section QRows
variable {σ : Type} {ak sv : Nat → Nat} {p : Program} {l : Launch} {e : Env} {R : Room} {s : State} {m : MethodId} {args : Array Value} {below : List Frame} {meth : Method} {c : Code} {H H0 : Heap} {locs : List Loc} {cells slots : Nat} {Q : State → Prop}
variable {cc : ByteArray} {nL : Nat} {own : String} {A : Nat → Prop} {pc : Nat} {ls : Array Slot} {rest st : List Value} {g : GG} {w : va_W} {wd : σ → va_W} {rm : Room}
variable {y : MethodName} {b : ByteArray} {n d : Nat} {r : Option FieldType} {av : List Value}
theorem KQ.of {post : Int32 → Prop} (hy : plainName y.cls = true) (hn : (lg_sl av).length ≤ n)
    (kk : ∀ (p : Program) (e : Env) (s : State) (m : MethodId) (below : List Frame) (meth : Method) (c : Code) (ls : Array Slot), CallFix p m c b n s av.toArray tb y.cls → meth.sig.returnType = r → meth.locks = false → lv_has ls n (lv_args 0 av) →
      W p l e (rD d 0 0) s m av.toArray below meth c s.heap [] 0 0 (MQ below (vp_Si post) av.toArray s 0 0 (fun _ => False)) (F0 m 0 ls [])) : KQ l y b n r d av post := by
  refine Met.ofW (cc := b) (maxL := n) (ret := r) hy rfl ?_
  intro p e s m args below meth c s₁ B hml hv
  obtain ⟨rfl, -⟩ := hv
  have hts := atoms_spec (ws := aw y b n r) B.pre
  have hown : s.vm.findClass y.cls = some m.cls := findClass_of_methodNamed B.named
  have hl := lv_entry av (n := n) hn
  rw [lg_entry_eq]
  exact kk p e s m below meth c _ ⟨B.exec, B.bytes, hml, hown, fun w h => hts w (List.mem_cons_of_mem _ h)⟩ B.returns B.notSynchronized hl
theorem KQ.callS {post : Int32 → Prop} {idx : Nat} {As : List Value} (C : CallFix p m c cc nL s args tb own) (hM : KQ l y b n r d As post) (hG : OkS own idx y b n r As.length) (hy : y.cls = own) (hR : d + 1 ≤ R.frames ∧ 8 + (n + 11) + 40 * d ≤ R.locals)
    (hls : ls.size = nL) (hst : st = As.reverse ++ rest) (hrm : (rest.map fun v => v.category).sum ≤ 8) (hdg : decode cc pc = .ok (.invokestatic idx, 3)) (hf : cells ≤ R.cells ∧ slots ≤ R.slots)
    (kk : ∀ v : Int32, post v → W p l e R s m args below meth c H locs cells slots Q (F0 m (pc + 3) ls (.int v :: rest))) : W p l e R s m args below meth c H locs cells slots Q (F0 m pc ls st) := by
  refine vp_callSi (W.runS (As := As) (rest := rest) C hM (cwS As.length C.2.2.2.2 hG.1 rfl rfl rfl ⟨hy, hG.2⟩ hR) ⟨fun a U g mk q => ⟨q.1, trivial⟩, fun U hU hW => ⟨rfl, trivial⟩⟩ rfl rfl hls hst (lv_room hrm) hdg hf) (fun v hp => ?_)
  exact kk v hp
theorem KVx.of {post : σ → Prop} (hy : plainName y.cls = true) (hn : (lg_sl av).length ≤ n)
    (kk : ∀ (p : Program) (e : Env) (s : State) (m : MethodId) (below : List Frame) (meth : Method) (c : Code) (A : Nat → Prop) (ls : Array Slot), Cx p s m c b n y.cls av.toArray g → meth.sig.returnType = none → meth.locks = false → meth.name = y.name → Hx g w A s.heap s.heap [] → sE ak sv A s s.heap → lv_has ls n (lv_args 0 av) →
      W p l e rm s m av.toArray below meth c s.heap [] 0 0 (MQ below (va_Qv post (gB g wd A) A) av.toArray s rm.cells rm.slots A) (F0 m 0 ls [])) : KVx ak sv l y b n rm g w wd av post := by
  intro sz
  refine Met.ofW (cc := b) (maxL := n) (ret := none) hy rfl ?_
  intro p e s m args below meth c s₁ B hml hv
  obtain ⟨rfl, ⟨hsz, hP, hK, hD0⟩, hE⟩ := hv
  have hts := atoms_spec (ws := aw y b n none) B.pre
  have hown : s.vm.findClass y.cls = some m.cls := findClass_of_methodNamed B.named
  subst hsz
  have hl := lv_entry av (n := n) hn
  rw [lg_entry_eq]
  exact kk p e s m below meth c _ _ ⟨⟨B.exec, B.bytes, hml, hown, fun w h => hts w (List.mem_cons_of_mem _ h)⟩, hK⟩ B.returns B.notSynchronized (name_of_methodNamed B.named B.method).1 ⟨hP, hD0.self, va_S.rf, fun q h => Or.inr h⟩ hE hl
/-- new arrays -/
theorem newA_b (C : Cx p s m c cc nL own args g) (h : Hx g w A H0 H locs) {n : Int32} {N : Nat} (hn : ¬ n < 0) (hN : n.toNatClampNeg = N) (h8 : N * componentBytes .byte ≤ 536870912) (hc : cells + 1 ≤ R.cells) (hs : slots + N ≤ R.slots) (hdg : decode cc pc = .ok (.newarray .byte, 2)) (kk : ∀ (q : Nat) (H1 : Heap), Hx g (w ++ [(q, .inl (g.2.2 0, N, .inl (fun _ => 0)))]) A H0 H1 locs → W p l e R s m args below meth c H1 locs (cells + 1) (slots + N) Q (F0 m (pc + 2) ls (.ref q :: rest))) : W p l e R s m args below meth c H locs cells slots Q (F0 m pc ls (.int n :: rest)) := by
  refine va_newa (atype := .byte) C.1.1 C.1.2.1 (C.1.2.2.2.2 _ ac_byte) rfl C.2 h.1 h.2.1 h.2.2.1 h.2.2.2 (a0 := (N, .inl (fun _ => 0))) (fun cA => rfl) hn hN h8 hc hs hdg (fun q cA H1 hK hP hD hS => ?_)
  have e1 : cA = g.2.2 0 := Option.some.inj ((hK.2 5 (cA, .byte) rfl).2.symm.trans (C.2.2 0 (g.2.2 0, .byte) rfl).2)
  subst e1
  exact kk q H1 ⟨hP, hD, hS, h.2.2.2⟩
theorem newA_i (C : Cx p s m c cc nL own args g) (h : Hx g w A H0 H locs) {n : Int32} {N : Nat} (hn : ¬ n < 0) (hN : n.toNatClampNeg = N) (h8 : N * componentBytes .int ≤ 536870912) (hc : cells + 1 ≤ R.cells) (hs : slots + N ≤ R.slots) (hdg : decode cc pc = .ok (.newarray .int, 2)) (kk : ∀ (q : Nat) (H1 : Heap), Hx g (w ++ [(q, .inl (g.2.2 1, N, .inl (fun _ => 0)))]) A H0 H1 locs → W p l e R s m args below meth c H1 locs (cells + 1) (slots + N) Q (F0 m (pc + 2) ls (.ref q :: rest))) : W p l e R s m args below meth c H locs cells slots Q (F0 m pc ls (.int n :: rest)) := by
  refine va_newa (atype := .int) C.1.1 C.1.2.1 (C.1.2.2.2.2 _ ac_int) rfl C.2 h.1 h.2.1 h.2.2.1 h.2.2.2 (a0 := (N, .inl (fun _ => 0))) (fun cA => rfl) hn hN h8 hc hs hdg (fun q cA H1 hK hP hD hS => ?_)
  have e1 : cA = g.2.2 1 := Option.some.inj ((hK.2 5 (cA, .int) rfl).2.symm.trans (C.2.2 1 (g.2.2 1, .int) rfl).2)
  subst e1
  exact kk q H1 ⟨hP, hD, hS, h.2.2.2⟩
theorem newA_j (C : Cx p s m c cc nL own args g) (h : Hx g w A H0 H locs) {n : Int32} {N : Nat} (hn : ¬ n < 0) (hN : n.toNatClampNeg = N) (h8 : N * componentBytes .long ≤ 536870912) (hc : cells + 1 ≤ R.cells) (hs : slots + N ≤ R.slots) (hdg : decode cc pc = .ok (.newarray .long, 2)) (kk : ∀ (q : Nat) (H1 : Heap), Hx g (w ++ [(q, .inl (g.2.2 2, N, .inr (.inl (fun _ => 0))))]) A H0 H1 locs → W p l e R s m args below meth c H1 locs (cells + 1) (slots + N) Q (F0 m (pc + 2) ls (.ref q :: rest))) : W p l e R s m args below meth c H locs cells slots Q (F0 m pc ls (.int n :: rest)) := by
  refine va_newa (atype := .long) C.1.1 C.1.2.1 (C.1.2.2.2.2 _ ac_long) rfl C.2 h.1 h.2.1 h.2.2.1 h.2.2.2 (a0 := (N, .inr (.inl (fun _ => 0)))) (fun cA => rfl) hn hN h8 hc hs hdg (fun q cA H1 hK hP hD hS => ?_)
  have e1 : cA = g.2.2 2 := Option.some.inj ((hK.2 5 (cA, .long) rfl).2.symm.trans (C.2.2 2 (g.2.2 2, .long) rfl).2)
  subst e1
  exact kk q H1 ⟨hP, hD, hS, h.2.2.2⟩
theorem newA_z (C : Cx p s m c cc nL own args g) (h : Hx g w A H0 H locs) {n : Int32} {N : Nat} (hn : ¬ n < 0) (hN : n.toNatClampNeg = N) (h8 : N * componentBytes .boolean ≤ 536870912) (hc : cells + 1 ≤ R.cells) (hs : slots + N ≤ R.slots) (hdg : decode cc pc = .ok (.newarray .boolean, 2)) (kk : ∀ (q : Nat) (H1 : Heap), Hx g (w ++ [(q, .inl (g.2.2 3, N, .inl (fun _ => 0)))]) A H0 H1 locs → W p l e R s m args below meth c H1 locs (cells + 1) (slots + N) Q (F0 m (pc + 2) ls (.ref q :: rest))) : W p l e R s m args below meth c H locs cells slots Q (F0 m pc ls (.int n :: rest)) := by
  refine va_newa (atype := .boolean) C.1.1 C.1.2.1 (C.1.2.2.2.2 _ ac_boolean) rfl C.2 h.1 h.2.1 h.2.2.1 h.2.2.2 (a0 := (N, .inl (fun _ => 0))) (fun cA => rfl) hn hN h8 hc hs hdg (fun q cA H1 hK hP hD hS => ?_)
  have e1 : cA = g.2.2 3 := Option.some.inj ((hK.2 5 (cA, .boolean) rfl).2.symm.trans (C.2.2 3 (g.2.2 3, .boolean) rfl).2)
  subst e1
  exact kk q H1 ⟨hP, hD, hS, h.2.2.2⟩
end QRows
/-- the reference while its constructor works: the first j arrays are there -/
def pVal (ad : Nat → Nat) (I : Nat → Int32) (j k : Nat) : Value := if mk k = 5 then .int (I k) else if mps k < j then .ref (ad k) else .null
def pObj (ad : Nat → Nat) (I : Nat → Int32) (j : Nat) : List Value := (List.range 190).map (pVal ad I j)
def zCell (g : GG) (k : Nat) : va_E := if mk k = 2 then .inl (g.2.2 2, mln k, .inr (.inl (fun _ => 0))) else .inl (g.2.2 (mk k), mln k, .inl (fun _ => 0))
def pW (g : GG) (o : Nat) (ad : Nat → Nat) (I : Nat → Int32) (j : Nat) : va_W := (o, .inr (0, pObj ad I j)) :: (mArr.take j).map (fun k => (ad k, zCell g k))
theorem pObj_get {ad : Nat → Nat} {I : Nat → Int32} {j k : Nat} (hk : k < 190) : (pObj ad I j)[k]? = some (pVal ad I j k) := by simp [pObj, hk]
theorem pObj_len {ad : Nat → Nat} {I : Nat → Int32} {j : Nat} : (pObj ad I j).length = 190 := by simp [pObj]
theorem mArr_lt : ∀ i, i < 122 → mArr.getD i 0 < 190 ∧ mk (mArr.getD i 0) ≠ 5 := by decide +kernel
theorem mArr_j {j k : Nat} (hj : mArr[j]? = some k) : mps k = j ∧ k < 190 ∧ mk k ≠ 5 := by
  have hl : j < mArr.length := (List.getElem?_eq_some_iff.mp hj).1
  have hl' : j < 122 := by rw [← mArr_len]; exact hl
  have hg : mArr.getD j 0 = k := by rw [List.getD_eq_getElem?_getD, hj]; rfl
  have h1 := mArr_ps j hl'
  have h2 := mArr_lt j hl'
  rw [hg] at h1 h2
  exact ⟨h1, h2.1, h2.2⟩
theorem pObj_step {ad : Nat → Nat} {I : Nat → Int32} {j k q : Nat} (hj : mArr[j]? = some k) : (pObj ad I j).set k (.ref q) = pObj (va_up ad k q) I (j + 1) := by
  obtain ⟨hp, hk, h5⟩ := mArr_j hj
  apply List.ext_getElem?
  intro i
  by_cases hi : i < 190
  · by_cases e : i = k
    · subst e
      rw [List.getElem?_set_self (by rw [pObj_len]; exact hi), pObj_get hi]
      simp [pVal, h5, hp, va_up]
    · rw [List.getElem?_set_ne (Ne.symm e), pObj_get hi, pObj_get hi]
      by_cases hs : mk i = 5
      · simp [pVal, hs]
      · have hne : mps i ≠ j := fun z => e (by
          have h1 := mArr_at i hi hs
          rw [z, hj] at h1
          exact (Option.some.inj h1).symm)
        by_cases hlt : mps i < j
        · simp [pVal, hs, hlt, Nat.lt_succ_of_lt hlt, va_up, e]
        · have : ¬ mps i < j + 1 := by omega
          simp [pVal, hs, hlt, this]
  · rw [List.getElem?_eq_none (by rw [List.length_set, pObj_len]; omega), List.getElem?_eq_none (by rw [pObj_len]; omega)]
theorem pW_step {g : GG} {o : Nat} {ad : Nat → Nat} {I : Nat → Int32} {j k q : Nat} (hj : mArr[j]? = some k) : (pW g o ad I j ++ [(q, zCell g k)]).set 0 (o, .inr (0, (pObj ad I j).set k (.ref q))) = pW g o (va_up ad k q) I (j + 1) := by
  obtain ⟨hp, hk, h5⟩ := mArr_j hj
  unfold pW
  rw [pObj_step hj, List.cons_append, List.set_cons_zero, List.take_succ, hj, List.map_append]
  congr 2
  · apply List.map_congr_left
    intro a ha
    obtain ⟨i, hi⟩ := List.getElem?_of_mem ha
    have hlt : i < (mArr.take j).length := (List.getElem?_eq_some_iff.mp hi).1
    rw [List.length_take] at hlt
    rw [List.getElem?_take_of_lt (by omega)] at hi
    have h1 := (mArr_j hi).1
    have hne : a ≠ k := fun z => by rw [z, hp] at h1; omega
    simp [va_up, hne]
  · simp [va_up]
theorem pObj_put {ad : Nat → Nat} {I : Nat → Int32} {j k : Nat} (hs : mk k = 5) (v : Int32) : (pObj ad I j).set k (.int v) = pObj ad (va_up I k v) j := by
  apply List.ext_getElem?
  intro i
  by_cases hi : i < 190
  · by_cases e : i = k
    · subst e
      rw [List.getElem?_set_self (by rw [pObj_len]; exact hi), pObj_get hi]
      simp [pVal, hs, va_up]
    · rw [List.getElem?_set_ne (Ne.symm e), pObj_get hi, pObj_get hi]
      simp [pVal, va_up, e]
  · rw [List.getElem?_eq_none (by rw [List.length_set, pObj_len]; omega), List.getElem?_eq_none (by rw [pObj_len]; omega)]
theorem mps_lt : ∀ k, k < 190 → mps k < 122 := by decide +kernel
theorem pW_end {g : GG} {o : Nat} {ad : Nat → Nat} {I : Nat → Int32} : pW g o ad I 122 = mW g o ad (I, fun _ _ => 0, fun _ _ => 0) := by
  have e1 : pObj ad I 122 = mObj ad (I, fun _ _ => 0, fun _ _ => 0) := by
    unfold pObj mObj
    apply List.map_congr_left
    intro k hk
    have := mps_lt k (List.mem_range.mp hk)
    simp [pVal, mVal, this]
  have e2 : (fun k => (ad k, zCell g k)) = (fun k => (ad k, mCell g (I, fun _ _ => 0, fun _ _ => 0) k)) := by
    funext k
    simp [zCell, mCell]
  unfold pW mW
  rw [List.take_of_length_le (by rw [mArr_len]; exact Nat.le_refl _), e1, e2]
section IRows
variable {p : Program} {l : Launch} {e : Env} {R : Room} {s : State} {m : MethodId} {args : Array Value} {below : List Frame} {meth : Method} {c : Code} {H H0 : Heap} {locs : List Loc} {cells slots : Nat} {Q : State → Prop}
variable {cc : ByteArray} {nL : Nat} {A : Nat → Prop} {pc : Nat} {ls : Array Slot} {rest : List Value} {g : GG} {o j q : Nat} {ad : Nat → Nat} {I : Nat → Int32}
/-- putfield of an array that was just made: a final field, another one -/
theorem ipF (C : Cx p s m c cc nL RM args g) (hnm : meth.name = "<init>") (k : Nat) (hj : mArr[j]? = some k) {cl : va_E} (hc : zCell g k = cl) (h : Hx g (pW g o ad I j ++ [(q, cl)]) A H0 H locs) (hfin : (TM k).2.2.2 = true) {ix : Nat} (hix : ix = mix k) (hn : narrow (tyM k) (.ref q) = .ref q) (hfit : fits (tyM k) (.ref q) = true) (hdg : decode cc pc = .ok (.putfield ix, 3))
    (kk : ∀ (H1 : Heap) (locs1 : List Loc), Hx g (pW g o (va_up ad k q) I (j + 1)) A H0 H1 locs1 → W p l e R s m args below meth c H1 locs1 cells slots Q (F0 m (pc + 3) ls rest)) : W p l e R s m args below meth c H locs cells slots Q (F0 m pc ls (.ref q :: .ref o :: rest)) := by
  obtain ⟨hp, hk, h5⟩ := mArr_j hj
  subst hix
  subst hc
  refine va_putF (D := (g.1, g.2.1)) (ci := 0) (v := .ref q) (ty := tyM k) (C := RM) (T := TM) (N := 190) (ref := RM) (fs := pObj ad I j) C.1.1 C.1.2.1 C.1.2.2.2.2 mLays tyM tyM_ok nmM C.1.2.2.2.1 C.2 h.1 h.2.1 h.2.2.1 0 rfl rfl k hk (C.1.2.2.2.2 _ (mLinkIn k hk)) (fun x hx => by rw [mOwn k hk] at hx; exact hx) hfin hnm (mOwn k hk) (tyM_ok k hk) hn hfit (by rw [pObj_len]; exact hk) hdg (fun H1 locs1 hP hD hS => ?_)
  rw [pW_step hj] at hP hD
  exact kk H1 locs1 ⟨hP, hD, hS, h.2.2.2⟩
theorem ipN (C : Cx p s m c cc nL RM args g) (k : Nat) (hj : mArr[j]? = some k) {cl : va_E} (hc : zCell g k = cl) (h : Hx g (pW g o ad I j ++ [(q, cl)]) A H0 H locs) (hfin : (TM k).2.2.2 = false) {ix : Nat} (hix : ix = mix k) (hn : narrow (tyM k) (.ref q) = .ref q) (hfit : fits (tyM k) (.ref q) = true) (hdg : decode cc pc = .ok (.putfield ix, 3))
    (kk : ∀ (H1 : Heap) (locs1 : List Loc), Hx g (pW g o (va_up ad k q) I (j + 1)) A H0 H1 locs1 → W p l e R s m args below meth c H1 locs1 cells slots Q (F0 m (pc + 3) ls rest)) : W p l e R s m args below meth c H locs cells slots Q (F0 m pc ls (.ref q :: .ref o :: rest)) := by
  obtain ⟨hp, hk, h5⟩ := mArr_j hj
  subst hix
  subst hc
  refine va_put (D := (g.1, g.2.1)) (ci := 0) (v := .ref q) (ty := tyM k) (C := RM) (T := TM) (N := 190) (ref := RM) (fs := pObj ad I j) C.1.1 C.1.2.1 C.1.2.2.2.2 mLays tyM tyM_ok nmM C.1.2.2.2.1 C.2 h.1 h.2.1 h.2.2.1 0 rfl rfl k hk (C.1.2.2.2.2 _ (mLinkIn k hk)) (fun x hx => by rw [mOwn k hk] at hx; exact hx) hfin (tyM_ok k hk) hn hfit (by rw [pObj_len]; exact hk) hdg (fun H1 locs1 hP hD hS => ?_)
  rw [pW_step hj] at hP hD
  exact kk H1 locs1 ⟨hP, hD, hS, h.2.2.2⟩
/-- putfield of a number -/
theorem ipI (C : Cx p s m c cc nL RM args g) (h : Hx g (pW g o ad I j) A H0 H locs) (k : Nat) (hk : k < 190) (hs : mk k = 5) (hfin : (TM k).2.2.2 = false) {ix : Nat} (hix : ix = mix k) {v : Int32} (hn : narrow (tyM k) (.int v) = .int v) (hfit : fits (tyM k) (.int v) = true) (hdg : decode cc pc = .ok (.putfield ix, 3))
    (kk : ∀ (H1 : Heap) (locs1 : List Loc), Hx g (pW g o ad (va_up I k v) j) A H0 H1 locs1 → W p l e R s m args below meth c H1 locs1 cells slots Q (F0 m (pc + 3) ls rest)) : W p l e R s m args below meth c H locs cells slots Q (F0 m pc ls (.int v :: .ref o :: rest)) := by
  subst hix
  refine va_put (D := (g.1, g.2.1)) (ci := 0) (v := .int v) (ty := tyM k) (C := RM) (T := TM) (N := 190) (ref := RM) (fs := pObj ad I j) C.1.1 C.1.2.1 C.1.2.2.2.2 mLays tyM tyM_ok nmM C.1.2.2.2.1 C.2 h.1 h.2.1 h.2.2.1 0 rfl rfl k hk (C.1.2.2.2.2 _ (mLinkIn k hk)) (fun x hx => by rw [mOwn k hk] at hx; exact hx) hfin (tyM_ok k hk) hn hfit (by rw [pObj_len]; exact hk) hdg (fun H1 locs1 hP hD hS => ?_)
  have e1 : (pW g o ad I j).set 0 (o, .inr (0, (pObj ad I j).set k (.int v))) = pW g o ad (va_up I k v) j := by rw [pObj_put hs]; rfl
  rw [e1] at hP hD
  exact kk H1 locs1 ⟨hP, hD, hS, h.2.2.2⟩
end IRows
