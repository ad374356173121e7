/-! the String constants: ExchangeHouse$Tokens 27, ExchangeHouse$Tokens 29, ExchangeHouse$Tokens 31, ExchangeHouse$Tokens 33, ExchangeHouseModel 384 -/
def sOwn : Nat → String := fun i => match i with
  | 0 => RTk
  | 1 => RTk
  | 2 => RTk
  | 3 => RTk
  | _ => RM
def sIx : Nat → Nat := fun i => match i with
  | 0 => 27
  | 1 => 29
  | 2 => 31
  | 3 => 33
  | _ => 384
def sTx : Nat → String := fun i => match i with
  | 0 => "with delay env if prio int bool pid chart inst alt opt "
  | 1 => "next stop join output set reset create decide else end to via "
  | 2 => "signal route process var timer start state input save when none "
  | 3 => "true false null self sender parent offspring now waiting active not or and "
  | _ => "signal route process var timer start state input save when none next stop join output set reset create decide else end to via with delay env if prio int bool pid true false null self sender parent offspring now active waiting not and or chart inst alt opt "
def sLen : List Nat := [55, 62, 64, 75, 256]
def sByt : List (List Int32) := [[119, 105, 116, 104, 32, 100, 101, 108, 97, 121, 32, 101, 110, 118, 32, 105, 102, 32, 112, 114, 105, 111, 32, 105, 110, 116, 32, 98, 111, 111, 108, 32, 112, 105, 100, 32, 99, 104, 97, 114, 116, 32, 105, 110, 115, 116, 32, 97, 108, 116, 32, 111, 112, 116, 32], [110, 101, 120, 116, 32, 115, 116, 111, 112, 32, 106, 111, 105, 110, 32, 111, 117, 116, 112, 117, 116, 32, 115, 101, 116, 32, 114, 101, 115, 101, 116, 32, 99, 114, 101, 97, 116, 101, 32, 100, 101, 99, 105, 100, 101, 32, 101, 108, 115, 101, 32, 101, 110, 100, 32, 116, 111, 32, 118, 105, 97, 32], [115, 105, 103, 110, 97, 108, 32, 114, 111, 117, 116, 101, 32, 112, 114, 111, 99, 101, 115, 115, 32, 118, 97, 114, 32, 116, 105, 109, 101, 114, 32, 115, 116, 97, 114, 116, 32, 115, 116, 97, 116, 101, 32, 105, 110, 112, 117, 116, 32, 115, 97, 118, 101, 32, 119, 104, 101, 110, 32, 110, 111, 110, 101, 32], [116, 114, 117, 101, 32, 102, 97, 108, 115, 101, 32, 110, 117, 108, 108, 32, 115, 101, 108, 102, 32, 115, 101, 110, 100, 101, 114, 32, 112, 97, 114, 101, 110, 116, 32, 111, 102, 102, 115, 112, 114, 105, 110, 103, 32, 110, 111, 119, 32, 119, 97, 105, 116, 105, 110, 103, 32, 97, 99, 116, 105, 118, 101, 32, 110, 111, 116, 32, 111, 114, 32, 97, 110, 100, 32], [115, 105, 103, 110, 97, 108, 32, 114, 111, 117, 116, 101, 32, 112, 114, 111, 99, 101, 115, 115, 32, 118, 97, 114, 32, 116, 105, 109, 101, 114, 32, 115, 116, 97, 114, 116, 32, 115, 116, 97, 116, 101, 32, 105, 110, 112, 117, 116, 32, 115, 97, 118, 101, 32, 119, 104, 101, 110, 32, 110, 111, 110, 101, 32, 110, 101, 120, 116, 32, 115, 116, 111, 112, 32, 106, 111, 105, 110, 32, 111, 117, 116, 112, 117, 116, 32, 115, 101, 116, 32, 114, 101, 115, 101, 116, 32, 99, 114, 101, 97, 116, 101, 32, 100, 101, 99, 105, 100, 101, 32, 101, 108, 115, 101, 32, 101, 110, 100, 32, 116, 111, 32, 118, 105, 97, 32, 119, 105, 116, 104, 32, 100, 101, 108, 97, 121, 32, 101, 110, 118, 32, 105, 102, 32, 112, 114, 105, 111, 32, 105, 110, 116, 32, 98, 111, 111, 108, 32, 112, 105, 100, 32, 116, 114, 117, 101, 32, 102, 97, 108, 115, 101, 32, 110, 117, 108, 108, 32, 115, 101, 108, 102, 32, 115, 101, 110, 100, 101, 114, 32, 112, 97, 114, 101, 110, 116, 32, 111, 102, 102, 115, 112, 114, 105, 110, 103, 32, 110, 111, 119, 32, 97, 99, 116, 105, 118, 101, 32, 119, 97, 105, 116, 105, 110, 103, 32, 110, 111, 116, 32, 97, 110, 100, 32, 111, 114, 32, 99, 104, 97, 114, 116, 32, 105, 110, 115, 116, 32, 97, 108, 116, 32, 111, 112, 116, 32]]
abbrev sN : Nat := 5
def nNest : List (String × Nat × MethodName × String) := [(RPa, 13, yKd_init, "ExchangeHouse"), (RJu, 11, yKd_init, "ExchangeHouse"), (RPl, 74, yKd_init, "ExchangeHouse"), (RRu, 11, yNe_init, "ExchangeHouse")]
/-- what is known of the String constants while a method works: they lie outside A -/
def sE (ak sv : Nat → Nat) (A : Nat → Prop) (U : State) (H : Heap) : Prop := vk_S sN sLen sByt ak sv A U H ∧ va_Z "java/lang/String" "COMPACT_STRINGS" "Z" (.int 1) A U H ∧ va_Zq "jdk/internal/util/Preconditions" "SIOOBE_FORMATTER" "Ljava/util/function/BiFunction;" A U H ∧ (∀ i, i < sN → vk_R (sOwn i) (sIx i) (sTx i) (ak i) U) ∧ (∀ q ∈ nNest, va_Nw (.methodLinkNest q.1 q.2.1 q.2.2.1 q.2.2.2) U) ∧ va_AO "ExchangeHouse$Kind" U
theorem sE.to {ak sv : Nat → Nat} {A B : Nat → Prop} {s U : State} {H : Heap} (hE : sE ak sv A s s.heap) (hk : ∀ q : Nat, q < s.heap.size → ¬ A q → H[q]? = s.heap[q]?) (hW : s.WarmedH U.vm) (hU : U.heap = H) (hB : ∀ q, B q → A q) : sE ak sv B U U.heap := by
  obtain ⟨h1, h2, h3, h4, h5, h6⟩ := hE
  rw [hU]
  exact ⟨((h1.kept hk).moved hW.alike).narrow hB, ((h2.kept hk).moved hW.alike).narrow hB, ((h3.kept hk).moved hW.alike).narrow hB, fun i hi => (h4 i hi).warm hW, fun q hq => (h5 q hq).warmM hW, h6.moved hW.alike⟩
theorem sE.blind {ak sv : Nat → Nat} {A : Nat → Prop} {U : State} {g : JFrame} {mk : MethodId} {a : Array Value} (h : sE ak sv A U U.heap) : sE ak sv A (U.calling g mk a) (U.calling g mk a).heap := by
  obtain ⟨h1, h2, h3, h4, h5, h6⟩ := h
  exact ⟨h1.moved (Vm.Alike.refl U.vm), h2.moved (Vm.Alike.refl U.vm), h3.moved (Vm.Alike.refl U.vm), fun i hi => (h4 i hi).same rfl, fun q hq => va_Nw.same rfl rfl (h5 q hq), h6.moved (Vm.Alike.refl U.vm)⟩
/-- a method that only reads the constants: the heap stays -/
def KP (ak sv : Nat → Nat) (l : Launch) (y : MethodName) (b : ByteArray) (n : Nat) (r : Option FieldType) (d : Nat) (av : List Value) (post : Int32 → Prop) : Prop :=
  Met l y (aw y b n r) (rD d 0 0) (va_Pc av (fun U => sE ak sv (fun q => U.heap.size ≤ q) U U.heap)) (vp_Si post) 0 0 (fun _ => False)
section PRows
variable {ak sv : Nat → Nat} {p : Program} {l : Launch} {e : Env} {R : Room} {s : State} {m : MethodId} {args : Array Value} {below : List Frame} {meth : Method} {c : Code} {H : Heap} {locs : List Loc} {cells slots : Nat} {Q : State → Prop}
variable {cc : ByteArray} {nL : Nat} {own : String} {A : Nat → Prop} {pc : Nat} {ls : Array Slot} {rest st : List Value}
variable {y : MethodName} {b : ByteArray} {n d : Nat} {r : Option FieldType} {av : List Value}
theorem KP.of {post : Int32 → Prop} (hy : plainName y.cls = true) (hn : (lg_sl av).length ≤ n)
    (kk : ∀ (p : Program) (e : Env) (s : State) (m : MethodId) (below : List Frame) (meth : Method) (c : Code) (ls : Array Slot), CallFix p m c b n s av.toArray tb y.cls → meth.sig.returnType = r → meth.locks = false → sE ak sv (fun q => s.heap.size ≤ q) s s.heap → lv_has ls n (lv_args 0 av) →
      W p l e (rD d 0 0) s m av.toArray below meth c s.heap [] 0 0 (MQ below (vp_Si post) av.toArray s 0 0 (fun _ => False)) (F0 m 0 ls [])) : KP ak sv l y b n r d av post := by
  refine Met.ofW (cc := b) (maxL := n) (ret := r) hy rfl ?_
  intro p e s m args below meth c s₁ B hml hv
  obtain ⟨rfl, hE⟩ := hv
  have hts := atoms_spec (ws := aw y b n r) B.pre
  have hown : s.vm.findClass y.cls = some m.cls := findClass_of_methodNamed B.named
  have hl := lv_entry av (n := n) hn
  rw [lg_entry_eq]
  exact kk p e s m below meth c _ ⟨B.exec, B.bytes, hml, hown, fun w h => hts w (List.mem_cons_of_mem _ h)⟩ B.returns B.notSynchronized hE hl
theorem KP.ret {post : Int32 → Prop} {ty : FieldType} {v : Int32} (C : CallFix p m c cc nL s args tb own) (hr : meth.sig.returnType = some ty) (hlk : meth.locks = false) (hn : narrow ty (.int v) = .int v) (hp : post v) (hdg : decode cc pc = .ok (.ireturn, 1)) :
    W p l e R s m args below meth c s.heap [] 0 0 (MQ below (vp_Si post) args s 0 0 (fun _ => False)) (F0 m pc ls [.int v]) :=
  W.zret C.1 C.2.1 hr hn (fun t ht _ => ⟨v, rfl, hp, ht⟩) (fun _ h => by cases h) hdg hlk
theorem KP.blind {av : List Value} : FrameBlind (va_Pc av (fun U => sE ak sv (fun q => U.heap.size ≤ q) U U.heap)) := fun a U g mk q => ⟨q.1, sE.blind (A := fun q => U.heap.size ≤ q) q.2⟩
/-- invokevirtual on a String constant -/
theorem KP.callV {post : Int32 → Prop} {i idx : Nat} {As : List Value} (C : CallFix p m c cc nL s args tb own) (hE : sE ak sv A s s.heap) (hS : va_S A s.heap H locs) (hA : ∀ q : Nat, s.heap.size ≤ q → A q) (hi : i < sN) (hM : KP ak sv l y b n r d (.ref (ak i) :: As) post) (hy : y.cls = "java/lang/String") (hG : OkV own idx y b n r As.length) (hR : d + 1 ≤ R.frames ∧ 8 + (n + 11) + 40 * d ≤ R.locals)
    (hls : ls.size = nL) (hst : st = As.reverse ++ .ref (ak i) :: rest) (hrm : (rest.map fun v => v.category).sum ≤ 8) (hdg : decode cc pc = .ok (.invokevirtual idx, 3)) (hf : cells ≤ R.cells ∧ slots ≤ R.slots)
    (kk : ∀ v : Int32, post v → W p l e R s m args below meth c H locs cells slots Q (F0 m (pc + 3) ls (.int v :: rest))) : W p l e R s m args below meth c H locs cells slots Q (F0 m pc ls st) := by
  refine vp_callSi (W.runV (As := As) (rest := rest) C hM (cwV As.length C.2.2.2.2 hG.1 rfl rfl rfl ⟨rfl, hG.2⟩ hR) ⟨KP.blind, by rw [hy]; exact vk_recv hE.1 hi hS, fun U hU hW => ⟨rfl, sE.to hE hS.2.1 hW hU (fun q h => hA q (Nat.le_trans hS.1 (by rw [hU] at h; exact h)))⟩⟩ rfl rfl hls hst (lv_room hrm) hdg hf) (fun v hp => ?_)
  exact kk v hp
/-- invokestatic of a method that only reads the constants -/
theorem KP.callS {post : Int32 → Prop} {idx : Nat} {As : List Value} (C : CallFix p m c cc nL s args tb own) (hE : sE ak sv A s s.heap) (hS : va_S A s.heap H locs) (hA : ∀ q : Nat, s.heap.size ≤ q → A q) (hM : KP ak sv l y b n r d As post) (h1 : Cond.methodLink own idx y ∈ tb) (h2 : Cond.static y ∈ tb) (h3 : Cond.initialized y.cls ∈ tb) (h4 : Cond.code y b n r ∈ tb) (h5 : nPar y As.length) (hR : d + 1 ≤ R.frames ∧ 8 + (n + 11) + 40 * d ≤ R.locals)
    (hls : ls.size = nL) (hst : st = As.reverse ++ rest) (hrm : (rest.map fun v => v.category).sum ≤ 8) (hdg : decode cc pc = .ok (.invokestatic idx, 3)) (hf : cells ≤ R.cells ∧ slots ≤ R.slots)
    (kk : ∀ v : Int32, post v → W p l e R s m args below meth c H locs cells slots Q (F0 m (pc + 3) ls (.int v :: rest))) : W p l e R s m args below meth c H locs cells slots Q (F0 m pc ls st) := by
  refine vp_callSi (W.runS (As := As) (rest := rest) C hM ⟨callB_of As.length C.2.2.2.2 (aw_in h4) rfl rfl rfl (C.2.2.2.2 _ h3) (C.2.2.2.2 _ h1) h5 hR, C.2.2.2.2 _ h2⟩ ⟨KP.blind, fun U hU hW => ⟨rfl, sE.to hE hS.2.1 hW hU (fun q h => hA q (Nat.le_trans hS.1 (by rw [hU] at h; exact h)))⟩⟩ rfl rfl hls hst (lv_room hrm) hdg hf) (fun v hp => ?_)
  exact kk v hp
end PRows
def sCh (i k : Nat) : Int32 := (sByt.getD i []).getD k 0 &&& 255
theorem s_ok : ∀ i, i < sN → sLen.getD i 0 = (sByt.getD i []).length ∧ sLen.getD i 0 < 2 ^ 31 := by decide +kernel
theorem s_c2 (b : Int32) : ((b &&& 255).toUInt32 % 65536).toInt32 = b &&& 255 := sc_c2 b
/-- a method without an answer that only reads: the heap stays -/
def qV : Array Value → State → Outcome → State → Prop := fun _ st o t => o = .returned none ∧ t.heap = st.heap
def KPv (ak sv : Nat → Nat) (l : Launch) (y : MethodName) (b : ByteArray) (n : Nat) (d : Nat) (av : List Value) : Prop :=
  Met l y (aw y b n none) (rD d 0 0) (va_Pc av (fun U => sE ak sv (fun q => U.heap.size ≤ q) U U.heap)) qV 0 0 (fun _ => False)
section PvRows
variable {ak sv : Nat → Nat} {p : Program} {l : Launch} {e : Env} {R : Room} {s : State} {m : MethodId} {args : Array Value} {below : List Frame} {meth : Method} {c : Code} {H : Heap} {locs : List Loc} {cells slots : Nat} {Q : State → Prop}
variable {cc : ByteArray} {nL : Nat} {own : String} {A : Nat → Prop} {pc : Nat} {ls : Array Slot} {rest st : List Value}
variable {y : MethodName} {b : ByteArray} {n d : Nat} {av : List Value}
theorem KPv.of (hy : plainName y.cls = true) (hn : (lg_sl av).length ≤ n)
    (kk : ∀ (p : Program) (e : Env) (s : State) (m : MethodId) (below : List Frame) (meth : Method) (c : Code) (ls : Array Slot), CallFix p m c b n s av.toArray tb y.cls → meth.sig.returnType = none → meth.locks = false → sE ak sv (fun q => s.heap.size ≤ q) s s.heap → lv_has ls n (lv_args 0 av) →
      W p l e (rD d 0 0) s m av.toArray below meth c s.heap [] 0 0 (MQ below qV av.toArray s 0 0 (fun _ => False)) (F0 m 0 ls [])) : KPv ak sv l y b n d av := by
  refine Met.ofW (cc := b) (maxL := n) (ret := none) hy rfl ?_
  intro p e s m args below meth c s₁ B hml hv
  obtain ⟨rfl, hE⟩ := hv
  have hts := atoms_spec (ws := aw y b n none) B.pre
  have hown : s.vm.findClass y.cls = some m.cls := findClass_of_methodNamed B.named
  have hl := lv_entry av (n := n) hn
  rw [lg_entry_eq]
  exact kk p e s m below meth c _ ⟨B.exec, B.bytes, hml, hown, fun w h => hts w (List.mem_cons_of_mem _ h)⟩ B.returns B.notSynchronized hE hl
theorem KPv.ret (C : CallFix p m c cc nL s args tb own) (hr : meth.sig.returnType = none) (hlk : meth.locks = false) (hdg : decode cc pc = .ok (.return_, 1)) :
    W p l e R s m args below meth c s.heap [] 0 0 (MQ below qV args s 0 0 (fun _ => False)) (F0 m pc ls []) :=
  W.vret C.1 C.2.1 hr (fun t ht _ => ⟨rfl, ht⟩) (fun _ h => by cases h) hdg hlk
theorem KPv.callS {idx : Nat} {As : List Value} (C : CallFix p m c cc nL s args tb own) (hE : sE ak sv A s s.heap) (hS : va_S A s.heap H locs) (hA : ∀ q : Nat, s.heap.size ≤ q → A q) (hM : KPv ak sv l y b n d As) (h1 : Cond.methodLink own idx y ∈ tb) (h2 : Cond.static y ∈ tb) (h3 : Cond.initialized y.cls ∈ tb) (h4 : Cond.code y b n none ∈ tb) (h5 : nPar y As.length) (hR : d + 1 ≤ R.frames ∧ 8 + (n + 11) + 40 * d ≤ R.locals)
    (hls : ls.size = nL) (hst : st = As.reverse ++ rest) (hrm : (rest.map fun v => v.category).sum ≤ 8) (hdg : decode cc pc = .ok (.invokestatic idx, 3)) (hf : cells ≤ R.cells ∧ slots ≤ R.slots)
    (kk : W p l e R s m args below meth c H locs cells slots Q (F0 m (pc + 3) ls rest)) : W p l e R s m args below meth c H locs cells slots Q (F0 m pc ls st) := by
  intro T hT X
  obtain ⟨v, st₀, t, T', L, h0, X', hL, e1, ⟨hv, hh⟩, stp⟩ := W.runS (g := F0 m pc ls st) (As := As) (rest := rest) C hM ⟨callB_of As.length C.2.2.2.2 (aw_in h4) rfl rfl rfl (C.2.2.2.2 _ h3) (C.2.2.2.2 _ h1) h5 hR, C.2.2.2.2 _ h2⟩ ⟨KP.blind, fun U hU hW => ⟨rfl, sE.to hE hS.2.1 hW hU (fun q h => hA q (Nat.le_trans hS.1 (by rw [hU] at h; exact h)))⟩⟩ rfl rfl hls hst (lv_room hrm) hdg hf T hT X
  cases hv
  obtain ⟨t2, a1, b1⟩ := kk T' (by rw [e1, hh, h0]) (Stand.forget X' (fun q h => (hL q h).elim))
  exact ⟨t2, stp t2 a1, b1⟩
end PvRows
section SJ
variable {ak sv : Nat → Nat} (l : Launch)
theorem j_coder {i : Nat} (hi : i < sN) : KP ak sv l yJ0_coder_7d493 cJ0_coder_7d493 1 (some .byte) 0 [.ref (ak i)] (fun r => r = 0) := by
  refine KP.of (by decide) (Nat.le_of_ble_eq_true rfl) ?_
  intro p e s m below meth c ls C hr hlk hE hl
  have hx := C.1
  have hb := C.2.1
  have hS : va_S (fun q => s.heap.size ≤ q) s.heap s.heap [] := va_S.rf
  have hl : lv_has ls 1 [(0, .ref (ak i))] := hl
  refine va_gets hx hb hE.2.1 hS C.2.2.2.1 (C.2.2.2.2 _ lRJ0_38) (fun _ h => h) dJ0_coder_7d493_0 ?_
  refine lv_if_eq (tgt := 13) hx hb dJ0_coder_7d493_3 (by decide) (fun c3 => absurd c3 (by decide)) (fun c3 => ?_)
  refine lv_aload_n hx hb dJ0_coder_7d493_6 rfl (lv_at hl 0 rfl) ?_
  refine vk_getf hx hb (hE.1.1 i hi).2.1 hS C.2.2.2.1 (C.2.2.2.2 _ lRJ0_15) (fun _ h => h) dJ0_coder_7d493_7 ?_
  refine lv_goto (tgt := 14) hx hb dJ0_coder_7d493_10 (by decide) ?_
  exact KP.ret C hr hlk (by decide) rfl dJ0_coder_7d493_14
theorem j_isLatin1 {i : Nat} (hi : i < sN) : KP ak sv l yJ0_isLatin1_aae02 cJ0_isLatin1_aae02 1 (some .boolean) 0 [.ref (ak i)] (fun r => r = 1) := by
  refine KP.of (by decide) (Nat.le_of_ble_eq_true rfl) ?_
  intro p e s m below meth c ls C hr hlk hE hl
  have hx := C.1
  have hb := C.2.1
  have hS : va_S (fun q => s.heap.size ≤ q) s.heap s.heap [] := va_S.rf
  have hl : lv_has ls 1 [(0, .ref (ak i))] := hl
  refine va_gets hx hb hE.2.1 hS C.2.2.2.1 (C.2.2.2.2 _ lRJ0_38) (fun _ h => h) dJ0_isLatin1_aae02_0 ?_
  refine lv_if_eq (tgt := 17) hx hb dJ0_isLatin1_aae02_3 (by decide) (fun c3 => absurd c3 (by decide)) (fun c3 => ?_)
  refine lv_aload_n hx hb dJ0_isLatin1_aae02_6 rfl (lv_at hl 0 rfl) ?_
  refine vk_getf hx hb (hE.1.1 i hi).2.1 hS C.2.2.2.1 (C.2.2.2.2 _ lRJ0_15) (fun _ h => h) dJ0_isLatin1_aae02_7 ?_
  refine lv_if_ne (tgt := 17) hx hb dJ0_isLatin1_aae02_10 (by decide) (fun c3 => absurd rfl c3) (fun c3 => ?_)
  refine lv_iconst (v := 1) hx hb dJ0_isLatin1_aae02_13 (by decide) ?_
  refine lv_goto (tgt := 18) hx hb dJ0_isLatin1_aae02_14 (by decide) ?_
  exact KP.ret C hr hlk (by decide) rfl dJ0_isLatin1_aae02_18
theorem j_length {i : Nat} (hi : i < sN) : KP ak sv l yJ0_length_8abf5 cJ0_length_8abf5 1 (some .int) 1 [.ref (ak i)] (fun r => r = nI (sLen.getD i 0)) := by
  refine KP.of (by decide) (Nat.le_of_ble_eq_true rfl) ?_
  intro p e s m below meth c ls C hr hlk hE hl
  have hx := C.1
  have hb := C.2.1
  have hS : va_S (fun q => s.heap.size ≤ q) s.heap s.heap [] := va_S.rf
  have hl : lv_has ls 1 [(0, .ref (ak i))] := hl
  refine lv_aload_n hx hb dJ0_length_8abf5_0 rfl (lv_at hl 0 rfl) ?_
  refine vk_getf hx hb (hE.1.1 i hi).2.2.1 hS C.2.2.2.1 (C.2.2.2.2 _ lRJ0_9) (fun _ h => h) dJ0_length_8abf5_1 ?_
  refine va_tlen hx hb (hE.1.1 i hi).2.2.2 hS rfl dJ0_length_8abf5_4 ?_
  refine lv_aload_n hx hb dJ0_length_8abf5_5 rfl (lv_at hl 0 rfl) ?_
  refine KP.callV (As := []) C hE hS (fun _ h => h) hi (j_coder l hi) rfl vRJ0_335 ⟨by decide, by decide⟩ hl.1 rfl (Nat.le_of_ble_eq_true rfl) dJ0_length_8abf5_6 ⟨by decide, by decide⟩ (fun v hv => ?_)
  subst hv
  refine lv_ishr hx hb dJ0_length_8abf5_9 ?_
  exact KP.ret C hr hlk rfl (sc_shr0 (s_ok i hi).2) dJ0_length_8abf5_10
theorem j_pcheckN {a b : Int32} (h1 : ¬ a < 0) (h2 : a < b) : KP ak sv l yJ3_checkIndex_8e157 cJ3_checkIndex_8e157 3 (some .int) 0 [.int a, .int b, .null] (fun r => r = a) := by
  refine KP.of (by decide) (Nat.le_of_ble_eq_true rfl) ?_
  intro p e s m below meth c ls C hr hlk hE hl
  have hx := C.1
  have hb := C.2.1
  have hl : lv_has ls 3 [(0, .int a), (1, .int b), (2, .null)] := hl
  refine lv_iload_n hx hb dJ3_checkIndex_8e157_0 rfl (lv_at hl 0 rfl) ?_
  refine lv_if_lt (tgt := 9) hx hb dJ3_checkIndex_8e157_1 (by decide) (fun q => absurd q h1) (fun _ => ?_)
  refine lv_iload_n hx hb dJ3_checkIndex_8e157_4 rfl (lv_at hl 0 rfl) ?_
  refine lv_iload_n hx hb dJ3_checkIndex_8e157_5 rfl (lv_at hl 1 rfl) ?_
  refine lv_icmp_lt (tgt := 16) hx hb dJ3_checkIndex_8e157_6 (by decide) (fun _ => ?_) (fun q => absurd h2 q)
  refine lv_iload_n hx hb dJ3_checkIndex_8e157_16 rfl (lv_at hl 0 rfl) ?_
  exact KP.ret C hr hlk rfl rfl dJ3_checkIndex_8e157_17
theorem j_pcheckR {a b : Int32} {t : Nat} (h1 : ¬ a < 0) (h2 : a < b) : KP ak sv l yJ3_checkIndex_8e157 cJ3_checkIndex_8e157 3 (some .int) 0 [.int a, .int b, .ref t] (fun r => r = a) := by
  refine KP.of (by decide) (Nat.le_of_ble_eq_true rfl) ?_
  intro p e s m below meth c ls C hr hlk hE hl
  have hx := C.1
  have hb := C.2.1
  have hl : lv_has ls 3 [(0, .int a), (1, .int b), (2, .ref t)] := hl
  refine lv_iload_n hx hb dJ3_checkIndex_8e157_0 rfl (lv_at hl 0 rfl) ?_
  refine lv_if_lt (tgt := 9) hx hb dJ3_checkIndex_8e157_1 (by decide) (fun q => absurd q h1) (fun _ => ?_)
  refine lv_iload_n hx hb dJ3_checkIndex_8e157_4 rfl (lv_at hl 0 rfl) ?_
  refine lv_iload_n hx hb dJ3_checkIndex_8e157_5 rfl (lv_at hl 1 rfl) ?_
  refine lv_icmp_lt (tgt := 16) hx hb dJ3_checkIndex_8e157_6 (by decide) (fun _ => ?_) (fun q => absurd h2 q)
  refine lv_iload_n hx hb dJ3_checkIndex_8e157_16 rfl (lv_at hl 0 rfl) ?_
  exact KP.ret C hr hlk rfl rfl dJ3_checkIndex_8e157_17
theorem j_check {a b : Int32} (h1 : ¬ a < 0) (h2 : a < b) : KPv ak sv l yJ0_checkIndex_df160 cJ0_checkIndex_df160 2 1 [.int a, .int b] := by
  refine KPv.of (by decide) (Nat.le_of_ble_eq_true rfl) ?_
  intro p e s m below meth c ls C hr hlk hE hl
  have hx := C.1
  have hb := C.2.1
  have hS : va_S (fun q => s.heap.size ≤ q) s.heap s.heap [] := va_S.rf
  have hl : lv_has ls 2 [(0, .int a), (1, .int b)] := hl
  refine lv_iload_n hx hb dJ0_checkIndex_df160_0 rfl (lv_at hl 0 rfl) ?_
  refine lv_iload_n hx hb dJ0_checkIndex_df160_1 rfl (lv_at hl 1 rfl) ?_
  rcases hE.2.2.1 with hz | ⟨t, hz⟩
  · refine va_gets hx hb hz hS C.2.2.2.1 (C.2.2.2.2 _ lRJ0_1053) (fun _ h => h) dJ0_checkIndex_df160_2 ?_
    refine KP.callS (As := [.int a, .int b, .null]) C hE hS (fun _ h => h) (j_pcheckN l h1 h2) vRJ0_1059_l vRJ0_1059_s vRJ0_1059_i vRJ0_1059_c vRJ0_1059_p ⟨by decide, by decide⟩ hl.1 rfl (Nat.le_of_ble_eq_true rfl) dJ0_checkIndex_df160_5 ⟨by decide, by decide⟩ (fun v hv => ?_)
    refine lv_pop hx hb dJ0_checkIndex_df160_8 rfl ?_
    exact KPv.ret C hr hlk dJ0_checkIndex_df160_9
  · refine va_gets hx hb hz hS C.2.2.2.1 (C.2.2.2.2 _ lRJ0_1053) (fun _ h => h) dJ0_checkIndex_df160_2 ?_
    refine KP.callS (As := [.int a, .int b, .ref t]) C hE hS (fun _ h => h) (j_pcheckR l h1 h2) vRJ0_1059_l vRJ0_1059_s vRJ0_1059_i vRJ0_1059_c vRJ0_1059_p ⟨by decide, by decide⟩ hl.1 rfl (Nat.le_of_ble_eq_true rfl) dJ0_checkIndex_df160_5 ⟨by decide, by decide⟩ (fun v hv => ?_)
    refine lv_pop hx hb dJ0_checkIndex_df160_8 rfl ?_
    exact KPv.ret C hr hlk dJ0_checkIndex_df160_9
theorem j_latinAt {i k : Nat} (hi : i < sN) (hk : k < sLen.getD i 0) : KP ak sv l yJ1_charAt_3b067 cJ1_charAt_3b067 2 (some .char) 2 [.ref (sv i), .int (nI k)] (fun r => r = sCh i k) := by
  have hL := (s_ok i hi).2
  refine KP.of (by decide) (Nat.le_of_ble_eq_true rfl) ?_
  intro p e s m below meth c ls C hr hlk hE hl
  have hx := C.1
  have hb := C.2.1
  have hS : va_S (fun q => s.heap.size ≤ q) s.heap s.heap [] := va_S.rf
  have hl : lv_has ls 2 [(0, .ref (sv i)), (1, .int (nI k))] := hl
  refine lv_iload_n hx hb dJ1_charAt_3b067_0 rfl (lv_at hl 1 rfl) ?_
  refine lv_aload_n hx hb dJ1_charAt_3b067_1 rfl (lv_at hl 0 rfl) ?_
  refine va_tlen (v := nI (sLen.getD i 0)) hx hb (hE.1.1 i hi).2.2.2 hS rfl dJ1_charAt_3b067_2 ?_
  refine KPv.callS (As := [.int (nI k), .int (nI (sLen.getD i 0))]) C hE hS (fun _ h => h) (j_check l (nI_pos (by omega)) (nI_lt hk hL)) vRJ1_9_l vRJ1_9_s vRJ1_9_i vRJ1_9_c vRJ1_9_p ⟨by decide, by decide⟩ hl.1 rfl (Nat.le_of_ble_eq_true rfl) dJ1_charAt_3b067_3 ⟨by decide, by decide⟩ ?_
  refine lv_aload_n hx hb dJ1_charAt_3b067_6 rfl (lv_at hl 0 rfl) ?_
  refine lv_iload_n hx hb dJ1_charAt_3b067_7 rfl (lv_at hl 1 rfl) ?_
  refine va_tb hx hb (hE.1.1 i hi).2.2.2 hS (vp_in_nI hk hL) rfl dJ1_charAt_3b067_8 ?_
  refine lv_sipush (v := 255) hx hb dJ1_charAt_3b067_9 (by decide) ?_
  refine lv_iand hx hb dJ1_charAt_3b067_12 ?_
  refine lv_i2c (v := sCh i k) hx hb dJ1_charAt_3b067_13 (by rw [nI_clamp (by omega)]; exact sc_c2 _) ?_
  exact KP.ret C hr hlk (sc_nar _) rfl dJ1_charAt_3b067_14
theorem j_charAt {i k : Nat} (hi : i < sN) (hk : k < sLen.getD i 0) : KP ak sv l yJ0_charAt_5068e cJ0_charAt_5068e 2 (some .char) 3 [.ref (ak i), .int (nI k)] (fun r => r = sCh i k) := by
  refine KP.of (by decide) (Nat.le_of_ble_eq_true rfl) ?_
  intro p e s m below meth c ls C hr hlk hE hl
  have hx := C.1
  have hb := C.2.1
  have hS : va_S (fun q => s.heap.size ≤ q) s.heap s.heap [] := va_S.rf
  have hl : lv_has ls 2 [(0, .ref (ak i)), (1, .int (nI k))] := hl
  refine lv_aload_n hx hb dJ0_charAt_5068e_0 rfl (lv_at hl 0 rfl) ?_
  refine KP.callV (As := []) C hE hS (fun _ h => h) hi (j_isLatin1 l hi) rfl vRJ0_492 ⟨by decide, by decide⟩ hl.1 rfl (Nat.le_of_ble_eq_true rfl) dJ0_charAt_5068e_1 ⟨by decide, by decide⟩ (fun v hv => ?_)
  subst hv
  refine lv_if_eq (tgt := 16) hx hb dJ0_charAt_5068e_4 (by decide) (fun c3 => absurd c3 (by decide)) (fun c3 => ?_)
  refine lv_aload_n hx hb dJ0_charAt_5068e_7 rfl (lv_at hl 0 rfl) ?_
  refine vk_getf hx hb (hE.1.1 i hi).2.2.1 hS C.2.2.2.1 (C.2.2.2.2 _ lRJ0_9) (fun _ h => h) dJ0_charAt_5068e_8 ?_
  refine lv_iload_n hx hb dJ0_charAt_5068e_11 rfl (lv_at hl 1 rfl) ?_
  refine KP.callS (As := [.ref (sv i), .int (nI k)]) C hE hS (fun _ h => h) (j_latinAt l hi hk) vRJ0_495_l vRJ0_495_s vRJ0_495_i vRJ0_495_c vRJ0_495_p ⟨by decide, by decide⟩ hl.1 rfl (Nat.le_of_ble_eq_true rfl) dJ0_charAt_5068e_12 ⟨by decide, by decide⟩ (fun v hv => ?_)
  subst hv
  exact KP.ret C hr hlk (sc_nar _) rfl dJ0_charAt_5068e_15
end SJ

