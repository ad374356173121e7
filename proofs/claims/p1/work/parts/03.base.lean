/-! the base: every method has all of the tables' words; contracts over worlds; entry, return, calls -/
/-- the tables' words but those on String constants -/
def tb : List Cond := lw_tbl.filter goodWord
theorem tm {w : Cond} (i : Nat) (h : lw_tbl[i]? = some w) (hg : goodWord w = true) : w ∈ tb := List.mem_filter.mpr ⟨List.mem_of_getElem? h, hg⟩
abbrev aw (y : MethodName) (b : ByteArray) (n : Nat) (r : Option FieldType) : List Cond := Cond.code y b n r :: tb
theorem tb_g {w : Cond} (h : w ∈ tb) : (w.onTables && w.keeps) = true ∨ ∃ ty, w = .arrayClass ty := good_of_word (List.mem_filter.mp h).2
theorem aw_in {y : MethodName} {b : ByteArray} {n : Nat} {r : Option FieldType} (h : Cond.code y b n r ∈ tb) : GoodIn tb (aw y b n r) := by
  intro w hw
  have hm : w ∈ tb := by
    rcases List.mem_cons.mp hw with e | e
    · rw [e]; exact h
    · exact e
  exact ⟨hm, tb_g hm⟩
theorem aw_v {own : String} {idx : Nat} {C : String} {y : MethodName} {b : ByteArray} {n : Nat} {r : Option FieldType} (h1 : Cond.methodLink own idx y ∈ tb) (h2 : Cond.instanceMethod y ∈ tb) (h3 : Cond.selects C y y ∈ tb) (h4 : Cond.initialized C ∈ tb) (h5 : Cond.code y b n r ∈ tb) : GoodIn tb (wsV own idx C y (aw y b n r)) := by
  intro w hw
  unfold wsV at hw
  rcases List.mem_append.mp hw with q | q
  · have hm : w ∈ tb := by
      simp only [List.mem_cons, List.not_mem_nil, or_false] at q
      rcases q with rfl | rfl | rfl | rfl <;> assumption
    exact ⟨hm, tb_g hm⟩
  · exact aw_in h5 w q
theorem aw_s {own : String} {idx : Nat} {y : MethodName} {b : ByteArray} {n : Nat} {r : Option FieldType} (h1 : Cond.methodLink own idx y ∈ tb) (h2 : Cond.static y ∈ tb) (h4 : Cond.initialized own ∈ tb) (h5 : Cond.code y b n r ∈ tb) : GoodIn tb (wsS own idx y (aw y b n r)) := by
  intro w hw
  unfold wsS at hw
  rcases List.mem_append.mp hw with q | q
  · have hm : w ∈ tb := by
      simp only [List.mem_cons, List.not_mem_nil, or_false] at q
      rcases q with rfl | rfl | rfl <;> assumption
    exact ⟨hm, tb_g hm⟩
  · exact aw_in h5 w q
/-- class numbers, slots, and the array classes: 0 byte, 1 int, 2 long, 3 boolean, 4 Kind -/
abbrev GG : Type := (Nat → ClassId) × (Nat → Nat → Nat) × (Nat → ClassId)
abbrev gT (g : GG) : List (ClassId × FieldType) := [(g.2.2 0, .byte), (g.2.2 1, .int), (g.2.2 2, .long), (g.2.2 3, .boolean), (g.2.2 4, .object "ExchangeHouse$Kind")]
abbrev gK (g : GG) (U : State) : Prop := va_K (g.1, g.2.1) vwCl (gT g) U
abbrev gP (g : GG) (w : va_W) (H : Heap) : Prop := va_P (g.1, g.2.1) vwCl w H
def Cx (p : Program) (s : State) (m : MethodId) (c : Code) (cc : ByteArray) (nL : Nat) (own : String) (args : Array Value) (g : GG) : Prop := CallFix p m c cc nL s args tb own ∧ gK g s
def Hx (g : GG) (w : va_W) (A : Nat → Prop) (H0 H : Heap) (locs : List Loc) : Prop := gP g w H ∧ va_D A w ∧ va_S A H0 H locs ∧ ∀ q : Nat, H0.size ≤ q → A q
def gPre (g : GG) (w : va_W) (sz : Nat) : State → Prop := fun U => U.heap.size = sz ∧ gP g w U.heap ∧ gK g U ∧ va_D (fun _ => True) w
def gB {σ : Type} (g : GG) (wd : σ → va_W) (A : Nat → Prop) : σ → State → Prop := fun u t => gP g (wd u) t.heap ∧ gK g t ∧ va_D A (wd u)
/-- a method that answers an int (or boolean, byte, char, short) -/
def KI {σ : Type} (l : Launch) (y : MethodName) (b : ByteArray) (n : Nat) (r : Option FieldType) (rm : Room) (g : GG) (w : va_W) (wd : σ → va_W) (av : List Value) (post : Int32 → σ → Prop) : Prop :=
  ∀ sz : Nat, Met l y (aw y b n r) rm (va_Pc av (gPre g w sz)) (va_Qi post (gB g wd (va_A w sz)) (va_A w sz)) rm.cells rm.slots (va_A w sz)
def KL {σ : Type} (l : Launch) (y : MethodName) (b : ByteArray) (n : Nat) (r : Option FieldType) (rm : Room) (g : GG) (w : va_W) (wd : σ → va_W) (av : List Value) (post : Int64 → σ → Prop) : Prop :=
  ∀ sz : Nat, Met l y (aw y b n r) rm (va_Pc av (gPre g w sz)) (va_Ql post (gB g wd (va_A w sz)) (va_A w sz)) rm.cells rm.slots (va_A w sz)
def KV {σ : Type} (l : Launch) (y : MethodName) (b : ByteArray) (n : Nat) (rm : Room) (g : GG) (w : va_W) (wd : σ → va_W) (av : List Value) (post : σ → Prop) : Prop :=
  ∀ sz : Nat, Met l y (aw y b n none) rm (va_Pc av (gPre g w sz)) (va_Qv post (gB g wd (va_A w sz)) (va_A w sz)) rm.cells rm.slots (va_A w sz)
/-- rooms by depth: each call takes at most 40 words of locals -/
abbrev rD (d k n : Nat) : Room := { frames := d, cells := k, slots := n, locals := 40 * d }
/-- a call by invokevirtual (invokestatic): its words, its number of arguments -/
abbrev nPar (y : MethodName) (k : Nat) : Prop := y.cls ≠ "java/lang/invoke/MethodHandle" ∧ y.cls ≠ "java/lang/invoke/VarHandle" ∧ (parseMethodDescriptor y.desc).map (fun d => d.parameters.length) = some k
def OkV (own : String) (idx : Nat) (y : MethodName) (b : ByteArray) (n : Nat) (r : Option FieldType) (k : Nat) : Prop := GoodIn tb (wsV own idx y.cls y (aw y b n r)) ∧ nPar y k
def OkS (own : String) (idx : Nat) (y : MethodName) (b : ByteArray) (n : Nat) (r : Option FieldType) (k : Nat) : Prop := GoodIn tb (wsS own idx y (aw y b n r)) ∧ nPar y k
section Rows
variable {σ : Type} {p : Program} {l : Launch} {e : Env} {R : Room} {s : State} {m : MethodId} {args : Array Value} {below : List Frame} {meth : Method} {c : Code} {H H0 : Heap} {locs : List Loc} {cells slots : Nat} {Q : State → Prop}
variable {cc : ByteArray} {nL : Nat} {own : String} {g : GG} {A : Nat → Prop} {pc : Nat} {ls : Array Slot} {rest st : List Value}
variable {y : MethodName} {b : ByteArray} {n : Nat} {r : Option FieldType} {rm : Room} {w : va_W} {wd : σ → va_W} {av : List Value}
theorem KI.of {post : Int32 → σ → Prop} (hy : plainName y.cls = true) (hn : (lg_sl av).length ≤ n)
    (kk : ∀ (p : Program) (e : Env) (s : State) (m : MethodId) (below : List Frame) (meth : Method) (c : Code) (A : Nat → Prop) (ls : Array Slot), Cx p s m c b n y.cls av.toArray g → meth.sig.returnType = r → meth.locks = false → meth.name = y.name → Hx g w A s.heap s.heap [] → lv_has ls n (lv_args 0 av) →
      W p l e rm s m av.toArray below meth c s.heap [] 0 0 (MQ below (va_Qi post (gB g wd A) A) av.toArray s rm.cells rm.slots A) (F0 m 0 ls [])) : KI l y b n r rm g w wd av post := by
  intro sz
  refine Met.ofW (cc := b) (maxL := n) (ret := r) hy rfl ?_
  intro p e s m args below meth c s₁ B hml hv
  obtain ⟨rfl, hsz, hP, hK, hD0⟩ := hv
  have hts := atoms_spec (ws := aw y b n r) B.pre
  have hown : s.vm.findClass y.cls = some m.cls := findClass_of_methodNamed B.named
  subst hsz
  have hl := lv_entry av (n := n) hn
  rw [lg_entry_eq]
  exact kk p e s m below meth c _ _ ⟨⟨B.exec, B.bytes, hml, hown, fun w h => hts w (List.mem_cons_of_mem _ h)⟩, hK⟩ B.returns B.notSynchronized (name_of_methodNamed B.named B.method).1 ⟨hP, hD0.self, va_S.rf, fun q h => Or.inr h⟩ hl
theorem KL.of {post : Int64 → σ → Prop} (hy : plainName y.cls = true) (hn : (lg_sl av).length ≤ n)
    (kk : ∀ (p : Program) (e : Env) (s : State) (m : MethodId) (below : List Frame) (meth : Method) (c : Code) (A : Nat → Prop) (ls : Array Slot), Cx p s m c b n y.cls av.toArray g → meth.sig.returnType = r → meth.locks = false → meth.name = y.name → Hx g w A s.heap s.heap [] → lv_has ls n (lv_args 0 av) →
      W p l e rm s m av.toArray below meth c s.heap [] 0 0 (MQ below (va_Ql post (gB g wd A) A) av.toArray s rm.cells rm.slots A) (F0 m 0 ls [])) : KL l y b n r rm g w wd av post := by
  intro sz
  refine Met.ofW (cc := b) (maxL := n) (ret := r) hy rfl ?_
  intro p e s m args below meth c s₁ B hml hv
  obtain ⟨rfl, hsz, hP, hK, hD0⟩ := hv
  have hts := atoms_spec (ws := aw y b n r) B.pre
  have hown : s.vm.findClass y.cls = some m.cls := findClass_of_methodNamed B.named
  subst hsz
  have hl := lv_entry av (n := n) hn
  rw [lg_entry_eq]
  exact kk p e s m below meth c _ _ ⟨⟨B.exec, B.bytes, hml, hown, fun w h => hts w (List.mem_cons_of_mem _ h)⟩, hK⟩ B.returns B.notSynchronized (name_of_methodNamed B.named B.method).1 ⟨hP, hD0.self, va_S.rf, fun q h => Or.inr h⟩ hl
theorem KV.of {post : σ → Prop} (hy : plainName y.cls = true) (hn : (lg_sl av).length ≤ n)
    (kk : ∀ (p : Program) (e : Env) (s : State) (m : MethodId) (below : List Frame) (meth : Method) (c : Code) (A : Nat → Prop) (ls : Array Slot), Cx p s m c b n y.cls av.toArray g → meth.sig.returnType = none → meth.locks = false → meth.name = y.name → Hx g w A s.heap s.heap [] → lv_has ls n (lv_args 0 av) →
      W p l e rm s m av.toArray below meth c s.heap [] 0 0 (MQ below (va_Qv post (gB g wd A) A) av.toArray s rm.cells rm.slots A) (F0 m 0 ls [])) : KV l y b n rm g w wd av post := by
  intro sz
  refine Met.ofW (cc := b) (maxL := n) (ret := none) hy rfl ?_
  intro p e s m args below meth c s₁ B hml hv
  obtain ⟨rfl, hsz, hP, hK, hD0⟩ := hv
  have hts := atoms_spec (ws := aw y b n none) B.pre
  have hown : s.vm.findClass y.cls = some m.cls := findClass_of_methodNamed B.named
  subst hsz
  have hl := lv_entry av (n := n) hn
  rw [lg_entry_eq]
  exact kk p e s m below meth c _ _ ⟨⟨B.exec, B.bytes, hml, hown, fun w h => hts w (List.mem_cons_of_mem _ h)⟩, hK⟩ B.returns B.notSynchronized (name_of_methodNamed B.named B.method).1 ⟨hP, hD0.self, va_S.rf, fun q h => Or.inr h⟩ hl
/-- ireturn -/
theorem KI.ret {post : Int32 → σ → Prop} {ty : FieldType} {v : Int32} (C : Cx p s m c cc nL own args g) (hr : meth.sig.returnType = some ty) (hlk : meth.locks = false) (u : σ) (h : Hx g (wd u) A s.heap H locs) (hn : narrow ty (.int v) = .int v) (hp : post v u) (hc : cells ≤ R.cells) (hs : slots ≤ R.slots) (hdg : decode cc pc = .ok (.ireturn, 1)) :
    W p l e R s m args below meth c H locs cells slots (MQ below (va_Qi post (gB g wd A) A) args s R.cells R.slots A) (F0 m pc ls [.int v]) := by
  refine W.widen hc hs ?_
  exact W.zret C.1.1 C.1.2.1 hr hn (fun t ht hW => ⟨⟨v, u, rfl, hp, by rw [ht]; exact h.1, va_K.moved hW.alike C.2, h.2.1⟩, h.2.2.1.F ht⟩) h.2.2.1.2.2 hdg hlk
/-- return -/
theorem KV.ret {post : σ → Prop} (C : Cx p s m c cc nL own args g) (hr : meth.sig.returnType = none) (hlk : meth.locks = false) (u : σ) (h : Hx g (wd u) A s.heap H locs) (hp : post u) (hc : cells ≤ R.cells) (hs : slots ≤ R.slots) (hdg : decode cc pc = .ok (.return_, 1)) :
    W p l e R s m args below meth c H locs cells slots (MQ below (va_Qv post (gB g wd A) A) args s R.cells R.slots A) (F0 m pc ls []) := by
  refine W.widen hc hs ?_
  exact W.vret C.1.1 C.1.2.1 hr (fun t ht hW => ⟨⟨u, rfl, hp, by rw [ht]; exact h.1, va_K.moved hW.alike C.2, h.2.1⟩, h.2.2.1.F ht⟩) h.2.2.1.2.2 hdg hlk
theorem Hx.free (h : Hx g w A H0 H locs) : ∀ q, va_A w H.size q → A q := by
  intro q hq
  rcases hq with ⟨k, e, hk⟩ | hq
  · exact h.2.1.2 k (q, e) hk
  · exact h.2.2.2 q (Nat.le_trans h.2.2.1.1 hq)
theorem gPre.blind {w : va_W} {sz : Nat} : FrameBlind (va_Pc av (gPre g w sz)) := by
  intro a U g' mk q
  obtain ⟨q0, q1, qP, qK, qD⟩ := q
  exact ⟨q0, q1, qP, va_K.moved (u := U) (U := U.calling g' mk a) (Vm.Alike.refl U.vm) qK, qD⟩
theorem gPre.at (C : Cx p s m c cc nL own args g) (h : Hx g w A H0 H locs) : ∀ U : State, U.heap = H → s.WarmedH U.vm → va_Pc av (gPre g w H.size) av.toArray U := fun U hU hW => ⟨rfl, by rw [hU], by rw [hU]; exact h.1, va_K.moved hW.alike C.2, h.2.1.weaken (fun _ _ _ _ => trivial)⟩
/-- invokevirtual of a method with an int answer, over the whole world -/
theorem KI.callV {post : Int32 → σ → Prop} {o q0 ci N idx : Nat} {T : u_T} {fs As : List Value} (C : Cx p s m c cc nL own args g) (h : Hx g w A H0 H locs) (hM : KI l y b n r rm g w wd (.ref o :: As) post) (hG : OkV own idx y b n r As.length) (hR : rm.frames + 1 ≤ R.frames ∧ 8 + (n + 11) + rm.locals ≤ R.locals)
    (hrec : w[q0]? = some (o, .inr (ci, fs))) (hcl : vwCl[ci]? = some (y.cls, T, N)) (hls : ls.size = nL) (hst : st = As.reverse ++ .ref o :: rest) (hrm : (rest.map fun v => v.category).sum ≤ 8) (hdg : decode cc pc = .ok (.invokevirtual idx, 3)) (hf : cells + rm.cells ≤ R.cells ∧ slots + rm.slots ≤ R.slots)
    (kk : ∀ (v : Int32) (u : σ) (H1 : Heap) (locs1 : List Loc), post v u → Hx g (wd u) A H0 H1 locs1 → W p l e R s m args below meth c H1 locs1 (cells + rm.cells) (slots + rm.slots) Q (F0 m (pc + 3) ls (.int v :: rest))) :
    W p l e R s m args below meth c H locs cells slots Q (F0 m pc ls st) := by
  have hFc := h.free
  refine va_calli (va_runV (As := As) (rest := rest) C.1 (hM H.size) (cwV As.length C.1.2.2.2.2 hG.1 rfl rfl rfl ⟨rfl, hG.2⟩ hR) ⟨gPre.blind, va_recv C.2 h.1 hcl hrec, gPre.at C h⟩ rfl rfl hls hst (lv_room hrm) hdg hf) h.2.2.1 (fun q _ hq => hFc q hq) hFc (fun v u t H1 locs1 ht hvm hp hB hz hk hS => ?_)
  exact kk v u H1 locs1 hp ⟨by rw [← ht]; exact hB.1, hB.2.2.weaken (fun _ _ _ q => hFc _ q), hS, h.2.2.2⟩
theorem KV.callV {post : σ → Prop} {o q0 ci N idx : Nat} {T : u_T} {fs As : List Value} (C : Cx p s m c cc nL own args g) (h : Hx g w A H0 H locs) (hM : KV l y b n rm g w wd (.ref o :: As) post) (hG : OkV own idx y b n none As.length) (hR : rm.frames + 1 ≤ R.frames ∧ 8 + (n + 11) + rm.locals ≤ R.locals)
    (hrec : w[q0]? = some (o, .inr (ci, fs))) (hcl : vwCl[ci]? = some (y.cls, T, N)) (hls : ls.size = nL) (hst : st = As.reverse ++ .ref o :: rest) (hrm : (rest.map fun v => v.category).sum ≤ 8) (hdg : decode cc pc = .ok (.invokevirtual idx, 3)) (hf : cells + rm.cells ≤ R.cells ∧ slots + rm.slots ≤ R.slots)
    (kk : ∀ (u : σ) (H1 : Heap) (locs1 : List Loc), post u → Hx g (wd u) A H0 H1 locs1 → W p l e R s m args below meth c H1 locs1 (cells + rm.cells) (slots + rm.slots) Q (F0 m (pc + 3) ls rest)) :
    W p l e R s m args below meth c H locs cells slots Q (F0 m pc ls st) := by
  have hFc := h.free
  refine va_callv (va_runV (As := As) (rest := rest) C.1 (hM H.size) (cwV As.length C.1.2.2.2.2 hG.1 rfl rfl rfl ⟨rfl, hG.2⟩ hR) ⟨gPre.blind, va_recv C.2 h.1 hcl hrec, gPre.at C h⟩ rfl rfl hls hst (lv_room hrm) hdg hf) h.2.2.1 (fun q _ hq => hFc q hq) hFc (fun u t H1 locs1 ht hvm hp hB hz hk hS => ?_)
  exact kk u H1 locs1 hp ⟨by rw [← ht]; exact hB.1, hB.2.2.weaken (fun _ _ _ q => hFc _ q), hS, h.2.2.2⟩
end Rows
