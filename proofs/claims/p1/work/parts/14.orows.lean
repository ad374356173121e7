/-! rows over objects of any class, worlds as lists; calls over a part of the world -/
/-- a method that may use the String constants, with an int answer -/
def KIx {σ : Type} (ak sv : Nat → Nat) (l : Launch) (y : MethodName) (b : ByteArray) (n : Nat) (r : Option FieldType) (rm : Room) (g : GG) (w : va_W) (wd : σ → va_W) (av : List Value) (post : Int32 → σ → Prop) : Prop :=
  ∀ sz : Nat, Met l y (aw y b n r) rm (va_Pc av (fun U => gPre g w sz U ∧ sE ak sv (va_A w sz) U U.heap)) (va_Qi post (gB g wd (va_A w sz)) (va_A w sz)) rm.cells rm.slots (va_A w sz)
section ORows
variable {σ : Type} {ak sv : Nat → Nat} {p : Program} {l : Launch} {e : Env} {R : Room} {s : State} {m : MethodId} {args : Array Value} {below : List Frame} {meth : Method} {c : Code} {H H0 : Heap} {locs : List Loc} {cells slots : Nat} {Q : State → Prop}
variable {cc : ByteArray} {nL : Nat} {own : String} {A : Nat → Prop} {pc : Nat} {ls : Array Slot} {rest st : List Value} {g : GG} {w wc wr : va_W} {wd : σ → va_W} {rm : Room}
variable {y : MethodName} {b : ByteArray} {n d : Nat} {r : Option FieldType} {Cn : String} {T : u_T} {N ci index : Nat}
theorem Hx.cut (h : Hx g w A H0 H locs) (is : List Nat) (hn : va_nd is = true) (hs : is.map (fun i => w[i]?) = wc.map some) : Hx g wc A H0 H locs := by
  refine ⟨fun k q hk => ?_, h.2.1.sub is hn hs, h.2.2⟩
  have h1 : (is.map (fun i => w[i]?))[k]? = some (some q) := by rw [hs, List.getElem?_map, hk]; rfl
  rw [List.getElem?_map] at h1
  cases hi : is[k]? with
  | none => rw [hi] at h1; cases h1
  | some i => rw [hi] at h1; exact h.1 i q (Option.some.inj h1)
/-- getfield -/
theorem og (C : Cx p s m c cc nL own args g) (h : Hx g w A H0 H locs) (hin : ∀ w ∈ u_ws Cn T N, w ∈ tb) (q0 : Nat) {a : Nat} {fs : List Value} (he : w[q0]? = some (a, .inr (ci, fs))) (hc : vwCl[ci]? = some (Cn, T, N)) (k : Nat) (hk : k < N) (hl : Cond.fieldLink own index Cn (T k).2.1 (T k).2.2.1 ∈ tb) (ho : (T k).1 = Cn) {v : Value} (hv : fs[k]? = some v) (hdg : decode cc pc = .ok (.getfield index, 3))
    (kk : W p l e R s m args below meth c H locs cells slots Q (F0 m (pc + 3) ls (v :: rest))) : W p l e R s m args below meth c H locs cells slots Q (F0 m pc ls (.ref a :: rest)) :=
  va_get (D := (g.1, g.2.1)) (ci := ci) (v := v) (C := Cn) (T := T) (N := N) (ref := Cn) C.1.1 C.1.2.1 C.1.2.2.2.2 hin C.1.2.2.2.1 C.2 h.1 q0 he hc k hk (C.1.2.2.2.2 _ hl) (fun x hx => by rw [ho] at hx; exact hx) hv hdg kk
/-- putfield -/
theorem op (C : Cx p s m c cc nL own args g) (h : Hx g w A H0 H locs) (hin : ∀ w ∈ u_ws Cn T N, w ∈ tb) (ty0 : Nat → FieldType) (hty : ∀ k, k < N → parseFieldDescriptor (T k).2.2.1 = some (ty0 k)) (hnm : ∀ a, a < N → ∀ b, b < N → a ≠ b → (T a).2.1 ≠ (T b).2.1) (q0 : Nat) {a : Nat} {fs : List Value} (he : w[q0]? = some (a, .inr (ci, fs))) (hc : vwCl[ci]? = some (Cn, T, N)) (k : Nat) (hk : k < N) (hl : Cond.fieldLink own index Cn (T k).2.1 (T k).2.2.1 ∈ tb) (ho : (T k).1 = Cn) (hfin : (T k).2.2.2 = false) {v : Value} (hn : narrow (ty0 k) v = v) (hfit : fits (ty0 k) v = true) (hlen : k < fs.length) {w' : va_W} (hw : w.set q0 (a, .inr (ci, fs.set k v)) = w') (hdg : decode cc pc = .ok (.putfield index, 3))
    (kk : ∀ (H1 : Heap) (locs1 : List Loc), Hx g w' A H0 H1 locs1 → W p l e R s m args below meth c H1 locs1 cells slots Q (F0 m (pc + 3) ls rest)) : W p l e R s m args below meth c H locs cells slots Q (F0 m pc ls (v :: .ref a :: rest)) := by
  refine va_put (D := (g.1, g.2.1)) (ci := ci) (v := v) (ty := ty0 k) (C := Cn) (T := T) (N := N) (ref := Cn) C.1.1 C.1.2.1 C.1.2.2.2.2 hin ty0 hty hnm C.1.2.2.2.1 C.2 h.1 h.2.1 h.2.2.1 q0 he hc k hk (C.1.2.2.2.2 _ hl) (fun x hx => by rw [ho] at hx; exact hx) hfin (hty k hk) hn hfit hlen hdg (fun H1 locs1 hP hD hS => ?_)
  rw [hw] at hP hD
  exact kk H1 locs1 ⟨hP, hD, hS, h.2.2.2⟩
/-- putfield of a final field, in its constructor -/
theorem opF (C : Cx p s m c cc nL own args g) (h : Hx g w A H0 H locs) (hin : ∀ w ∈ u_ws Cn T N, w ∈ tb) (ty0 : Nat → FieldType) (hty : ∀ k, k < N → parseFieldDescriptor (T k).2.2.1 = some (ty0 k)) (hnm : ∀ a, a < N → ∀ b, b < N → a ≠ b → (T a).2.1 ≠ (T b).2.1) (hmn : meth.name = "<init>") (hco : Cn = own) (q0 : Nat) {a : Nat} {fs : List Value} (he : w[q0]? = some (a, .inr (ci, fs))) (hc : vwCl[ci]? = some (Cn, T, N)) (k : Nat) (hk : k < N) (hl : Cond.fieldLink own index Cn (T k).2.1 (T k).2.2.1 ∈ tb) (ho : (T k).1 = Cn) (hfin : (T k).2.2.2 = true) {v : Value} (hn : narrow (ty0 k) v = v) (hfit : fits (ty0 k) v = true) (hlen : k < fs.length) {w' : va_W} (hw : w.set q0 (a, .inr (ci, fs.set k v)) = w') (hdg : decode cc pc = .ok (.putfield index, 3))
    (kk : ∀ (H1 : Heap) (locs1 : List Loc), Hx g w' A H0 H1 locs1 → W p l e R s m args below meth c H1 locs1 cells slots Q (F0 m (pc + 3) ls rest)) : W p l e R s m args below meth c H locs cells slots Q (F0 m pc ls (v :: .ref a :: rest)) := by
  refine va_putF (D := (g.1, g.2.1)) (ci := ci) (v := v) (ty := ty0 k) (C := Cn) (T := T) (N := N) (ref := Cn) C.1.1 C.1.2.1 C.1.2.2.2.2 hin ty0 hty hnm C.1.2.2.2.1 C.2 h.1 h.2.1 h.2.2.1 q0 he hc k hk (C.1.2.2.2.2 _ hl) (fun x hx => by rw [ho] at hx; exact hx) hfin hmn (ho.trans hco) (hty k hk) hn hfit hlen hdg (fun H1 locs1 hP hD hS => ?_)
  rw [hw] at hP hD
  exact kk H1 locs1 ⟨hP, hD, hS, h.2.2.2⟩
/-- new -/
theorem on (C : Cx p s m c cc nL own args g) (h : Hx g w A H0 H locs) (hin : ∀ w ∈ u_ws Cn T N, w ∈ tb) (ty0 : Nat → FieldType) (hty : ∀ k, k < N → parseFieldDescriptor (T k).2.2.1 = some (ty0 k)) (hcl : Cond.classLink own index Cn ∈ tb) (hinst : Cond.instantiable Cn N ∈ tb) (hini : Cond.initialized Cn ∈ tb) (hc : vwCl[ci]? = some (Cn, T, N)) {fs : List Value} (hfs : ∀ j, j < N → defaultValue (ty0 j) = vp_V fs j) (hcells : cells + 1 ≤ R.cells) (hslots : slots + N ≤ R.slots) (hdg : decode cc pc = .ok (.new index, 3))
    (kk : ∀ (q : Nat) (H1 : Heap), Hx g (w ++ [(q, .inr (ci, fs))]) A H0 H1 locs → W p l e R s m args below meth c H1 locs (cells + 1) (slots + N) Q (F0 m (pc + 3) ls (.ref q :: rest))) : W p l e R s m args below meth c H locs cells slots Q (F0 m pc ls rest) := by
  refine va_new (ci := ci) (fs := fs) (C := Cn) (T := T) (N := N) C.1.1 C.1.2.1 C.1.2.2.2.2 hin ty0 hty C.1.2.2.2.1 (C.1.2.2.2.2 _ hcl) (C.1.2.2.2.2 _ hinst) (C.1.2.2.2.2 _ hini) C.2 h.1 h.2.1 h.2.2.1 h.2.2.2 hc hfs hcells hslots hdg (fun q H1 hP hD hS => ?_)
  exact kk q H1 ⟨hP, hD, hS, h.2.2.2⟩
/-- invokespecial of a constructor over a part of the world -/
theorem KV.callI {post : σ → Prop} {o : Nat} {As : List Value} (C : Cx p s m c cc nL own args g) (h : Hx g w A H0 H locs) (isC isR : List Nat) (hC : isC.map (fun i => w[i]?) = wc.map some) (hR : isR.map (fun i => w[i]?) = wr.map some) (hnC : va_nd isC = true) (hnR : va_nd isR = true) (hdis : ∀ i ∈ isR, i ∉ isC) (hM : KV l y b n rm g wc wd (.ref o :: As) post) (h1 : Cond.methodLink own index y ∈ tb) (h2 : Cond.instanceMethod y ∈ tb) (h3 : Cond.initialized y.cls ∈ tb) (h4 : Cond.code y b n none ∈ tb) (h5 : nPar y As.length) (h6 : y.name = "<init>") (hRm : rm.frames + 1 ≤ R.frames ∧ 8 + (n + 11) + rm.locals ≤ R.locals)
    (hls : ls.size = nL) (hst : st = As.reverse ++ .ref o :: rest) (hrm : (rest.map fun v => v.category).sum ≤ 8) (hdg : decode cc pc = .ok (.invokespecial index, 3)) (hf : cells + rm.cells ≤ R.cells ∧ slots + rm.slots ≤ R.slots)
    (kk : ∀ (u : σ) (H1 : Heap) (locs1 : List Loc), post u → Hx g (wr ++ wd u) A H0 H1 locs1 → W p l e R s m args below meth c H1 locs1 (cells + rm.cells) (slots + rm.slots) Q (F0 m (pc + 3) ls rest)) :
    W p l e R s m args below meth c H locs cells slots Q (F0 m pc ls st) := by
  have hc := h.cut isC hnC hC
  have hFc := hc.free
  refine va_callv (va_runI (As := As) (rest := rest) C.1 (hM H.size) (cwI As.length C.1.2.2.2.2 (aw_in h4) rfl rfl rfl (C.1.2.2.2.2 _ h3) (C.1.2.2.2.2 _ h1) (C.1.2.2.2.2 _ h2) h6 h5 hRm) ⟨gPre.blind, gPre.at C hc⟩ rfl rfl hls hst (lv_room hrm) hdg hf) h.2.2.1 (fun q _ hq => hFc q hq) hFc (fun u t H1 locs1 ht hvm hp hB hz hk hS => ?_)
  obtain ⟨hP, hD⟩ := va_join (wr := wr) (w1 := wd u) h.1 h.2.1 isC isR hC hR hnR hdis hk hFc (by rw [← ht]; exact hB.1) hB.2.2
  exact kk u H1 locs1 hp ⟨hP, hD, hS, h.2.2.2⟩
/-- the same, of one that uses the String constants -/
theorem KVx.callI {post : σ → Prop} {o : Nat} {As : List Value} (C : Cx p s m c cc nL own args g) (h : Hx g w A s.heap H locs) (hE : sE ak sv A s s.heap) (isC isR : List Nat) (hC : isC.map (fun i => w[i]?) = wc.map some) (hR : isR.map (fun i => w[i]?) = wr.map some) (hnC : va_nd isC = true) (hnR : va_nd isR = true) (hdis : ∀ i ∈ isR, i ∉ isC) (hM : KVx ak sv l y b n rm g wc wd (.ref o :: As) post) (h1 : Cond.methodLink own index y ∈ tb) (h2 : Cond.instanceMethod y ∈ tb) (h3 : Cond.initialized y.cls ∈ tb) (h4 : Cond.code y b n none ∈ tb) (h5 : nPar y As.length) (h6 : y.name = "<init>") (hRm : rm.frames + 1 ≤ R.frames ∧ 8 + (n + 11) + rm.locals ≤ R.locals)
    (hls : ls.size = nL) (hst : st = As.reverse ++ .ref o :: rest) (hrm : (rest.map fun v => v.category).sum ≤ 8) (hdg : decode cc pc = .ok (.invokespecial index, 3)) (hf : cells + rm.cells ≤ R.cells ∧ slots + rm.slots ≤ R.slots)
    (kk : ∀ (u : σ) (H1 : Heap) (locs1 : List Loc), post u → Hx g (wr ++ wd u) A s.heap H1 locs1 → W p l e R s m args below meth c H1 locs1 (cells + rm.cells) (slots + rm.slots) Q (F0 m (pc + 3) ls rest)) :
    W p l e R s m args below meth c H locs cells slots Q (F0 m pc ls st) := by
  have hc := h.cut isC hnC hC
  have hFc := hc.free
  refine va_callv (va_runI (As := As) (rest := rest) C.1 (hM H.size) (cwI As.length C.1.2.2.2.2 (aw_in h4) rfl rfl rfl (C.1.2.2.2.2 _ h3) (C.1.2.2.2.2 _ h1) (C.1.2.2.2.2 _ h2) h6 h5 hRm) ⟨fun a U g' mk q => ⟨q.1, (gPre.blind (av := []) (g := g) (w := wc) (sz := H.size) #[] U g' mk ⟨rfl, q.2.1⟩).2, sE.blind q.2.2⟩, fun U hU hW => ⟨rfl, (gPre.at (av := []) C hc U hU hW).2, sE.to hE h.2.2.1.2.1 hW hU hFc⟩⟩ rfl rfl hls hst (lv_room hrm) hdg hf) h.2.2.1 (fun q _ hq => hFc q hq) hFc (fun u t H1 locs1 ht hvm hp hB hz hk hS => ?_)
  obtain ⟨hP, hD⟩ := va_join (wr := wr) (w1 := wd u) h.1 h.2.1 isC isR hC hR hnR hdis hk hFc (by rw [← ht]; exact hB.1) hB.2.2
  exact kk u H1 locs1 hp ⟨hP, hD, hS, h.2.2.2⟩
/-- invokespecial of a nest mate's private constructor -/
theorem KV.callIN {post : σ → Prop} {o : Nat} {As : List Value} {host : String} (C : Cx p s m c cc nL own args g) (h : Hx g w A H0 H locs) (isC isR : List Nat) (hC : isC.map (fun i => w[i]?) = wc.map some) (hR : isR.map (fun i => w[i]?) = wr.map some) (hnC : va_nd isC = true) (hnR : va_nd isR = true) (hdis : ∀ i ∈ isR, i ∉ isC) (hM : KV l y b n rm g wc wd (.ref o :: As) post) (h1 : va_Nw (.methodLinkNest own index y host) s) (h2 : Cond.instanceMethod y ∈ tb) (h3 : Cond.initialized y.cls ∈ tb) (h4 : Cond.code y b n none ∈ tb) (h5 : nPar y As.length) (h6 : y.name = "<init>") (hRm : rm.frames + 1 ≤ R.frames ∧ 8 + (n + 11) + rm.locals ≤ R.locals)
    (hls : ls.size = nL) (hst : st = As.reverse ++ .ref o :: rest) (hrm : (rest.map fun v => v.category).sum ≤ 8) (hdg : decode cc pc = .ok (.invokespecial index, 3)) (hf : cells + rm.cells ≤ R.cells ∧ slots + rm.slots ≤ R.slots)
    (kk : ∀ (u : σ) (H1 : Heap) (locs1 : List Loc), post u → Hx g (wr ++ wd u) A H0 H1 locs1 → W p l e R s m args below meth c H1 locs1 (cells + rm.cells) (slots + rm.slots) Q (F0 m (pc + 3) ls rest)) :
    W p l e R s m args below meth c H locs cells slots Q (F0 m pc ls st) := by
  have hc := h.cut isC hnC hC
  have hFc := hc.free
  refine va_callv (va_runIN (As := As) (rest := rest) C.1 (hM H.size) ⟨va_cnB As.length C.1.2.2.2.2 (aw_in h4) rfl rfl rfl h1 (C.1.2.2.2.2 _ h3) h5 hRm, h6, C.1.2.2.2.2 _ h2⟩ ⟨gPre.blind, gPre.at C hc⟩ rfl rfl hls hst (lv_room hrm) hdg hf) h.2.2.1 (fun q _ hq => hFc q hq) hFc (fun u t H1 locs1 ht hvm hp hB hz hk hS => ?_)
  obtain ⟨hP, hD⟩ := va_join (wr := wr) (w1 := wd u) h.1 h.2.1 isC isR hC hR hnR hdis hk hFc (by rw [← ht]; exact hB.1) hB.2.2
  exact kk u H1 locs1 hp ⟨hP, hD, hS, h.2.2.2⟩
/-- invokestatic of another class's method without an answer, over a part of the world -/
theorem KV.callSs {post : σ → Prop} {As : List Value} (C : Cx p s m c cc nL own args g) (h : Hx g w A H0 H locs) (isC isR : List Nat) (hC : isC.map (fun i => w[i]?) = wc.map some) (hR : isR.map (fun i => w[i]?) = wr.map some) (hnC : va_nd isC = true) (hnR : va_nd isR = true) (hdis : ∀ i ∈ isR, i ∉ isC) (hM : KV l y b n rm g wc wd As post) (h1 : Cond.methodLink own index y ∈ tb) (h2 : Cond.static y ∈ tb) (h3 : Cond.initialized y.cls ∈ tb) (h4 : Cond.code y b n none ∈ tb) (h5 : nPar y As.length) (hRm : rm.frames + 1 ≤ R.frames ∧ 8 + (n + 11) + rm.locals ≤ R.locals)
    (hls : ls.size = nL) (hst : st = As.reverse ++ rest) (hrm : (rest.map fun v => v.category).sum ≤ 8) (hdg : decode cc pc = .ok (.invokestatic index, 3)) (hf : cells + rm.cells ≤ R.cells ∧ slots + rm.slots ≤ R.slots)
    (kk : ∀ (u : σ) (H1 : Heap) (locs1 : List Loc), post u → Hx g (wr ++ wd u) A H0 H1 locs1 → W p l e R s m args below meth c H1 locs1 (cells + rm.cells) (slots + rm.slots) Q (F0 m (pc + 3) ls rest)) :
    W p l e R s m args below meth c H locs cells slots Q (F0 m pc ls st) := by
  have hc := h.cut isC hnC hC
  have hFc := hc.free
  refine va_callv (va_runS (As := As) (rest := rest) C.1 (hM H.size) ⟨callB_of As.length C.1.2.2.2.2 (aw_in h4) rfl rfl rfl (C.1.2.2.2.2 _ h3) (C.1.2.2.2.2 _ h1) h5 hRm, C.1.2.2.2.2 _ h2⟩ ⟨gPre.blind, gPre.at C hc⟩ rfl rfl hls hst (lv_room hrm) hdg hf) h.2.2.1 (fun q _ hq => hFc q hq) hFc (fun u t H1 locs1 ht hvm hp hB hz hk hS => ?_)
  obtain ⟨hP, hD⟩ := va_join (wr := wr) (w1 := wd u) h.1 h.2.1 isC isR hC hR hnR hdis hk hFc (by rw [← ht]; exact hB.1) hB.2.2
  exact kk u H1 locs1 hp ⟨hP, hD, hS, h.2.2.2⟩
/-- invokevirtual over a part of the world -/
theorem KI.callVs {post : Int32 → σ → Prop} {o q0 : Nat} {fs As : List Value} (C : Cx p s m c cc nL own args g) (h : Hx g w A H0 H locs) (isC isR : List Nat) (hC : isC.map (fun i => w[i]?) = wc.map some) (hR : isR.map (fun i => w[i]?) = wr.map some) (hnC : va_nd isC = true) (hnR : va_nd isR = true) (hdis : ∀ i ∈ isR, i ∉ isC) (hM : KI l y b n r rm g wc wd (.ref o :: As) post) (hG : OkV own index y b n r As.length) (hRm : rm.frames + 1 ≤ R.frames ∧ 8 + (n + 11) + rm.locals ≤ R.locals)
    (hrec : w[q0]? = some (o, .inr (ci, fs))) (hcl : vwCl[ci]? = some (y.cls, T, N)) (hls : ls.size = nL) (hst : st = As.reverse ++ .ref o :: rest) (hrm : (rest.map fun v => v.category).sum ≤ 8) (hdg : decode cc pc = .ok (.invokevirtual index, 3)) (hf : cells + rm.cells ≤ R.cells ∧ slots + rm.slots ≤ R.slots)
    (kk : ∀ (v : Int32) (u : σ) (H1 : Heap) (locs1 : List Loc), post v u → Hx g (wr ++ wd u) A H0 H1 locs1 → W p l e R s m args below meth c H1 locs1 (cells + rm.cells) (slots + rm.slots) Q (F0 m (pc + 3) ls (.int v :: rest))) :
    W p l e R s m args below meth c H locs cells slots Q (F0 m pc ls st) := by
  have hc := h.cut isC hnC hC
  have hFc := hc.free
  refine va_calli (va_runV (As := As) (rest := rest) C.1 (hM H.size) (cwV As.length C.1.2.2.2.2 hG.1 rfl rfl rfl ⟨rfl, hG.2⟩ hRm) ⟨gPre.blind, va_recv C.2 h.1 hcl hrec, gPre.at C hc⟩ rfl rfl hls hst (lv_room hrm) hdg hf) h.2.2.1 (fun q _ hq => hFc q hq) hFc (fun v u t H1 locs1 ht hvm hp hB hz hk hS => ?_)
  obtain ⟨hP, hD⟩ := va_join (wr := wr) (w1 := wd u) h.1 h.2.1 isC isR hC hR hnR hdis hk hFc (by rw [← ht]; exact hB.1) hB.2.2
  exact kk v u H1 locs1 hp ⟨hP, hD, hS, h.2.2.2⟩
theorem KV.callVs {post : σ → Prop} {o q0 : Nat} {fs As : List Value} (C : Cx p s m c cc nL own args g) (h : Hx g w A H0 H locs) (isC isR : List Nat) (hC : isC.map (fun i => w[i]?) = wc.map some) (hR : isR.map (fun i => w[i]?) = wr.map some) (hnC : va_nd isC = true) (hnR : va_nd isR = true) (hdis : ∀ i ∈ isR, i ∉ isC) (hM : KV l y b n rm g wc wd (.ref o :: As) post) (hG : OkV own index y b n none As.length) (hRm : rm.frames + 1 ≤ R.frames ∧ 8 + (n + 11) + rm.locals ≤ R.locals)
    (hrec : w[q0]? = some (o, .inr (ci, fs))) (hcl : vwCl[ci]? = some (y.cls, T, N)) (hls : ls.size = nL) (hst : st = As.reverse ++ .ref o :: rest) (hrm : (rest.map fun v => v.category).sum ≤ 8) (hdg : decode cc pc = .ok (.invokevirtual index, 3)) (hf : cells + rm.cells ≤ R.cells ∧ slots + rm.slots ≤ R.slots)
    (kk : ∀ (u : σ) (H1 : Heap) (locs1 : List Loc), post u → Hx g (wr ++ wd u) A H0 H1 locs1 → W p l e R s m args below meth c H1 locs1 (cells + rm.cells) (slots + rm.slots) Q (F0 m (pc + 3) ls rest)) :
    W p l e R s m args below meth c H locs cells slots Q (F0 m pc ls st) := by
  have hc := h.cut isC hnC hC
  have hFc := hc.free
  refine va_callv (va_runV (As := As) (rest := rest) C.1 (hM H.size) (cwV As.length C.1.2.2.2.2 hG.1 rfl rfl rfl ⟨rfl, hG.2⟩ hRm) ⟨gPre.blind, va_recv C.2 h.1 hcl hrec, gPre.at C hc⟩ rfl rfl hls hst (lv_room hrm) hdg hf) h.2.2.1 (fun q _ hq => hFc q hq) hFc (fun u t H1 locs1 ht hvm hp hB hz hk hS => ?_)
  obtain ⟨hP, hD⟩ := va_join (wr := wr) (w1 := wd u) h.1 h.2.1 isC isR hC hR hnR hdis hk hFc (by rw [← ht]; exact hB.1) hB.2.2
  exact kk u H1 locs1 hp ⟨hP, hD, hS, h.2.2.2⟩
/-- invokevirtual of one that uses the String constants -/
theorem KIx.callVs {post : Int32 → σ → Prop} {o q0 : Nat} {fs As : List Value} (C : Cx p s m c cc nL own args g) (h : Hx g w A s.heap H locs) (hE : sE ak sv A s s.heap) (isC isR : List Nat) (hC : isC.map (fun i => w[i]?) = wc.map some) (hR : isR.map (fun i => w[i]?) = wr.map some) (hnC : va_nd isC = true) (hnR : va_nd isR = true) (hdis : ∀ i ∈ isR, i ∉ isC) (hM : KIx ak sv l y b n r rm g wc wd (.ref o :: As) post) (hG : OkV own index y b n r As.length) (hRm : rm.frames + 1 ≤ R.frames ∧ 8 + (n + 11) + rm.locals ≤ R.locals)
    (hrec : w[q0]? = some (o, .inr (ci, fs))) (hcl : vwCl[ci]? = some (y.cls, T, N)) (hls : ls.size = nL) (hst : st = As.reverse ++ .ref o :: rest) (hrm : (rest.map fun v => v.category).sum ≤ 8) (hdg : decode cc pc = .ok (.invokevirtual index, 3)) (hf : cells + rm.cells ≤ R.cells ∧ slots + rm.slots ≤ R.slots)
    (kk : ∀ (v : Int32) (u : σ) (H1 : Heap) (locs1 : List Loc), post v u → Hx g (wr ++ wd u) A s.heap H1 locs1 → W p l e R s m args below meth c H1 locs1 (cells + rm.cells) (slots + rm.slots) Q (F0 m (pc + 3) ls (.int v :: rest))) :
    W p l e R s m args below meth c H locs cells slots Q (F0 m pc ls st) := by
  have hc := h.cut isC hnC hC
  have hFc := hc.free
  refine va_calli (va_runV (As := As) (rest := rest) C.1 (hM H.size) (cwV As.length C.1.2.2.2.2 hG.1 rfl rfl rfl ⟨rfl, hG.2⟩ hRm) ⟨fun a U g' mk q => ⟨q.1, (gPre.blind (av := []) (g := g) (w := wc) (sz := H.size) #[] U g' mk ⟨rfl, q.2.1⟩).2, sE.blind q.2.2⟩, va_recv C.2 h.1 hcl hrec, fun U hU hW => ⟨rfl, (gPre.at (av := []) C hc U hU hW).2, sE.to hE h.2.2.1.2.1 hW hU hFc⟩⟩ rfl rfl hls hst (lv_room hrm) hdg hf) h.2.2.1 (fun q _ hq => hFc q hq) hFc (fun v u t H1 locs1 ht hvm hp hB hz hk hS => ?_)
  obtain ⟨hP, hD⟩ := va_join (wr := wr) (w1 := wd u) h.1 h.2.1 isC isR hC hR hnR hdis hk hFc (by rw [← ht]; exact hB.1) hB.2.2
  exact kk v u H1 locs1 hp ⟨hP, hD, hS, h.2.2.2⟩
theorem KIx.of {av : List Value} {post : Int32 → σ → Prop} (hy : plainName y.cls = true) (hn : (lg_sl av).length ≤ n)
    (kk : ∀ (p : Program) (e : Env) (s : State) (m : MethodId) (below : List Frame) (meth : Method) (c : Code) (A : Nat → Prop) (ls : Array Slot), Cx p s m c b n y.cls av.toArray g → meth.sig.returnType = r → meth.locks = false → meth.name = y.name → Hx g w A s.heap s.heap [] → sE ak sv A s s.heap → lv_has ls n (lv_args 0 av) →
      W p l e rm s m av.toArray below meth c s.heap [] 0 0 (MQ below (va_Qi post (gB g wd A) A) av.toArray s rm.cells rm.slots A) (F0 m 0 ls [])) : KIx ak sv l y b n r rm g w wd av post := by
  intro sz
  refine Met.ofW (cc := b) (maxL := n) (ret := r) hy rfl ?_
  intro p e s m args below meth c s₁ B hml hv
  obtain ⟨rfl, ⟨hsz, hP, hK, hD0⟩, hE⟩ := hv
  have hts := atoms_spec (ws := aw y b n r) B.pre
  have hown : s.vm.findClass y.cls = some m.cls := findClass_of_methodNamed B.named
  subst hsz
  have hl := lv_entry av (n := n) hn
  rw [lg_entry_eq]
  exact kk p e s m below meth c _ _ ⟨⟨B.exec, B.bytes, hml, hown, fun w h => hts w (List.mem_cons_of_mem _ h)⟩, hK⟩ B.returns B.notSynchronized (name_of_methodNamed B.named B.method).1 ⟨hP, hD0.self, va_S.rf, fun q h => Or.inr h⟩ hE hl
end ORows
