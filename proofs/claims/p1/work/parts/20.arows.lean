/-! calls of the law: over the first part of the world; the second one stays -/
section ARows
variable {σ : Type} {ak sv : Nat → Nat} {p : Program} {l : Launch} {e : Env} {R : Room} {s : State} {m : MethodId} {args : Array Value} {below : List Frame} {meth : Method} {c : Code} {H H1 H0 : Heap} {locs locs1 : List Loc} {cells slots : Nat} {Q : State → Prop}
variable {cc : ByteArray} {nL : Nat} {own : String} {A : Nat → Prop} {pc : Nat} {ls : Array Slot} {rest st : List Value} {g : GG} {w1 w2 : va_W} {wd : σ → va_W} {rm : Room}
variable {y : MethodName} {b : ByteArray} {n d : Nat} {r : Option FieldType} {T : u_T} {N ci index : Nat}
theorem Hx.fst1 (h : Hx g (w1 ++ w2) A H0 H locs) : Hx g w1 A H0 H locs := by
  refine ⟨fun k q hk => h.1 k q ?_, ⟨fun i j x z hi hj hxy => h.2.1.1 i j x z ?_ ?_ hxy, fun k q hk => h.2.1.2 k q ?_⟩, h.2.2⟩
  · rw [List.getElem?_append_left (List.getElem?_eq_some_iff.mp hk).1]; exact hk
  · rw [List.getElem?_append_left (List.getElem?_eq_some_iff.mp hi).1]; exact hi
  · rw [List.getElem?_append_left (List.getElem?_eq_some_iff.mp hj).1]; exact hj
  · rw [List.getElem?_append_left (List.getElem?_eq_some_iff.mp hk).1]; exact hk
theorem app_r {w1 w2 : va_W} {k : Nat} {q : Nat × va_E} (hk : w2[k]? = some q) : (w1 ++ w2)[w1.length + k]? = some q := by
  rw [List.getElem?_append_right (by omega), Nat.add_sub_cancel_left]
  exact hk
theorem Hx.snd1 (h : Hx g (w1 ++ w2) A H0 H locs) : Hx g w2 A H0 H locs := by
  refine ⟨fun k q hk => h.1 _ q (app_r hk), ⟨fun i j x z hi hj hxy => ?_, fun k q hk => h.2.1.2 _ q (app_r hk)⟩, h.2.2⟩
  have := h.2.1.1 _ _ x z (app_r hi) (app_r hj) hxy
  omega
theorem Hx.after1 (h : Hx g (w1 ++ w2) A H0 H locs) (hk : ∀ q : Nat, q < H.size → ¬ va_A w1 H.size q → H1[q]? = H[q]?) (hS : va_S A H0 H1 locs1) : Hx g w2 A H0 H1 locs1 := by
  refine ⟨fun k q hq => ?_, h.snd1.2.1, hS, h.2.2.2⟩
  have h1 := h.1 _ q (app_r hq)
  refine h1.kept (hk q.1 h1.lt (fun z => ?_))
  rcases z with ⟨i, e1, hi⟩ | z
  · have hi' : (w1 ++ w2)[i]? = some (q.1, e1) := by rw [List.getElem?_append_left (List.getElem?_eq_some_iff.mp hi).1]; exact hi
    have h2 := h.2.1.1 _ _ _ _ hi' (app_r hq) rfl
    have h3 := (List.getElem?_eq_some_iff.mp hi).1
    omega
  · have := h1.lt
    omega
theorem KI.callA {post : Int32 → σ → Prop} {o q0 : Nat} {fs As : List Value} (C : Cx p s m c cc nL own args g) (h : Hx g (w1 ++ w2) A H0 H locs) (hM : KI l y b n r rm g w1 wd (.ref o :: As) post) (hG : OkV own index y b n r As.length) (hRm : rm.frames + 1 ≤ R.frames ∧ 8 + (n + 11) + rm.locals ≤ R.locals)
    (hrec : w1[q0]? = some (o, .inr (ci, fs))) (hcl : vwCl[ci]? = some (y.cls, T, N)) (hls : ls.size = nL) (hst : st = As.reverse ++ .ref o :: rest) (hrm : (rest.map fun v => v.category).sum ≤ 8) (hdg : decode cc pc = .ok (.invokevirtual index, 3)) (hf : cells + rm.cells ≤ R.cells ∧ slots + rm.slots ≤ R.slots)
    (kk : ∀ (v : Int32) (u : σ) (H1 : Heap) (locs1 : List Loc), post v u → Hx g w2 A H0 H1 locs1 → W p l e R s m args below meth c H1 locs1 (cells + rm.cells) (slots + rm.slots) Q (F0 m (pc + 3) ls (.int v :: rest))) :
    W p l e R s m args below meth c H locs cells slots Q (F0 m pc ls st) := by
  have hc := h.fst1
  have hFc := hc.free
  refine va_calli (va_runV (As := As) (rest := rest) C.1 (hM H.size) (cwV As.length C.1.2.2.2.2 hG.1 rfl rfl rfl ⟨rfl, hG.2⟩ hRm) ⟨gPre.blind, va_recv C.2 hc.1 hcl hrec, gPre.at C hc⟩ rfl rfl hls hst (lv_room hrm) hdg hf) h.2.2.1 (fun q _ hq => hFc q hq) hFc (fun v u t H1 locs1 ht hvm hp hB hz hk hS => ?_)
  exact kk v u H1 locs1 hp (h.after1 hk hS)
theorem KIx.callA {post : Int32 → σ → Prop} {o q0 : Nat} {fs As : List Value} (C : Cx p s m c cc nL own args g) (h : Hx g (w1 ++ w2) A s.heap H locs) (hE : sE ak sv A s s.heap) (hM : KIx ak sv l y b n r rm g w1 wd (.ref o :: As) post) (hG : OkV own index y b n r As.length) (hRm : rm.frames + 1 ≤ R.frames ∧ 8 + (n + 11) + rm.locals ≤ R.locals)
    (hrec : w1[q0]? = some (o, .inr (ci, fs))) (hcl : vwCl[ci]? = some (y.cls, T, N)) (hls : ls.size = nL) (hst : st = As.reverse ++ .ref o :: rest) (hrm : (rest.map fun v => v.category).sum ≤ 8) (hdg : decode cc pc = .ok (.invokevirtual index, 3)) (hf : cells + rm.cells ≤ R.cells ∧ slots + rm.slots ≤ R.slots)
    (kk : ∀ (v : Int32) (u : σ) (H1 : Heap) (locs1 : List Loc), post v u → Hx g w2 A s.heap H1 locs1 → W p l e R s m args below meth c H1 locs1 (cells + rm.cells) (slots + rm.slots) Q (F0 m (pc + 3) ls (.int v :: rest))) :
    W p l e R s m args below meth c H locs cells slots Q (F0 m pc ls st) := by
  have hc := h.fst1
  have hFc := hc.free
  refine va_calli (va_runV (As := As) (rest := rest) C.1 (hM H.size) (cwV As.length C.1.2.2.2.2 hG.1 rfl rfl rfl ⟨rfl, hG.2⟩ hRm) ⟨fun a U g' mk q => ⟨q.1, (gPre.blind (av := []) (g := g) (w := w1) (sz := H.size) #[] U g' mk ⟨rfl, q.2.1⟩).2, sE.blind q.2.2⟩, va_recv C.2 hc.1 hcl hrec, fun U hU hW => ⟨rfl, (gPre.at (av := []) C hc U hU hW).2, sE.to hE h.2.2.1.2.1 hW hU hFc⟩⟩ rfl rfl hls hst (lv_room hrm) hdg hf) h.2.2.1 (fun q _ hq => hFc q hq) hFc (fun v u t H1 locs1 ht hvm hp hB hz hk hS => ?_)
  exact kk v u H1 locs1 hp (h.after1 hk hS)
end ARows
theorem vp_dM : ∀ j, j < 190 → defaultValue (tyM j) = pVal (fun _ => 0) (fun _ => 0) 0 j := by decide +kernel
theorem dfM : ∀ j, j < 190 → defaultValue (tyM j) = vp_V (pObj (fun _ => 0) (fun _ => 0) 0) j := by
  intro j hj
  rw [vp_dM j hj]
  unfold vp_V
  rw [List.getD_eq_getElem?_getD, pObj_get hj]
  rfl
