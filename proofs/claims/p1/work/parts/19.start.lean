/-! THE CLAIM OUT OF ONE WALK OF THE LAW'S BODY. Your part is whole_start (and what it stands on); all else here is the same for every law, but numbers. -/
def R_law : String := "ExchangeHouseLaw"
def lw_P (b : Addr) (xs : List Int32) (args : Array Value) (s : State) : Prop := args = #[.ref b] ∧ s.IntsAt b xs ∧ xs.length ≤ 6 ∧ (Jvm.Cond.and given_1 narrow_1).before args s = true
def lw_Q (_ : Array Value) (s : State) (o : Outcome) (t : State) : Prop := o = .returned (some (.int 1)) ∧ Framed s o t [] 600000 7302250
def lw_Z (below : List Frame) (a : Array Value) (s : State) : State → Prop := fun t => ∃ o, t.status = .running ∧ Ended t below o ∧ lw_Q a s o t
/-- the law's own end, with 1 on the stack, nothing written that was there before, its room as the claim has it -/
theorem lw_ret {p : Program} {l : Launch} {e : Env} {s : State} {m : MethodId} {below : List Frame} {meth : Method} {c : Code} {b : Nat} (hx : p.tables.exec = Jvm.exec) (hb : c.code = code) (hr : meth.sig.returnType = ret) (hlocks : meth.locks = false) {pc : Nat} {H : Heap} {ls : Array Slot} (hdg : decode code pc = .ok (.ireturn, 1)) : W p l e room_1 s m #[Value.ref b] below meth c H [] 600000 7302250 (lw_Z below #[Value.ref b] s) (F0 m pc ls [.int 1]) := by
  intro T hT X
  obtain ⟨fs, hret, hrun, hended, hW, hframe⟩ := X.leave (v := some (.int 1)) (hlocks := hlocks) (fun h => by rw [hr] at h; cases h)
  have hmeth' : T.vm.method? m = some meth := X.method'
  refine ⟨T.setFrames fs, ?_, .returned (some (.int 1)), hrun, hended, rfl, ⟨_, rfl⟩, hW, hframe⟩
  jvm_step X.here [X.here.top, hx, hb, hdg, hmeth', hr, ret, narrow_b1]
  (try refine ⟨rfl, ?_⟩); (try refine ⟨rfl, ?_⟩)
  first | (intro acts; rw [hret _ acts rfl rfl rfl]) | rw [hret _ _ rfl rfl rfl]
  exact Steps.refl _
/-- what holds at the law's entry: the machine, the code, the tables' words (any of lw_tbl by 'hts w (by decide +kernel)'), the script of L ints xs at the cell b, what the Statement gives of the start (any of its parts by flat_of_before) -/
def lw_At (p : Program) (s : State) (m : MethodId) (meth : Method) (c : Code) (b L : Nat) (xs : Nat → Int32) : Prop :=
  p.tables.exec = Jvm.exec ∧ c.code = code ∧ meth.sig.returnType = ret ∧ c.maxLocals = 4 ∧ s.vm.findClass R_law = some m.cls ∧ (∀ w ∈ lw_tbl, w.before #[Value.ref b] s = true) ∧ va_X b L xs s s.heap ∧ b < s.heap.size ∧ meth.locks = false ∧ (Jvm.Cond.and given_1 narrow_1).before #[Value.ref b] s = true
def sBase : List Nat := [9, 68, 135, 205, 287]
def FL : List Cond := flatC (Jvm.Cond.and given_1 narrow_1)
abbrev sTm (i : Nat) : Term := Term.string (sOwn i) (sIx i)
set_option maxRecDepth 100000 in
theorem fl_1 : ∀ i, i < sN → FL[sBase.getD i 0]? = some (Cond.exactly (sTm i) "java/lang/String") ∧ FL[sBase.getD i 0 + 1]? = some (Cond.eq (.field (sTm i) "java/lang/String" "coder" "B") (.int 0)) ∧ FL[sBase.getD i 0 + 2]? = some (Cond.arrayOf (.field (sTm i) "java/lang/String" "value" "[B") .byte) ∧ FL[sBase.getD i 0 + 3]? = some (Cond.eq (.length (.field (sTm i) "java/lang/String" "value" "[B")) (.int (Int32.ofNat (sLen.getD i 0)))) := by decide +kernel
set_option maxRecDepth 100000 in
theorem fl_2 : ∀ i, i < sN → ∀ j, j < sLen.getD i 0 → FL[sBase.getD i 0 + 4 + j]? = some (Cond.eq (.elem (.field (sTm i) "java/lang/String" "value" "[B") (.int (Int32.ofNat j))) (.int ((sByt.getD i []).getD j 0))) := by decide +kernel
set_option maxRecDepth 100000 in
theorem fl_3 : ∀ i, i < sN → ∀ j, j < sN → i ≠ j → (Cond.not (Cond.eq (sTm i) (sTm j)) ∈ FL ∨ Cond.not (Cond.eq (sTm j) (sTm i)) ∈ FL) := by decide +kernel
set_option maxRecDepth 100000 in
theorem fl_4 : FL[4]? = some (Cond.eq (.static "java/lang/String" "COMPACT_STRINGS" "Z") (.int 1)) ∧ FL[5]? = some (Cond.isRef (.static "jdk/internal/util/Preconditions" "SIOOBE_FORMATTER" "Ljava/util/function/BiFunction;")) := by decide +kernel
theorem w_s0 : Cond.stringRef (sOwn 0) (sIx 0) (sTx 0) ∈ lw_tbl := List.mem_of_getElem? (i := 385) (by decide +kernel)
theorem w_s1 : Cond.stringRef (sOwn 1) (sIx 1) (sTx 1) ∈ lw_tbl := List.mem_of_getElem? (i := 386) (by decide +kernel)
theorem w_s2 : Cond.stringRef (sOwn 2) (sIx 2) (sTx 2) ∈ lw_tbl := List.mem_of_getElem? (i := 387) (by decide +kernel)
theorem w_s3 : Cond.stringRef (sOwn 3) (sIx 3) (sTx 3) ∈ lw_tbl := List.mem_of_getElem? (i := 388) (by decide +kernel)
theorem w_s4 : Cond.stringRef (sOwn 4) (sIx 4) (sTx 4) ∈ lw_tbl := List.mem_of_getElem? (i := 2149) (by decide +kernel)
theorem w_n0 : Cond.methodLinkNest RPa 13 yKd_init "ExchangeHouse" ∈ lw_tbl := List.mem_of_getElem? (i := 506) (by decide +kernel)
theorem w_n1 : Cond.methodLinkNest RJu 11 yKd_init "ExchangeHouse" ∈ lw_tbl := List.mem_of_getElem? (i := 650) (by decide +kernel)
theorem w_n2 : Cond.methodLinkNest RPl 74 yKd_init "ExchangeHouse" ∈ lw_tbl := List.mem_of_getElem? (i := 692) (by decide +kernel)
theorem w_n3 : Cond.methodLinkNest RRu 11 yNe_init "ExchangeHouse" ∈ lw_tbl := List.mem_of_getElem? (i := 1316) (by decide +kernel)
theorem w_ao : Cond.arrayOver (.object "ExchangeHouse$Kind") ∈ lw_tbl := List.mem_of_getElem? (i := 691) (by decide +kernel)
theorem w_l1 : Cond.laysStatic "java/lang/String" "COMPACT_STRINGS" "Z" ∈ lw_tbl := List.mem_of_getElem? (i := 402) (by decide +kernel)
theorem w_l2 : Cond.laysStatic "jdk/internal/util/Preconditions" "SIOOBE_FORMATTER" "Ljava/util/function/BiFunction;" ∈ lw_tbl := List.mem_of_getElem? (i := 418) (by decide +kernel)
theorem w_i1 : Cond.initialized "java/lang/String" ∈ lw_tbl := List.mem_of_getElem? (i := 303) (by decide +kernel)
theorem w_i2 : Cond.initialized "jdk/internal/util/Preconditions" ∈ lw_tbl := List.mem_of_getElem? (i := 305) (by decide +kernel)
theorem kiM : Cond.instantiable RM 190 ∈ tb := tm 2143 (by decide +kernel) rfl
theorem knM : Cond.initialized RM ∈ tb := tm 302 (by decide +kernel) rfl
theorem tb_lw {w : Cond} (h : w ∈ tb) : w ∈ lw_tbl := (List.mem_filter.mp h).1
theorem ar_prim {args : Array Value} {s : State} {ty : FieldType} (h : (Cond.arrayClass ty).before args s = true) : ∃ cA : ClassId, ArrOfT s cA ty ∧ s.vm.findClass ("[" ++ ty.toString) = some cA := by
  obtain ⟨cA, kA, comp, h1, h2, h3⟩ := Cond.arrayClass_spec h
  exact ⟨cA, fun n z => ⟨fun k h => (by cases h), kA, h2, comp, h3⟩, h1⟩
theorem ar_kind {args : Array Value} {s : State} (h : (Cond.arrayOver (.object "ExchangeHouse$Kind")).before args s = true) : ∃ cA : ClassId, ArrOfT s cA (.object "ExchangeHouse$Kind") ∧ va_RA s cA (.object "ExchangeHouse$Kind") := by
  obtain ⟨comp, cA, kA, h1, h2, h3, h4, h5⟩ := Cond.arrayOver_spec h
  exact ⟨cA, fun n z => ⟨fun k h => (by cases h), kA, h3, comp, h4⟩, ⟨kA, comp, h3, h4, h1, h5⟩⟩
set_option maxRecDepth 100000 in
theorem g_start {args : Array Value} {s : State} (hts : ∀ w ∈ lw_tbl, w.before args s = true) : ∃ g : GG, gK g s := by
  have ht : ∀ w ∈ tb, w.before args s = true := fun w h => hts w (tb_lw h)
  obtain ⟨c0, i0, h0⟩ := u_known (C := RM) (T := TM) (N := 190) (n := 190) ht mLays (ht _ kiM)
  obtain ⟨c1, i1, h1⟩ := u_known (C := RE) (T := TE) (N := 12) (n := 12) ht laysE (ht _ kiE)
  obtain ⟨c2, i2, h2⟩ := u_known (C := RTk) (T := TTk) (N := 12) (n := 12) ht laysTk (ht _ kiTk)
  obtain ⟨c3, i3, h3⟩ := u_known (C := RPa) (T := TPa) (N := 6) (n := 6) ht laysPa (ht _ kiPa)
  obtain ⟨c4, i4, h4⟩ := u_known (C := RJu) (T := TJu) (N := 10) (n := 10) ht laysJu (ht _ kiJu)
  obtain ⟨c5, i5, h5⟩ := u_known (C := RPl) (T := TPl) (N := 20) (n := 20) ht laysPl (ht _ kiPl)
  obtain ⟨c6, i6, h6⟩ := u_known (C := RKd) (T := TKd) (N := 17) (n := 17) ht laysKd (ht _ kiKd)
  obtain ⟨c7, i7, h7⟩ := u_known (C := RNa) (T := TNa) (N := 3) (n := 3) ht laysNa (ht _ kiNa)
  obtain ⟨c8, i8, h8⟩ := u_known (C := RLo) (T := TLo) (N := 14) (n := 14) ht laysLo (ht _ kiLo)
  obtain ⟨c9, i9, h9⟩ := u_known (C := RNe) (T := TNe) (N := 17) (n := 17) ht laysNe (ht _ kiNe)
  obtain ⟨c10, i10, h10⟩ := u_known (C := RRu) (T := TRu) (N := 16) (n := 16) ht laysRu (ht _ kiRu)
  obtain ⟨c11, i11, h11⟩ := u_known (C := RSe) (T := TSe) (N := 18) (n := 18) ht laysSe (ht _ kiSe)
  obtain ⟨c12, i12, h12⟩ := u_known (C := RSh) (T := TSh) (N := 19) (n := 19) ht laysSh (ht _ kiSh)
  obtain ⟨a0, b0, d0⟩ := ar_prim (ht _ ac_byte)
  obtain ⟨a1, b1, d1⟩ := ar_prim (ht _ ac_int)
  obtain ⟨a2, b2, d2⟩ := ar_prim (ht _ ac_long)
  obtain ⟨a3, b3, d3⟩ := ar_prim (ht _ ac_boolean)
  obtain ⟨a4, b4, d4⟩ := ar_kind (hts _ w_ao)
  refine ⟨(fun k => match k with | 0 => c0 | 1 => c1 | 2 => c2 | 3 => c3 | 4 => c4 | 5 => c5 | 6 => c6 | 7 => c7 | 8 => c8 | 9 => c9 | 10 => c10 | 11 => c11 | _ => c12, fun k => match k with | 0 => i0 | 1 => i1 | 2 => i2 | 3 => i3 | 4 => i4 | 5 => i5 | 6 => i6 | 7 => i7 | 8 => i8 | 9 => i9 | 10 => i10 | 11 => i11 | _ => i12, fun k => match k with | 0 => a0 | 1 => a1 | 2 => a2 | 3 => a3 | _ => a4), ?_, ?_⟩
  · intro k q hq
    match k, hq with
    | 0, hq => cases hq; exact h0
    | 1, hq => cases hq; exact h1
    | 2, hq => cases hq; exact h2
    | 3, hq => cases hq; exact h3
    | 4, hq => cases hq; exact h4
    | 5, hq => cases hq; exact h5
    | 6, hq => cases hq; exact h6
    | 7, hq => cases hq; exact h7
    | 8, hq => cases hq; exact h8
    | 9, hq => cases hq; exact h9
    | 10, hq => cases hq; exact h10
    | 11, hq => cases hq; exact h11
    | 12, hq => cases hq; exact h12
    | k + 13, hq => simp [vwCl] at hq
  · intro k q hq
    match k, hq with
    | 0, hq => cases hq; exact ⟨b0, d0⟩
    | 1, hq => cases hq; exact ⟨b1, d1⟩
    | 2, hq => cases hq; exact ⟨b2, d2⟩
    | 3, hq => cases hq; exact ⟨b3, d3⟩
    | 4, hq => cases hq; exact ⟨b4, d4⟩
    | k + 5, hq => simp [gT] at hq
set_option maxRecDepth 100000 in
theorem s_start {args : Array Value} {s : State} (hts : ∀ w ∈ lw_tbl, w.before args s = true) (hgv : (Jvm.Cond.and given_1 narrow_1).before args s = true) : ∃ ak sv : Nat → Nat, sE ak sv (fun q => s.heap.size ≤ q) s s.heap := by
  have hs : ∀ w ∈ FL, w.before args s = true := flat_of_before _ hgv
  have at_ : ∀ {k : Nat} {w : Cond}, FL[k]? = some w → w.before args s = true := fun h => hs _ (List.mem_of_getElem? h)
  have hA : ∀ a : Nat, a < s.heap.size → ¬ (fun q => s.heap.size ≤ q) a := fun a h => Nat.not_le.mpr h
  obtain ⟨ak, sv, hS, hev⟩ := vk_Sof (N := sN) (tm := sTm) (len := sLen) (byt := sByt) (A := fun q => s.heap.size ≤ q) (fun i hi => (s_ok i hi).2) (fun i hi => at_ (fl_1 i hi).1) (fun i hi => at_ (fl_1 i hi).2.1) (fun i hi => at_ (fl_1 i hi).2.2.1) (fun i hi => at_ (fl_1 i hi).2.2.2) (fun i hi j hj => at_ (fl_2 i hi j hj)) (fun i j hi hj hij => (fl_3 i hi j hj hij).imp (fun h => hs _ h) (fun h => hs _ h)) hA
  refine ⟨ak, sv, hS, va_Zof (hts _ w_l1) (hts _ w_i1) (va_eqt (at_ fl_4.1)) hA, va_Zqof (hts _ w_l2) (hts _ w_i2) (at_ fl_4.2) hA, fun i hi => ?_, fun q hq => ?_, va_AO.of (hts _ w_ao)⟩
  · refine vk_R.of (A := args) ?_ ?_
    · match i, hi with
      | 0, _ => exact hts _ w_s0
      | 1, _ => exact hts _ w_s1
      | 2, _ => exact hts _ w_s2
      | 3, _ => exact hts _ w_s3
      | 4, _ => exact hts _ w_s4
      | k + 5, hk => exact absurd (show k + 5 < 5 from hk) (by omega)
    · have := hev i hi
      exact this
  · simp only [nNest, List.mem_cons, List.not_mem_nil, or_false] at hq
    rcases hq with rfl | rfl | rfl | rfl
    · exact va_Nw.of rfl (hts _ w_n0)
    · exact va_Nw.of rfl (hts _ w_n1)
    · exact va_Nw.of rfl (hts _ w_n2)
    · exact va_Nw.of rfl (hts _ w_n3)
