set_option maxHeartbeats 40000000 in
set_option maxRecDepth 100000 in
/-- the law's turn, on a script of six ints -/
theorem law_turn {p : Program} {l : Launch} {e : Env} {s : State} {m : MethodId} {below : List Frame} {meth : Method} {c : Code} {b : Nat} {xs : Nat → Int32} {g : GG} {ak sv : Nat → Nat} {x t o : Nat} {ad : Nat → Nat} {H : Heap} {locs : List Loc} {ls : Array Slot} (C0 : lw_At p s m meth c b 6 xs) (C : Cx p s m c code 4 R_law #[.ref b] g) (hE : sE ak sv (fun q => s.heap.size ≤ q) s s.heap) (h : Hx g ([(x, .inr (1, [.ref t, .int 0, .null, .null, .null, .null, .null, .null, .null, .null, .int 0, .int (-1)])), (t, .inl (g.2.2 0, 0, .inl (fun _ => 0)))] ++ mW g o ad mNew) (fun q => s.heap.size ≤ q) s.heap H locs) (hl : lv_has ls 4 [(3, .int 0), (2, .ref o), (1, .ref x), (0, .ref b)])
    (fin : ∀ (H : Heap) (locs : List Loc) (k n : Nat) (ls : Array Slot), k ≤ 600000 → n ≤ 7302250 → va_S (fun q => s.heap.size ≤ q) s.heap H locs → lv_has ls 4 [(0, .ref b), (3, .int 0)] → W p l e room_1 s m #[.ref b] below meth c H locs k n (lw_Z below #[Value.ref b] s) (F0 m 970 ls [])) :
    W p l e room_1 s m #[.ref b] below meth c H locs 125 305060 (lw_Z below #[Value.ref b] s) (F0 m 27 ls []) := by
  obtain ⟨hx, hb, hr, hml, hown, hts, hX, hbl, hlocks, hgv⟩ := id C0
  have hbA : ¬ (fun q : Nat => s.heap.size ≤ q) b := Nat.not_le.mpr hbl
  refine lv_aload_n hx hb dL_law_27 rfl (lv_at hl 3 rfl) ?_
  refine lv_iload_n hx hb dL_law_28 rfl (lv_at hl 0 rfl) ?_
  refine va_sld hx hb hX hbl hbA h.2.2.1 (pk_in 0 6 (by decide) rfl) dL_law_29 ?_
  refine lv_bipush (v := 31) hx hb dL_law_30 (by decide) ?_
  refine lv_iand hx hb dL_law_32 ?_
  refine lv_topi (fun v0 ev0 => ?_)
  by_cases s33_0 : v0 = 0
  · subst s33_0
    refine lv_tableIn (off := 119) (tgt := 152) hx hb dL_law_33 (by decide) (by decide) (by decide) (by decide) ?_
    refine lv_aload_n hx hb dL_law_152 rfl (lv_at hl 2 rfl) ?_
    refine lv_aload_n hx hb dL_law_153 rfl (lv_at hl 3 rfl) ?_
    refine lv_iload_n hx hb dL_law_154 rfl (lv_at hl 0 rfl) ?_
    refine lv_iconst (v := 1) hx hb dL_law_155 (by decide) ?_
    refine lv_iadd hx hb dL_law_156 ?_
    refine lv_topi (fun n_1 en_1 => ?_)
    have en_1 : n_1 = 1 := en_1.trans (by decide)
    subst en_1
    refine va_sld hx hb hX hbl hbA h.2.2.1 (pk_in 1 6 (by decide) rfl) dL_law_157 ?_
    refine lv_aload_n hx hb dL_law_158 rfl (lv_at hl 3 rfl) ?_
    refine lv_iload_n hx hb dL_law_159 rfl (lv_at hl 0 rfl) ?_
    refine lv_iconst (v := 2) hx hb dL_law_160 (by decide) ?_
    refine lv_iadd hx hb dL_law_161 ?_
    refine lv_topi (fun n_2 en_2 => ?_)
    have en_2 : n_2 = 2 := en_2.trans (by decide)
    subst en_2
    refine va_sld hx hb hX hbl hbA h.2.2.1 (pk_in 2 6 (by decide) rfl) dL_law_162 ?_
    refine lv_aload_n hx hb dL_law_163 rfl (lv_at hl 3 rfl) ?_
    refine lv_iload_n hx hb dL_law_164 rfl (lv_at hl 0 rfl) ?_
    refine lv_iconst (v := 3) hx hb dL_law_165 (by decide) ?_
    refine lv_iadd hx hb dL_law_166 ?_
    refine lv_topi (fun n_3 en_3 => ?_)
    have en_3 : n_3 = 3 := en_3.trans (by decide)
    subst en_3
    refine va_sld hx hb hX hbl hbA h.2.2.1 (pk_in 3 6 (by decide) rfl) dL_law_167 ?_
    refine lv_aload_n hx hb dL_law_168 rfl (lv_at hl 3 rfl) ?_
    refine lv_iload_n hx hb dL_law_169 rfl (lv_at hl 0 rfl) ?_
    refine lv_iconst (v := 4) hx hb dL_law_170 (by decide) ?_
    refine lv_iadd hx hb dL_law_171 ?_
    refine lv_topi (fun n_4 en_4 => ?_)
    have en_4 : n_4 = 4 := en_4.trans (by decide)
    subst en_4
    refine va_sld hx hb hX hbl hbA h.2.2.1 (pk_in 4 6 (by decide) rfl) dL_law_172 ?_
    refine lv_aload_n hx hb dL_law_173 rfl (lv_at hl 3 rfl) ?_
    refine lv_iload_n hx hb dL_law_174 rfl (lv_at hl 0 rfl) ?_
    refine lv_iconst (v := 5) hx hb dL_law_175 (by decide) ?_
    refine lv_iadd hx hb dL_law_176 ?_
    refine lv_topi (fun n_5 en_5 => ?_)
    have en_5 : n_5 = 5 := en_5.trans (by decide)
    subst en_5
    refine va_sld hx hb hX hbl hbA h.2.2.1 (pk_in 5 6 (by decide) rfl) dL_law_177 ?_
    refine KI.callA (w1 := [(x, .inr (1, [.ref t, .int 0, .null, .null, .null, .null, .null, .null, .null, .null, .int 0, .int (-1)])), (t, .inl (g.2.2 0, 0, .inl (fun _ => 0)))]) (w2 := mW g o ad mNew) (As := [.int (xs (1 : Int32).toNatClampNeg), .int (xs (2 : Int32).toNatClampNeg), .int (xs (3 : Int32).toNatClampNeg), .int (xs (4 : Int32).toNatClampNeg), .int (xs (5 : Int32).toNatClampNeg)]) (q0 := 0) (ci := 1) C h (e_feed l g x t (xs (1 : Int32).toNatClampNeg) (xs (2 : Int32).toNatClampNeg) (xs (3 : Int32).toNatClampNeg) (xs (4 : Int32).toNatClampNeg) (xs (5 : Int32).toNatClampNeg)) vlaw_13 ⟨by decide, by decide⟩ rfl rfl hl.1 rfl (Nat.le_of_ble_eq_true rfl) dL_law_178 ⟨by decide, by decide⟩ (fun r1 u1 H locs hp1 h => ?_)
    refine lv_aload_n hx hb dL_law_181 rfl (lv_at hl 1 rfl) ?_
    refine lv_aload_n hx hb dL_law_182 rfl (lv_at hl 3 rfl) ?_
    refine lv_iload_n hx hb dL_law_183 rfl (lv_at hl 0 rfl) ?_
    refine lv_iconst (v := 1) hx hb dL_law_184 (by decide) ?_
    refine lv_iadd hx hb dL_law_185 ?_
    refine lv_topi (fun n_6 en_6 => ?_)
    have en_6 : n_6 = 1 := en_6.trans (by decide)
    subst en_6
    refine va_sld hx hb hX hbl hbA h.2.2.1 (pk_in 1 6 (by decide) rfl) dL_law_186 ?_
    refine lv_aload_n hx hb dL_law_187 rfl (lv_at hl 3 rfl) ?_
    refine lv_iload_n hx hb dL_law_188 rfl (lv_at hl 0 rfl) ?_
    refine lv_iconst (v := 2) hx hb dL_law_189 (by decide) ?_
    refine lv_iadd hx hb dL_law_190 ?_
    refine lv_topi (fun n_7 en_7 => ?_)
    have en_7 : n_7 = 2 := en_7.trans (by decide)
    subst en_7
    refine va_sld hx hb hX hbl hbA h.2.2.1 (pk_in 2 6 (by decide) rfl) dL_law_191 ?_
    refine lv_aload_n hx hb dL_law_192 rfl (lv_at hl 3 rfl) ?_
    refine lv_iload_n hx hb dL_law_193 rfl (lv_at hl 0 rfl) ?_
    refine lv_iconst (v := 3) hx hb dL_law_194 (by decide) ?_
    refine lv_iadd hx hb dL_law_195 ?_
    refine lv_topi (fun n_8 en_8 => ?_)
    have en_8 : n_8 = 3 := en_8.trans (by decide)
    subst en_8
    refine va_sld hx hb hX hbl hbA h.2.2.1 (pk_in 3 6 (by decide) rfl) dL_law_196 ?_
    refine lv_aload_n hx hb dL_law_197 rfl (lv_at hl 3 rfl) ?_
    refine lv_iload_n hx hb dL_law_198 rfl (lv_at hl 0 rfl) ?_
    refine lv_iconst (v := 4) hx hb dL_law_199 (by decide) ?_
    refine lv_iadd hx hb dL_law_200 ?_
    refine lv_topi (fun n_9 en_9 => ?_)
    have en_9 : n_9 = 4 := en_9.trans (by decide)
    subst en_9
    refine va_sld hx hb hX hbl hbA h.2.2.1 (pk_in 4 6 (by decide) rfl) dL_law_201 ?_
    refine lv_aload_n hx hb dL_law_202 rfl (lv_at hl 3 rfl) ?_
    refine lv_iload_n hx hb dL_law_203 rfl (lv_at hl 0 rfl) ?_
    refine lv_iconst (v := 5) hx hb dL_law_204 (by decide) ?_
    refine lv_iadd hx hb dL_law_205 ?_
    refine lv_topi (fun n_10 en_10 => ?_)
    have en_10 : n_10 = 5 := en_10.trans (by decide)
    subst en_10
    refine va_sld hx hb hX hbl hbA h.2.2.1 (pk_in 5 6 (by decide) rfl) dL_law_206 ?_
    refine KI.callV (As := [.int (xs (1 : Int32).toNatClampNeg), .int (xs (2 : Int32).toNatClampNeg), .int (xs (3 : Int32).toNatClampNeg), .int (xs (4 : Int32).toNatClampNeg), .int (xs (5 : Int32).toNatClampNeg)]) (q0 := 0) (ci := 0) C h (t_feed l g o ad mNew (xs (1 : Int32).toNatClampNeg) (xs (2 : Int32).toNatClampNeg) (xs (3 : Int32).toNatClampNeg) (xs (4 : Int32).toNatClampNeg) (xs (5 : Int32).toNatClampNeg) rfl) vlaw_17 ⟨by decide, by decide⟩ rfl rfl hl.1 rfl (Nat.le_of_ble_eq_true rfl) dL_law_207 ⟨by decide, by decide⟩ (fun r2 u2 H locs hp2 h => ?_)
    refine lv_icmp_eq (tgt := 970) hx hb dL_law_210 (by decide) (fun _ => ?_) (fun z => absurd (hp1.trans hp2.symm) z)
    exact fin _ _ _ _ ls (by decide) (by decide) h.2.2.1 (lv_sub hl [3, 0] rfl)
  by_cases s33_1 : v0 = 1
  · subst s33_1
    refine lv_tableIn (off := 182) (tgt := 215) hx hb dL_law_33 (by decide) (by decide) (by decide) (by decide) ?_
    refine lv_aload_n hx hb dL_law_215 rfl (lv_at hl 2 rfl) ?_
    refine lv_aload_n hx hb dL_law_216 rfl (lv_at hl 3 rfl) ?_
    refine lv_iload_n hx hb dL_law_217 rfl (lv_at hl 0 rfl) ?_
    refine lv_iconst (v := 1) hx hb dL_law_218 (by decide) ?_
    refine lv_iadd hx hb dL_law_219 ?_
    refine lv_topi (fun n_11 en_11 => ?_)
    have en_11 : n_11 = 1 := en_11.trans (by decide)
    subst en_11
    refine va_sld hx hb hX hbl hbA h.2.2.1 (pk_in 1 6 (by decide) rfl) dL_law_220 ?_
    refine KIx.callA (w1 := [(x, .inr (1, [.ref t, .int 0, .null, .null, .null, .null, .null, .null, .null, .null, .int 0, .int (-1)])), (t, .inl (g.2.2 0, 0, .inl (fun _ => 0)))]) (w2 := mW g o ad mNew) (As := [.int (xs (1 : Int32).toNatClampNeg)]) (q0 := 0) (ci := 1) C h hE (e_load l g x t (xs (1 : Int32).toNatClampNeg)) vlaw_18 ⟨by decide, by decide⟩ rfl rfl hl.1 rfl (Nat.le_of_ble_eq_true rfl) dL_law_221 ⟨by decide, by decide⟩ (fun r1 u1 H locs hp1 h => ?_)
    refine lv_aload_n hx hb dL_law_224 rfl (lv_at hl 1 rfl) ?_
    refine lv_aload_n hx hb dL_law_225 rfl (lv_at hl 3 rfl) ?_
    refine lv_iload_n hx hb dL_law_226 rfl (lv_at hl 0 rfl) ?_
    refine lv_iconst (v := 1) hx hb dL_law_227 (by decide) ?_
    refine lv_iadd hx hb dL_law_228 ?_
    refine lv_topi (fun n_12 en_12 => ?_)
    have en_12 : n_12 = 1 := en_12.trans (by decide)
    subst en_12
    refine va_sld hx hb hX hbl hbA h.2.2.1 (pk_in 1 6 (by decide) rfl) dL_law_229 ?_
    refine KI.callV (As := [.int (xs (1 : Int32).toNatClampNeg)]) (q0 := 0) (ci := 0) C h (t_load0 l g o ad mNew (xs (1 : Int32).toNatClampNeg) rfl rfl) vlaw_22 ⟨by decide, by decide⟩ rfl rfl hl.1 rfl (Nat.le_of_ble_eq_true rfl) dL_law_230 ⟨by decide, by decide⟩ (fun r2 u2 H locs hp2 h => ?_)
    refine lv_icmp_eq (tgt := 970) hx hb dL_law_233 (by decide) (fun _ => ?_) (fun z => absurd (hp1.trans hp2.symm) z)
    exact fin _ _ _ _ ls (by decide) (by decide) h.2.2.1 (lv_sub hl [3, 0] rfl)
  by_cases s33_2 : v0 = 2
  · subst s33_2
    refine lv_tableIn (off := 205) (tgt := 238) hx hb dL_law_33 (by decide) (by decide) (by decide) (by decide) ?_
    refine lv_aload_n hx hb dL_law_238 rfl (lv_at hl 2 rfl) ?_
    refine KI.callA (w1 := [(x, .inr (1, [.ref t, .int 0, .null, .null, .null, .null, .null, .null, .null, .null, .int 0, .int (-1)])), (t, .inl (g.2.2 0, 0, .inl (fun _ => 0)))]) (w2 := mW g o ad mNew) (As := []) (q0 := 0) (ci := 1) C h (e_place l g x t ) vlaw_23 ⟨by decide, by decide⟩ rfl rfl hl.1 rfl (Nat.le_of_ble_eq_true rfl) dL_law_239 ⟨by decide, by decide⟩ (fun r1 u1 H locs hp1 h => ?_)
    refine lv_aload_n hx hb dL_law_242 rfl (lv_at hl 1 rfl) ?_
    refine KI.callV (As := []) (q0 := 0) (ci := 0) C h (t_place l g o ad mNew  ) vlaw_27 ⟨by decide, by decide⟩ rfl rfl hl.1 rfl (Nat.le_of_ble_eq_true rfl) dL_law_243 ⟨by decide, by decide⟩ (fun r2 u2 H locs hp2 h => ?_)
    refine lv_icmp_eq (tgt := 970) hx hb dL_law_246 (by decide) (fun _ => ?_) (fun z => absurd (hp1.trans (Eq.symm (show r2 = (-1 : Int32) from hp2.2))) z)
    exact fin _ _ _ _ ls (by decide) (by decide) h.2.2.1 (lv_sub hl [3, 0] rfl)
  by_cases s33_3 : v0 = 3
  · subst s33_3
    refine lv_tableIn (off := 218) (tgt := 251) hx hb dL_law_33 (by decide) (by decide) (by decide) (by decide) ?_
    refine lv_aload_n hx hb dL_law_251 rfl (lv_at hl 2 rfl) ?_
    refine lv_aload_n hx hb dL_law_252 rfl (lv_at hl 3 rfl) ?_
    refine lv_iload_n hx hb dL_law_253 rfl (lv_at hl 0 rfl) ?_
    refine lv_iconst (v := 1) hx hb dL_law_254 (by decide) ?_
    refine lv_iadd hx hb dL_law_255 ?_
    refine lv_topi (fun n_13 en_13 => ?_)
    have en_13 : n_13 = 1 := en_13.trans (by decide)
    subst en_13
    refine va_sld hx hb hX hbl hbA h.2.2.1 (pk_in 1 6 (by decide) rfl) dL_law_256 ?_
    refine lv_aload_n hx hb dL_law_257 rfl (lv_at hl 3 rfl) ?_
    refine lv_iload_n hx hb dL_law_258 rfl (lv_at hl 0 rfl) ?_
    refine lv_iconst (v := 2) hx hb dL_law_259 (by decide) ?_
    refine lv_iadd hx hb dL_law_260 ?_
    refine lv_topi (fun n_14 en_14 => ?_)
    have en_14 : n_14 = 2 := en_14.trans (by decide)
    subst en_14
    refine va_sld hx hb hX hbl hbA h.2.2.1 (pk_in 2 6 (by decide) rfl) dL_law_261 ?_
    refine KI.callA (w1 := [(x, .inr (1, [.ref t, .int 0, .null, .null, .null, .null, .null, .null, .null, .null, .int 0, .int (-1)])), (t, .inl (g.2.2 0, 0, .inl (fun _ => 0)))]) (w2 := mW g o ad mNew) (As := [.int (xs (1 : Int32).toNatClampNeg), .int (xs (2 : Int32).toNatClampNeg)]) (q0 := 0) (ci := 1) C h (e_warning l g x t (xs (1 : Int32).toNatClampNeg) (xs (2 : Int32).toNatClampNeg)) vlaw_28 ⟨by decide, by decide⟩ rfl rfl hl.1 rfl (Nat.le_of_ble_eq_true rfl) dL_law_262 ⟨by decide, by decide⟩ (fun r1 u1 H locs hp1 h => ?_)
    refine lv_aload_n hx hb dL_law_265 rfl (lv_at hl 1 rfl) ?_
    refine lv_aload_n hx hb dL_law_266 rfl (lv_at hl 3 rfl) ?_
    refine lv_iload_n hx hb dL_law_267 rfl (lv_at hl 0 rfl) ?_
    refine lv_iconst (v := 1) hx hb dL_law_268 (by decide) ?_
    refine lv_iadd hx hb dL_law_269 ?_
    refine lv_topi (fun n_15 en_15 => ?_)
    have en_15 : n_15 = 1 := en_15.trans (by decide)
    subst en_15
    refine va_sld hx hb hX hbl hbA h.2.2.1 (pk_in 1 6 (by decide) rfl) dL_law_270 ?_
    refine lv_aload_n hx hb dL_law_271 rfl (lv_at hl 3 rfl) ?_
    refine lv_iload_n hx hb dL_law_272 rfl (lv_at hl 0 rfl) ?_
    refine lv_iconst (v := 2) hx hb dL_law_273 (by decide) ?_
    refine lv_iadd hx hb dL_law_274 ?_
    refine lv_topi (fun n_16 en_16 => ?_)
    have en_16 : n_16 = 2 := en_16.trans (by decide)
    subst en_16
    refine va_sld hx hb hX hbl hbA h.2.2.1 (pk_in 2 6 (by decide) rfl) dL_law_275 ?_
    refine KI.callV (As := [.int (xs (1 : Int32).toNatClampNeg), .int (xs (2 : Int32).toNatClampNeg)]) (q0 := 0) (ci := 0) C h (t_warning l g o ad mNew (xs (1 : Int32).toNatClampNeg) (xs (2 : Int32).toNatClampNeg) rfl) vlaw_32 ⟨by decide, by decide⟩ rfl rfl hl.1 rfl (Nat.le_of_ble_eq_true rfl) dL_law_276 ⟨by decide, by decide⟩ (fun r2 u2 H locs hp2 h => ?_)
    refine lv_icmp_eq (tgt := 970) hx hb dL_law_279 (by decide) (fun _ => ?_) (fun z => absurd (hp1.trans hp2.2.symm) z)
    exact fin _ _ _ _ ls (by decide) (by decide) h.2.2.1 (lv_sub hl [3, 0] rfl)
  by_cases s33_4 : v0 = 4
  · subst s33_4
    refine lv_tableIn (off := 251) (tgt := 284) hx hb dL_law_33 (by decide) (by decide) (by decide) (by decide) ?_
    refine lv_aload_n hx hb dL_law_284 rfl (lv_at hl 2 rfl) ?_
    refine lv_aload_n hx hb dL_law_285 rfl (lv_at hl 3 rfl) ?_
    refine lv_iload_n hx hb dL_law_286 rfl (lv_at hl 0 rfl) ?_
    refine lv_iconst (v := 1) hx hb dL_law_287 (by decide) ?_
    refine lv_iadd hx hb dL_law_288 ?_
    refine lv_topi (fun n_17 en_17 => ?_)
    have en_17 : n_17 = 1 := en_17.trans (by decide)
    subst en_17
    refine va_sld hx hb hX hbl hbA h.2.2.1 (pk_in 1 6 (by decide) rfl) dL_law_289 ?_
    refine KI.callA (w1 := [(x, .inr (1, [.ref t, .int 0, .null, .null, .null, .null, .null, .null, .null, .null, .int 0, .int (-1)])), (t, .inl (g.2.2 0, 0, .inl (fun _ => 0)))]) (w2 := mW g o ad mNew) (As := [.int (xs (1 : Int32).toNatClampNeg)]) (q0 := 0) (ci := 1) C h (e_begin l g x t (xs (1 : Int32).toNatClampNeg)) vlaw_33 ⟨by decide, by decide⟩ rfl rfl hl.1 rfl (Nat.le_of_ble_eq_true rfl) dL_law_290 ⟨by decide, by decide⟩ (fun r1 u1 H locs hp1 h => ?_)
    refine lv_aload_n hx hb dL_law_293 rfl (lv_at hl 1 rfl) ?_
    refine lv_aload_n hx hb dL_law_294 rfl (lv_at hl 3 rfl) ?_
    refine lv_iload_n hx hb dL_law_295 rfl (lv_at hl 0 rfl) ?_
    refine lv_iconst (v := 1) hx hb dL_law_296 (by decide) ?_
    refine lv_iadd hx hb dL_law_297 ?_
    refine lv_topi (fun n_18 en_18 => ?_)
    have en_18 : n_18 = 1 := en_18.trans (by decide)
    subst en_18
    refine va_sld hx hb hX hbl hbA h.2.2.1 (pk_in 1 6 (by decide) rfl) dL_law_298 ?_
    refine KI.callV (As := [.int (xs (1 : Int32).toNatClampNeg)]) (q0 := 0) (ci := 0) C h (t_begin l g o ad mNew (xs (1 : Int32).toNatClampNeg) rfl) vlaw_36 ⟨by decide, by decide⟩ rfl rfl hl.1 rfl (Nat.le_of_ble_eq_true rfl) dL_law_299 ⟨by decide, by decide⟩ (fun r2 u2 H locs hp2 h => ?_)
    refine lv_icmp_eq (tgt := 970) hx hb dL_law_302 (by decide) (fun _ => ?_) (fun z => absurd (hp1.trans hp2.2.symm) z)
    exact fin _ _ _ _ ls (by decide) (by decide) h.2.2.1 (lv_sub hl [3, 0] rfl)
  by_cases s33_5 : v0 = 5
  · subst s33_5
    refine lv_tableIn (off := 274) (tgt := 307) hx hb dL_law_33 (by decide) (by decide) (by decide) (by decide) ?_
    refine lv_aload_n hx hb dL_law_307 rfl (lv_at hl 2 rfl) ?_
    refine lv_aload_n hx hb dL_law_308 rfl (lv_at hl 3 rfl) ?_
    refine lv_iload_n hx hb dL_law_309 rfl (lv_at hl 0 rfl) ?_
    refine lv_iconst (v := 1) hx hb dL_law_310 (by decide) ?_
    refine lv_iadd hx hb dL_law_311 ?_
    refine lv_topi (fun n_19 en_19 => ?_)
    have en_19 : n_19 = 1 := en_19.trans (by decide)
    subst en_19
    refine va_sld hx hb hX hbl hbA h.2.2.1 (pk_in 1 6 (by decide) rfl) dL_law_312 ?_
    refine KI.callA (w1 := [(x, .inr (1, [.ref t, .int 0, .null, .null, .null, .null, .null, .null, .null, .null, .int 0, .int (-1)])), (t, .inl (g.2.2 0, 0, .inl (fun _ => 0)))]) (w2 := mW g o ad mNew) (As := [.int (xs (1 : Int32).toNatClampNeg)]) (q0 := 0) (ci := 1) C h (e_run l g x t (xs (1 : Int32).toNatClampNeg)) vlaw_37 ⟨by decide, by decide⟩ rfl rfl hl.1 rfl (Nat.le_of_ble_eq_true rfl) dL_law_313 ⟨by decide, by decide⟩ (fun r1 u1 H locs hp1 h => ?_)
    refine lv_aload_n hx hb dL_law_316 rfl (lv_at hl 1 rfl) ?_
    refine lv_aload_n hx hb dL_law_317 rfl (lv_at hl 3 rfl) ?_
    refine lv_iload_n hx hb dL_law_318 rfl (lv_at hl 0 rfl) ?_
    refine lv_iconst (v := 1) hx hb dL_law_319 (by decide) ?_
    refine lv_iadd hx hb dL_law_320 ?_
    refine lv_topi (fun n_20 en_20 => ?_)
    have en_20 : n_20 = 1 := en_20.trans (by decide)
    subst en_20
    refine va_sld hx hb hX hbl hbA h.2.2.1 (pk_in 1 6 (by decide) rfl) dL_law_321 ?_
    refine KI.callV (As := [.int (xs (1 : Int32).toNatClampNeg)]) (q0 := 0) (ci := 0) C h (t_run l g o ad mNew (xs (1 : Int32).toNatClampNeg) rfl) vlaw_40 ⟨by decide, by decide⟩ rfl rfl hl.1 rfl (Nat.le_of_ble_eq_true rfl) dL_law_322 ⟨by decide, by decide⟩ (fun r2 u2 H locs hp2 h => ?_)
    refine lv_icmp_eq (tgt := 970) hx hb dL_law_325 (by decide) (fun _ => ?_) (fun z => absurd (hp1.trans hp2.2.symm) z)
    exact fin _ _ _ _ ls (by decide) (by decide) h.2.2.1 (lv_sub hl [3, 0] rfl)
  by_cases s33_6 : v0 = 6
  · subst s33_6
    refine lv_tableIn (off := 297) (tgt := 330) hx hb dL_law_33 (by decide) (by decide) (by decide) (by decide) ?_
    refine lv_aload_n hx hb dL_law_330 rfl (lv_at hl 2 rfl) ?_
    refine lv_aload_n hx hb dL_law_331 rfl (lv_at hl 3 rfl) ?_
    refine lv_iload_n hx hb dL_law_332 rfl (lv_at hl 0 rfl) ?_
    refine lv_iconst (v := 1) hx hb dL_law_333 (by decide) ?_
    refine lv_iadd hx hb dL_law_334 ?_
    refine lv_topi (fun n_21 en_21 => ?_)
    have en_21 : n_21 = 1 := en_21.trans (by decide)
    subst en_21
    refine va_sld hx hb hX hbl hbA h.2.2.1 (pk_in 1 6 (by decide) rfl) dL_law_335 ?_
    refine KI.callA (w1 := [(x, .inr (1, [.ref t, .int 0, .null, .null, .null, .null, .null, .null, .null, .null, .int 0, .int (-1)])), (t, .inl (g.2.2 0, 0, .inl (fun _ => 0)))]) (w2 := mW g o ad mNew) (As := [.int (xs (1 : Int32).toNatClampNeg)]) (q0 := 0) (ci := 1) C h (e_go l g x t (xs (1 : Int32).toNatClampNeg)) vlaw_41 ⟨by decide, by decide⟩ rfl rfl hl.1 rfl (Nat.le_of_ble_eq_true rfl) dL_law_336 ⟨by decide, by decide⟩ (fun r1 u1 H locs hp1 h => ?_)
    refine lv_aload_n hx hb dL_law_339 rfl (lv_at hl 1 rfl) ?_
    refine lv_aload_n hx hb dL_law_340 rfl (lv_at hl 3 rfl) ?_
    refine lv_iload_n hx hb dL_law_341 rfl (lv_at hl 0 rfl) ?_
    refine lv_iconst (v := 1) hx hb dL_law_342 (by decide) ?_
    refine lv_iadd hx hb dL_law_343 ?_
    refine lv_topi (fun n_22 en_22 => ?_)
    have en_22 : n_22 = 1 := en_22.trans (by decide)
    subst en_22
    refine va_sld hx hb hX hbl hbA h.2.2.1 (pk_in 1 6 (by decide) rfl) dL_law_344 ?_
    refine KI.callV (As := [.int (xs (1 : Int32).toNatClampNeg)]) (q0 := 0) (ci := 0) C h (t_go l g o ad mNew (xs (1 : Int32).toNatClampNeg) rfl) vlaw_44 ⟨by decide, by decide⟩ rfl rfl hl.1 rfl (Nat.le_of_ble_eq_true rfl) dL_law_345 ⟨by decide, by decide⟩ (fun r2 u2 H locs hp2 h => ?_)
    refine lv_icmp_eq (tgt := 970) hx hb dL_law_348 (by decide) (fun _ => ?_) (fun z => absurd (hp1.trans hp2.2.symm) z)
    exact fin _ _ _ _ ls (by decide) (by decide) h.2.2.1 (lv_sub hl [3, 0] rfl)
  by_cases s33_7 : v0 = 7
  · subst s33_7
    refine lv_tableIn (off := 320) (tgt := 353) hx hb dL_law_33 (by decide) (by decide) (by decide) (by decide) ?_
    refine lv_aload_n hx hb dL_law_353 rfl (lv_at hl 2 rfl) ?_
    refine lv_aload_n hx hb dL_law_354 rfl (lv_at hl 3 rfl) ?_
    refine lv_iload_n hx hb dL_law_355 rfl (lv_at hl 0 rfl) ?_
    refine lv_iconst (v := 1) hx hb dL_law_356 (by decide) ?_
    refine lv_iadd hx hb dL_law_357 ?_
    refine lv_topi (fun n_23 en_23 => ?_)
    have en_23 : n_23 = 1 := en_23.trans (by decide)
    subst en_23
    refine va_sld hx hb hX hbl hbA h.2.2.1 (pk_in 1 6 (by decide) rfl) dL_law_358 ?_
    refine lv_aload_n hx hb dL_law_359 rfl (lv_at hl 3 rfl) ?_
    refine lv_iload_n hx hb dL_law_360 rfl (lv_at hl 0 rfl) ?_
    refine lv_iconst (v := 2) hx hb dL_law_361 (by decide) ?_
    refine lv_iadd hx hb dL_law_362 ?_
    refine lv_topi (fun n_24 en_24 => ?_)
    have en_24 : n_24 = 2 := en_24.trans (by decide)
    subst en_24
    refine va_sld hx hb hX hbl hbA h.2.2.1 (pk_in 2 6 (by decide) rfl) dL_law_363 ?_
    refine KI.callA (w1 := [(x, .inr (1, [.ref t, .int 0, .null, .null, .null, .null, .null, .null, .null, .null, .int 0, .int (-1)])), (t, .inl (g.2.2 0, 0, .inl (fun _ => 0)))]) (w2 := mW g o ad mNew) (As := [.int (xs (1 : Int32).toNatClampNeg), .int (xs (2 : Int32).toNatClampNeg)]) (q0 := 0) (ci := 1) C h (e_none l g x t (xs (1 : Int32).toNatClampNeg) (xs (2 : Int32).toNatClampNeg)) vlaw_45 ⟨by decide, by decide⟩ rfl rfl hl.1 rfl (Nat.le_of_ble_eq_true rfl) dL_law_364 ⟨by decide, by decide⟩ (fun r1 u1 H locs hp1 h => ?_)
    refine lv_aload_n hx hb dL_law_367 rfl (lv_at hl 1 rfl) ?_
    refine lv_aload_n hx hb dL_law_368 rfl (lv_at hl 3 rfl) ?_
    refine lv_iload_n hx hb dL_law_369 rfl (lv_at hl 0 rfl) ?_
    refine lv_iconst (v := 1) hx hb dL_law_370 (by decide) ?_
    refine lv_iadd hx hb dL_law_371 ?_
    refine lv_topi (fun n_25 en_25 => ?_)
    have en_25 : n_25 = 1 := en_25.trans (by decide)
    subst en_25
    refine va_sld hx hb hX hbl hbA h.2.2.1 (pk_in 1 6 (by decide) rfl) dL_law_372 ?_
    refine lv_aload_n hx hb dL_law_373 rfl (lv_at hl 3 rfl) ?_
    refine lv_iload_n hx hb dL_law_374 rfl (lv_at hl 0 rfl) ?_
    refine lv_iconst (v := 2) hx hb dL_law_375 (by decide) ?_
    refine lv_iadd hx hb dL_law_376 ?_
    refine lv_topi (fun n_26 en_26 => ?_)
    have en_26 : n_26 = 2 := en_26.trans (by decide)
    subst en_26
    refine va_sld hx hb hX hbl hbA h.2.2.1 (pk_in 2 6 (by decide) rfl) dL_law_377 ?_
    refine KI.callV (As := [.int (xs (1 : Int32).toNatClampNeg), .int (xs (2 : Int32).toNatClampNeg)]) (q0 := 0) (ci := 0) C h (t_none l g o ad mNew (xs (1 : Int32).toNatClampNeg) (xs (2 : Int32).toNatClampNeg) rfl) vlaw_48 ⟨by decide, by decide⟩ rfl rfl hl.1 rfl (Nat.le_of_ble_eq_true rfl) dL_law_378 ⟨by decide, by decide⟩ (fun r2 u2 H locs hp2 h => ?_)
    refine lv_icmp_eq (tgt := 970) hx hb dL_law_381 (by decide) (fun _ => ?_) (fun z => absurd (hp1.trans hp2.2.symm) z)
    exact fin _ _ _ _ ls (by decide) (by decide) h.2.2.1 (lv_sub hl [3, 0] rfl)
  by_cases s33_8 : v0 = 8
  · subst s33_8
    refine lv_tableIn (off := 353) (tgt := 386) hx hb dL_law_33 (by decide) (by decide) (by decide) (by decide) ?_
    refine lv_aload_n hx hb dL_law_386 rfl (lv_at hl 2 rfl) ?_
    refine lv_aload_n hx hb dL_law_387 rfl (lv_at hl 3 rfl) ?_
    refine lv_iload_n hx hb dL_law_388 rfl (lv_at hl 0 rfl) ?_
    refine lv_iconst (v := 1) hx hb dL_law_389 (by decide) ?_
    refine lv_iadd hx hb dL_law_390 ?_
    refine lv_topi (fun n_27 en_27 => ?_)
    have en_27 : n_27 = 1 := en_27.trans (by decide)
    subst en_27
    refine va_sld hx hb hX hbl hbA h.2.2.1 (pk_in 1 6 (by decide) rfl) dL_law_391 ?_
    refine KI.callA (w1 := [(x, .inr (1, [.ref t, .int 0, .null, .null, .null, .null, .null, .null, .null, .null, .int 0, .int (-1)])), (t, .inl (g.2.2 0, 0, .inl (fun _ => 0)))]) (w2 := mW g o ad mNew) (As := [.int (xs (1 : Int32).toNatClampNeg)]) (q0 := 0) (ci := 1) C h (e_wait l g x t (xs (1 : Int32).toNatClampNeg)) vlaw_49 ⟨by decide, by decide⟩ rfl rfl hl.1 rfl (Nat.le_of_ble_eq_true rfl) dL_law_392 ⟨by decide, by decide⟩ (fun r1 u1 H locs hp1 h => ?_)
    refine lv_aload_n hx hb dL_law_395 rfl (lv_at hl 1 rfl) ?_
    refine lv_aload_n hx hb dL_law_396 rfl (lv_at hl 3 rfl) ?_
    refine lv_iload_n hx hb dL_law_397 rfl (lv_at hl 0 rfl) ?_
    refine lv_iconst (v := 1) hx hb dL_law_398 (by decide) ?_
    refine lv_iadd hx hb dL_law_399 ?_
    refine lv_topi (fun n_28 en_28 => ?_)
    have en_28 : n_28 = 1 := en_28.trans (by decide)
    subst en_28
    refine va_sld hx hb hX hbl hbA h.2.2.1 (pk_in 1 6 (by decide) rfl) dL_law_400 ?_
    refine KI.callV (As := [.int (xs (1 : Int32).toNatClampNeg)]) (q0 := 0) (ci := 0) C h (t_wait l g o ad mNew (xs (1 : Int32).toNatClampNeg) rfl) vlaw_52 ⟨by decide, by decide⟩ rfl rfl hl.1 rfl (Nat.le_of_ble_eq_true rfl) dL_law_401 ⟨by decide, by decide⟩ (fun r2 u2 H locs hp2 h => ?_)
    refine lv_icmp_eq (tgt := 970) hx hb dL_law_404 (by decide) (fun _ => ?_) (fun z => absurd (hp1.trans hp2.2.symm) z)
    exact fin _ _ _ _ ls (by decide) (by decide) h.2.2.1 (lv_sub hl [3, 0] rfl)
  by_cases s33_9 : v0 = 9
  · subst s33_9
    refine lv_tableIn (off := 376) (tgt := 409) hx hb dL_law_33 (by decide) (by decide) (by decide) (by decide) ?_
    refine lv_aload_n hx hb dL_law_409 rfl (lv_at hl 2 rfl) ?_
    refine lv_aload_n hx hb dL_law_410 rfl (lv_at hl 3 rfl) ?_
    refine lv_iload_n hx hb dL_law_411 rfl (lv_at hl 0 rfl) ?_
    refine lv_iconst (v := 1) hx hb dL_law_412 (by decide) ?_
    refine lv_iadd hx hb dL_law_413 ?_
    refine lv_topi (fun n_29 en_29 => ?_)
    have en_29 : n_29 = 1 := en_29.trans (by decide)
    subst en_29
    refine va_sld hx hb hX hbl hbA h.2.2.1 (pk_in 1 6 (by decide) rfl) dL_law_414 ?_
    refine lv_aload_n hx hb dL_law_415 rfl (lv_at hl 3 rfl) ?_
    refine lv_iload_n hx hb dL_law_416 rfl (lv_at hl 0 rfl) ?_
    refine lv_iconst (v := 2) hx hb dL_law_417 (by decide) ?_
    refine lv_iadd hx hb dL_law_418 ?_
    refine lv_topi (fun n_30 en_30 => ?_)
    have en_30 : n_30 = 2 := en_30.trans (by decide)
    subst en_30
    refine va_sld hx hb hX hbl hbA h.2.2.1 (pk_in 2 6 (by decide) rfl) dL_law_419 ?_
    refine lv_aload_n hx hb dL_law_420 rfl (lv_at hl 3 rfl) ?_
    refine lv_iload_n hx hb dL_law_421 rfl (lv_at hl 0 rfl) ?_
    refine lv_iconst (v := 3) hx hb dL_law_422 (by decide) ?_
    refine lv_iadd hx hb dL_law_423 ?_
    refine lv_topi (fun n_31 en_31 => ?_)
    have en_31 : n_31 = 3 := en_31.trans (by decide)
    subst en_31
    refine va_sld hx hb hX hbl hbA h.2.2.1 (pk_in 3 6 (by decide) rfl) dL_law_424 ?_
    refine lv_aload_n hx hb dL_law_425 rfl (lv_at hl 3 rfl) ?_
    refine lv_iload_n hx hb dL_law_426 rfl (lv_at hl 0 rfl) ?_
    refine lv_iconst (v := 4) hx hb dL_law_427 (by decide) ?_
    refine lv_iadd hx hb dL_law_428 ?_
    refine lv_topi (fun n_32 en_32 => ?_)
    have en_32 : n_32 = 4 := en_32.trans (by decide)
    subst en_32
    refine va_sld hx hb hX hbl hbA h.2.2.1 (pk_in 4 6 (by decide) rfl) dL_law_429 ?_
    refine lv_aload_n hx hb dL_law_430 rfl (lv_at hl 3 rfl) ?_
    refine lv_iload_n hx hb dL_law_431 rfl (lv_at hl 0 rfl) ?_
    refine lv_iconst (v := 5) hx hb dL_law_432 (by decide) ?_
    refine lv_iadd hx hb dL_law_433 ?_
    refine lv_topi (fun n_33 en_33 => ?_)
    have en_33 : n_33 = 5 := en_33.trans (by decide)
    subst en_33
    refine va_sld hx hb hX hbl hbA h.2.2.1 (pk_in 5 6 (by decide) rfl) dL_law_434 ?_
    refine KI.callA (w1 := [(x, .inr (1, [.ref t, .int 0, .null, .null, .null, .null, .null, .null, .null, .null, .int 0, .int (-1)])), (t, .inl (g.2.2 0, 0, .inl (fun _ => 0)))]) (w2 := mW g o ad mNew) (As := [.int (xs (1 : Int32).toNatClampNeg), .int (xs (2 : Int32).toNatClampNeg), .int (xs (3 : Int32).toNatClampNeg), .int (xs (4 : Int32).toNatClampNeg), .int (xs (5 : Int32).toNatClampNeg)]) (q0 := 0) (ci := 1) C h (e_put l g x t (xs (1 : Int32).toNatClampNeg) (xs (2 : Int32).toNatClampNeg) (xs (3 : Int32).toNatClampNeg) (xs (4 : Int32).toNatClampNeg) (xs (5 : Int32).toNatClampNeg)) vlaw_53 ⟨by decide, by decide⟩ rfl rfl hl.1 rfl (Nat.le_of_ble_eq_true rfl) dL_law_435 ⟨by decide, by decide⟩ (fun r1 u1 H locs hp1 h => ?_)
    refine lv_aload_n hx hb dL_law_438 rfl (lv_at hl 1 rfl) ?_
    refine lv_aload_n hx hb dL_law_439 rfl (lv_at hl 3 rfl) ?_
    refine lv_iload_n hx hb dL_law_440 rfl (lv_at hl 0 rfl) ?_
    refine lv_iconst (v := 1) hx hb dL_law_441 (by decide) ?_
    refine lv_iadd hx hb dL_law_442 ?_
    refine lv_topi (fun n_34 en_34 => ?_)
    have en_34 : n_34 = 1 := en_34.trans (by decide)
    subst en_34
    refine va_sld hx hb hX hbl hbA h.2.2.1 (pk_in 1 6 (by decide) rfl) dL_law_443 ?_
    refine lv_aload_n hx hb dL_law_444 rfl (lv_at hl 3 rfl) ?_
    refine lv_iload_n hx hb dL_law_445 rfl (lv_at hl 0 rfl) ?_
    refine lv_iconst (v := 2) hx hb dL_law_446 (by decide) ?_
    refine lv_iadd hx hb dL_law_447 ?_
    refine lv_topi (fun n_35 en_35 => ?_)
    have en_35 : n_35 = 2 := en_35.trans (by decide)
    subst en_35
    refine va_sld hx hb hX hbl hbA h.2.2.1 (pk_in 2 6 (by decide) rfl) dL_law_448 ?_
    refine lv_aload_n hx hb dL_law_449 rfl (lv_at hl 3 rfl) ?_
    refine lv_iload_n hx hb dL_law_450 rfl (lv_at hl 0 rfl) ?_
    refine lv_iconst (v := 3) hx hb dL_law_451 (by decide) ?_
    refine lv_iadd hx hb dL_law_452 ?_
    refine lv_topi (fun n_36 en_36 => ?_)
    have en_36 : n_36 = 3 := en_36.trans (by decide)
    subst en_36
    refine va_sld hx hb hX hbl hbA h.2.2.1 (pk_in 3 6 (by decide) rfl) dL_law_453 ?_
    refine lv_aload_n hx hb dL_law_454 rfl (lv_at hl 3 rfl) ?_
    refine lv_iload_n hx hb dL_law_455 rfl (lv_at hl 0 rfl) ?_
    refine lv_iconst (v := 4) hx hb dL_law_456 (by decide) ?_
    refine lv_iadd hx hb dL_law_457 ?_
    refine lv_topi (fun n_37 en_37 => ?_)
    have en_37 : n_37 = 4 := en_37.trans (by decide)
    subst en_37
    refine va_sld hx hb hX hbl hbA h.2.2.1 (pk_in 4 6 (by decide) rfl) dL_law_458 ?_
    refine lv_aload_n hx hb dL_law_459 rfl (lv_at hl 3 rfl) ?_
    refine lv_iload_n hx hb dL_law_460 rfl (lv_at hl 0 rfl) ?_
    refine lv_iconst (v := 5) hx hb dL_law_461 (by decide) ?_
    refine lv_iadd hx hb dL_law_462 ?_
    refine lv_topi (fun n_38 en_38 => ?_)
    have en_38 : n_38 = 5 := en_38.trans (by decide)
    subst en_38
    refine va_sld hx hb hX hbl hbA h.2.2.1 (pk_in 5 6 (by decide) rfl) dL_law_463 ?_
    refine KI.callV (As := [.int (xs (1 : Int32).toNatClampNeg), .int (xs (2 : Int32).toNatClampNeg), .int (xs (3 : Int32).toNatClampNeg), .int (xs (4 : Int32).toNatClampNeg), .int (xs (5 : Int32).toNatClampNeg)]) (q0 := 0) (ci := 0) C h (t_put_ l g o ad mNew (xs (1 : Int32).toNatClampNeg) (xs (2 : Int32).toNatClampNeg) (xs (3 : Int32).toNatClampNeg) (xs (4 : Int32).toNatClampNeg) (xs (5 : Int32).toNatClampNeg) rfl) vlaw_57 ⟨by decide, by decide⟩ rfl rfl hl.1 rfl (Nat.le_of_ble_eq_true rfl) dL_law_464 ⟨by decide, by decide⟩ (fun r2 u2 H locs hp2 h => ?_)
    refine lv_icmp_eq (tgt := 970) hx hb dL_law_467 (by decide) (fun _ => ?_) (fun z => absurd (hp1.trans hp2.2.symm) z)
    exact fin _ _ _ _ ls (by decide) (by decide) h.2.2.1 (lv_sub hl [3, 0] rfl)
  by_cases s33_10 : v0 = 10
  · subst s33_10
    refine lv_tableIn (off := 439) (tgt := 472) hx hb dL_law_33 (by decide) (by decide) (by decide) (by decide) ?_
    refine lv_aload_n hx hb dL_law_472 rfl (lv_at hl 2 rfl) ?_
    refine lv_aload_n hx hb dL_law_473 rfl (lv_at hl 3 rfl) ?_
    refine lv_iload_n hx hb dL_law_474 rfl (lv_at hl 0 rfl) ?_
    refine lv_iconst (v := 1) hx hb dL_law_475 (by decide) ?_
    refine lv_iadd hx hb dL_law_476 ?_
    refine lv_topi (fun n_39 en_39 => ?_)
    have en_39 : n_39 = 1 := en_39.trans (by decide)
    subst en_39
    refine va_sld hx hb hX hbl hbA h.2.2.1 (pk_in 1 6 (by decide) rfl) dL_law_477 ?_
    refine KI.callA (w1 := [(x, .inr (1, [.ref t, .int 0, .null, .null, .null, .null, .null, .null, .null, .null, .int 0, .int (-1)])), (t, .inl (g.2.2 0, 0, .inl (fun _ => 0)))]) (w2 := mW g o ad mNew) (As := [.int (xs (1 : Int32).toNatClampNeg)]) (q0 := 0) (ci := 1) C h (e_alive l g x t (xs (1 : Int32).toNatClampNeg)) vlaw_58 ⟨by decide, by decide⟩ rfl rfl hl.1 rfl (Nat.le_of_ble_eq_true rfl) dL_law_478 ⟨by decide, by decide⟩ (fun r1 u1 H locs hp1 h => ?_)
    refine lv_aload_n hx hb dL_law_481 rfl (lv_at hl 1 rfl) ?_
    refine lv_aload_n hx hb dL_law_482 rfl (lv_at hl 3 rfl) ?_
    refine lv_iload_n hx hb dL_law_483 rfl (lv_at hl 0 rfl) ?_
    refine lv_iconst (v := 1) hx hb dL_law_484 (by decide) ?_
    refine lv_iadd hx hb dL_law_485 ?_
    refine lv_topi (fun n_40 en_40 => ?_)
    have en_40 : n_40 = 1 := en_40.trans (by decide)
    subst en_40
    refine va_sld hx hb hX hbl hbA h.2.2.1 (pk_in 1 6 (by decide) rfl) dL_law_486 ?_
    refine KI.callV (As := [.int (xs (1 : Int32).toNatClampNeg)]) (q0 := 0) (ci := 0) C h (t_alive l g o ad mNew (xs (1 : Int32).toNatClampNeg) rfl) vlaw_61 ⟨by decide, by decide⟩ rfl rfl hl.1 rfl (Nat.le_of_ble_eq_true rfl) dL_law_487 ⟨by decide, by decide⟩ (fun r2 u2 H locs hp2 h => ?_)
    refine lv_icmp_eq (tgt := 970) hx hb dL_law_490 (by decide) (fun _ => ?_) (fun z => absurd (hp1.trans hp2.2.symm) z)
    exact fin _ _ _ _ ls (by decide) (by decide) h.2.2.1 (lv_sub hl [3, 0] rfl)
  by_cases s33_11 : v0 = 11
  · subst s33_11
    refine lv_tableIn (off := 462) (tgt := 495) hx hb dL_law_33 (by decide) (by decide) (by decide) (by decide) ?_
    refine lv_aload_n hx hb dL_law_495 rfl (lv_at hl 2 rfl) ?_
    refine lv_aload_n hx hb dL_law_496 rfl (lv_at hl 3 rfl) ?_
    refine lv_iload_n hx hb dL_law_497 rfl (lv_at hl 0 rfl) ?_
    refine lv_iconst (v := 1) hx hb dL_law_498 (by decide) ?_
    refine lv_iadd hx hb dL_law_499 ?_
    refine lv_topi (fun n_41 en_41 => ?_)
    have en_41 : n_41 = 1 := en_41.trans (by decide)
    subst en_41
    refine va_sld hx hb hX hbl hbA h.2.2.1 (pk_in 1 6 (by decide) rfl) dL_law_500 ?_
    refine lv_aload_n hx hb dL_law_501 rfl (lv_at hl 3 rfl) ?_
    refine lv_iload_n hx hb dL_law_502 rfl (lv_at hl 0 rfl) ?_
    refine lv_iconst (v := 2) hx hb dL_law_503 (by decide) ?_
    refine lv_iadd hx hb dL_law_504 ?_
    refine lv_topi (fun n_42 en_42 => ?_)
    have en_42 : n_42 = 2 := en_42.trans (by decide)
    subst en_42
    refine va_sld hx hb hX hbl hbA h.2.2.1 (pk_in 2 6 (by decide) rfl) dL_law_505 ?_
    refine KI.callA (w1 := [(x, .inr (1, [.ref t, .int 0, .null, .null, .null, .null, .null, .null, .null, .null, .int 0, .int (-1)])), (t, .inl (g.2.2 0, 0, .inl (fun _ => 0)))]) (w2 := mW g o ad mNew) (As := [.int (xs (1 : Int32).toNatClampNeg), .int (xs (2 : Int32).toNatClampNeg)]) (q0 := 0) (ci := 1) C h (e_instance l g x t (xs (1 : Int32).toNatClampNeg) (xs (2 : Int32).toNatClampNeg)) vlaw_62 ⟨by decide, by decide⟩ rfl rfl hl.1 rfl (Nat.le_of_ble_eq_true rfl) dL_law_506 ⟨by decide, by decide⟩ (fun r1 u1 H locs hp1 h => ?_)
    refine lv_aload_n hx hb dL_law_509 rfl (lv_at hl 1 rfl) ?_
    refine lv_aload_n hx hb dL_law_510 rfl (lv_at hl 3 rfl) ?_
    refine lv_iload_n hx hb dL_law_511 rfl (lv_at hl 0 rfl) ?_
    refine lv_iconst (v := 1) hx hb dL_law_512 (by decide) ?_
    refine lv_iadd hx hb dL_law_513 ?_
    refine lv_topi (fun n_43 en_43 => ?_)
    have en_43 : n_43 = 1 := en_43.trans (by decide)
    subst en_43
    refine va_sld hx hb hX hbl hbA h.2.2.1 (pk_in 1 6 (by decide) rfl) dL_law_514 ?_
    refine lv_aload_n hx hb dL_law_515 rfl (lv_at hl 3 rfl) ?_
    refine lv_iload_n hx hb dL_law_516 rfl (lv_at hl 0 rfl) ?_
    refine lv_iconst (v := 2) hx hb dL_law_517 (by decide) ?_
    refine lv_iadd hx hb dL_law_518 ?_
    refine lv_topi (fun n_44 en_44 => ?_)
    have en_44 : n_44 = 2 := en_44.trans (by decide)
    subst en_44
    refine va_sld hx hb hX hbl hbA h.2.2.1 (pk_in 2 6 (by decide) rfl) dL_law_519 ?_
    refine KI.callV (As := [.int (xs (1 : Int32).toNatClampNeg), .int (xs (2 : Int32).toNatClampNeg)]) (q0 := 0) (ci := 0) C h (t_instance l g o ad mNew (xs (1 : Int32).toNatClampNeg) (xs (2 : Int32).toNatClampNeg) rfl) vlaw_65 ⟨by decide, by decide⟩ rfl rfl hl.1 rfl (Nat.le_of_ble_eq_true rfl) dL_law_520 ⟨by decide, by decide⟩ (fun r2 u2 H locs hp2 h => ?_)
    refine lv_icmp_eq (tgt := 970) hx hb dL_law_523 (by decide) (fun _ => ?_) (fun z => absurd (hp1.trans hp2.2.symm) z)
    exact fin _ _ _ _ ls (by decide) (by decide) h.2.2.1 (lv_sub hl [3, 0] rfl)
  by_cases s33_12 : v0 = 12
  · subst s33_12
    refine lv_tableIn (off := 495) (tgt := 528) hx hb dL_law_33 (by decide) (by decide) (by decide) (by decide) ?_
    refine lv_aload_n hx hb dL_law_528 rfl (lv_at hl 2 rfl) ?_
    refine lv_aload_n hx hb dL_law_529 rfl (lv_at hl 3 rfl) ?_
    refine lv_iload_n hx hb dL_law_530 rfl (lv_at hl 0 rfl) ?_
    refine lv_iconst (v := 1) hx hb dL_law_531 (by decide) ?_
    refine lv_iadd hx hb dL_law_532 ?_
    refine lv_topi (fun n_45 en_45 => ?_)
    have en_45 : n_45 = 1 := en_45.trans (by decide)
    subst en_45
    refine va_sld hx hb hX hbl hbA h.2.2.1 (pk_in 1 6 (by decide) rfl) dL_law_533 ?_
    refine lv_aload_n hx hb dL_law_534 rfl (lv_at hl 3 rfl) ?_
    refine lv_iload_n hx hb dL_law_535 rfl (lv_at hl 0 rfl) ?_
    refine lv_iconst (v := 2) hx hb dL_law_536 (by decide) ?_
    refine lv_iadd hx hb dL_law_537 ?_
    refine lv_topi (fun n_46 en_46 => ?_)
    have en_46 : n_46 = 2 := en_46.trans (by decide)
    subst en_46
    refine va_sld hx hb hX hbl hbA h.2.2.1 (pk_in 2 6 (by decide) rfl) dL_law_538 ?_
    refine KI.callA (w1 := [(x, .inr (1, [.ref t, .int 0, .null, .null, .null, .null, .null, .null, .null, .null, .int 0, .int (-1)])), (t, .inl (g.2.2 0, 0, .inl (fun _ => 0)))]) (w2 := mW g o ad mNew) (As := [.int (xs (1 : Int32).toNatClampNeg), .int (xs (2 : Int32).toNatClampNeg)]) (q0 := 0) (ci := 1) C h (e_cell l g x t (xs (1 : Int32).toNatClampNeg) (xs (2 : Int32).toNatClampNeg)) vlaw_66 ⟨by decide, by decide⟩ rfl rfl hl.1 rfl (Nat.le_of_ble_eq_true rfl) dL_law_539 ⟨by decide, by decide⟩ (fun r1 u1 H locs hp1 h => ?_)
    refine lv_aload_n hx hb dL_law_542 rfl (lv_at hl 1 rfl) ?_
    refine lv_aload_n hx hb dL_law_543 rfl (lv_at hl 3 rfl) ?_
    refine lv_iload_n hx hb dL_law_544 rfl (lv_at hl 0 rfl) ?_
    refine lv_iconst (v := 1) hx hb dL_law_545 (by decide) ?_
    refine lv_iadd hx hb dL_law_546 ?_
    refine lv_topi (fun n_47 en_47 => ?_)
    have en_47 : n_47 = 1 := en_47.trans (by decide)
    subst en_47
    refine va_sld hx hb hX hbl hbA h.2.2.1 (pk_in 1 6 (by decide) rfl) dL_law_547 ?_
    refine lv_aload_n hx hb dL_law_548 rfl (lv_at hl 3 rfl) ?_
    refine lv_iload_n hx hb dL_law_549 rfl (lv_at hl 0 rfl) ?_
    refine lv_iconst (v := 2) hx hb dL_law_550 (by decide) ?_
    refine lv_iadd hx hb dL_law_551 ?_
    refine lv_topi (fun n_48 en_48 => ?_)
    have en_48 : n_48 = 2 := en_48.trans (by decide)
    subst en_48
    refine va_sld hx hb hX hbl hbA h.2.2.1 (pk_in 2 6 (by decide) rfl) dL_law_552 ?_
    refine KI.callV (As := [.int (xs (1 : Int32).toNatClampNeg), .int (xs (2 : Int32).toNatClampNeg)]) (q0 := 0) (ci := 0) C h (t_cell l g o ad mNew (xs (1 : Int32).toNatClampNeg) (xs (2 : Int32).toNatClampNeg) rfl) vlaw_69 ⟨by decide, by decide⟩ rfl rfl hl.1 rfl (Nat.le_of_ble_eq_true rfl) dL_law_553 ⟨by decide, by decide⟩ (fun r2 u2 H locs hp2 h => ?_)
    refine lv_icmp_eq (tgt := 970) hx hb dL_law_556 (by decide) (fun _ => ?_) (fun z => absurd (hp1.trans hp2.2.symm) z)
    exact fin _ _ _ _ ls (by decide) (by decide) h.2.2.1 (lv_sub hl [3, 0] rfl)
  by_cases s33_13 : v0 = 13
  · subst s33_13
    refine lv_tableIn (off := 528) (tgt := 561) hx hb dL_law_33 (by decide) (by decide) (by decide) (by decide) ?_
    refine lv_aload_n hx hb dL_law_561 rfl (lv_at hl 2 rfl) ?_
    refine lv_aload_n hx hb dL_law_562 rfl (lv_at hl 3 rfl) ?_
    refine lv_iload_n hx hb dL_law_563 rfl (lv_at hl 0 rfl) ?_
    refine lv_iconst (v := 1) hx hb dL_law_564 (by decide) ?_
    refine lv_iadd hx hb dL_law_565 ?_
    refine lv_topi (fun n_49 en_49 => ?_)
    have en_49 : n_49 = 1 := en_49.trans (by decide)
    subst en_49
    refine va_sld hx hb hX hbl hbA h.2.2.1 (pk_in 1 6 (by decide) rfl) dL_law_566 ?_
    refine lv_aload_n hx hb dL_law_567 rfl (lv_at hl 3 rfl) ?_
    refine lv_iload_n hx hb dL_law_568 rfl (lv_at hl 0 rfl) ?_
    refine lv_iconst (v := 2) hx hb dL_law_569 (by decide) ?_
    refine lv_iadd hx hb dL_law_570 ?_
    refine lv_topi (fun n_50 en_50 => ?_)
    have en_50 : n_50 = 2 := en_50.trans (by decide)
    subst en_50
    refine va_sld hx hb hX hbl hbA h.2.2.1 (pk_in 2 6 (by decide) rfl) dL_law_571 ?_
    refine KI.callA (w1 := [(x, .inr (1, [.ref t, .int 0, .null, .null, .null, .null, .null, .null, .null, .null, .int 0, .int (-1)])), (t, .inl (g.2.2 0, 0, .inl (fun _ => 0)))]) (w2 := mW g o ad mNew) (As := [.int (xs (1 : Int32).toNatClampNeg), .int (xs (2 : Int32).toNatClampNeg)]) (q0 := 0) (ci := 1) C h (e_timer l g x t (xs (1 : Int32).toNatClampNeg) (xs (2 : Int32).toNatClampNeg)) vlaw_70 ⟨by decide, by decide⟩ rfl rfl hl.1 rfl (Nat.le_of_ble_eq_true rfl) dL_law_572 ⟨by decide, by decide⟩ (fun r1 u1 H locs hp1 h => ?_)
    refine lv_aload_n hx hb dL_law_575 rfl (lv_at hl 1 rfl) ?_
    refine lv_aload_n hx hb dL_law_576 rfl (lv_at hl 3 rfl) ?_
    refine lv_iload_n hx hb dL_law_577 rfl (lv_at hl 0 rfl) ?_
    refine lv_iconst (v := 1) hx hb dL_law_578 (by decide) ?_
    refine lv_iadd hx hb dL_law_579 ?_
    refine lv_topi (fun n_51 en_51 => ?_)
    have en_51 : n_51 = 1 := en_51.trans (by decide)
    subst en_51
    refine va_sld hx hb hX hbl hbA h.2.2.1 (pk_in 1 6 (by decide) rfl) dL_law_580 ?_
    refine lv_aload_n hx hb dL_law_581 rfl (lv_at hl 3 rfl) ?_
    refine lv_iload_n hx hb dL_law_582 rfl (lv_at hl 0 rfl) ?_
    refine lv_iconst (v := 2) hx hb dL_law_583 (by decide) ?_
    refine lv_iadd hx hb dL_law_584 ?_
    refine lv_topi (fun n_52 en_52 => ?_)
    have en_52 : n_52 = 2 := en_52.trans (by decide)
    subst en_52
    refine va_sld hx hb hX hbl hbA h.2.2.1 (pk_in 2 6 (by decide) rfl) dL_law_585 ?_
    refine KI.callV (As := [.int (xs (1 : Int32).toNatClampNeg), .int (xs (2 : Int32).toNatClampNeg)]) (q0 := 0) (ci := 0) C h (t_timer l g o ad mNew (xs (1 : Int32).toNatClampNeg) (xs (2 : Int32).toNatClampNeg) rfl) vlaw_73 ⟨by decide, by decide⟩ rfl rfl hl.1 rfl (Nat.le_of_ble_eq_true rfl) dL_law_586 ⟨by decide, by decide⟩ (fun r2 u2 H locs hp2 h => ?_)
    refine lv_icmp_eq (tgt := 970) hx hb dL_law_589 (by decide) (fun _ => ?_) (fun z => absurd (hp1.trans hp2.2.symm) z)
    exact fin _ _ _ _ ls (by decide) (by decide) h.2.2.1 (lv_sub hl [3, 0] rfl)
  by_cases s33_14 : v0 = 14
  · subst s33_14
    refine lv_tableIn (off := 561) (tgt := 594) hx hb dL_law_33 (by decide) (by decide) (by decide) (by decide) ?_
    refine lv_aload_n hx hb dL_law_594 rfl (lv_at hl 2 rfl) ?_
    refine lv_aload_n hx hb dL_law_595 rfl (lv_at hl 3 rfl) ?_
    refine lv_iload_n hx hb dL_law_596 rfl (lv_at hl 0 rfl) ?_
    refine lv_iconst (v := 1) hx hb dL_law_597 (by decide) ?_
    refine lv_iadd hx hb dL_law_598 ?_
    refine lv_topi (fun n_53 en_53 => ?_)
    have en_53 : n_53 = 1 := en_53.trans (by decide)
    subst en_53
    refine va_sld hx hb hX hbl hbA h.2.2.1 (pk_in 1 6 (by decide) rfl) dL_law_599 ?_
    refine lv_aload_n hx hb dL_law_600 rfl (lv_at hl 3 rfl) ?_
    refine lv_iload_n hx hb dL_law_601 rfl (lv_at hl 0 rfl) ?_
    refine lv_iconst (v := 2) hx hb dL_law_602 (by decide) ?_
    refine lv_iadd hx hb dL_law_603 ?_
    refine lv_topi (fun n_54 en_54 => ?_)
    have en_54 : n_54 = 2 := en_54.trans (by decide)
    subst en_54
    refine va_sld hx hb hX hbl hbA h.2.2.1 (pk_in 2 6 (by decide) rfl) dL_law_604 ?_
    refine lv_aload_n hx hb dL_law_605 rfl (lv_at hl 3 rfl) ?_
    refine lv_iload_n hx hb dL_law_606 rfl (lv_at hl 0 rfl) ?_
    refine lv_iconst (v := 3) hx hb dL_law_607 (by decide) ?_
    refine lv_iadd hx hb dL_law_608 ?_
    refine lv_topi (fun n_55 en_55 => ?_)
    have en_55 : n_55 = 3 := en_55.trans (by decide)
    subst en_55
    refine va_sld hx hb hX hbl hbA h.2.2.1 (pk_in 3 6 (by decide) rfl) dL_law_609 ?_
    refine KI.callA (w1 := [(x, .inr (1, [.ref t, .int 0, .null, .null, .null, .null, .null, .null, .null, .null, .int 0, .int (-1)])), (t, .inl (g.2.2 0, 0, .inl (fun _ => 0)))]) (w2 := mW g o ad mNew) (As := [.int (xs (1 : Int32).toNatClampNeg), .int (xs (2 : Int32).toNatClampNeg), .int (xs (3 : Int32).toNatClampNeg)]) (q0 := 0) (ci := 1) C h (e_queued l g x t (xs (1 : Int32).toNatClampNeg) (xs (2 : Int32).toNatClampNeg) (xs (3 : Int32).toNatClampNeg)) vlaw_74 ⟨by decide, by decide⟩ rfl rfl hl.1 rfl (Nat.le_of_ble_eq_true rfl) dL_law_610 ⟨by decide, by decide⟩ (fun r1 u1 H locs hp1 h => ?_)
    refine lv_aload_n hx hb dL_law_613 rfl (lv_at hl 1 rfl) ?_
    refine lv_aload_n hx hb dL_law_614 rfl (lv_at hl 3 rfl) ?_
    refine lv_iload_n hx hb dL_law_615 rfl (lv_at hl 0 rfl) ?_
    refine lv_iconst (v := 1) hx hb dL_law_616 (by decide) ?_
    refine lv_iadd hx hb dL_law_617 ?_
    refine lv_topi (fun n_56 en_56 => ?_)
    have en_56 : n_56 = 1 := en_56.trans (by decide)
    subst en_56
    refine va_sld hx hb hX hbl hbA h.2.2.1 (pk_in 1 6 (by decide) rfl) dL_law_618 ?_
    refine lv_aload_n hx hb dL_law_619 rfl (lv_at hl 3 rfl) ?_
    refine lv_iload_n hx hb dL_law_620 rfl (lv_at hl 0 rfl) ?_
    refine lv_iconst (v := 2) hx hb dL_law_621 (by decide) ?_
    refine lv_iadd hx hb dL_law_622 ?_
    refine lv_topi (fun n_57 en_57 => ?_)
    have en_57 : n_57 = 2 := en_57.trans (by decide)
    subst en_57
    refine va_sld hx hb hX hbl hbA h.2.2.1 (pk_in 2 6 (by decide) rfl) dL_law_623 ?_
    refine lv_aload_n hx hb dL_law_624 rfl (lv_at hl 3 rfl) ?_
    refine lv_iload_n hx hb dL_law_625 rfl (lv_at hl 0 rfl) ?_
    refine lv_iconst (v := 3) hx hb dL_law_626 (by decide) ?_
    refine lv_iadd hx hb dL_law_627 ?_
    refine lv_topi (fun n_58 en_58 => ?_)
    have en_58 : n_58 = 3 := en_58.trans (by decide)
    subst en_58
    refine va_sld hx hb hX hbl hbA h.2.2.1 (pk_in 3 6 (by decide) rfl) dL_law_628 ?_
    refine KI.callV (As := [.int (xs (1 : Int32).toNatClampNeg), .int (xs (2 : Int32).toNatClampNeg), .int (xs (3 : Int32).toNatClampNeg)]) (q0 := 0) (ci := 0) C h (t_queued l g o ad mNew (xs (1 : Int32).toNatClampNeg) (xs (2 : Int32).toNatClampNeg) (xs (3 : Int32).toNatClampNeg) rfl) vlaw_78 ⟨by decide, by decide⟩ rfl rfl hl.1 rfl (Nat.le_of_ble_eq_true rfl) dL_law_629 ⟨by decide, by decide⟩ (fun r2 u2 H locs hp2 h => ?_)
    refine lv_icmp_eq (tgt := 970) hx hb dL_law_632 (by decide) (fun _ => ?_) (fun z => absurd (hp1.trans hp2.2.symm) z)
    exact fin _ _ _ _ ls (by decide) (by decide) h.2.2.1 (lv_sub hl [3, 0] rfl)
  by_cases s33_15 : v0 = 15
  · subst s33_15
    refine lv_tableIn (off := 604) (tgt := 637) hx hb dL_law_33 (by decide) (by decide) (by decide) (by decide) ?_
    refine lv_aload_n hx hb dL_law_637 rfl (lv_at hl 2 rfl) ?_
    refine lv_aload_n hx hb dL_law_638 rfl (lv_at hl 3 rfl) ?_
    refine lv_iload_n hx hb dL_law_639 rfl (lv_at hl 0 rfl) ?_
    refine lv_iconst (v := 1) hx hb dL_law_640 (by decide) ?_
    refine lv_iadd hx hb dL_law_641 ?_
    refine lv_topi (fun n_59 en_59 => ?_)
    have en_59 : n_59 = 1 := en_59.trans (by decide)
    subst en_59
    refine va_sld hx hb hX hbl hbA h.2.2.1 (pk_in 1 6 (by decide) rfl) dL_law_642 ?_
    refine lv_aload_n hx hb dL_law_643 rfl (lv_at hl 3 rfl) ?_
    refine lv_iload_n hx hb dL_law_644 rfl (lv_at hl 0 rfl) ?_
    refine lv_iconst (v := 2) hx hb dL_law_645 (by decide) ?_
    refine lv_iadd hx hb dL_law_646 ?_
    refine lv_topi (fun n_60 en_60 => ?_)
    have en_60 : n_60 = 2 := en_60.trans (by decide)
    subst en_60
    refine va_sld hx hb hX hbl hbA h.2.2.1 (pk_in 2 6 (by decide) rfl) dL_law_647 ?_
    refine lv_aload_n hx hb dL_law_648 rfl (lv_at hl 3 rfl) ?_
    refine lv_iload_n hx hb dL_law_649 rfl (lv_at hl 0 rfl) ?_
    refine lv_iconst (v := 3) hx hb dL_law_650 (by decide) ?_
    refine lv_iadd hx hb dL_law_651 ?_
    refine lv_topi (fun n_61 en_61 => ?_)
    have en_61 : n_61 = 3 := en_61.trans (by decide)
    subst en_61
    refine va_sld hx hb hX hbl hbA h.2.2.1 (pk_in 3 6 (by decide) rfl) dL_law_652 ?_
    refine KI.callA (w1 := [(x, .inr (1, [.ref t, .int 0, .null, .null, .null, .null, .null, .null, .null, .null, .int 0, .int (-1)])), (t, .inl (g.2.2 0, 0, .inl (fun _ => 0)))]) (w2 := mW g o ad mNew) (As := [.int (xs (1 : Int32).toNatClampNeg), .int (xs (2 : Int32).toNatClampNeg), .int (xs (3 : Int32).toNatClampNeg)]) (q0 := 0) (ci := 1) C h (e_way l g x t (xs (1 : Int32).toNatClampNeg) (xs (2 : Int32).toNatClampNeg) (xs (3 : Int32).toNatClampNeg)) vlaw_79 ⟨by decide, by decide⟩ rfl rfl hl.1 rfl (Nat.le_of_ble_eq_true rfl) dL_law_653 ⟨by decide, by decide⟩ (fun r1 u1 H locs hp1 h => ?_)
    refine lv_aload_n hx hb dL_law_656 rfl (lv_at hl 1 rfl) ?_
    refine lv_aload_n hx hb dL_law_657 rfl (lv_at hl 3 rfl) ?_
    refine lv_iload_n hx hb dL_law_658 rfl (lv_at hl 0 rfl) ?_
    refine lv_iconst (v := 1) hx hb dL_law_659 (by decide) ?_
    refine lv_iadd hx hb dL_law_660 ?_
    refine lv_topi (fun n_62 en_62 => ?_)
    have en_62 : n_62 = 1 := en_62.trans (by decide)
    subst en_62
    refine va_sld hx hb hX hbl hbA h.2.2.1 (pk_in 1 6 (by decide) rfl) dL_law_661 ?_
    refine lv_aload_n hx hb dL_law_662 rfl (lv_at hl 3 rfl) ?_
    refine lv_iload_n hx hb dL_law_663 rfl (lv_at hl 0 rfl) ?_
    refine lv_iconst (v := 2) hx hb dL_law_664 (by decide) ?_
    refine lv_iadd hx hb dL_law_665 ?_
    refine lv_topi (fun n_63 en_63 => ?_)
    have en_63 : n_63 = 2 := en_63.trans (by decide)
    subst en_63
    refine va_sld hx hb hX hbl hbA h.2.2.1 (pk_in 2 6 (by decide) rfl) dL_law_666 ?_
    refine lv_aload_n hx hb dL_law_667 rfl (lv_at hl 3 rfl) ?_
    refine lv_iload_n hx hb dL_law_668 rfl (lv_at hl 0 rfl) ?_
    refine lv_iconst (v := 3) hx hb dL_law_669 (by decide) ?_
    refine lv_iadd hx hb dL_law_670 ?_
    refine lv_topi (fun n_64 en_64 => ?_)
    have en_64 : n_64 = 3 := en_64.trans (by decide)
    subst en_64
    refine va_sld hx hb hX hbl hbA h.2.2.1 (pk_in 3 6 (by decide) rfl) dL_law_671 ?_
    refine KI.callV (As := [.int (xs (1 : Int32).toNatClampNeg), .int (xs (2 : Int32).toNatClampNeg), .int (xs (3 : Int32).toNatClampNeg)]) (q0 := 0) (ci := 0) C h (t_way l g o ad mNew (xs (1 : Int32).toNatClampNeg) (xs (2 : Int32).toNatClampNeg) (xs (3 : Int32).toNatClampNeg) rfl) vlaw_82 ⟨by decide, by decide⟩ rfl rfl hl.1 rfl (Nat.le_of_ble_eq_true rfl) dL_law_672 ⟨by decide, by decide⟩ (fun r2 u2 H locs hp2 h => ?_)
    refine lv_icmp_eq (tgt := 970) hx hb dL_law_675 (by decide) (fun _ => ?_) (fun z => absurd (hp1.trans hp2.2.symm) z)
    exact fin _ _ _ _ ls (by decide) (by decide) h.2.2.1 (lv_sub hl [3, 0] rfl)
  by_cases s33_16 : v0 = 16
  · subst s33_16
    refine lv_tableIn (off := 647) (tgt := 680) hx hb dL_law_33 (by decide) (by decide) (by decide) (by decide) ?_
    refine lv_aload_n hx hb dL_law_680 rfl (lv_at hl 2 rfl) ?_
    refine lv_aload_n hx hb dL_law_681 rfl (lv_at hl 3 rfl) ?_
    refine lv_iload_n hx hb dL_law_682 rfl (lv_at hl 0 rfl) ?_
    refine lv_iconst (v := 1) hx hb dL_law_683 (by decide) ?_
    refine lv_iadd hx hb dL_law_684 ?_
    refine lv_topi (fun n_65 en_65 => ?_)
    have en_65 : n_65 = 1 := en_65.trans (by decide)
    subst en_65
    refine va_sld hx hb hX hbl hbA h.2.2.1 (pk_in 1 6 (by decide) rfl) dL_law_685 ?_
    refine lv_aload_n hx hb dL_law_686 rfl (lv_at hl 3 rfl) ?_
    refine lv_iload_n hx hb dL_law_687 rfl (lv_at hl 0 rfl) ?_
    refine lv_iconst (v := 2) hx hb dL_law_688 (by decide) ?_
    refine lv_iadd hx hb dL_law_689 ?_
    refine lv_topi (fun n_66 en_66 => ?_)
    have en_66 : n_66 = 2 := en_66.trans (by decide)
    subst en_66
    refine va_sld hx hb hX hbl hbA h.2.2.1 (pk_in 2 6 (by decide) rfl) dL_law_690 ?_
    refine KI.callA (w1 := [(x, .inr (1, [.ref t, .int 0, .null, .null, .null, .null, .null, .null, .null, .null, .int 0, .int (-1)])), (t, .inl (g.2.2 0, 0, .inl (fun _ => 0)))]) (w2 := mW g o ad mNew) (As := [.int (xs (1 : Int32).toNatClampNeg), .int (xs (2 : Int32).toNatClampNeg)]) (q0 := 0) (ci := 1) C h (e_out l g x t (xs (1 : Int32).toNatClampNeg) (xs (2 : Int32).toNatClampNeg)) vlaw_83 ⟨by decide, by decide⟩ rfl rfl hl.1 rfl (Nat.le_of_ble_eq_true rfl) dL_law_691 ⟨by decide, by decide⟩ (fun r1 u1 H locs hp1 h => ?_)
    refine lv_aload_n hx hb dL_law_694 rfl (lv_at hl 1 rfl) ?_
    refine lv_aload_n hx hb dL_law_695 rfl (lv_at hl 3 rfl) ?_
    refine lv_iload_n hx hb dL_law_696 rfl (lv_at hl 0 rfl) ?_
    refine lv_iconst (v := 1) hx hb dL_law_697 (by decide) ?_
    refine lv_iadd hx hb dL_law_698 ?_
    refine lv_topi (fun n_67 en_67 => ?_)
    have en_67 : n_67 = 1 := en_67.trans (by decide)
    subst en_67
    refine va_sld hx hb hX hbl hbA h.2.2.1 (pk_in 1 6 (by decide) rfl) dL_law_699 ?_
    refine lv_aload_n hx hb dL_law_700 rfl (lv_at hl 3 rfl) ?_
    refine lv_iload_n hx hb dL_law_701 rfl (lv_at hl 0 rfl) ?_
    refine lv_iconst (v := 2) hx hb dL_law_702 (by decide) ?_
    refine lv_iadd hx hb dL_law_703 ?_
    refine lv_topi (fun n_68 en_68 => ?_)
    have en_68 : n_68 = 2 := en_68.trans (by decide)
    subst en_68
    refine va_sld hx hb hX hbl hbA h.2.2.1 (pk_in 2 6 (by decide) rfl) dL_law_704 ?_
    refine KI.callV (As := [.int (xs (1 : Int32).toNatClampNeg), .int (xs (2 : Int32).toNatClampNeg)]) (q0 := 0) (ci := 0) C h (t_out l g o ad mNew (xs (1 : Int32).toNatClampNeg) (xs (2 : Int32).toNatClampNeg) rfl) vlaw_86 ⟨by decide, by decide⟩ rfl rfl hl.1 rfl (Nat.le_of_ble_eq_true rfl) dL_law_705 ⟨by decide, by decide⟩ (fun r2 u2 H locs hp2 h => ?_)
    refine lv_icmp_eq (tgt := 970) hx hb dL_law_708 (by decide) (fun _ => ?_) (fun z => absurd (hp1.trans hp2.2.symm) z)
    exact fin _ _ _ _ ls (by decide) (by decide) h.2.2.1 (lv_sub hl [3, 0] rfl)
  by_cases s33_17 : v0 = 17
  · subst s33_17
    refine lv_tableIn (off := 680) (tgt := 713) hx hb dL_law_33 (by decide) (by decide) (by decide) (by decide) ?_
    refine lv_aload_n hx hb dL_law_713 rfl (lv_at hl 2 rfl) ?_
    refine lv_aload_n hx hb dL_law_714 rfl (lv_at hl 3 rfl) ?_
    refine lv_iload_n hx hb dL_law_715 rfl (lv_at hl 0 rfl) ?_
    refine lv_iconst (v := 1) hx hb dL_law_716 (by decide) ?_
    refine lv_iadd hx hb dL_law_717 ?_
    refine lv_topi (fun n_69 en_69 => ?_)
    have en_69 : n_69 = 1 := en_69.trans (by decide)
    subst en_69
    refine va_sld hx hb hX hbl hbA h.2.2.1 (pk_in 1 6 (by decide) rfl) dL_law_718 ?_
    refine lv_aload_n hx hb dL_law_719 rfl (lv_at hl 3 rfl) ?_
    refine lv_iload_n hx hb dL_law_720 rfl (lv_at hl 0 rfl) ?_
    refine lv_iconst (v := 2) hx hb dL_law_721 (by decide) ?_
    refine lv_iadd hx hb dL_law_722 ?_
    refine lv_topi (fun n_70 en_70 => ?_)
    have en_70 : n_70 = 2 := en_70.trans (by decide)
    subst en_70
    refine va_sld hx hb hX hbl hbA h.2.2.1 (pk_in 2 6 (by decide) rfl) dL_law_723 ?_
    refine KI.callA (w1 := [(x, .inr (1, [.ref t, .int 0, .null, .null, .null, .null, .null, .null, .null, .null, .int 0, .int (-1)])), (t, .inl (g.2.2 0, 0, .inl (fun _ => 0)))]) (w2 := mW g o ad mNew) (As := [.int (xs (1 : Int32).toNatClampNeg), .int (xs (2 : Int32).toNatClampNeg)]) (q0 := 0) (ci := 1) C h (e_event l g x t (xs (1 : Int32).toNatClampNeg) (xs (2 : Int32).toNatClampNeg)) vlaw_87 ⟨by decide, by decide⟩ rfl rfl hl.1 rfl (Nat.le_of_ble_eq_true rfl) dL_law_724 ⟨by decide, by decide⟩ (fun r1 u1 H locs hp1 h => ?_)
    refine lv_aload_n hx hb dL_law_727 rfl (lv_at hl 1 rfl) ?_
    refine lv_aload_n hx hb dL_law_728 rfl (lv_at hl 3 rfl) ?_
    refine lv_iload_n hx hb dL_law_729 rfl (lv_at hl 0 rfl) ?_
    refine lv_iconst (v := 1) hx hb dL_law_730 (by decide) ?_
    refine lv_iadd hx hb dL_law_731 ?_
    refine lv_topi (fun n_71 en_71 => ?_)
    have en_71 : n_71 = 1 := en_71.trans (by decide)
    subst en_71
    refine va_sld hx hb hX hbl hbA h.2.2.1 (pk_in 1 6 (by decide) rfl) dL_law_732 ?_
    refine lv_aload_n hx hb dL_law_733 rfl (lv_at hl 3 rfl) ?_
    refine lv_iload_n hx hb dL_law_734 rfl (lv_at hl 0 rfl) ?_
    refine lv_iconst (v := 2) hx hb dL_law_735 (by decide) ?_
    refine lv_iadd hx hb dL_law_736 ?_
    refine lv_topi (fun n_72 en_72 => ?_)
    have en_72 : n_72 = 2 := en_72.trans (by decide)
    subst en_72
    refine va_sld hx hb hX hbl hbA h.2.2.1 (pk_in 2 6 (by decide) rfl) dL_law_737 ?_
    refine KI.callV (As := [.int (xs (1 : Int32).toNatClampNeg), .int (xs (2 : Int32).toNatClampNeg)]) (q0 := 0) (ci := 0) C h (t_event l g o ad mNew (xs (1 : Int32).toNatClampNeg) (xs (2 : Int32).toNatClampNeg) rfl) vlaw_90 ⟨by decide, by decide⟩ rfl rfl hl.1 rfl (Nat.le_of_ble_eq_true rfl) dL_law_738 ⟨by decide, by decide⟩ (fun r2 u2 H locs hp2 h => ?_)
    refine lv_icmp_eq (tgt := 970) hx hb dL_law_741 (by decide) (fun _ => ?_) (fun z => absurd (hp1.trans hp2.2.symm) z)
    exact fin _ _ _ _ ls (by decide) (by decide) h.2.2.1 (lv_sub hl [3, 0] rfl)
  by_cases s33_18 : v0 = 18
  · subst s33_18
    refine lv_tableIn (off := 713) (tgt := 746) hx hb dL_law_33 (by decide) (by decide) (by decide) (by decide) ?_
    refine lv_aload_n hx hb dL_law_746 rfl (lv_at hl 2 rfl) ?_
    refine lv_aload_n hx hb dL_law_747 rfl (lv_at hl 3 rfl) ?_
    refine lv_iload_n hx hb dL_law_748 rfl (lv_at hl 0 rfl) ?_
    refine lv_iconst (v := 1) hx hb dL_law_749 (by decide) ?_
    refine lv_iadd hx hb dL_law_750 ?_
    refine lv_topi (fun n_73 en_73 => ?_)
    have en_73 : n_73 = 1 := en_73.trans (by decide)
    subst en_73
    refine va_sld hx hb hX hbl hbA h.2.2.1 (pk_in 1 6 (by decide) rfl) dL_law_751 ?_
    refine KI.callA (w1 := [(x, .inr (1, [.ref t, .int 0, .null, .null, .null, .null, .null, .null, .null, .null, .int 0, .int (-1)])), (t, .inl (g.2.2 0, 0, .inl (fun _ => 0)))]) (w2 := mW g o ad mNew) (As := [.int (xs (1 : Int32).toNatClampNeg)]) (q0 := 0) (ci := 1) C h (e_count l g x t (xs (1 : Int32).toNatClampNeg)) vlaw_91 ⟨by decide, by decide⟩ rfl rfl hl.1 rfl (Nat.le_of_ble_eq_true rfl) dL_law_752 ⟨by decide, by decide⟩ (fun r1 u1 H locs hp1 h => ?_)
    refine lv_aload_n hx hb dL_law_755 rfl (lv_at hl 1 rfl) ?_
    refine lv_aload_n hx hb dL_law_756 rfl (lv_at hl 3 rfl) ?_
    refine lv_iload_n hx hb dL_law_757 rfl (lv_at hl 0 rfl) ?_
    refine lv_iconst (v := 1) hx hb dL_law_758 (by decide) ?_
    refine lv_iadd hx hb dL_law_759 ?_
    refine lv_topi (fun n_74 en_74 => ?_)
    have en_74 : n_74 = 1 := en_74.trans (by decide)
    subst en_74
    refine va_sld hx hb hX hbl hbA h.2.2.1 (pk_in 1 6 (by decide) rfl) dL_law_760 ?_
    refine KI.callV (As := [.int (xs (1 : Int32).toNatClampNeg)]) (q0 := 0) (ci := 0) C h (t_count l g o ad mNew (xs (1 : Int32).toNatClampNeg) rfl rfl rfl) vlaw_94 ⟨by decide, by decide⟩ rfl rfl hl.1 rfl (Nat.le_of_ble_eq_true rfl) dL_law_761 ⟨by decide, by decide⟩ (fun r2 u2 H locs hp2 h => ?_)
    refine lv_icmp_eq (tgt := 970) hx hb dL_law_764 (by decide) (fun _ => ?_) (fun z => absurd (hp1.trans hp2.2.symm) z)
    exact fin _ _ _ _ ls (by decide) (by decide) h.2.2.1 (lv_sub hl [3, 0] rfl)
  by_cases s33_19 : v0 = 19
  · subst s33_19
    refine lv_tableIn (off := 736) (tgt := 769) hx hb dL_law_33 (by decide) (by decide) (by decide) (by decide) ?_
    refine lv_aload_n hx hb dL_law_769 rfl (lv_at hl 2 rfl) ?_
    refine lv_aload_n hx hb dL_law_770 rfl (lv_at hl 3 rfl) ?_
    refine lv_iload_n hx hb dL_law_771 rfl (lv_at hl 0 rfl) ?_
    refine lv_iconst (v := 1) hx hb dL_law_772 (by decide) ?_
    refine lv_iadd hx hb dL_law_773 ?_
    refine lv_topi (fun n_75 en_75 => ?_)
    have en_75 : n_75 = 1 := en_75.trans (by decide)
    subst en_75
    refine va_sld hx hb hX hbl hbA h.2.2.1 (pk_in 1 6 (by decide) rfl) dL_law_774 ?_
    refine lv_aload_n hx hb dL_law_775 rfl (lv_at hl 3 rfl) ?_
    refine lv_iload_n hx hb dL_law_776 rfl (lv_at hl 0 rfl) ?_
    refine lv_iconst (v := 2) hx hb dL_law_777 (by decide) ?_
    refine lv_iadd hx hb dL_law_778 ?_
    refine lv_topi (fun n_76 en_76 => ?_)
    have en_76 : n_76 = 2 := en_76.trans (by decide)
    subst en_76
    refine va_sld hx hb hX hbl hbA h.2.2.1 (pk_in 2 6 (by decide) rfl) dL_law_779 ?_
    refine KI.callA (w1 := [(x, .inr (1, [.ref t, .int 0, .null, .null, .null, .null, .null, .null, .null, .null, .int 0, .int (-1)])), (t, .inl (g.2.2 0, 0, .inl (fun _ => 0)))]) (w2 := mW g o ad mNew) (As := [.int (xs (1 : Int32).toNatClampNeg), .int (xs (2 : Int32).toNatClampNeg)]) (q0 := 0) (ci := 1) C h (e_type l g x t (xs (1 : Int32).toNatClampNeg) (xs (2 : Int32).toNatClampNeg)) vlaw_95 ⟨by decide, by decide⟩ rfl rfl hl.1 rfl (Nat.le_of_ble_eq_true rfl) dL_law_780 ⟨by decide, by decide⟩ (fun r1 u1 H locs hp1 h => ?_)
    refine lv_aload_n hx hb dL_law_783 rfl (lv_at hl 1 rfl) ?_
    refine lv_aload_n hx hb dL_law_784 rfl (lv_at hl 3 rfl) ?_
    refine lv_iload_n hx hb dL_law_785 rfl (lv_at hl 0 rfl) ?_
    refine lv_iconst (v := 1) hx hb dL_law_786 (by decide) ?_
    refine lv_iadd hx hb dL_law_787 ?_
    refine lv_topi (fun n_77 en_77 => ?_)
    have en_77 : n_77 = 1 := en_77.trans (by decide)
    subst en_77
    refine va_sld hx hb hX hbl hbA h.2.2.1 (pk_in 1 6 (by decide) rfl) dL_law_788 ?_
    refine lv_aload_n hx hb dL_law_789 rfl (lv_at hl 3 rfl) ?_
    refine lv_iload_n hx hb dL_law_790 rfl (lv_at hl 0 rfl) ?_
    refine lv_iconst (v := 2) hx hb dL_law_791 (by decide) ?_
    refine lv_iadd hx hb dL_law_792 ?_
    refine lv_topi (fun n_78 en_78 => ?_)
    have en_78 : n_78 = 2 := en_78.trans (by decide)
    subst en_78
    refine va_sld hx hb hX hbl hbA h.2.2.1 (pk_in 2 6 (by decide) rfl) dL_law_793 ?_
    refine KI.callV (As := [.int (xs (1 : Int32).toNatClampNeg), .int (xs (2 : Int32).toNatClampNeg)]) (q0 := 0) (ci := 0) C h (t_type l g o ad mNew (xs (1 : Int32).toNatClampNeg) (xs (2 : Int32).toNatClampNeg) rfl) vlaw_98 ⟨by decide, by decide⟩ rfl rfl hl.1 rfl (Nat.le_of_ble_eq_true rfl) dL_law_794 ⟨by decide, by decide⟩ (fun r2 u2 H locs hp2 h => ?_)
    refine lv_icmp_eq (tgt := 970) hx hb dL_law_797 (by decide) (fun _ => ?_) (fun z => absurd (hp1.trans hp2.2.symm) z)
    exact fin _ _ _ _ ls (by decide) (by decide) h.2.2.1 (lv_sub hl [3, 0] rfl)
  by_cases s33_20 : v0 = 20
  · subst s33_20
    refine lv_tableIn (off := 769) (tgt := 802) hx hb dL_law_33 (by decide) (by decide) (by decide) (by decide) ?_
    refine lv_aload_n hx hb dL_law_802 rfl (lv_at hl 2 rfl) ?_
    refine lv_aload_n hx hb dL_law_803 rfl (lv_at hl 3 rfl) ?_
    refine lv_iload_n hx hb dL_law_804 rfl (lv_at hl 0 rfl) ?_
    refine lv_iconst (v := 1) hx hb dL_law_805 (by decide) ?_
    refine lv_iadd hx hb dL_law_806 ?_
    refine lv_topi (fun n_79 en_79 => ?_)
    have en_79 : n_79 = 1 := en_79.trans (by decide)
    subst en_79
    refine va_sld hx hb hX hbl hbA h.2.2.1 (pk_in 1 6 (by decide) rfl) dL_law_807 ?_
    refine KI.callA (w1 := [(x, .inr (1, [.ref t, .int 0, .null, .null, .null, .null, .null, .null, .null, .null, .int 0, .int (-1)])), (t, .inl (g.2.2 0, 0, .inl (fun _ => 0)))]) (w2 := mW g o ad mNew) (As := [.int (xs (1 : Int32).toNatClampNeg)]) (q0 := 0) (ci := 1) C h (e_search l g x t (xs (1 : Int32).toNatClampNeg)) vlaw_99 ⟨by decide, by decide⟩ rfl rfl hl.1 rfl (Nat.le_of_ble_eq_true rfl) dL_law_808 ⟨by decide, by decide⟩ (fun r1 u1 H locs hp1 h => ?_)
    refine lv_aload_n hx hb dL_law_811 rfl (lv_at hl 1 rfl) ?_
    refine lv_aload_n hx hb dL_law_812 rfl (lv_at hl 3 rfl) ?_
    refine lv_iload_n hx hb dL_law_813 rfl (lv_at hl 0 rfl) ?_
    refine lv_iconst (v := 1) hx hb dL_law_814 (by decide) ?_
    refine lv_iadd hx hb dL_law_815 ?_
    refine lv_topi (fun n_80 en_80 => ?_)
    have en_80 : n_80 = 1 := en_80.trans (by decide)
    subst en_80
    refine va_sld hx hb hX hbl hbA h.2.2.1 (pk_in 1 6 (by decide) rfl) dL_law_816 ?_
    refine KI.callV (As := [.int (xs (1 : Int32).toNatClampNeg)]) (q0 := 0) (ci := 0) C h (t_search l g o ad mNew (xs (1 : Int32).toNatClampNeg) rfl) vlaw_102 ⟨by decide, by decide⟩ rfl rfl hl.1 rfl (Nat.le_of_ble_eq_true rfl) dL_law_817 ⟨by decide, by decide⟩ (fun r2 u2 H locs hp2 h => ?_)
    refine lv_icmp_eq (tgt := 970) hx hb dL_law_820 (by decide) (fun _ => ?_) (fun z => absurd (hp1.trans hp2.2.symm) z)
    exact fin _ _ _ _ ls (by decide) (by decide) h.2.2.1 (lv_sub hl [3, 0] rfl)
  by_cases s33_21 : v0 = 21
  · subst s33_21
    refine lv_tableIn (off := 792) (tgt := 825) hx hb dL_law_33 (by decide) (by decide) (by decide) (by decide) ?_
    refine lv_aload_n hx hb dL_law_825 rfl (lv_at hl 2 rfl) ?_
    refine lv_aload_n hx hb dL_law_826 rfl (lv_at hl 3 rfl) ?_
    refine lv_iload_n hx hb dL_law_827 rfl (lv_at hl 0 rfl) ?_
    refine lv_iconst (v := 1) hx hb dL_law_828 (by decide) ?_
    refine lv_iadd hx hb dL_law_829 ?_
    refine lv_topi (fun n_81 en_81 => ?_)
    have en_81 : n_81 = 1 := en_81.trans (by decide)
    subst en_81
    refine va_sld hx hb hX hbl hbA h.2.2.1 (pk_in 1 6 (by decide) rfl) dL_law_830 ?_
    refine lv_aload_n hx hb dL_law_831 rfl (lv_at hl 3 rfl) ?_
    refine lv_iload_n hx hb dL_law_832 rfl (lv_at hl 0 rfl) ?_
    refine lv_iconst (v := 2) hx hb dL_law_833 (by decide) ?_
    refine lv_iadd hx hb dL_law_834 ?_
    refine lv_topi (fun n_82 en_82 => ?_)
    have en_82 : n_82 = 2 := en_82.trans (by decide)
    subst en_82
    refine va_sld hx hb hX hbl hbA h.2.2.1 (pk_in 2 6 (by decide) rfl) dL_law_835 ?_
    refine KI.callA (w1 := [(x, .inr (1, [.ref t, .int 0, .null, .null, .null, .null, .null, .null, .null, .null, .int 0, .int (-1)])), (t, .inl (g.2.2 0, 0, .inl (fun _ => 0)))]) (w2 := mW g o ad mNew) (As := [.int (xs (1 : Int32).toNatClampNeg), .int (xs (2 : Int32).toNatClampNeg)]) (q0 := 0) (ci := 1) C h (e_state l g x t (xs (1 : Int32).toNatClampNeg) (xs (2 : Int32).toNatClampNeg)) vlaw_103 ⟨by decide, by decide⟩ rfl rfl hl.1 rfl (Nat.le_of_ble_eq_true rfl) dL_law_836 ⟨by decide, by decide⟩ (fun r1 u1 H locs hp1 h => ?_)
    refine lv_aload_n hx hb dL_law_839 rfl (lv_at hl 1 rfl) ?_
    refine lv_aload_n hx hb dL_law_840 rfl (lv_at hl 3 rfl) ?_
    refine lv_iload_n hx hb dL_law_841 rfl (lv_at hl 0 rfl) ?_
    refine lv_iconst (v := 1) hx hb dL_law_842 (by decide) ?_
    refine lv_iadd hx hb dL_law_843 ?_
    refine lv_topi (fun n_83 en_83 => ?_)
    have en_83 : n_83 = 1 := en_83.trans (by decide)
    subst en_83
    refine va_sld hx hb hX hbl hbA h.2.2.1 (pk_in 1 6 (by decide) rfl) dL_law_844 ?_
    refine lv_aload_n hx hb dL_law_845 rfl (lv_at hl 3 rfl) ?_
    refine lv_iload_n hx hb dL_law_846 rfl (lv_at hl 0 rfl) ?_
    refine lv_iconst (v := 2) hx hb dL_law_847 (by decide) ?_
    refine lv_iadd hx hb dL_law_848 ?_
    refine lv_topi (fun n_84 en_84 => ?_)
    have en_84 : n_84 = 2 := en_84.trans (by decide)
    subst en_84
    refine va_sld hx hb hX hbl hbA h.2.2.1 (pk_in 2 6 (by decide) rfl) dL_law_849 ?_
    refine KI.callV (As := [.int (xs (1 : Int32).toNatClampNeg), .int (xs (2 : Int32).toNatClampNeg)]) (q0 := 0) (ci := 0) C h (t_state l g o ad mNew (xs (1 : Int32).toNatClampNeg) (xs (2 : Int32).toNatClampNeg) rfl) vlaw_106 ⟨by decide, by decide⟩ rfl rfl hl.1 rfl (Nat.le_of_ble_eq_true rfl) dL_law_850 ⟨by decide, by decide⟩ (fun r2 u2 H locs hp2 h => ?_)
    refine lv_icmp_eq (tgt := 970) hx hb dL_law_853 (by decide) (fun _ => ?_) (fun z => absurd (hp1.trans hp2.2.symm) z)
    exact fin _ _ _ _ ls (by decide) (by decide) h.2.2.1 (lv_sub hl [3, 0] rfl)
  by_cases s33_22 : v0 = 22
  · subst s33_22
    refine lv_tableIn (off := 825) (tgt := 858) hx hb dL_law_33 (by decide) (by decide) (by decide) (by decide) ?_
    refine lv_aload_n hx hb dL_law_858 rfl (lv_at hl 2 rfl) ?_
    refine lv_aload_n hx hb dL_law_859 rfl (lv_at hl 3 rfl) ?_
    refine lv_iload_n hx hb dL_law_860 rfl (lv_at hl 0 rfl) ?_
    refine lv_iconst (v := 1) hx hb dL_law_861 (by decide) ?_
    refine lv_iadd hx hb dL_law_862 ?_
    refine lv_topi (fun n_85 en_85 => ?_)
    have en_85 : n_85 = 1 := en_85.trans (by decide)
    subst en_85
    refine va_sld hx hb hX hbl hbA h.2.2.1 (pk_in 1 6 (by decide) rfl) dL_law_863 ?_
    refine lv_aload_n hx hb dL_law_864 rfl (lv_at hl 3 rfl) ?_
    refine lv_iload_n hx hb dL_law_865 rfl (lv_at hl 0 rfl) ?_
    refine lv_iconst (v := 2) hx hb dL_law_866 (by decide) ?_
    refine lv_iadd hx hb dL_law_867 ?_
    refine lv_topi (fun n_86 en_86 => ?_)
    have en_86 : n_86 = 2 := en_86.trans (by decide)
    subst en_86
    refine va_sld hx hb hX hbl hbA h.2.2.1 (pk_in 2 6 (by decide) rfl) dL_law_868 ?_
    refine lv_aload_n hx hb dL_law_869 rfl (lv_at hl 3 rfl) ?_
    refine lv_iload_n hx hb dL_law_870 rfl (lv_at hl 0 rfl) ?_
    refine lv_iconst (v := 3) hx hb dL_law_871 (by decide) ?_
    refine lv_iadd hx hb dL_law_872 ?_
    refine lv_topi (fun n_87 en_87 => ?_)
    have en_87 : n_87 = 3 := en_87.trans (by decide)
    subst en_87
    refine va_sld hx hb hX hbl hbA h.2.2.1 (pk_in 3 6 (by decide) rfl) dL_law_873 ?_
    refine KI.callA (w1 := [(x, .inr (1, [.ref t, .int 0, .null, .null, .null, .null, .null, .null, .null, .null, .int 0, .int (-1)])), (t, .inl (g.2.2 0, 0, .inl (fun _ => 0)))]) (w2 := mW g o ad mNew) (As := [.int (xs (1 : Int32).toNatClampNeg), .int (xs (2 : Int32).toNatClampNeg), .int (xs (3 : Int32).toNatClampNeg)]) (q0 := 0) (ci := 1) C h (e_first l g x t (xs (1 : Int32).toNatClampNeg) (xs (2 : Int32).toNatClampNeg) (xs (3 : Int32).toNatClampNeg)) vlaw_107 ⟨by decide, by decide⟩ rfl rfl hl.1 rfl (Nat.le_of_ble_eq_true rfl) dL_law_874 ⟨by decide, by decide⟩ (fun r1 u1 H locs hp1 h => ?_)
    refine lv_aload_n hx hb dL_law_877 rfl (lv_at hl 1 rfl) ?_
    refine lv_aload_n hx hb dL_law_878 rfl (lv_at hl 3 rfl) ?_
    refine lv_iload_n hx hb dL_law_879 rfl (lv_at hl 0 rfl) ?_
    refine lv_iconst (v := 1) hx hb dL_law_880 (by decide) ?_
    refine lv_iadd hx hb dL_law_881 ?_
    refine lv_topi (fun n_88 en_88 => ?_)
    have en_88 : n_88 = 1 := en_88.trans (by decide)
    subst en_88
    refine va_sld hx hb hX hbl hbA h.2.2.1 (pk_in 1 6 (by decide) rfl) dL_law_882 ?_
    refine lv_aload_n hx hb dL_law_883 rfl (lv_at hl 3 rfl) ?_
    refine lv_iload_n hx hb dL_law_884 rfl (lv_at hl 0 rfl) ?_
    refine lv_iconst (v := 2) hx hb dL_law_885 (by decide) ?_
    refine lv_iadd hx hb dL_law_886 ?_
    refine lv_topi (fun n_89 en_89 => ?_)
    have en_89 : n_89 = 2 := en_89.trans (by decide)
    subst en_89
    refine va_sld hx hb hX hbl hbA h.2.2.1 (pk_in 2 6 (by decide) rfl) dL_law_887 ?_
    refine lv_aload_n hx hb dL_law_888 rfl (lv_at hl 3 rfl) ?_
    refine lv_iload_n hx hb dL_law_889 rfl (lv_at hl 0 rfl) ?_
    refine lv_iconst (v := 3) hx hb dL_law_890 (by decide) ?_
    refine lv_iadd hx hb dL_law_891 ?_
    refine lv_topi (fun n_90 en_90 => ?_)
    have en_90 : n_90 = 3 := en_90.trans (by decide)
    subst en_90
    refine va_sld hx hb hX hbl hbA h.2.2.1 (pk_in 3 6 (by decide) rfl) dL_law_892 ?_
    refine KI.callV (As := [.int (xs (1 : Int32).toNatClampNeg), .int (xs (2 : Int32).toNatClampNeg), .int (xs (3 : Int32).toNatClampNeg)]) (q0 := 0) (ci := 0) C h (t_first l g o ad mNew (xs (1 : Int32).toNatClampNeg) (xs (2 : Int32).toNatClampNeg) (xs (3 : Int32).toNatClampNeg) rfl) vlaw_110 ⟨by decide, by decide⟩ rfl rfl hl.1 rfl (Nat.le_of_ble_eq_true rfl) dL_law_893 ⟨by decide, by decide⟩ (fun r2 u2 H locs hp2 h => ?_)
    refine lv_icmp_eq (tgt := 970) hx hb dL_law_896 (by decide) (fun _ => ?_) (fun z => absurd (hp1.trans hp2.2.symm) z)
    exact fin _ _ _ _ ls (by decide) (by decide) h.2.2.1 (lv_sub hl [3, 0] rfl)
  by_cases s33_23 : v0 = 23
  · subst s33_23
    refine lv_tableIn (off := 868) (tgt := 901) hx hb dL_law_33 (by decide) (by decide) (by decide) (by decide) ?_
    refine lv_aload_n hx hb dL_law_901 rfl (lv_at hl 2 rfl) ?_
    refine lv_aload_n hx hb dL_law_902 rfl (lv_at hl 3 rfl) ?_
    refine lv_iload_n hx hb dL_law_903 rfl (lv_at hl 0 rfl) ?_
    refine lv_iconst (v := 1) hx hb dL_law_904 (by decide) ?_
    refine lv_iadd hx hb dL_law_905 ?_
    refine lv_topi (fun n_91 en_91 => ?_)
    have en_91 : n_91 = 1 := en_91.trans (by decide)
    subst en_91
    refine va_sld hx hb hX hbl hbA h.2.2.1 (pk_in 1 6 (by decide) rfl) dL_law_906 ?_
    refine KI.callA (w1 := [(x, .inr (1, [.ref t, .int 0, .null, .null, .null, .null, .null, .null, .null, .null, .int 0, .int (-1)])), (t, .inl (g.2.2 0, 0, .inl (fun _ => 0)))]) (w2 := mW g o ad mNew) (As := [.int (xs (1 : Int32).toNatClampNeg)]) (q0 := 0) (ci := 1) C h (e_visit l g x t (xs (1 : Int32).toNatClampNeg)) vlaw_111 ⟨by decide, by decide⟩ rfl rfl hl.1 rfl (Nat.le_of_ble_eq_true rfl) dL_law_907 ⟨by decide, by decide⟩ (fun r1 u1 H locs hp1 h => ?_)
    refine lv_aload_n hx hb dL_law_910 rfl (lv_at hl 1 rfl) ?_
    refine lv_aload_n hx hb dL_law_911 rfl (lv_at hl 3 rfl) ?_
    refine lv_iload_n hx hb dL_law_912 rfl (lv_at hl 0 rfl) ?_
    refine lv_iconst (v := 1) hx hb dL_law_913 (by decide) ?_
    refine lv_iadd hx hb dL_law_914 ?_
    refine lv_topi (fun n_92 en_92 => ?_)
    have en_92 : n_92 = 1 := en_92.trans (by decide)
    subst en_92
    refine va_sld hx hb hX hbl hbA h.2.2.1 (pk_in 1 6 (by decide) rfl) dL_law_915 ?_
    refine KI.callV (As := [.int (xs (1 : Int32).toNatClampNeg)]) (q0 := 0) (ci := 0) C h (t_visit l g o ad mNew (xs (1 : Int32).toNatClampNeg) rfl) vlaw_114 ⟨by decide, by decide⟩ rfl rfl hl.1 rfl (Nat.le_of_ble_eq_true rfl) dL_law_916 ⟨by decide, by decide⟩ (fun r2 u2 H locs hp2 h => ?_)
    refine lv_icmp_eq (tgt := 970) hx hb dL_law_919 (by decide) (fun _ => ?_) (fun z => absurd (hp1.trans hp2.2.symm) z)
    exact fin _ _ _ _ ls (by decide) (by decide) h.2.2.1 (lv_sub hl [3, 0] rfl)
  by_cases s33_24 : v0 = 24
  · subst s33_24
    refine lv_tableIn (off := 891) (tgt := 924) hx hb dL_law_33 (by decide) (by decide) (by decide) (by decide) ?_
    refine lv_aload_n hx hb dL_law_924 rfl (lv_at hl 2 rfl) ?_
    refine lv_aload_n hx hb dL_law_925 rfl (lv_at hl 3 rfl) ?_
    refine lv_iload_n hx hb dL_law_926 rfl (lv_at hl 0 rfl) ?_
    refine lv_iconst (v := 1) hx hb dL_law_927 (by decide) ?_
    refine lv_iadd hx hb dL_law_928 ?_
    refine lv_topi (fun n_93 en_93 => ?_)
    have en_93 : n_93 = 1 := en_93.trans (by decide)
    subst en_93
    refine va_sld hx hb hX hbl hbA h.2.2.1 (pk_in 1 6 (by decide) rfl) dL_law_929 ?_
    refine KI.callA (w1 := [(x, .inr (1, [.ref t, .int 0, .null, .null, .null, .null, .null, .null, .null, .null, .int 0, .int (-1)])), (t, .inl (g.2.2 0, 0, .inl (fun _ => 0)))]) (w2 := mW g o ad mNew) (As := [.int (xs (1 : Int32).toNatClampNeg)]) (q0 := 0) (ci := 1) C h (e_chart l g x t (xs (1 : Int32).toNatClampNeg)) vlaw_115 ⟨by decide, by decide⟩ rfl rfl hl.1 rfl (Nat.le_of_ble_eq_true rfl) dL_law_930 ⟨by decide, by decide⟩ (fun r1 u1 H locs hp1 h => ?_)
    refine lv_aload_n hx hb dL_law_933 rfl (lv_at hl 1 rfl) ?_
    refine lv_aload_n hx hb dL_law_934 rfl (lv_at hl 3 rfl) ?_
    refine lv_iload_n hx hb dL_law_935 rfl (lv_at hl 0 rfl) ?_
    refine lv_iconst (v := 1) hx hb dL_law_936 (by decide) ?_
    refine lv_iadd hx hb dL_law_937 ?_
    refine lv_topi (fun n_94 en_94 => ?_)
    have en_94 : n_94 = 1 := en_94.trans (by decide)
    subst en_94
    refine va_sld hx hb hX hbl hbA h.2.2.1 (pk_in 1 6 (by decide) rfl) dL_law_938 ?_
    refine KI.callV (As := [.int (xs (1 : Int32).toNatClampNeg)]) (q0 := 0) (ci := 0) C h (t_chart0 l g o ad mNew (xs (1 : Int32).toNatClampNeg) rfl rfl) vlaw_118 ⟨by decide, by decide⟩ rfl rfl hl.1 rfl (Nat.le_of_ble_eq_true rfl) dL_law_939 ⟨by decide, by decide⟩ (fun r2 u2 H locs hp2 h => ?_)
    refine lv_icmp_eq (tgt := 970) hx hb dL_law_942 (by decide) (fun _ => ?_) (fun z => absurd (hp1.trans hp2.symm) z)
    exact fin _ _ _ _ ls (by decide) (by decide) h.2.2.1 (lv_sub hl [3, 0] rfl)
  by_cases s33_25 : v0 = 25
  · subst s33_25
    refine lv_tableIn (off := 914) (tgt := 947) hx hb dL_law_33 (by decide) (by decide) (by decide) (by decide) ?_
    refine lv_aload_n hx hb dL_law_947 rfl (lv_at hl 2 rfl) ?_
    refine lv_aload_n hx hb dL_law_948 rfl (lv_at hl 3 rfl) ?_
    refine lv_iload_n hx hb dL_law_949 rfl (lv_at hl 0 rfl) ?_
    refine lv_iconst (v := 1) hx hb dL_law_950 (by decide) ?_
    refine lv_iadd hx hb dL_law_951 ?_
    refine lv_topi (fun n_95 en_95 => ?_)
    have en_95 : n_95 = 1 := en_95.trans (by decide)
    subst en_95
    refine va_sld hx hb hX hbl hbA h.2.2.1 (pk_in 1 6 (by decide) rfl) dL_law_952 ?_
    refine KI.callA (w1 := [(x, .inr (1, [.ref t, .int 0, .null, .null, .null, .null, .null, .null, .null, .null, .int 0, .int (-1)])), (t, .inl (g.2.2 0, 0, .inl (fun _ => 0)))]) (w2 := mW g o ad mNew) (As := [.int (xs (1 : Int32).toNatClampNeg)]) (q0 := 0) (ci := 1) C h (e_choices l g x t (xs (1 : Int32).toNatClampNeg)) vlaw_119 ⟨by decide, by decide⟩ rfl rfl hl.1 rfl (Nat.le_of_ble_eq_true rfl) dL_law_953 ⟨by decide, by decide⟩ (fun r1 u1 H locs hp1 h => ?_)
    refine lv_aload_n hx hb dL_law_956 rfl (lv_at hl 1 rfl) ?_
    refine lv_aload_n hx hb dL_law_957 rfl (lv_at hl 3 rfl) ?_
    refine lv_iload_n hx hb dL_law_958 rfl (lv_at hl 0 rfl) ?_
    refine lv_iconst (v := 1) hx hb dL_law_959 (by decide) ?_
    refine lv_iadd hx hb dL_law_960 ?_
    refine lv_topi (fun n_96 en_96 => ?_)
    have en_96 : n_96 = 1 := en_96.trans (by decide)
    subst en_96
    refine va_sld hx hb hX hbl hbA h.2.2.1 (pk_in 1 6 (by decide) rfl) dL_law_961 ?_
    refine KI.callV (As := [.int (xs (1 : Int32).toNatClampNeg)]) (q0 := 0) (ci := 0) C h (t_choices l g o ad mNew (xs (1 : Int32).toNatClampNeg) rfl rfl) vlaw_122 ⟨by decide, by decide⟩ rfl rfl hl.1 rfl (Nat.le_of_ble_eq_true rfl) dL_law_962 ⟨by decide, by decide⟩ (fun r2 u2 H locs hp2 h => ?_)
    refine lv_icmp_eq (tgt := 970) hx hb dL_law_965 (by decide) (fun _ => ?_) (fun z => absurd (hp1.trans hp2.2.symm) z)
    exact fin _ _ _ _ ls (by decide) (by decide) h.2.2.1 (lv_sub hl [3, 0] rfl)
  have z33_0 := lv_neT (a := 0) s33_0 (by decide)
  have z33_1 := lv_neT (a := 1) s33_1 (by decide)
  have z33_2 := lv_neT (a := 2) s33_2 (by decide)
  have z33_3 := lv_neT (a := 3) s33_3 (by decide)
  have z33_4 := lv_neT (a := 4) s33_4 (by decide)
  have z33_5 := lv_neT (a := 5) s33_5 (by decide)
  have z33_6 := lv_neT (a := 6) s33_6 (by decide)
  have z33_7 := lv_neT (a := 7) s33_7 (by decide)
  have z33_8 := lv_neT (a := 8) s33_8 (by decide)
  have z33_9 := lv_neT (a := 9) s33_9 (by decide)
  have z33_10 := lv_neT (a := 10) s33_10 (by decide)
  have z33_11 := lv_neT (a := 11) s33_11 (by decide)
  have z33_12 := lv_neT (a := 12) s33_12 (by decide)
  have z33_13 := lv_neT (a := 13) s33_13 (by decide)
  have z33_14 := lv_neT (a := 14) s33_14 (by decide)
  have z33_15 := lv_neT (a := 15) s33_15 (by decide)
  have z33_16 := lv_neT (a := 16) s33_16 (by decide)
  have z33_17 := lv_neT (a := 17) s33_17 (by decide)
  have z33_18 := lv_neT (a := 18) s33_18 (by decide)
  have z33_19 := lv_neT (a := 19) s33_19 (by decide)
  have z33_20 := lv_neT (a := 20) s33_20 (by decide)
  have z33_21 := lv_neT (a := 21) s33_21 (by decide)
  have z33_22 := lv_neT (a := 22) s33_22 (by decide)
  have z33_23 := lv_neT (a := 23) s33_23 (by decide)
  have z33_24 := lv_neT (a := 24) s33_24 (by decide)
  have z33_25 := lv_neT (a := 25) s33_25 (by decide)
  have z33 : (v0).toInt < 0 ∨ 25 < (v0).toInt := by omega
  refine lv_tableOut (tgt := 970) hx hb dL_law_33 z33 (by decide) ?_
  exact fin _ _ _ _ ls (by decide) (by decide) h.2.2.1 (lv_sub hl [3, 0] rfl)
set_option maxHeartbeats 40000000 in
set_option maxRecDepth 100000 in
/-- from the entry, for every script of at most 6 ints, the law comes to its end with true -/
theorem whole_start {p : Program} {e : Env} {s : State} {m : MethodId} {below : List Frame} {meth : Method} {c : Code} (l : Launch) {b L : Nat} {xs : Nat → Int32} (hL : L ≤ 6) (C0 : lw_At p s m meth c b L xs) : W p l e room_1 s m #[Value.ref b] below meth c s.heap [] 0 0 (lw_Z below #[Value.ref b] s) (entryFrame m ([Value.ref b] : List Value).toArray 4) := by
  obtain ⟨hx, hb, hr, hml, hown, hts, hX, hbl, hlocks, hgv⟩ := id C0
  have hbA : ¬ (fun q : Nat => s.heap.size ≤ q) b := Nat.not_le.mpr hbl
  obtain ⟨g, hg⟩ := g_start hts
  obtain ⟨ak, sv, hE⟩ := s_start hts hgv
  have C : Cx p s m c code 4 R_law #[.ref b] g := ⟨⟨hx, hb, hml, hown, fun w h => hts w (tb_lw h)⟩, hg⟩
  have h : Hx g [] (fun q => s.heap.size ≤ q) s.heap s.heap [] := ⟨fun k q h => by simp at h, ⟨fun i j p q h => by simp at h, fun k q h => by simp at h⟩, va_S.rf, fun _ h => h⟩
  have hl := lv_entry ([.ref b]) (n := 4) (Nat.le_of_ble_eq_true rfl)
  rw [lg_entry_eq]
  generalize (lg_sl ([.ref b]) ++ List.replicate (4 - (lg_sl ([.ref b])).length) Slot.unset).toArray = ls at hl ⊢
  have hl : lv_has ls 4 [(0, .ref b)] := hl
  have ext : ∀ (H : Heap) (locs : List Loc) (k n : Nat) (ls : Array Slot), k ≤ 600000 → n ≤ 7302250 → va_S (fun q => s.heap.size ≤ q) s.heap H locs → W p l e room_1 s m #[.ref b] below meth c H locs k n (lw_Z below #[Value.ref b] s) (F0 m 976 ls []) := by
    intro H locs k n ls hk hn hS
    refine lv_iconst (v := 1) hx hb dL_law_976 (by decide) ?_
    refine va_forget (fun q hq => hS.2.2 q hq) ?_
    refine W.widen (k := 600000) (n := 7302250) hk hn ?_
    exact lw_ret hx hb hr hlocks dL_law_977
  refine on (ci := 1) C h laysE tyE tyE_ok cllaw_7 kiE knE rfl dfE (by decide) (by decide) dL_law_0 (fun x H h => ?_)
  have h : Hx g [(x, .inr (1, [.null, .int 0, .null, .null, .null, .null, .null, .null, .null, .null, .int 0, .int 0]))] (fun q => s.heap.size ≤ q) s.heap _ _ := h
  refine W.widen (k := 1) (n := 12) (by decide) (by decide) ?_
  refine lv_dup hx hb dL_law_3 rfl ?_
  refine KV.callI (As := []) (wc := [(x, .inr (1, [.null, .int 0, .null, .null, .null, .null, .null, .null, .null, .null, .int 0, .int 0]))]) (wr := []) C h [0] [] rfl rfl (by decide) (by decide) (by decide) (e_init l g x) mllaw_9 imE_init iiE_init icE_init npE_init rfl ⟨by decide, by decide⟩ hl.1 rfl (Nat.le_of_ble_eq_true rfl) dL_law_4 ⟨by decide, by decide⟩ (fun t H locs hp h => ?_)
  have h : Hx g [(x, .inr (1, [.ref t, .int 0, .null, .null, .null, .null, .null, .null, .null, .null, .int 0, .int (-1)])), (t, .inl (g.2.2 0, 0, .inl (fun _ => 0)))] (fun q => s.heap.size ≤ q) s.heap _ _ := h
  refine W.widen (k := 2) (n := 12) (by decide) (by decide) ?_
  refine lv_astore_n (lv' := [(1, .ref x), (0, .ref b)]) hx hb dL_law_7 rfl hl (by decide) rfl (fun ls hl => ?_)
  refine on (ci := 0) C h mLays tyM tyM_ok cllaw_10 kiM knM rfl dfM (by decide) (by decide) dL_law_8 (fun o H h => ?_)
  have h : Hx g ([(x, .inr (1, [.ref t, .int 0, .null, .null, .null, .null, .null, .null, .null, .null, .int 0, .int (-1)])), (t, .inl (g.2.2 0, 0, .inl (fun _ => 0)))] ++ pW g o (fun _ => 0) (fun _ => 0) 0) (fun q => s.heap.size ≤ q) s.heap _ _ := h
  refine W.widen (k := 3) (n := 202) (by decide) (by decide) ?_
  refine lv_dup hx hb dL_law_11 rfl ?_
  refine KVx.callI (As := []) (wc := pW g o (fun _ => 0) (fun _ => 0) 0) (wr := [(x, .inr (1, [.ref t, .int 0, .null, .null, .null, .null, .null, .null, .null, .null, .int 0, .int (-1)])), (t, .inl (g.2.2 0, 0, .inl (fun _ => 0)))]) C h hE [2] [0, 1] rfl rfl (by decide) (by decide) (by decide) (t_init (ak := ak) (sv := sv) l g o) mllaw_12 imM_init iiM_init icM_init npM_init rfl ⟨by decide, by decide⟩ hl.1 rfl (Nat.le_of_ble_eq_true rfl) dL_law_12 ⟨by decide, by decide⟩ (fun u H locs hp h => ?_)
  obtain ⟨ad, M⟩ := u
  have hp : M = mNew := hp
  subst hp
  have h : Hx g ([(x, .inr (1, [.ref t, .int 0, .null, .null, .null, .null, .null, .null, .null, .null, .int 0, .int (-1)])), (t, .inl (g.2.2 0, 0, .inl (fun _ => 0)))] ++ mW g o ad mNew) (fun q => s.heap.size ≤ q) s.heap _ _ := h
  refine W.widen (k := 125) (n := 305060) (by decide) (by decide) ?_
  refine lv_astore_n (lv' := [(2, .ref o), (1, .ref x), (0, .ref b)]) hx hb dL_law_15 rfl hl (by decide) rfl (fun ls hl => ?_)
  refine lv_iconst (v := 0) hx hb dL_law_16 (by decide) ?_
  refine lv_istore_n (lv' := [(3, .int 0), (2, .ref o), (1, .ref x), (0, .ref b)]) hx hb dL_law_17 rfl hl (by decide) rfl (fun ls hl => ?_)
  refine lv_iload_n hx hb dL_law_18 rfl (lv_at hl 0 rfl) ?_
  refine lv_aload_n hx hb dL_law_19 rfl (lv_at hl 3 rfl) ?_
  refine va_slen hx hb hX hbl hbA h.2.2.1 dL_law_20 ?_
  refine lv_bipush (v := 6) hx hb dL_law_21 (by decide) ?_
  refine lv_isub hx hb dL_law_23 ?_
  rcases Nat.lt_or_ge L 6 with hlt | hge
  · refine lv_icmp_gt (tgt := 976) hx hb dL_law_24 (by decide) (fun _ => ?_) (fun z => ?_)
    · exact ext _ _ _ _ ls (by decide) (by decide) h.2.2.1
    · refine absurd ?_ z
      rcases (show L = 0 ∨ L = 1 ∨ L = 2 ∨ L = 3 ∨ L = 4 ∨ L = 5 by omega) with rfl | rfl | rfl | rfl | rfl | rfl <;> decide
  · have hL6 : L = 6 := by omega
    subst hL6
    refine lv_icmp_gt (tgt := 976) hx hb dL_law_24 (by decide) (fun z => absurd z (by decide)) (fun _ => ?_)
    refine law_turn C0 C hE h hl (fun H locs k n ls hk hn hS hl => ?_)
    refine lv_iinc (v := 6) (lv' := [(3, .int 6), (0, .ref b)]) hx hb dL_law_970 hl (k := 1) rfl (by decide) (by decide) rfl (fun ls hl => ?_)
    refine lv_goto (tgt := 18) hx hb dL_law_973 (by decide) ?_
    refine lv_iload_n hx hb dL_law_18 rfl (lv_at hl 0 rfl) ?_
    refine lv_aload_n hx hb dL_law_19 rfl (lv_at hl 1 rfl) ?_
    refine va_slen hx hb hX hbl hbA hS dL_law_20 ?_
    refine lv_bipush (v := 6) hx hb dL_law_21 (by decide) ?_
    refine lv_isub hx hb dL_law_23 ?_
    refine lv_icmp_gt (tgt := 976) hx hb dL_law_24 (by decide) (fun _ => ?_) (fun z => absurd (by decide) z)
    exact ext _ _ _ _ ls hk hn hS
