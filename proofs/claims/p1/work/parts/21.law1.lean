set_option maxHeartbeats 4000000 in
set_option maxRecDepth 100000 in
theorem law_0 {p : Program} {l : Launch} {e : Env} {s : State} {m : MethodId} {below : List Frame} {meth : Method} {cd : Code} {b : Nat} {xs : Nat → Int32} {H : Heap} {locs : List Loc} {ls : Array Slot} {A : Nat → Prop} {D : va_G} {c : Nat → ClassId} {rx rm : Nat → Nat} (hx : p.tables.exec = Jvm.exec) (hb : cd.code = cL_law) (hr : meth.sig.returnType = ret) (hml : cd.maxLocals = 4) (hown : s.vm.findClass R_law = some m.cls) (hlocks : meth.locks = false) (hX : va_X b 8 xs s s.heap) (hbl : b < s.heap.size) (hbA : ¬ A b) (hAs : ∀ q, A q → s.heap.size ≤ q) (hts : ∀ w ∈ Wd, w.before #[Value.ref b] s = true) (hN : NW s) (hO : ∀ C ∈ aoL, va_AO C s) (hK : va_K D vwCl (TY c) s) (hA : ∀ q, s.heap.size ≤ q → A q) (hP : va_P D vwCl [((rx 0), .inr (11, fX rx 0 0)), ((rx 1), .inr (8, fTd rx)), ((rx 20), .inl (c 0, 500, .inl (fun _ => 0))), ((rx 21), .inl (c 0, 500, .inl (fun _ => 0))), ((rm 0), .inr (12, fM rm 0 0)), ((rm 3), .inl (c 0, 500, .inl (fun _ => 0))), ((rm 4), .inl (c 0, 500, .inl (fun _ => 0)))] H) (hD : va_D A [((rx 0), .inr (11, fX rx 0 0)), ((rx 1), .inr (8, fTd rx)), ((rx 20), .inl (c 0, 500, .inl (fun _ => 0))), ((rx 21), .inl (c 0, 500, .inl (fun _ => 0))), ((rm 0), .inr (12, fM rm 0 0)), ((rm 3), .inl (c 0, 500, .inl (fun _ => 0))), ((rm 4), .inl (c 0, 500, .inl (fun _ => 0)))]) (hS : va_S A s.heap H locs) (hl : lv_has ls 4 [(3, .int 0), (2, .ref (rm 0)), (1, .ref (rx 0)), (0, .ref b)]) : W p l e room_1 s m #[Value.ref b] below meth cd H locs 95 102698 (lw_Z below #[Value.ref b] s) (F0 m 188 ls []) := by
  refine lv_aload_n hx hb dL_law_188 rfl (lv_at hl 2 rfl) ?_
  refine lv_aload_n hx hb dL_law_189 rfl (lv_at hl 3 rfl) ?_
  refine lv_iload_n hx hb dL_law_190 rfl (lv_at hl 0 rfl) ?_
  refine lv_iconst (v := 1) hx hb dL_law_191 (by decide) ?_
  refine lv_iadd hx hb dL_law_192 ?_
  refine lv_topi (fun v1 e2 => ?_)
  obtain rfl : v1 = 1 := e2.trans (by decide)
  refine va_sld hx hb hX hbl hbA hS (vp_in_iff.mpr (by decide)) dL_law_193 ?_
  refine lv_aload_n hx hb dL_law_194 rfl (lv_at hl 3 rfl) ?_
  refine lv_iload_n hx hb dL_law_195 rfl (lv_at hl 0 rfl) ?_
  refine lv_iconst (v := 2) hx hb dL_law_196 (by decide) ?_
  refine lv_iadd hx hb dL_law_197 ?_
  refine lv_topi (fun v3 e4 => ?_)
  obtain rfl : v3 = 2 := e4.trans (by decide)
  refine va_sld hx hb hX hbl hbA hS (vp_in_iff.mpr (by decide)) dL_law_198 ?_
  have hPc := hP.sub (ws' := [((rx 0), .inr (11, fX rx 0 0)), ((rx 1), .inr (8, fTd rx)), ((rx 20), .inl (c 0, 500, .inl (fun _ => 0))), ((rx 21), .inl (c 0, 500, .inl (fun _ => 0)))]) [0, 1, 2, 3] rfl
  have hDc := hD.sub (ws' := [((rx 0), .inr (11, fX rx 0 0)), ((rx 1), .inr (8, fTd rx)), ((rx 20), .inl (c 0, 500, .inl (fun _ => 0))), ((rx 21), .inl (c 0, 500, .inl (fun _ => 0)))]) [0, 1, 2, 3] (by decide) rfl
  refine cl_i (wr := [((rm 0), .inr (12, fM rm 0 0)), ((rm 3), .inl (c 0, 500, .inl (fun _ => 0))), ((rm 4), .inl (c 0, 500, .inl (fun _ => 0)))]) (va_runV (As := [.int (xs (Int32.toNatClampNeg 1)), .int (xs (Int32.toNatClampNeg 2))]) (rest := []) ⟨hx, hb, hml, hown, hts⟩ (c_X11_turn l D c H.size rx ((xs (Int32.toNatClampNeg 1))) ((xs (Int32.toNatClampNeg 2)))) (kw_V 2 hts wd_318 wd_319 wd_320 wd_83 wd_321 rfl rfl (by decide +kernel) ⟨Nat.le_of_ble_eq_true rfl, Nat.le_of_ble_eq_true rfl⟩) (pre_V hPc hK hDc hN hO (ci := 11) (q0 := 0) rfl rfl) rfl rfl hl.1 rfl (lv_room (Nat.le_of_ble_eq_true rfl)) dL_law_199 ⟨Nat.le_of_ble_eq_true rfl, Nat.le_of_ble_eq_true rfl⟩) hP hD hS hA [0, 1, 2, 3] [4, 5, 6] rfl rfl (by decide) (by decide) (fun r5 u6 H locs h7 hP hD hS => ?_)
  have hP : va_P D vwCl [((rm 0), .inr (12, fM rm 0 0)), ((rm 3), .inl (c 0, 500, .inl (fun _ => 0))), ((rm 4), .inl (c 0, 500, .inl (fun _ => 0)))] H := hP
  have hD : va_D A [((rm 0), .inr (12, fM rm 0 0)), ((rm 3), .inl (c 0, 500, .inl (fun _ => 0))), ((rm 4), .inl (c 0, 500, .inl (fun _ => 0)))] := hD
  refine lv_aload_n hx hb dL_law_202 rfl (lv_at hl 1 rfl) ?_
  refine lv_aload_n hx hb dL_law_203 rfl (lv_at hl 3 rfl) ?_
  refine lv_iload_n hx hb dL_law_204 rfl (lv_at hl 0 rfl) ?_
  refine lv_iconst (v := 1) hx hb dL_law_205 (by decide) ?_
  refine lv_iadd hx hb dL_law_206 ?_
  refine lv_topi (fun v8 e9 => ?_)
  obtain rfl : v8 = 1 := e9.trans (by decide)
  refine va_sld hx hb hX hbl hbA hS (vp_in_iff.mpr (by decide)) dL_law_207 ?_
  refine lv_aload_n hx hb dL_law_208 rfl (lv_at hl 3 rfl) ?_
  refine lv_iload_n hx hb dL_law_209 rfl (lv_at hl 0 rfl) ?_
  refine lv_iconst (v := 2) hx hb dL_law_210 (by decide) ?_
  refine lv_iadd hx hb dL_law_211 ?_
  refine lv_topi (fun v10 e11 => ?_)
  obtain rfl : v10 = 2 := e11.trans (by decide)
  refine va_sld hx hb hX hbl hbA hS (vp_in_iff.mpr (by decide)) dL_law_212 ?_
  have hPc := hP.sub (ws' := [((rm 0), .inr (12, fM rm 0 0)), ((rm 3), .inl (c 0, 500, .inl (fun _ => 0))), ((rm 4), .inl (c 0, 500, .inl (fun _ => 0)))]) [0, 1, 2] rfl
  have hDc := hD.sub (ws' := [((rm 0), .inr (12, fM rm 0 0)), ((rm 3), .inl (c 0, 500, .inl (fun _ => 0))), ((rm 4), .inl (c 0, 500, .inl (fun _ => 0)))]) [0, 1, 2] (by decide) rfl
  refine cl_i (wr := []) (va_runV (As := [.int (xs (Int32.toNatClampNeg 1)), .int (xs (Int32.toNatClampNeg 2))]) (rest := [.int r5]) ⟨hx, hb, hml, hown, hts⟩ (c_X12_turn l D c H.size rm ((xs (Int32.toNatClampNeg 1))) ((xs (Int32.toNatClampNeg 2)))) (kw_V 2 hts wd_1399 wd_1400 wd_1401 wd_90 wd_1402 rfl rfl (by decide +kernel) ⟨Nat.le_of_ble_eq_true rfl, Nat.le_of_ble_eq_true rfl⟩) (pre_V hPc hK hDc hN hO (ci := 12) (q0 := 0) rfl rfl) rfl rfl hl.1 rfl (lv_room (Nat.le_of_ble_eq_true rfl)) dL_law_213 ⟨Nat.le_of_ble_eq_true rfl, Nat.le_of_ble_eq_true rfl⟩) hP hD hS hA [0, 1, 2] [] rfl rfl (by decide) (by decide) (fun r12 u13 H locs h14 hP hD hS => ?_)
  have hP : va_P D vwCl [] H := hP
  have hD : va_D A [] := hD
  refine lv_icmp_eq (tgt := 1533) hx hb dL_law_216 (by decide) (fun _ => ?_) (fun c => absurd (h7.trans h14.symm) c)
  exact law_fin hx hb hr hml hown hlocks hX hbl hbA hAs (Nat.le_of_ble_eq_true rfl) (Nat.le_of_ble_eq_true rfl) hS (lv_sub hl [0, 3] rfl)
set_option maxHeartbeats 4000000 in
set_option maxRecDepth 100000 in
theorem law_1 {p : Program} {l : Launch} {e : Env} {s : State} {m : MethodId} {below : List Frame} {meth : Method} {cd : Code} {b : Nat} {xs : Nat → Int32} {H : Heap} {locs : List Loc} {ls : Array Slot} {A : Nat → Prop} {D : va_G} {c : Nat → ClassId} {rx rm : Nat → Nat} (hx : p.tables.exec = Jvm.exec) (hb : cd.code = cL_law) (hr : meth.sig.returnType = ret) (hml : cd.maxLocals = 4) (hown : s.vm.findClass R_law = some m.cls) (hlocks : meth.locks = false) (hX : va_X b 8 xs s s.heap) (hbl : b < s.heap.size) (hbA : ¬ A b) (hAs : ∀ q, A q → s.heap.size ≤ q) (hts : ∀ w ∈ Wd, w.before #[Value.ref b] s = true) (hN : NW s) (hO : ∀ C ∈ aoL, va_AO C s) (hK : va_K D vwCl (TY c) s) (hA : ∀ q, s.heap.size ≤ q → A q) (hP : va_P D vwCl [((rx 0), .inr (11, fX rx 0 0)), ((rx 1), .inr (8, fTd rx)), ((rm 0), .inr (12, fM rm 0 0))] H) (hD : va_D A [((rx 0), .inr (11, fX rx 0 0)), ((rx 1), .inr (8, fTd rx)), ((rm 0), .inr (12, fM rm 0 0))]) (hS : va_S A s.heap H locs) (hl : lv_has ls 4 [(3, .int 0), (2, .ref (rm 0)), (1, .ref (rx 0)), (0, .ref b)]) : W p l e room_1 s m #[Value.ref b] below meth cd H locs 95 102698 (lw_Z below #[Value.ref b] s) (F0 m 221 ls []) := by
  refine lv_aload_n hx hb dL_law_221 rfl (lv_at hl 2 rfl) ?_
  refine lv_aload_n hx hb dL_law_222 rfl (lv_at hl 3 rfl) ?_
  refine lv_iload_n hx hb dL_law_223 rfl (lv_at hl 0 rfl) ?_
  refine lv_iconst (v := 1) hx hb dL_law_224 (by decide) ?_
  refine lv_iadd hx hb dL_law_225 ?_
  refine lv_topi (fun v1 e2 => ?_)
  obtain rfl : v1 = 1 := e2.trans (by decide)
  refine va_sld hx hb hX hbl hbA hS (vp_in_iff.mpr (by decide)) dL_law_226 ?_
  have hPc := hP.sub (ws' := [((rx 0), .inr (11, fX rx 0 0)), ((rx 1), .inr (8, fTd rx))]) [0, 1] rfl
  have hDc := hD.sub (ws' := [((rx 0), .inr (11, fX rx 0 0)), ((rx 1), .inr (8, fTd rx))]) [0, 1] (by decide) rfl
  refine cl_i (wr := [((rm 0), .inr (12, fM rm 0 0))]) (va_runV (As := [.int (xs (Int32.toNatClampNeg 1))]) (rest := []) ⟨hx, hb, hml, hown, hts⟩ (c_X11_sea l D c H.size rx ((xs (Int32.toNatClampNeg 1)))) (kw_V 1 hts wd_343 wd_344 wd_345 wd_83 wd_346 rfl rfl (by decide +kernel) ⟨Nat.le_of_ble_eq_true rfl, Nat.le_of_ble_eq_true rfl⟩) (pre_V hPc hK hDc hN hO (ci := 11) (q0 := 0) rfl rfl) rfl rfl hl.1 rfl (lv_room (Nat.le_of_ble_eq_true rfl)) dL_law_227 ⟨Nat.le_of_ble_eq_true rfl, Nat.le_of_ble_eq_true rfl⟩) hP hD hS hA [0, 1] [2] rfl rfl (by decide) (by decide) (fun r3 u4 H locs h5 hP hD hS => ?_)
  have hP : va_P D vwCl [((rm 0), .inr (12, fM rm 0 0))] H := hP
  have hD : va_D A [((rm 0), .inr (12, fM rm 0 0))] := hD
  refine lv_aload_n hx hb dL_law_230 rfl (lv_at hl 1 rfl) ?_
  refine lv_aload_n hx hb dL_law_231 rfl (lv_at hl 3 rfl) ?_
  refine lv_iload_n hx hb dL_law_232 rfl (lv_at hl 0 rfl) ?_
  refine lv_iconst (v := 1) hx hb dL_law_233 (by decide) ?_
  refine lv_iadd hx hb dL_law_234 ?_
  refine lv_topi (fun v6 e7 => ?_)
  obtain rfl : v6 = 1 := e7.trans (by decide)
  refine va_sld hx hb hX hbl hbA hS (vp_in_iff.mpr (by decide)) dL_law_235 ?_
  have hPc := hP.sub (ws' := [((rm 0), .inr (12, fM rm 0 0))]) [0] rfl
  have hDc := hD.sub (ws' := [((rm 0), .inr (12, fM rm 0 0))]) [0] (by decide) rfl
  refine cl_i (wr := []) (va_runV (As := [.int (xs (Int32.toNatClampNeg 1))]) (rest := [.int r3]) ⟨hx, hb, hml, hown, hts⟩ (c_X12_sea l D c H.size rm ((xs (Int32.toNatClampNeg 1)))) (kw_V 1 hts wd_1410 wd_1411 wd_1412 wd_90 wd_1413 rfl rfl (by decide +kernel) ⟨Nat.le_of_ble_eq_true rfl, Nat.le_of_ble_eq_true rfl⟩) (pre_V hPc hK hDc hN hO (ci := 12) (q0 := 0) rfl rfl) rfl rfl hl.1 rfl (lv_room (Nat.le_of_ble_eq_true rfl)) dL_law_236 ⟨Nat.le_of_ble_eq_true rfl, Nat.le_of_ble_eq_true rfl⟩) hP hD hS hA [0] [] rfl rfl (by decide) (by decide) (fun r8 u9 H locs h10 hP hD hS => ?_)
  have hP : va_P D vwCl [] H := hP
  have hD : va_D A [] := hD
  refine lv_icmp_eq (tgt := 1533) hx hb dL_law_239 (by decide) (fun _ => ?_) (fun c => absurd (h5.trans h10.symm) c)
  exact law_fin hx hb hr hml hown hlocks hX hbl hbA hAs (Nat.le_of_ble_eq_true rfl) (Nat.le_of_ble_eq_true rfl) hS (lv_sub hl [0, 3] rfl)
set_option maxHeartbeats 4000000 in
set_option maxRecDepth 100000 in
theorem law_2 {p : Program} {l : Launch} {e : Env} {s : State} {m : MethodId} {below : List Frame} {meth : Method} {cd : Code} {b : Nat} {xs : Nat → Int32} {H : Heap} {locs : List Loc} {ls : Array Slot} {A : Nat → Prop} {D : va_G} {c : Nat → ClassId} {rx rm : Nat → Nat} (hx : p.tables.exec = Jvm.exec) (hb : cd.code = cL_law) (hr : meth.sig.returnType = ret) (hml : cd.maxLocals = 4) (hown : s.vm.findClass R_law = some m.cls) (hlocks : meth.locks = false) (hX : va_X b 8 xs s s.heap) (hbl : b < s.heap.size) (hbA : ¬ A b) (hAs : ∀ q, A q → s.heap.size ≤ q) (hts : ∀ w ∈ Wd, w.before #[Value.ref b] s = true) (hN : NW s) (hO : ∀ C ∈ aoL, va_AO C s) (hK : va_K D vwCl (TY c) s) (hA : ∀ q, s.heap.size ≤ q → A q) (hP : va_P D vwCl [((rx 0), .inr (11, fX rx 0 0)), ((rx 2), .inr (10, fWv rx)), ((rx 22), .inl (c 0, 2400, .inl (fun _ => 0))), ((rx 23), .inl (c 0, 1500, .inl (fun _ => 0))), ((rx 24), .inl (c 0, 1500, .inl (fun _ => 0))), ((rx 25), .inl (c 0, 1500, .inl (fun _ => 0))), ((rm 0), .inr (12, fM rm 0 0)), ((rm 6), .inl (c 0, 1500, .inl (fun _ => 0))), ((rm 7), .inl (c 0, 1500, .inl (fun _ => 0))), ((rm 8), .inl (c 0, 1500, .inl (fun _ => 0)))] H) (hD : va_D A [((rx 0), .inr (11, fX rx 0 0)), ((rx 2), .inr (10, fWv rx)), ((rx 22), .inl (c 0, 2400, .inl (fun _ => 0))), ((rx 23), .inl (c 0, 1500, .inl (fun _ => 0))), ((rx 24), .inl (c 0, 1500, .inl (fun _ => 0))), ((rx 25), .inl (c 0, 1500, .inl (fun _ => 0))), ((rm 0), .inr (12, fM rm 0 0)), ((rm 6), .inl (c 0, 1500, .inl (fun _ => 0))), ((rm 7), .inl (c 0, 1500, .inl (fun _ => 0))), ((rm 8), .inl (c 0, 1500, .inl (fun _ => 0)))]) (hS : va_S A s.heap H locs) (hl : lv_has ls 4 [(3, .int 0), (2, .ref (rm 0)), (1, .ref (rx 0)), (0, .ref b)]) : W p l e room_1 s m #[Value.ref b] below meth cd H locs 95 102698 (lw_Z below #[Value.ref b] s) (F0 m 244 ls []) := by
  refine lv_aload_n hx hb dL_law_244 rfl (lv_at hl 2 rfl) ?_
  refine lv_aload_n hx hb dL_law_245 rfl (lv_at hl 3 rfl) ?_
  refine lv_iload_n hx hb dL_law_246 rfl (lv_at hl 0 rfl) ?_
  refine lv_iconst (v := 1) hx hb dL_law_247 (by decide) ?_
  refine lv_iadd hx hb dL_law_248 ?_
  refine lv_topi (fun v1 e2 => ?_)
  obtain rfl : v1 = 1 := e2.trans (by decide)
  refine va_sld hx hb hX hbl hbA hS (vp_in_iff.mpr (by decide)) dL_law_249 ?_
  refine lv_aload_n hx hb dL_law_250 rfl (lv_at hl 3 rfl) ?_
  refine lv_iload_n hx hb dL_law_251 rfl (lv_at hl 0 rfl) ?_
  refine lv_iconst (v := 2) hx hb dL_law_252 (by decide) ?_
  refine lv_iadd hx hb dL_law_253 ?_
  refine lv_topi (fun v3 e4 => ?_)
  obtain rfl : v3 = 2 := e4.trans (by decide)
  refine va_sld hx hb hX hbl hbA hS (vp_in_iff.mpr (by decide)) dL_law_254 ?_
  have hPc := hP.sub (ws' := [((rx 0), .inr (11, fX rx 0 0)), ((rx 2), .inr (10, fWv rx)), ((rx 22), .inl (c 0, 2400, .inl (fun _ => 0))), ((rx 23), .inl (c 0, 1500, .inl (fun _ => 0))), ((rx 24), .inl (c 0, 1500, .inl (fun _ => 0))), ((rx 25), .inl (c 0, 1500, .inl (fun _ => 0)))]) [0, 1, 2, 3, 4, 5] rfl
  have hDc := hD.sub (ws' := [((rx 0), .inr (11, fX rx 0 0)), ((rx 2), .inr (10, fWv rx)), ((rx 22), .inl (c 0, 2400, .inl (fun _ => 0))), ((rx 23), .inl (c 0, 1500, .inl (fun _ => 0))), ((rx 24), .inl (c 0, 1500, .inl (fun _ => 0))), ((rx 25), .inl (c 0, 1500, .inl (fun _ => 0)))]) [0, 1, 2, 3, 4, 5] (by decide) rfl
  refine cl_i (wr := [((rm 0), .inr (12, fM rm 0 0)), ((rm 6), .inl (c 0, 1500, .inl (fun _ => 0))), ((rm 7), .inl (c 0, 1500, .inl (fun _ => 0))), ((rm 8), .inl (c 0, 1500, .inl (fun _ => 0)))]) (va_runV (As := [.int (xs (Int32.toNatClampNeg 1)), .int (xs (Int32.toNatClampNeg 2))]) (rest := []) ⟨hx, hb, hml, hown, hts⟩ (c_X11_wave l D c H.size rx ((xs (Int32.toNatClampNeg 1))) ((xs (Int32.toNatClampNeg 2)))) (kw_V 2 hts wd_361 wd_362 wd_363 wd_83 wd_364 rfl rfl (by decide +kernel) ⟨Nat.le_of_ble_eq_true rfl, Nat.le_of_ble_eq_true rfl⟩) (pre_V hPc hK hDc hN hO (ci := 11) (q0 := 0) rfl rfl) rfl rfl hl.1 rfl (lv_room (Nat.le_of_ble_eq_true rfl)) dL_law_255 ⟨Nat.le_of_ble_eq_true rfl, Nat.le_of_ble_eq_true rfl⟩) hP hD hS hA [0, 1, 2, 3, 4, 5] [6, 7, 8, 9] rfl rfl (by decide) (by decide) (fun r5 u6 H locs h7 hP hD hS => ?_)
  have hP : va_P D vwCl [((rm 0), .inr (12, fM rm 0 0)), ((rm 6), .inl (c 0, 1500, .inl (fun _ => 0))), ((rm 7), .inl (c 0, 1500, .inl (fun _ => 0))), ((rm 8), .inl (c 0, 1500, .inl (fun _ => 0)))] H := hP
  have hD : va_D A [((rm 0), .inr (12, fM rm 0 0)), ((rm 6), .inl (c 0, 1500, .inl (fun _ => 0))), ((rm 7), .inl (c 0, 1500, .inl (fun _ => 0))), ((rm 8), .inl (c 0, 1500, .inl (fun _ => 0)))] := hD
  refine lv_aload_n hx hb dL_law_258 rfl (lv_at hl 1 rfl) ?_
  refine lv_aload_n hx hb dL_law_259 rfl (lv_at hl 3 rfl) ?_
  refine lv_iload_n hx hb dL_law_260 rfl (lv_at hl 0 rfl) ?_
  refine lv_iconst (v := 1) hx hb dL_law_261 (by decide) ?_
  refine lv_iadd hx hb dL_law_262 ?_
  refine lv_topi (fun v8 e9 => ?_)
  obtain rfl : v8 = 1 := e9.trans (by decide)
  refine va_sld hx hb hX hbl hbA hS (vp_in_iff.mpr (by decide)) dL_law_263 ?_
  refine lv_aload_n hx hb dL_law_264 rfl (lv_at hl 3 rfl) ?_
  refine lv_iload_n hx hb dL_law_265 rfl (lv_at hl 0 rfl) ?_
  refine lv_iconst (v := 2) hx hb dL_law_266 (by decide) ?_
  refine lv_iadd hx hb dL_law_267 ?_
  refine lv_topi (fun v10 e11 => ?_)
  obtain rfl : v10 = 2 := e11.trans (by decide)
  refine va_sld hx hb hX hbl hbA hS (vp_in_iff.mpr (by decide)) dL_law_268 ?_
  have hPc := hP.sub (ws' := [((rm 0), .inr (12, fM rm 0 0)), ((rm 6), .inl (c 0, 1500, .inl (fun _ => 0))), ((rm 7), .inl (c 0, 1500, .inl (fun _ => 0))), ((rm 8), .inl (c 0, 1500, .inl (fun _ => 0)))]) [0, 1, 2, 3] rfl
  have hDc := hD.sub (ws' := [((rm 0), .inr (12, fM rm 0 0)), ((rm 6), .inl (c 0, 1500, .inl (fun _ => 0))), ((rm 7), .inl (c 0, 1500, .inl (fun _ => 0))), ((rm 8), .inl (c 0, 1500, .inl (fun _ => 0)))]) [0, 1, 2, 3] (by decide) rfl
  refine cl_i (wr := []) (va_runV (As := [.int (xs (Int32.toNatClampNeg 1)), .int (xs (Int32.toNatClampNeg 2))]) (rest := [.int r5]) ⟨hx, hb, hml, hown, hts⟩ (c_X12_wave l D c H.size rm ((xs (Int32.toNatClampNeg 1))) ((xs (Int32.toNatClampNeg 2)))) (kw_V 2 hts wd_1418 wd_1419 wd_1420 wd_90 wd_1421 rfl rfl (by decide +kernel) ⟨Nat.le_of_ble_eq_true rfl, Nat.le_of_ble_eq_true rfl⟩) (pre_V hPc hK hDc hN hO (ci := 12) (q0 := 0) rfl rfl) rfl rfl hl.1 rfl (lv_room (Nat.le_of_ble_eq_true rfl)) dL_law_269 ⟨Nat.le_of_ble_eq_true rfl, Nat.le_of_ble_eq_true rfl⟩) hP hD hS hA [0, 1, 2, 3] [] rfl rfl (by decide) (by decide) (fun r12 u13 H locs h14 hP hD hS => ?_)
  have hP : va_P D vwCl [] H := hP
  have hD : va_D A [] := hD
  refine lv_icmp_eq (tgt := 1533) hx hb dL_law_272 (by decide) (fun _ => ?_) (fun c => absurd (h7.trans h14.symm) c)
  exact law_fin hx hb hr hml hown hlocks hX hbl hbA hAs (Nat.le_of_ble_eq_true rfl) (Nat.le_of_ble_eq_true rfl) hS (lv_sub hl [0, 3] rfl)
set_option maxHeartbeats 4000000 in
set_option maxRecDepth 100000 in
theorem law_3 {p : Program} {l : Launch} {e : Env} {s : State} {m : MethodId} {below : List Frame} {meth : Method} {cd : Code} {b : Nat} {xs : Nat → Int32} {H : Heap} {locs : List Loc} {ls : Array Slot} {A : Nat → Prop} {D : va_G} {c : Nat → ClassId} {rx rm : Nat → Nat} (hx : p.tables.exec = Jvm.exec) (hb : cd.code = cL_law) (hr : meth.sig.returnType = ret) (hml : cd.maxLocals = 4) (hown : s.vm.findClass R_law = some m.cls) (hlocks : meth.locks = false) (hX : va_X b 8 xs s s.heap) (hbl : b < s.heap.size) (hbA : ¬ A b) (hAs : ∀ q, A q → s.heap.size ≤ q) (hts : ∀ w ∈ Wd, w.before #[Value.ref b] s = true) (hN : NW s) (hO : ∀ C ∈ aoL, va_AO C s) (hK : va_K D vwCl (TY c) s) (hA : ∀ q, s.heap.size ≤ q → A q) (hP : va_P D vwCl [((rx 0), .inr (11, fX rx 0 0)), ((rx 2), .inr (10, fWv rx)), ((rx 22), .inl (c 0, 2400, .inl (fun _ => 0))), ((rm 0), .inr (12, fM rm 0 0)), ((rm 9), .inl (c 0, 3, .inl (setF)))] H) (hD : va_D A [((rx 0), .inr (11, fX rx 0 0)), ((rx 2), .inr (10, fWv rx)), ((rx 22), .inl (c 0, 2400, .inl (fun _ => 0))), ((rm 0), .inr (12, fM rm 0 0)), ((rm 9), .inl (c 0, 3, .inl (setF)))]) (hS : va_S A s.heap H locs) (hl : lv_has ls 4 [(3, .int 0), (2, .ref (rm 0)), (1, .ref (rx 0)), (0, .ref b)]) : W p l e room_1 s m #[Value.ref b] below meth cd H locs 95 102698 (lw_Z below #[Value.ref b] s) (F0 m 277 ls []) := by
  refine lv_aload_n hx hb dL_law_277 rfl (lv_at hl 2 rfl) ?_
  refine lv_aload_n hx hb dL_law_278 rfl (lv_at hl 3 rfl) ?_
  refine lv_iload_n hx hb dL_law_279 rfl (lv_at hl 0 rfl) ?_
  refine lv_iconst (v := 1) hx hb dL_law_280 (by decide) ?_
  refine lv_iadd hx hb dL_law_281 ?_
  refine lv_topi (fun v1 e2 => ?_)
  obtain rfl : v1 = 1 := e2.trans (by decide)
  refine va_sld hx hb hX hbl hbA hS (vp_in_iff.mpr (by decide)) dL_law_282 ?_
  refine lv_aload_n hx hb dL_law_283 rfl (lv_at hl 3 rfl) ?_
  refine lv_iload_n hx hb dL_law_284 rfl (lv_at hl 0 rfl) ?_
  refine lv_iconst (v := 2) hx hb dL_law_285 (by decide) ?_
  refine lv_iadd hx hb dL_law_286 ?_
  refine lv_topi (fun v3 e4 => ?_)
  obtain rfl : v3 = 2 := e4.trans (by decide)
  refine va_sld hx hb hX hbl hbA hS (vp_in_iff.mpr (by decide)) dL_law_287 ?_
  have hPc := hP.sub (ws' := [((rx 0), .inr (11, fX rx 0 0)), ((rx 2), .inr (10, fWv rx)), ((rx 22), .inl (c 0, 2400, .inl (fun _ => 0)))]) [0, 1, 2] rfl
  have hDc := hD.sub (ws' := [((rx 0), .inr (11, fX rx 0 0)), ((rx 2), .inr (10, fWv rx)), ((rx 22), .inl (c 0, 2400, .inl (fun _ => 0)))]) [0, 1, 2] (by decide) rfl
  refine cl_i (wr := [((rm 0), .inr (12, fM rm 0 0)), ((rm 9), .inl (c 0, 3, .inl (setF)))]) (va_runV (As := [.int (xs (Int32.toNatClampNeg 1)), .int (xs (Int32.toNatClampNeg 2))]) (rest := []) ⟨hx, hb, hml, hown, hts⟩ (c_X11_waved l D c H.size rx ((xs (Int32.toNatClampNeg 1))) ((xs (Int32.toNatClampNeg 2)))) (kw_V 2 hts wd_378 wd_379 wd_380 wd_83 wd_381 rfl rfl (by decide +kernel) ⟨Nat.le_of_ble_eq_true rfl, Nat.le_of_ble_eq_true rfl⟩) (pre_V hPc hK hDc hN hO (ci := 11) (q0 := 0) rfl rfl) rfl rfl hl.1 rfl (lv_room (Nat.le_of_ble_eq_true rfl)) dL_law_288 ⟨Nat.le_of_ble_eq_true rfl, Nat.le_of_ble_eq_true rfl⟩) hP hD hS hA [0, 1, 2] [3, 4] rfl rfl (by decide) (by decide) (fun r5 u6 H locs h7 hP hD hS => ?_)
  have hP : va_P D vwCl [((rm 0), .inr (12, fM rm 0 0)), ((rm 9), .inl (c 0, 3, .inl (setF)))] H := hP
  have hD : va_D A [((rm 0), .inr (12, fM rm 0 0)), ((rm 9), .inl (c 0, 3, .inl (setF)))] := hD
  refine lv_aload_n hx hb dL_law_291 rfl (lv_at hl 1 rfl) ?_
  refine lv_aload_n hx hb dL_law_292 rfl (lv_at hl 3 rfl) ?_
  refine lv_iload_n hx hb dL_law_293 rfl (lv_at hl 0 rfl) ?_
  refine lv_iconst (v := 1) hx hb dL_law_294 (by decide) ?_
  refine lv_iadd hx hb dL_law_295 ?_
  refine lv_topi (fun v8 e9 => ?_)
  obtain rfl : v8 = 1 := e9.trans (by decide)
  refine va_sld hx hb hX hbl hbA hS (vp_in_iff.mpr (by decide)) dL_law_296 ?_
  refine lv_aload_n hx hb dL_law_297 rfl (lv_at hl 3 rfl) ?_
  refine lv_iload_n hx hb dL_law_298 rfl (lv_at hl 0 rfl) ?_
  refine lv_iconst (v := 2) hx hb dL_law_299 (by decide) ?_
  refine lv_iadd hx hb dL_law_300 ?_
  refine lv_topi (fun v10 e11 => ?_)
  obtain rfl : v10 = 2 := e11.trans (by decide)
  refine va_sld hx hb hX hbl hbA hS (vp_in_iff.mpr (by decide)) dL_law_301 ?_
  have hPc := hP.sub (ws' := [((rm 0), .inr (12, fM rm 0 0)), ((rm 9), .inl (c 0, 3, .inl (setF)))]) [0, 1] rfl
  have hDc := hD.sub (ws' := [((rm 0), .inr (12, fM rm 0 0)), ((rm 9), .inl (c 0, 3, .inl (setF)))]) [0, 1] (by decide) rfl
  refine cl_i (wr := []) (va_runV (As := [.int (xs (Int32.toNatClampNeg 1)), .int (xs (Int32.toNatClampNeg 2))]) (rest := [.int r5]) ⟨hx, hb, hml, hown, hts⟩ (c_X12_waved l D c H.size rm ((xs (Int32.toNatClampNeg 1))) ((xs (Int32.toNatClampNeg 2)))) (kw_V 2 hts wd_1425 wd_1426 wd_1427 wd_90 wd_1428 rfl rfl (by decide +kernel) ⟨Nat.le_of_ble_eq_true rfl, Nat.le_of_ble_eq_true rfl⟩) (pre_V hPc hK hDc hN hO (ci := 12) (q0 := 0) rfl rfl) rfl rfl hl.1 rfl (lv_room (Nat.le_of_ble_eq_true rfl)) dL_law_302 ⟨Nat.le_of_ble_eq_true rfl, Nat.le_of_ble_eq_true rfl⟩) hP hD hS hA [0, 1] [] rfl rfl (by decide) (by decide) (fun r12 u13 H locs h14 hP hD hS => ?_)
  have hP : va_P D vwCl [] H := hP
  have hD : va_D A [] := hD
  refine lv_icmp_eq (tgt := 1533) hx hb dL_law_305 (by decide) (fun _ => ?_) (fun c => absurd (h7.trans h14.symm) c)
  exact law_fin hx hb hr hml hown hlocks hX hbl hbA hAs (Nat.le_of_ble_eq_true rfl) (Nat.le_of_ble_eq_true rfl) hS (lv_sub hl [0, 3] rfl)
set_option maxHeartbeats 4000000 in
set_option maxRecDepth 100000 in
theorem law_4 {p : Program} {l : Launch} {e : Env} {s : State} {m : MethodId} {below : List Frame} {meth : Method} {cd : Code} {b : Nat} {xs : Nat → Int32} {H : Heap} {locs : List Loc} {ls : Array Slot} {A : Nat → Prop} {D : va_G} {c : Nat → ClassId} {rx rm : Nat → Nat} (hx : p.tables.exec = Jvm.exec) (hb : cd.code = cL_law) (hr : meth.sig.returnType = ret) (hml : cd.maxLocals = 4) (hown : s.vm.findClass R_law = some m.cls) (hlocks : meth.locks = false) (hX : va_X b 8 xs s s.heap) (hbl : b < s.heap.size) (hbA : ¬ A b) (hAs : ∀ q, A q → s.heap.size ≤ q) (hts : ∀ w ∈ Wd, w.before #[Value.ref b] s = true) (hN : NW s) (hO : ∀ C ∈ aoL, va_AO C s) (hK : va_K D vwCl (TY c) s) (hA : ∀ q, s.heap.size ≤ q → A q) (hP : va_P D vwCl [((rx 0), .inr (11, fX rx 0 0)), ((rx 2), .inr (10, fWv rx)), ((rm 0), .inr (12, fM rm 0 0)), ((rm 9), .inl (c 0, 3, .inl (setF)))] H) (hD : va_D A [((rx 0), .inr (11, fX rx 0 0)), ((rx 2), .inr (10, fWv rx)), ((rm 0), .inr (12, fM rm 0 0)), ((rm 9), .inl (c 0, 3, .inl (setF)))]) (hS : va_S A s.heap H locs) (hl : lv_has ls 4 [(3, .int 0), (2, .ref (rm 0)), (1, .ref (rx 0)), (0, .ref b)]) : W p l e room_1 s m #[Value.ref b] below meth cd H locs 95 102698 (lw_Z below #[Value.ref b] s) (F0 m 310 ls []) := by
  refine lv_aload_n hx hb dL_law_310 rfl (lv_at hl 2 rfl) ?_
  refine lv_aload_n hx hb dL_law_311 rfl (lv_at hl 3 rfl) ?_
  refine lv_iload_n hx hb dL_law_312 rfl (lv_at hl 0 rfl) ?_
  refine lv_iconst (v := 1) hx hb dL_law_313 (by decide) ?_
  refine lv_iadd hx hb dL_law_314 ?_
  refine lv_topi (fun v1 e2 => ?_)
  obtain rfl : v1 = 1 := e2.trans (by decide)
  refine va_sld hx hb hX hbl hbA hS (vp_in_iff.mpr (by decide)) dL_law_315 ?_
  refine lv_aload_n hx hb dL_law_316 rfl (lv_at hl 3 rfl) ?_
  refine lv_iload_n hx hb dL_law_317 rfl (lv_at hl 0 rfl) ?_
  refine lv_iconst (v := 2) hx hb dL_law_318 (by decide) ?_
  refine lv_iadd hx hb dL_law_319 ?_
  refine lv_topi (fun v3 e4 => ?_)
  obtain rfl : v3 = 2 := e4.trans (by decide)
  refine va_sld hx hb hX hbl hbA hS (vp_in_iff.mpr (by decide)) dL_law_320 ?_
  have hPc := hP.sub (ws' := [((rx 0), .inr (11, fX rx 0 0)), ((rx 2), .inr (10, fWv rx))]) [0, 1] rfl
  have hDc := hD.sub (ws' := [((rx 0), .inr (11, fX rx 0 0)), ((rx 2), .inr (10, fWv rx))]) [0, 1] (by decide) rfl
  refine cl_i (wr := [((rm 0), .inr (12, fM rm 0 0)), ((rm 9), .inl (c 0, 3, .inl (setF)))]) (va_runV (As := [.int (xs (Int32.toNatClampNeg 1)), .int (xs (Int32.toNatClampNeg 2))]) (rest := []) ⟨hx, hb, hml, hown, hts⟩ (c_X11_set l D c H.size rx ((xs (Int32.toNatClampNeg 1))) ((xs (Int32.toNatClampNeg 2)))) (kw_V 2 hts wd_386 wd_387 wd_388 wd_83 wd_389 rfl rfl (by decide +kernel) ⟨Nat.le_of_ble_eq_true rfl, Nat.le_of_ble_eq_true rfl⟩) (pre_V hPc hK hDc hN hO (ci := 11) (q0 := 0) rfl rfl) rfl rfl hl.1 rfl (lv_room (Nat.le_of_ble_eq_true rfl)) dL_law_321 ⟨Nat.le_of_ble_eq_true rfl, Nat.le_of_ble_eq_true rfl⟩) hP hD hS hA [0, 1] [2, 3] rfl rfl (by decide) (by decide) (fun r5 u6 H locs h7 hP hD hS => ?_)
  have hP : va_P D vwCl [((rm 0), .inr (12, fM rm 0 0)), ((rm 9), .inl (c 0, 3, .inl (setF)))] H := hP
  have hD : va_D A [((rm 0), .inr (12, fM rm 0 0)), ((rm 9), .inl (c 0, 3, .inl (setF)))] := hD
  refine lv_aload_n hx hb dL_law_324 rfl (lv_at hl 1 rfl) ?_
  refine lv_aload_n hx hb dL_law_325 rfl (lv_at hl 3 rfl) ?_
  refine lv_iload_n hx hb dL_law_326 rfl (lv_at hl 0 rfl) ?_
  refine lv_iconst (v := 1) hx hb dL_law_327 (by decide) ?_
  refine lv_iadd hx hb dL_law_328 ?_
  refine lv_topi (fun v8 e9 => ?_)
  obtain rfl : v8 = 1 := e9.trans (by decide)
  refine va_sld hx hb hX hbl hbA hS (vp_in_iff.mpr (by decide)) dL_law_329 ?_
  refine lv_aload_n hx hb dL_law_330 rfl (lv_at hl 3 rfl) ?_
  refine lv_iload_n hx hb dL_law_331 rfl (lv_at hl 0 rfl) ?_
  refine lv_iconst (v := 2) hx hb dL_law_332 (by decide) ?_
  refine lv_iadd hx hb dL_law_333 ?_
  refine lv_topi (fun v10 e11 => ?_)
  obtain rfl : v10 = 2 := e11.trans (by decide)
  refine va_sld hx hb hX hbl hbA hS (vp_in_iff.mpr (by decide)) dL_law_334 ?_
  have hPc := hP.sub (ws' := [((rm 0), .inr (12, fM rm 0 0)), ((rm 9), .inl (c 0, 3, .inl (setF)))]) [0, 1] rfl
  have hDc := hD.sub (ws' := [((rm 0), .inr (12, fM rm 0 0)), ((rm 9), .inl (c 0, 3, .inl (setF)))]) [0, 1] (by decide) rfl
  refine cl_i (wr := []) (va_runV (As := [.int (xs (Int32.toNatClampNeg 1)), .int (xs (Int32.toNatClampNeg 2))]) (rest := [.int r5]) ⟨hx, hb, hml, hown, hts⟩ (c_X12_set l D c H.size rm ((xs (Int32.toNatClampNeg 1))) ((xs (Int32.toNatClampNeg 2)))) (kw_V 2 hts wd_1433 wd_1434 wd_1435 wd_90 wd_1436 rfl rfl (by decide +kernel) ⟨Nat.le_of_ble_eq_true rfl, Nat.le_of_ble_eq_true rfl⟩) (pre_V hPc hK hDc hN hO (ci := 12) (q0 := 0) rfl rfl) rfl rfl hl.1 rfl (lv_room (Nat.le_of_ble_eq_true rfl)) dL_law_335 ⟨Nat.le_of_ble_eq_true rfl, Nat.le_of_ble_eq_true rfl⟩) hP hD hS hA [0, 1] [] rfl rfl (by decide) (by decide) (fun r12 u13 H locs h14 hP hD hS => ?_)
  have hP : va_P D vwCl [] H := hP
  have hD : va_D A [] := hD
  refine lv_icmp_eq (tgt := 1533) hx hb dL_law_338 (by decide) (fun _ => ?_) (fun c => absurd (h7.trans h14.symm) c)
  exact law_fin hx hb hr hml hown hlocks hX hbl hbA hAs (Nat.le_of_ble_eq_true rfl) (Nat.le_of_ble_eq_true rfl) hS (lv_sub hl [0, 3] rfl)
set_option maxHeartbeats 4000000 in
set_option maxRecDepth 100000 in
theorem law_5 {p : Program} {l : Launch} {e : Env} {s : State} {m : MethodId} {below : List Frame} {meth : Method} {cd : Code} {b : Nat} {xs : Nat → Int32} {H : Heap} {locs : List Loc} {ls : Array Slot} {A : Nat → Prop} {D : va_G} {c : Nat → ClassId} {rx rm : Nat → Nat} (hx : p.tables.exec = Jvm.exec) (hb : cd.code = cL_law) (hr : meth.sig.returnType = ret) (hml : cd.maxLocals = 4) (hown : s.vm.findClass R_law = some m.cls) (hlocks : meth.locks = false) (hX : va_X b 8 xs s s.heap) (hbl : b < s.heap.size) (hbA : ¬ A b) (hAs : ∀ q, A q → s.heap.size ≤ q) (hts : ∀ w ∈ Wd, w.before #[Value.ref b] s = true) (hN : NW s) (hO : ∀ C ∈ aoL, va_AO C s) (hK : va_K D vwCl (TY c) s) (hA : ∀ q, s.heap.size ≤ q → A q) (hP : va_P D vwCl [((rx 0), .inr (11, fX rx 0 0)), ((rx 3), .inl (c 4, 11, .inr (.inr (.inr (.inr (fun _ => none)))))), ((rm 0), .inr (12, fM rm 0 0)), ((rm 12), .inl (c 0, 11, .inl (fun _ => 0))), ((rm 13), .inl (c 0, 11, .inl (fun _ => 0))), ((rm 14), .inl (c 0, 11, .inl (fun _ => 0))), ((rm 15), .inl (c 0, 11, .inl (fun _ => 0))), ((rm 16), .inl (c 0, 11, .inl (fun _ => 0))), ((rm 17), .inl (c 0, 11, .inl (fun _ => 0))), ((rm 22), .inl (c 0, 11, .inl (fun _ => 0))), ((rm 26), .inl (c 0, 11, .inl (fun _ => 0)))] H) (hD : va_D A [((rx 0), .inr (11, fX rx 0 0)), ((rx 3), .inl (c 4, 11, .inr (.inr (.inr (.inr (fun _ => none)))))), ((rm 0), .inr (12, fM rm 0 0)), ((rm 12), .inl (c 0, 11, .inl (fun _ => 0))), ((rm 13), .inl (c 0, 11, .inl (fun _ => 0))), ((rm 14), .inl (c 0, 11, .inl (fun _ => 0))), ((rm 15), .inl (c 0, 11, .inl (fun _ => 0))), ((rm 16), .inl (c 0, 11, .inl (fun _ => 0))), ((rm 17), .inl (c 0, 11, .inl (fun _ => 0))), ((rm 22), .inl (c 0, 11, .inl (fun _ => 0))), ((rm 26), .inl (c 0, 11, .inl (fun _ => 0)))]) (hS : va_S A s.heap H locs) (hl : lv_has ls 4 [(3, .int 0), (2, .ref (rm 0)), (1, .ref (rx 0)), (0, .ref b)]) : W p l e room_1 s m #[Value.ref b] below meth cd H locs 95 102698 (lw_Z below #[Value.ref b] s) (F0 m 343 ls []) := by
  refine lv_aload_n hx hb dL_law_343 rfl (lv_at hl 2 rfl) ?_
  refine lv_aload_n hx hb dL_law_344 rfl (lv_at hl 3 rfl) ?_
  refine lv_iload_n hx hb dL_law_345 rfl (lv_at hl 0 rfl) ?_
  refine lv_iconst (v := 1) hx hb dL_law_346 (by decide) ?_
  refine lv_iadd hx hb dL_law_347 ?_
  refine lv_topi (fun v1 e2 => ?_)
  obtain rfl : v1 = 1 := e2.trans (by decide)
  refine va_sld hx hb hX hbl hbA hS (vp_in_iff.mpr (by decide)) dL_law_348 ?_
  refine lv_aload_n hx hb dL_law_349 rfl (lv_at hl 3 rfl) ?_
  refine lv_iload_n hx hb dL_law_350 rfl (lv_at hl 0 rfl) ?_
  refine lv_iconst (v := 2) hx hb dL_law_351 (by decide) ?_
  refine lv_iadd hx hb dL_law_352 ?_
  refine lv_topi (fun v3 e4 => ?_)
  obtain rfl : v3 = 2 := e4.trans (by decide)
  refine va_sld hx hb hX hbl hbA hS (vp_in_iff.mpr (by decide)) dL_law_353 ?_
  refine lv_aload_n hx hb dL_law_354 rfl (lv_at hl 3 rfl) ?_
  refine lv_iload_n hx hb dL_law_355 rfl (lv_at hl 0 rfl) ?_
  refine lv_iconst (v := 3) hx hb dL_law_356 (by decide) ?_
  refine lv_iadd hx hb dL_law_357 ?_
  refine lv_topi (fun v5 e6 => ?_)
  obtain rfl : v5 = 3 := e6.trans (by decide)
  refine va_sld hx hb hX hbl hbA hS (vp_in_iff.mpr (by decide)) dL_law_358 ?_
  refine lv_aload_n hx hb dL_law_359 rfl (lv_at hl 3 rfl) ?_
  refine lv_iload_n hx hb dL_law_360 rfl (lv_at hl 0 rfl) ?_
  refine lv_iconst (v := 4) hx hb dL_law_361 (by decide) ?_
  refine lv_iadd hx hb dL_law_362 ?_
  refine lv_topi (fun v7 e8 => ?_)
  obtain rfl : v7 = 4 := e8.trans (by decide)
  refine va_sld hx hb hX hbl hbA hS (vp_in_iff.mpr (by decide)) dL_law_363 ?_
  refine lv_aload_n hx hb dL_law_364 rfl (lv_at hl 3 rfl) ?_
  refine lv_iload_n hx hb dL_law_365 rfl (lv_at hl 0 rfl) ?_
  refine lv_iconst (v := 5) hx hb dL_law_366 (by decide) ?_
  refine lv_iadd hx hb dL_law_367 ?_
  refine lv_topi (fun v9 e10 => ?_)
  obtain rfl : v9 = 5 := e10.trans (by decide)
  refine va_sld hx hb hX hbl hbA hS (vp_in_iff.mpr (by decide)) dL_law_368 ?_
  refine lv_aload_n hx hb dL_law_369 rfl (lv_at hl 3 rfl) ?_
  refine lv_iload_n hx hb dL_law_370 rfl (lv_at hl 0 rfl) ?_
  refine lv_bipush (v := 6) hx hb dL_law_371 (by decide) ?_
  refine lv_iadd hx hb dL_law_373 ?_
  refine lv_topi (fun v11 e12 => ?_)
  obtain rfl : v11 = 6 := e12.trans (by decide)
  refine va_sld hx hb hX hbl hbA hS (vp_in_iff.mpr (by decide)) dL_law_374 ?_
  refine lv_aload_n hx hb dL_law_375 rfl (lv_at hl 3 rfl) ?_
  refine lv_iload_n hx hb dL_law_376 rfl (lv_at hl 0 rfl) ?_
  refine lv_bipush (v := 7) hx hb dL_law_377 (by decide) ?_
  refine lv_iadd hx hb dL_law_379 ?_
  refine lv_topi (fun v13 e14 => ?_)
  obtain rfl : v13 = 7 := e14.trans (by decide)
  refine va_sld hx hb hX hbl hbA hS (vp_in_iff.mpr (by decide)) dL_law_380 ?_
  have hPc := hP.sub (ws' := [((rx 0), .inr (11, fX rx 0 0)), ((rx 3), .inl (c 4, 11, .inr (.inr (.inr (.inr (fun _ => none))))))]) [0, 1] rfl
  have hDc := hD.sub (ws' := [((rx 0), .inr (11, fX rx 0 0)), ((rx 3), .inl (c 4, 11, .inr (.inr (.inr (.inr (fun _ => none))))))]) [0, 1] (by decide) rfl
  refine cl_i (wr := [((rm 0), .inr (12, fM rm 0 0)), ((rm 12), .inl (c 0, 11, .inl (fun _ => 0))), ((rm 13), .inl (c 0, 11, .inl (fun _ => 0))), ((rm 14), .inl (c 0, 11, .inl (fun _ => 0))), ((rm 15), .inl (c 0, 11, .inl (fun _ => 0))), ((rm 16), .inl (c 0, 11, .inl (fun _ => 0))), ((rm 17), .inl (c 0, 11, .inl (fun _ => 0))), ((rm 22), .inl (c 0, 11, .inl (fun _ => 0))), ((rm 26), .inl (c 0, 11, .inl (fun _ => 0)))]) (va_runV (As := [.int (xs (Int32.toNatClampNeg 1)), .int (xs (Int32.toNatClampNeg 2)), .int (xs (Int32.toNatClampNeg 3)), .int (xs (Int32.toNatClampNeg 4)), .int (xs (Int32.toNatClampNeg 5)), .int (xs (Int32.toNatClampNeg 6)), .int (xs (Int32.toNatClampNeg 7))]) (rest := []) ⟨hx, hb, hml, hown, hts⟩ (c_X11_pool l D c H.size rx ((xs (Int32.toNatClampNeg 1))) ((xs (Int32.toNatClampNeg 2))) ((xs (Int32.toNatClampNeg 3))) ((xs (Int32.toNatClampNeg 4))) ((xs (Int32.toNatClampNeg 5))) ((xs (Int32.toNatClampNeg 6))) ((xs (Int32.toNatClampNeg 7)))) (kw_V 7 hts wd_394 wd_395 wd_396 wd_83 wd_397 rfl rfl (by decide +kernel) ⟨Nat.le_of_ble_eq_true rfl, Nat.le_of_ble_eq_true rfl⟩) (pre_V hPc hK hDc hN hO (ci := 11) (q0 := 0) rfl rfl) rfl rfl hl.1 rfl (lv_room (Nat.le_of_ble_eq_true rfl)) dL_law_381 ⟨Nat.le_of_ble_eq_true rfl, Nat.le_of_ble_eq_true rfl⟩) hP hD hS hA [0, 1] [2, 3, 4, 5, 6, 7, 8, 9, 10] rfl rfl (by decide) (by decide) (fun r15 u16 H locs h17 hP hD hS => ?_)
  refine W.widen (k := 113) (n := 110198) (Nat.le_of_ble_eq_true rfl) (Nat.le_of_ble_eq_true rfl) ?_
  have hP : va_P D vwCl [((rm 0), .inr (12, fM rm 0 0)), ((rm 12), .inl (c 0, 11, .inl (fun _ => 0))), ((rm 13), .inl (c 0, 11, .inl (fun _ => 0))), ((rm 14), .inl (c 0, 11, .inl (fun _ => 0))), ((rm 15), .inl (c 0, 11, .inl (fun _ => 0))), ((rm 16), .inl (c 0, 11, .inl (fun _ => 0))), ((rm 17), .inl (c 0, 11, .inl (fun _ => 0))), ((rm 22), .inl (c 0, 11, .inl (fun _ => 0))), ((rm 26), .inl (c 0, 11, .inl (fun _ => 0)))] H := hP
  have hD : va_D A [((rm 0), .inr (12, fM rm 0 0)), ((rm 12), .inl (c 0, 11, .inl (fun _ => 0))), ((rm 13), .inl (c 0, 11, .inl (fun _ => 0))), ((rm 14), .inl (c 0, 11, .inl (fun _ => 0))), ((rm 15), .inl (c 0, 11, .inl (fun _ => 0))), ((rm 16), .inl (c 0, 11, .inl (fun _ => 0))), ((rm 17), .inl (c 0, 11, .inl (fun _ => 0))), ((rm 22), .inl (c 0, 11, .inl (fun _ => 0))), ((rm 26), .inl (c 0, 11, .inl (fun _ => 0)))] := hD
  refine lv_aload_n hx hb dL_law_384 rfl (lv_at hl 1 rfl) ?_
  refine lv_aload_n hx hb dL_law_385 rfl (lv_at hl 3 rfl) ?_
  refine lv_iload_n hx hb dL_law_386 rfl (lv_at hl 0 rfl) ?_
  refine lv_iconst (v := 1) hx hb dL_law_387 (by decide) ?_
  refine lv_iadd hx hb dL_law_388 ?_
  refine lv_topi (fun v18 e19 => ?_)
  obtain rfl : v18 = 1 := e19.trans (by decide)
  refine va_sld hx hb hX hbl hbA hS (vp_in_iff.mpr (by decide)) dL_law_389 ?_
  refine lv_aload_n hx hb dL_law_390 rfl (lv_at hl 3 rfl) ?_
  refine lv_iload_n hx hb dL_law_391 rfl (lv_at hl 0 rfl) ?_
  refine lv_iconst (v := 2) hx hb dL_law_392 (by decide) ?_
  refine lv_iadd hx hb dL_law_393 ?_
  refine lv_topi (fun v20 e21 => ?_)
  obtain rfl : v20 = 2 := e21.trans (by decide)
  refine va_sld hx hb hX hbl hbA hS (vp_in_iff.mpr (by decide)) dL_law_394 ?_
  refine lv_aload_n hx hb dL_law_395 rfl (lv_at hl 3 rfl) ?_
  refine lv_iload_n hx hb dL_law_396 rfl (lv_at hl 0 rfl) ?_
  refine lv_iconst (v := 3) hx hb dL_law_397 (by decide) ?_
  refine lv_iadd hx hb dL_law_398 ?_
  refine lv_topi (fun v22 e23 => ?_)
  obtain rfl : v22 = 3 := e23.trans (by decide)
  refine va_sld hx hb hX hbl hbA hS (vp_in_iff.mpr (by decide)) dL_law_399 ?_
  refine lv_aload_n hx hb dL_law_400 rfl (lv_at hl 3 rfl) ?_
  refine lv_iload_n hx hb dL_law_401 rfl (lv_at hl 0 rfl) ?_
  refine lv_iconst (v := 4) hx hb dL_law_402 (by decide) ?_
  refine lv_iadd hx hb dL_law_403 ?_
  refine lv_topi (fun v24 e25 => ?_)
  obtain rfl : v24 = 4 := e25.trans (by decide)
  refine va_sld hx hb hX hbl hbA hS (vp_in_iff.mpr (by decide)) dL_law_404 ?_
  refine lv_aload_n hx hb dL_law_405 rfl (lv_at hl 3 rfl) ?_
  refine lv_iload_n hx hb dL_law_406 rfl (lv_at hl 0 rfl) ?_
  refine lv_iconst (v := 5) hx hb dL_law_407 (by decide) ?_
  refine lv_iadd hx hb dL_law_408 ?_
  refine lv_topi (fun v26 e27 => ?_)
  obtain rfl : v26 = 5 := e27.trans (by decide)
  refine va_sld hx hb hX hbl hbA hS (vp_in_iff.mpr (by decide)) dL_law_409 ?_
  refine lv_aload_n hx hb dL_law_410 rfl (lv_at hl 3 rfl) ?_
  refine lv_iload_n hx hb dL_law_411 rfl (lv_at hl 0 rfl) ?_
  refine lv_bipush (v := 6) hx hb dL_law_412 (by decide) ?_
  refine lv_iadd hx hb dL_law_414 ?_
  refine lv_topi (fun v28 e29 => ?_)
  obtain rfl : v28 = 6 := e29.trans (by decide)
  refine va_sld hx hb hX hbl hbA hS (vp_in_iff.mpr (by decide)) dL_law_415 ?_
  refine lv_aload_n hx hb dL_law_416 rfl (lv_at hl 3 rfl) ?_
  refine lv_iload_n hx hb dL_law_417 rfl (lv_at hl 0 rfl) ?_
  refine lv_bipush (v := 7) hx hb dL_law_418 (by decide) ?_
  refine lv_iadd hx hb dL_law_420 ?_
  refine lv_topi (fun v30 e31 => ?_)
  obtain rfl : v30 = 7 := e31.trans (by decide)
  refine va_sld hx hb hX hbl hbA hS (vp_in_iff.mpr (by decide)) dL_law_421 ?_
  have hPc := hP.sub (ws' := [((rm 0), .inr (12, fM rm 0 0)), ((rm 12), .inl (c 0, 11, .inl (fun _ => 0))), ((rm 13), .inl (c 0, 11, .inl (fun _ => 0))), ((rm 14), .inl (c 0, 11, .inl (fun _ => 0))), ((rm 15), .inl (c 0, 11, .inl (fun _ => 0))), ((rm 16), .inl (c 0, 11, .inl (fun _ => 0))), ((rm 17), .inl (c 0, 11, .inl (fun _ => 0))), ((rm 22), .inl (c 0, 11, .inl (fun _ => 0))), ((rm 26), .inl (c 0, 11, .inl (fun _ => 0)))]) [0, 1, 2, 3, 4, 5, 6, 7, 8] rfl
  have hDc := hD.sub (ws' := [((rm 0), .inr (12, fM rm 0 0)), ((rm 12), .inl (c 0, 11, .inl (fun _ => 0))), ((rm 13), .inl (c 0, 11, .inl (fun _ => 0))), ((rm 14), .inl (c 0, 11, .inl (fun _ => 0))), ((rm 15), .inl (c 0, 11, .inl (fun _ => 0))), ((rm 16), .inl (c 0, 11, .inl (fun _ => 0))), ((rm 17), .inl (c 0, 11, .inl (fun _ => 0))), ((rm 22), .inl (c 0, 11, .inl (fun _ => 0))), ((rm 26), .inl (c 0, 11, .inl (fun _ => 0)))]) [0, 1, 2, 3, 4, 5, 6, 7, 8] (by decide) rfl
  refine cl_i (wr := []) (va_runV (As := [.int (xs (Int32.toNatClampNeg 1)), .int (xs (Int32.toNatClampNeg 2)), .int (xs (Int32.toNatClampNeg 3)), .int (xs (Int32.toNatClampNeg 4)), .int (xs (Int32.toNatClampNeg 5)), .int (xs (Int32.toNatClampNeg 6)), .int (xs (Int32.toNatClampNeg 7))]) (rest := [.int r15]) ⟨hx, hb, hml, hown, hts⟩ (c_X12_pool l D c H.size rm ((xs (Int32.toNatClampNeg 1))) ((xs (Int32.toNatClampNeg 2))) ((xs (Int32.toNatClampNeg 3))) ((xs (Int32.toNatClampNeg 4))) ((xs (Int32.toNatClampNeg 5))) ((xs (Int32.toNatClampNeg 6))) ((xs (Int32.toNatClampNeg 7)))) (kw_V 7 hts wd_1437 wd_1438 wd_1439 wd_90 wd_1440 rfl rfl (by decide +kernel) ⟨Nat.le_of_ble_eq_true rfl, Nat.le_of_ble_eq_true rfl⟩) (pre_V hPc hK hDc hN hO (ci := 12) (q0 := 0) rfl rfl) rfl rfl hl.1 rfl (lv_room (Nat.le_of_ble_eq_true rfl)) dL_law_422 ⟨Nat.le_of_ble_eq_true rfl, Nat.le_of_ble_eq_true rfl⟩) hP hD hS hA [0, 1, 2, 3, 4, 5, 6, 7, 8] [] rfl rfl (by decide) (by decide) (fun r32 u33 H locs h34 hP hD hS => ?_)
  have hP : va_P D vwCl [] H := hP
  have hD : va_D A [] := hD
  refine lv_icmp_eq (tgt := 1533) hx hb dL_law_425 (by decide) (fun _ => ?_) (fun c => absurd (h17.trans h34.symm) c)
  exact law_fin hx hb hr hml hown hlocks hX hbl hbA hAs (Nat.le_of_ble_eq_true rfl) (Nat.le_of_ble_eq_true rfl) hS (lv_sub hl [0, 3] rfl)
set_option maxHeartbeats 4000000 in
set_option maxRecDepth 100000 in
theorem law_6 {p : Program} {l : Launch} {e : Env} {s : State} {m : MethodId} {below : List Frame} {meth : Method} {cd : Code} {b : Nat} {xs : Nat → Int32} {H : Heap} {locs : List Loc} {ls : Array Slot} {A : Nat → Prop} {D : va_G} {c : Nat → ClassId} {rx rm : Nat → Nat} (hx : p.tables.exec = Jvm.exec) (hb : cd.code = cL_law) (hr : meth.sig.returnType = ret) (hml : cd.maxLocals = 4) (hown : s.vm.findClass R_law = some m.cls) (hlocks : meth.locks = false) (hX : va_X b 8 xs s s.heap) (hbl : b < s.heap.size) (hbA : ¬ A b) (hAs : ∀ q, A q → s.heap.size ≤ q) (hts : ∀ w ∈ Wd, w.before #[Value.ref b] s = true) (hN : NW s) (hO : ∀ C ∈ aoL, va_AO C s) (hK : va_K D vwCl (TY c) s) (hA : ∀ q, s.heap.size ≤ q → A q) (hP : va_P D vwCl [((rx 0), .inr (11, fX rx 0 0)), ((rx 3), .inl (c 4, 11, .inr (.inr (.inr (.inr (fun _ => none)))))), ((rm 0), .inr (12, fM rm 0 0))] H) (hD : va_D A [((rx 0), .inr (11, fX rx 0 0)), ((rx 3), .inl (c 4, 11, .inr (.inr (.inr (.inr (fun _ => none)))))), ((rm 0), .inr (12, fM rm 0 0))]) (hS : va_S A s.heap H locs) (hl : lv_has ls 4 [(3, .int 0), (2, .ref (rm 0)), (1, .ref (rx 0)), (0, .ref b)]) : W p l e room_1 s m #[Value.ref b] below meth cd H locs 95 102698 (lw_Z below #[Value.ref b] s) (F0 m 430 ls []) := by
  refine lv_aload_n hx hb dL_law_430 rfl (lv_at hl 2 rfl) ?_
  refine lv_aload_n hx hb dL_law_431 rfl (lv_at hl 3 rfl) ?_
  refine lv_iload_n hx hb dL_law_432 rfl (lv_at hl 0 rfl) ?_
  refine lv_iconst (v := 1) hx hb dL_law_433 (by decide) ?_
  refine lv_iadd hx hb dL_law_434 ?_
  refine lv_topi (fun v1 e2 => ?_)
  obtain rfl : v1 = 1 := e2.trans (by decide)
  refine va_sld hx hb hX hbl hbA hS (vp_in_iff.mpr (by decide)) dL_law_435 ?_
  refine lv_aload_n hx hb dL_law_436 rfl (lv_at hl 3 rfl) ?_
  refine lv_iload_n hx hb dL_law_437 rfl (lv_at hl 0 rfl) ?_
  refine lv_iconst (v := 2) hx hb dL_law_438 (by decide) ?_
  refine lv_iadd hx hb dL_law_439 ?_
  refine lv_topi (fun v3 e4 => ?_)
  obtain rfl : v3 = 2 := e4.trans (by decide)
  refine va_sld hx hb hX hbl hbA hS (vp_in_iff.mpr (by decide)) dL_law_440 ?_
  refine lv_aload_n hx hb dL_law_441 rfl (lv_at hl 3 rfl) ?_
  refine lv_iload_n hx hb dL_law_442 rfl (lv_at hl 0 rfl) ?_
  refine lv_iconst (v := 3) hx hb dL_law_443 (by decide) ?_
  refine lv_iadd hx hb dL_law_444 ?_
  refine lv_topi (fun v5 e6 => ?_)
  obtain rfl : v5 = 3 := e6.trans (by decide)
  refine va_sld hx hb hX hbl hbA hS (vp_in_iff.mpr (by decide)) dL_law_445 ?_
  have hPc := hP.sub (ws' := [((rx 0), .inr (11, fX rx 0 0)), ((rx 3), .inl (c 4, 11, .inr (.inr (.inr (.inr (fun _ => none))))))]) [0, 1] rfl
  have hDc := hD.sub (ws' := [((rx 0), .inr (11, fX rx 0 0)), ((rx 3), .inl (c 4, 11, .inr (.inr (.inr (.inr (fun _ => none))))))]) [0, 1] (by decide) rfl
  refine cl_i (wr := [((rm 0), .inr (12, fM rm 0 0))]) (va_runV (As := [.int (xs (Int32.toNatClampNeg 1)), .int (xs (Int32.toNatClampNeg 2)), .int (xs (Int32.toNatClampNeg 3))]) (rest := []) ⟨hx, hb, hml, hown, hts⟩ (c_X11_dirt l D c H.size rx ((xs (Int32.toNatClampNeg 1))) ((xs (Int32.toNatClampNeg 2))) ((xs (Int32.toNatClampNeg 3)))) (kw_V 3 hts wd_577 wd_578 wd_579 wd_83 wd_580 rfl rfl (by decide +kernel) ⟨Nat.le_of_ble_eq_true rfl, Nat.le_of_ble_eq_true rfl⟩) (pre_V hPc hK hDc hN hO (ci := 11) (q0 := 0) rfl rfl) rfl rfl hl.1 rfl (lv_room (Nat.le_of_ble_eq_true rfl)) dL_law_446 ⟨Nat.le_of_ble_eq_true rfl, Nat.le_of_ble_eq_true rfl⟩) hP hD hS hA [0, 1] [2] rfl rfl (by decide) (by decide) (fun r7 u8 H locs h9 hP hD hS => ?_)
  have hP : va_P D vwCl [((rm 0), .inr (12, fM rm 0 0))] H := hP
  have hD : va_D A [((rm 0), .inr (12, fM rm 0 0))] := hD
  refine lv_aload_n hx hb dL_law_449 rfl (lv_at hl 1 rfl) ?_
  refine lv_aload_n hx hb dL_law_450 rfl (lv_at hl 3 rfl) ?_
  refine lv_iload_n hx hb dL_law_451 rfl (lv_at hl 0 rfl) ?_
  refine lv_iconst (v := 1) hx hb dL_law_452 (by decide) ?_
  refine lv_iadd hx hb dL_law_453 ?_
  refine lv_topi (fun v10 e11 => ?_)
  obtain rfl : v10 = 1 := e11.trans (by decide)
  refine va_sld hx hb hX hbl hbA hS (vp_in_iff.mpr (by decide)) dL_law_454 ?_
  refine lv_aload_n hx hb dL_law_455 rfl (lv_at hl 3 rfl) ?_
  refine lv_iload_n hx hb dL_law_456 rfl (lv_at hl 0 rfl) ?_
  refine lv_iconst (v := 2) hx hb dL_law_457 (by decide) ?_
  refine lv_iadd hx hb dL_law_458 ?_
  refine lv_topi (fun v12 e13 => ?_)
  obtain rfl : v12 = 2 := e13.trans (by decide)
  refine va_sld hx hb hX hbl hbA hS (vp_in_iff.mpr (by decide)) dL_law_459 ?_
  refine lv_aload_n hx hb dL_law_460 rfl (lv_at hl 3 rfl) ?_
  refine lv_iload_n hx hb dL_law_461 rfl (lv_at hl 0 rfl) ?_
  refine lv_iconst (v := 3) hx hb dL_law_462 (by decide) ?_
  refine lv_iadd hx hb dL_law_463 ?_
  refine lv_topi (fun v14 e15 => ?_)
  obtain rfl : v14 = 3 := e15.trans (by decide)
  refine va_sld hx hb hX hbl hbA hS (vp_in_iff.mpr (by decide)) dL_law_464 ?_
  have hPc := hP.sub (ws' := [((rm 0), .inr (12, fM rm 0 0))]) [0] rfl
  have hDc := hD.sub (ws' := [((rm 0), .inr (12, fM rm 0 0))]) [0] (by decide) rfl
  refine cl_i (wr := []) (va_runV (As := [.int (xs (Int32.toNatClampNeg 1)), .int (xs (Int32.toNatClampNeg 2)), .int (xs (Int32.toNatClampNeg 3))]) (rest := [.int r7]) ⟨hx, hb, hml, hown, hts⟩ (c_X12_dirt l D c H.size rm ((xs (Int32.toNatClampNeg 1))) ((xs (Int32.toNatClampNeg 2))) ((xs (Int32.toNatClampNeg 3)))) (kw_V 3 hts wd_1441 wd_1442 wd_1443 wd_90 wd_1444 rfl rfl (by decide +kernel) ⟨Nat.le_of_ble_eq_true rfl, Nat.le_of_ble_eq_true rfl⟩) (pre_V hPc hK hDc hN hO (ci := 12) (q0 := 0) rfl rfl) rfl rfl hl.1 rfl (lv_room (Nat.le_of_ble_eq_true rfl)) dL_law_465 ⟨Nat.le_of_ble_eq_true rfl, Nat.le_of_ble_eq_true rfl⟩) hP hD hS hA [0] [] rfl rfl (by decide) (by decide) (fun r16 u17 H locs h18 hP hD hS => ?_)
  have hP : va_P D vwCl [] H := hP
  have hD : va_D A [] := hD
  refine lv_icmp_eq (tgt := 1533) hx hb dL_law_468 (by decide) (fun _ => ?_) (fun c => absurd (h9.trans h18.symm) c)
  exact law_fin hx hb hr hml hown hlocks hX hbl hbA hAs (Nat.le_of_ble_eq_true rfl) (Nat.le_of_ble_eq_true rfl) hS (lv_sub hl [0, 3] rfl)
set_option maxHeartbeats 4000000 in
set_option maxRecDepth 100000 in
theorem law_7 {p : Program} {l : Launch} {e : Env} {s : State} {m : MethodId} {below : List Frame} {meth : Method} {cd : Code} {b : Nat} {xs : Nat → Int32} {H : Heap} {locs : List Loc} {ls : Array Slot} {A : Nat → Prop} {D : va_G} {c : Nat → ClassId} {rx rm : Nat → Nat} (hx : p.tables.exec = Jvm.exec) (hb : cd.code = cL_law) (hr : meth.sig.returnType = ret) (hml : cd.maxLocals = 4) (hown : s.vm.findClass R_law = some m.cls) (hlocks : meth.locks = false) (hX : va_X b 8 xs s s.heap) (hbl : b < s.heap.size) (hbA : ¬ A b) (hAs : ∀ q, A q → s.heap.size ≤ q) (hts : ∀ w ∈ Wd, w.before #[Value.ref b] s = true) (hN : NW s) (hO : ∀ C ∈ aoL, va_AO C s) (hK : va_K D vwCl (TY c) s) (hA : ∀ q, s.heap.size ≤ q → A q) (hP : va_P D vwCl [((rx 0), .inr (11, fX rx 0 0)), ((rx 3), .inl (c 4, 11, .inr (.inr (.inr (.inr (fun _ => none)))))), ((rm 0), .inr (12, fM rm 0 0))] H) (hD : va_D A [((rx 0), .inr (11, fX rx 0 0)), ((rx 3), .inl (c 4, 11, .inr (.inr (.inr (.inr (fun _ => none)))))), ((rm 0), .inr (12, fM rm 0 0))]) (hS : va_S A s.heap H locs) (hl : lv_has ls 4 [(3, .int 0), (2, .ref (rm 0)), (1, .ref (rx 0)), (0, .ref b)]) : W p l e room_1 s m #[Value.ref b] below meth cd H locs 95 102698 (lw_Z below #[Value.ref b] s) (F0 m 473 ls []) := by
  refine lv_aload_n hx hb dL_law_473 rfl (lv_at hl 2 rfl) ?_
  refine lv_aload_n hx hb dL_law_474 rfl (lv_at hl 3 rfl) ?_
  refine lv_iload_n hx hb dL_law_475 rfl (lv_at hl 0 rfl) ?_
  refine lv_iconst (v := 1) hx hb dL_law_476 (by decide) ?_
  refine lv_iadd hx hb dL_law_477 ?_
  refine lv_topi (fun v1 e2 => ?_)
  obtain rfl : v1 = 1 := e2.trans (by decide)
  refine va_sld hx hb hX hbl hbA hS (vp_in_iff.mpr (by decide)) dL_law_478 ?_
  refine lv_aload_n hx hb dL_law_479 rfl (lv_at hl 3 rfl) ?_
  refine lv_iload_n hx hb dL_law_480 rfl (lv_at hl 0 rfl) ?_
  refine lv_iconst (v := 2) hx hb dL_law_481 (by decide) ?_
  refine lv_iadd hx hb dL_law_482 ?_
  refine lv_topi (fun v3 e4 => ?_)
  obtain rfl : v3 = 2 := e4.trans (by decide)
  refine va_sld hx hb hX hbl hbA hS (vp_in_iff.mpr (by decide)) dL_law_483 ?_
  refine lv_aload_n hx hb dL_law_484 rfl (lv_at hl 3 rfl) ?_
  refine lv_iload_n hx hb dL_law_485 rfl (lv_at hl 0 rfl) ?_
  refine lv_iconst (v := 3) hx hb dL_law_486 (by decide) ?_
  refine lv_iadd hx hb dL_law_487 ?_
  refine lv_topi (fun v5 e6 => ?_)
  obtain rfl : v5 = 3 := e6.trans (by decide)
  refine va_sld hx hb hX hbl hbA hS (vp_in_iff.mpr (by decide)) dL_law_488 ?_
  have hPc := hP.sub (ws' := [((rx 0), .inr (11, fX rx 0 0)), ((rx 3), .inl (c 4, 11, .inr (.inr (.inr (.inr (fun _ => none))))))]) [0, 1] rfl
  have hDc := hD.sub (ws' := [((rx 0), .inr (11, fX rx 0 0)), ((rx 3), .inl (c 4, 11, .inr (.inr (.inr (.inr (fun _ => none))))))]) [0, 1] (by decide) rfl
  refine cl_i (wr := [((rm 0), .inr (12, fM rm 0 0))]) (va_runV (As := [.int (xs (Int32.toNatClampNeg 1)), .int (xs (Int32.toNatClampNeg 2)), .int (xs (Int32.toNatClampNeg 3))]) (rest := []) ⟨hx, hb, hml, hown, hts⟩ (c_X11_crack l D c H.size rx ((xs (Int32.toNatClampNeg 1))) ((xs (Int32.toNatClampNeg 2))) ((xs (Int32.toNatClampNeg 3)))) (kw_V 3 hts wd_585 wd_586 wd_587 wd_83 wd_588 rfl rfl (by decide +kernel) ⟨Nat.le_of_ble_eq_true rfl, Nat.le_of_ble_eq_true rfl⟩) (pre_V hPc hK hDc hN hO (ci := 11) (q0 := 0) rfl rfl) rfl rfl hl.1 rfl (lv_room (Nat.le_of_ble_eq_true rfl)) dL_law_489 ⟨Nat.le_of_ble_eq_true rfl, Nat.le_of_ble_eq_true rfl⟩) hP hD hS hA [0, 1] [2] rfl rfl (by decide) (by decide) (fun r7 u8 H locs h9 hP hD hS => ?_)
  have hP : va_P D vwCl [((rm 0), .inr (12, fM rm 0 0))] H := hP
  have hD : va_D A [((rm 0), .inr (12, fM rm 0 0))] := hD
  refine lv_aload_n hx hb dL_law_492 rfl (lv_at hl 1 rfl) ?_
  refine lv_aload_n hx hb dL_law_493 rfl (lv_at hl 3 rfl) ?_
  refine lv_iload_n hx hb dL_law_494 rfl (lv_at hl 0 rfl) ?_
  refine lv_iconst (v := 1) hx hb dL_law_495 (by decide) ?_
  refine lv_iadd hx hb dL_law_496 ?_
  refine lv_topi (fun v10 e11 => ?_)
  obtain rfl : v10 = 1 := e11.trans (by decide)
  refine va_sld hx hb hX hbl hbA hS (vp_in_iff.mpr (by decide)) dL_law_497 ?_
  refine lv_aload_n hx hb dL_law_498 rfl (lv_at hl 3 rfl) ?_
  refine lv_iload_n hx hb dL_law_499 rfl (lv_at hl 0 rfl) ?_
  refine lv_iconst (v := 2) hx hb dL_law_500 (by decide) ?_
  refine lv_iadd hx hb dL_law_501 ?_
  refine lv_topi (fun v12 e13 => ?_)
  obtain rfl : v12 = 2 := e13.trans (by decide)
  refine va_sld hx hb hX hbl hbA hS (vp_in_iff.mpr (by decide)) dL_law_502 ?_
  refine lv_aload_n hx hb dL_law_503 rfl (lv_at hl 3 rfl) ?_
  refine lv_iload_n hx hb dL_law_504 rfl (lv_at hl 0 rfl) ?_
  refine lv_iconst (v := 3) hx hb dL_law_505 (by decide) ?_
  refine lv_iadd hx hb dL_law_506 ?_
  refine lv_topi (fun v14 e15 => ?_)
  obtain rfl : v14 = 3 := e15.trans (by decide)
  refine va_sld hx hb hX hbl hbA hS (vp_in_iff.mpr (by decide)) dL_law_507 ?_
  have hPc := hP.sub (ws' := [((rm 0), .inr (12, fM rm 0 0))]) [0] rfl
  have hDc := hD.sub (ws' := [((rm 0), .inr (12, fM rm 0 0))]) [0] (by decide) rfl
  refine cl_i (wr := []) (va_runV (As := [.int (xs (Int32.toNatClampNeg 1)), .int (xs (Int32.toNatClampNeg 2)), .int (xs (Int32.toNatClampNeg 3))]) (rest := [.int r7]) ⟨hx, hb, hml, hown, hts⟩ (c_X12_crack l D c H.size rm ((xs (Int32.toNatClampNeg 1))) ((xs (Int32.toNatClampNeg 2))) ((xs (Int32.toNatClampNeg 3)))) (kw_V 3 hts wd_1449 wd_1450 wd_1451 wd_90 wd_1452 rfl rfl (by decide +kernel) ⟨Nat.le_of_ble_eq_true rfl, Nat.le_of_ble_eq_true rfl⟩) (pre_V hPc hK hDc hN hO (ci := 12) (q0 := 0) rfl rfl) rfl rfl hl.1 rfl (lv_room (Nat.le_of_ble_eq_true rfl)) dL_law_508 ⟨Nat.le_of_ble_eq_true rfl, Nat.le_of_ble_eq_true rfl⟩) hP hD hS hA [0] [] rfl rfl (by decide) (by decide) (fun r16 u17 H locs h18 hP hD hS => ?_)
  have hP : va_P D vwCl [] H := hP
  have hD : va_D A [] := hD
  refine lv_icmp_eq (tgt := 1533) hx hb dL_law_511 (by decide) (fun _ => ?_) (fun c => absurd (h9.trans h18.symm) c)
  exact law_fin hx hb hr hml hown hlocks hX hbl hbA hAs (Nat.le_of_ble_eq_true rfl) (Nat.le_of_ble_eq_true rfl) hS (lv_sub hl [0, 3] rfl)
set_option maxHeartbeats 4000000 in
set_option maxRecDepth 100000 in
theorem law_8 {p : Program} {l : Launch} {e : Env} {s : State} {m : MethodId} {below : List Frame} {meth : Method} {cd : Code} {b : Nat} {xs : Nat → Int32} {H : Heap} {locs : List Loc} {ls : Array Slot} {A : Nat → Prop} {D : va_G} {c : Nat → ClassId} {rx rm : Nat → Nat} (hx : p.tables.exec = Jvm.exec) (hb : cd.code = cL_law) (hr : meth.sig.returnType = ret) (hml : cd.maxLocals = 4) (hown : s.vm.findClass R_law = some m.cls) (hlocks : meth.locks = false) (hX : va_X b 8 xs s s.heap) (hbl : b < s.heap.size) (hbA : ¬ A b) (hAs : ∀ q, A q → s.heap.size ≤ q) (hts : ∀ w ∈ Wd, w.before #[Value.ref b] s = true) (hN : NW s) (hO : ∀ C ∈ aoL, va_AO C s) (hK : va_K D vwCl (TY c) s) (hA : ∀ q, s.heap.size ≤ q → A q) (hP : va_P D vwCl [((rx 0), .inr (11, fX rx 0 0)), ((rx 3), .inl (c 4, 11, .inr (.inr (.inr (.inr (fun _ => none)))))), ((rm 0), .inr (12, fM rm 0 0))] H) (hD : va_D A [((rx 0), .inr (11, fX rx 0 0)), ((rx 3), .inl (c 4, 11, .inr (.inr (.inr (.inr (fun _ => none)))))), ((rm 0), .inr (12, fM rm 0 0))]) (hS : va_S A s.heap H locs) (hl : lv_has ls 4 [(3, .int 0), (2, .ref (rm 0)), (1, .ref (rx 0)), (0, .ref b)]) : W p l e room_1 s m #[Value.ref b] below meth cd H locs 95 102698 (lw_Z below #[Value.ref b] s) (F0 m 516 ls []) := by
  refine lv_aload_n hx hb dL_law_516 rfl (lv_at hl 2 rfl) ?_
  refine lv_aload_n hx hb dL_law_517 rfl (lv_at hl 3 rfl) ?_
  refine lv_iload_n hx hb dL_law_518 rfl (lv_at hl 0 rfl) ?_
  refine lv_iconst (v := 1) hx hb dL_law_519 (by decide) ?_
  refine lv_iadd hx hb dL_law_520 ?_
  refine lv_topi (fun v1 e2 => ?_)
  obtain rfl : v1 = 1 := e2.trans (by decide)
  refine va_sld hx hb hX hbl hbA hS (vp_in_iff.mpr (by decide)) dL_law_521 ?_
  have hPc := hP.sub (ws' := [((rx 0), .inr (11, fX rx 0 0)), ((rx 3), .inl (c 4, 11, .inr (.inr (.inr (.inr (fun _ => none))))))]) [0, 1] rfl
  have hDc := hD.sub (ws' := [((rx 0), .inr (11, fX rx 0 0)), ((rx 3), .inl (c 4, 11, .inr (.inr (.inr (.inr (fun _ => none))))))]) [0, 1] (by decide) rfl
  refine cl_i (wr := [((rm 0), .inr (12, fM rm 0 0))]) (va_runV (As := [.int (xs (Int32.toNatClampNeg 1))]) (rest := []) ⟨hx, hb, hml, hown, hts⟩ (c_X11_mend l D c H.size rx ((xs (Int32.toNatClampNeg 1)))) (kw_V 1 hts wd_599 wd_600 wd_601 wd_83 wd_602 rfl rfl (by decide +kernel) ⟨Nat.le_of_ble_eq_true rfl, Nat.le_of_ble_eq_true rfl⟩) (pre_V hPc hK hDc hN hO (ci := 11) (q0 := 0) rfl rfl) rfl rfl hl.1 rfl (lv_room (Nat.le_of_ble_eq_true rfl)) dL_law_522 ⟨Nat.le_of_ble_eq_true rfl, Nat.le_of_ble_eq_true rfl⟩) hP hD hS hA [0, 1] [2] rfl rfl (by decide) (by decide) (fun r3 u4 H locs h5 hP hD hS => ?_)
  have hP : va_P D vwCl [((rm 0), .inr (12, fM rm 0 0))] H := hP
  have hD : va_D A [((rm 0), .inr (12, fM rm 0 0))] := hD
  refine lv_aload_n hx hb dL_law_525 rfl (lv_at hl 1 rfl) ?_
  refine lv_aload_n hx hb dL_law_526 rfl (lv_at hl 3 rfl) ?_
  refine lv_iload_n hx hb dL_law_527 rfl (lv_at hl 0 rfl) ?_
  refine lv_iconst (v := 1) hx hb dL_law_528 (by decide) ?_
  refine lv_iadd hx hb dL_law_529 ?_
  refine lv_topi (fun v6 e7 => ?_)
  obtain rfl : v6 = 1 := e7.trans (by decide)
  refine va_sld hx hb hX hbl hbA hS (vp_in_iff.mpr (by decide)) dL_law_530 ?_
  have hPc := hP.sub (ws' := [((rm 0), .inr (12, fM rm 0 0))]) [0] rfl
  have hDc := hD.sub (ws' := [((rm 0), .inr (12, fM rm 0 0))]) [0] (by decide) rfl
  refine cl_i (wr := []) (va_runV (As := [.int (xs (Int32.toNatClampNeg 1))]) (rest := [.int r3]) ⟨hx, hb, hml, hown, hts⟩ (c_X12_mend l D c H.size rm ((xs (Int32.toNatClampNeg 1)))) (kw_V 1 hts wd_1453 wd_1454 wd_1455 wd_90 wd_1456 rfl rfl (by decide +kernel) ⟨Nat.le_of_ble_eq_true rfl, Nat.le_of_ble_eq_true rfl⟩) (pre_V hPc hK hDc hN hO (ci := 12) (q0 := 0) rfl rfl) rfl rfl hl.1 rfl (lv_room (Nat.le_of_ble_eq_true rfl)) dL_law_531 ⟨Nat.le_of_ble_eq_true rfl, Nat.le_of_ble_eq_true rfl⟩) hP hD hS hA [0] [] rfl rfl (by decide) (by decide) (fun r8 u9 H locs h10 hP hD hS => ?_)
  have hP : va_P D vwCl [] H := hP
  have hD : va_D A [] := hD
  refine lv_icmp_eq (tgt := 1533) hx hb dL_law_534 (by decide) (fun _ => ?_) (fun c => absurd (h5.trans h10.symm) c)
  exact law_fin hx hb hr hml hown hlocks hX hbl hbA hAs (Nat.le_of_ble_eq_true rfl) (Nat.le_of_ble_eq_true rfl) hS (lv_sub hl [0, 3] rfl)
set_option maxHeartbeats 4000000 in
set_option maxRecDepth 100000 in
theorem law_9 {p : Program} {l : Launch} {e : Env} {s : State} {m : MethodId} {below : List Frame} {meth : Method} {cd : Code} {b : Nat} {xs : Nat → Int32} {H : Heap} {locs : List Loc} {ls : Array Slot} {A : Nat → Prop} {D : va_G} {c : Nat → ClassId} {rx rm : Nat → Nat} (hx : p.tables.exec = Jvm.exec) (hb : cd.code = cL_law) (hr : meth.sig.returnType = ret) (hml : cd.maxLocals = 4) (hown : s.vm.findClass R_law = some m.cls) (hlocks : meth.locks = false) (hX : va_X b 8 xs s s.heap) (hbl : b < s.heap.size) (hbA : ¬ A b) (hAs : ∀ q, A q → s.heap.size ≤ q) (hts : ∀ w ∈ Wd, w.before #[Value.ref b] s = true) (hN : NW s) (hO : ∀ C ∈ aoL, va_AO C s) (hK : va_K D vwCl (TY c) s) (hA : ∀ q, s.heap.size ≤ q → A q) (hP : va_P D vwCl [((rx 0), .inr (11, fX rx 0 0)), ((rx 3), .inl (c 4, 11, .inr (.inr (.inr (.inr (fun _ => none)))))), ((rm 0), .inr (12, fM rm 0 0))] H) (hD : va_D A [((rx 0), .inr (11, fX rx 0 0)), ((rx 3), .inl (c 4, 11, .inr (.inr (.inr (.inr (fun _ => none)))))), ((rm 0), .inr (12, fM rm 0 0))]) (hS : va_S A s.heap H locs) (hl : lv_has ls 4 [(3, .int 0), (2, .ref (rm 0)), (1, .ref (rx 0)), (0, .ref b)]) : W p l e room_1 s m #[Value.ref b] below meth cd H locs 95 102698 (lw_Z below #[Value.ref b] s) (F0 m 539 ls []) := by
  refine lv_aload_n hx hb dL_law_539 rfl (lv_at hl 2 rfl) ?_
  refine lv_aload_n hx hb dL_law_540 rfl (lv_at hl 3 rfl) ?_
  refine lv_iload_n hx hb dL_law_541 rfl (lv_at hl 0 rfl) ?_
  refine lv_iconst (v := 1) hx hb dL_law_542 (by decide) ?_
  refine lv_iadd hx hb dL_law_543 ?_
  refine lv_topi (fun v1 e2 => ?_)
  obtain rfl : v1 = 1 := e2.trans (by decide)
  refine va_sld hx hb hX hbl hbA hS (vp_in_iff.mpr (by decide)) dL_law_544 ?_
  refine lv_aload_n hx hb dL_law_545 rfl (lv_at hl 3 rfl) ?_
  refine lv_iload_n hx hb dL_law_546 rfl (lv_at hl 0 rfl) ?_
  refine lv_iconst (v := 2) hx hb dL_law_547 (by decide) ?_
  refine lv_iadd hx hb dL_law_548 ?_
  refine lv_topi (fun v3 e4 => ?_)
  obtain rfl : v3 = 2 := e4.trans (by decide)
  refine va_sld hx hb hX hbl hbA hS (vp_in_iff.mpr (by decide)) dL_law_549 ?_
  refine lv_if_eq (tgt := 557) hx hb dL_law_550 (by decide) (fun c5 => ?_) (fun c5 => ?_)
  · refine lv_iconst (v := 0) hx hb dL_law_557 (by decide) ?_
    have hPc := hP.sub (ws' := [((rx 0), .inr (11, fX rx 0 0)), ((rx 3), .inl (c 4, 11, .inr (.inr (.inr (.inr (fun _ => none))))))]) [0, 1] rfl
    have hDc := hD.sub (ws' := [((rx 0), .inr (11, fX rx 0 0)), ((rx 3), .inl (c 4, 11, .inr (.inr (.inr (.inr (fun _ => none))))))]) [0, 1] (by decide) rfl
    refine cl_i (wr := [((rm 0), .inr (12, fM rm 0 0))]) (va_runV (As := [.int (xs (Int32.toNatClampNeg 1)), .int 0]) (rest := []) ⟨hx, hb, hml, hown, hts⟩ (c_X11_sluice l D c H.size rx ((xs (Int32.toNatClampNeg 1))) 0) (kw_V 2 hts wd_603 wd_604 wd_605 wd_83 wd_606 rfl rfl (by decide +kernel) ⟨Nat.le_of_ble_eq_true rfl, Nat.le_of_ble_eq_true rfl⟩) (pre_V hPc hK hDc hN hO (ci := 11) (q0 := 0) rfl rfl) rfl rfl hl.1 rfl (lv_room (Nat.le_of_ble_eq_true rfl)) dL_law_558 ⟨Nat.le_of_ble_eq_true rfl, Nat.le_of_ble_eq_true rfl⟩) hP hD hS hA [0, 1] [2] rfl rfl (by decide) (by decide) (fun r6 u7 H locs h8 hP hD hS => ?_)
    have hP : va_P D vwCl [((rm 0), .inr (12, fM rm 0 0))] H := hP
    have hD : va_D A [((rm 0), .inr (12, fM rm 0 0))] := hD
    refine lv_aload_n hx hb dL_law_561 rfl (lv_at hl 1 rfl) ?_
    refine lv_aload_n hx hb dL_law_562 rfl (lv_at hl 3 rfl) ?_
    refine lv_iload_n hx hb dL_law_563 rfl (lv_at hl 0 rfl) ?_
    refine lv_iconst (v := 1) hx hb dL_law_564 (by decide) ?_
    refine lv_iadd hx hb dL_law_565 ?_
    refine lv_topi (fun v9 e10 => ?_)
    obtain rfl : v9 = 1 := e10.trans (by decide)
    refine va_sld hx hb hX hbl hbA hS (vp_in_iff.mpr (by decide)) dL_law_566 ?_
    refine lv_aload_n hx hb dL_law_567 rfl (lv_at hl 3 rfl) ?_
    refine lv_iload_n hx hb dL_law_568 rfl (lv_at hl 0 rfl) ?_
    refine lv_iconst (v := 2) hx hb dL_law_569 (by decide) ?_
    refine lv_iadd hx hb dL_law_570 ?_
    refine lv_topi (fun v11 e12 => ?_)
    obtain rfl : v11 = 2 := e12.trans (by decide)
    refine va_sld hx hb hX hbl hbA hS (vp_in_iff.mpr (by decide)) dL_law_571 ?_
    refine lv_if_eq (tgt := 579) hx hb dL_law_572 (by decide) (fun _ => ?_) (fun c => absurd c5 c)
    refine lv_iconst (v := 0) hx hb dL_law_579 (by decide) ?_
    have hPc := hP.sub (ws' := [((rm 0), .inr (12, fM rm 0 0))]) [0] rfl
    have hDc := hD.sub (ws' := [((rm 0), .inr (12, fM rm 0 0))]) [0] (by decide) rfl
    refine cl_i (wr := []) (va_runV (As := [.int (xs (Int32.toNatClampNeg 1)), .int 0]) (rest := [.int r6]) ⟨hx, hb, hml, hown, hts⟩ (c_X12_sluice l D c H.size rm ((xs (Int32.toNatClampNeg 1))) 0) (kw_V 2 hts wd_1457 wd_1458 wd_1459 wd_90 wd_1460 rfl rfl (by decide +kernel) ⟨Nat.le_of_ble_eq_true rfl, Nat.le_of_ble_eq_true rfl⟩) (pre_V hPc hK hDc hN hO (ci := 12) (q0 := 0) rfl rfl) rfl rfl hl.1 rfl (lv_room (Nat.le_of_ble_eq_true rfl)) dL_law_580 ⟨Nat.le_of_ble_eq_true rfl, Nat.le_of_ble_eq_true rfl⟩) hP hD hS hA [0] [] rfl rfl (by decide) (by decide) (fun r13 u14 H locs h15 hP hD hS => ?_)
    have hP : va_P D vwCl [] H := hP
    have hD : va_D A [] := hD
    refine lv_icmp_eq (tgt := 1533) hx hb dL_law_583 (by decide) (fun _ => ?_) (fun c => absurd (h8.trans h15.symm) c)
    exact law_fin hx hb hr hml hown hlocks hX hbl hbA hAs (Nat.le_of_ble_eq_true rfl) (Nat.le_of_ble_eq_true rfl) hS (lv_sub hl [0, 3] rfl)
  · refine lv_iconst (v := 1) hx hb dL_law_553 (by decide) ?_
    refine lv_goto (tgt := 558) hx hb dL_law_554 (by decide) ?_
    have hPc := hP.sub (ws' := [((rx 0), .inr (11, fX rx 0 0)), ((rx 3), .inl (c 4, 11, .inr (.inr (.inr (.inr (fun _ => none))))))]) [0, 1] rfl
    have hDc := hD.sub (ws' := [((rx 0), .inr (11, fX rx 0 0)), ((rx 3), .inl (c 4, 11, .inr (.inr (.inr (.inr (fun _ => none))))))]) [0, 1] (by decide) rfl
    refine cl_i (wr := [((rm 0), .inr (12, fM rm 0 0))]) (va_runV (As := [.int (xs (Int32.toNatClampNeg 1)), .int 1]) (rest := []) ⟨hx, hb, hml, hown, hts⟩ (c_X11_sluice l D c H.size rx ((xs (Int32.toNatClampNeg 1))) 1) (kw_V 2 hts wd_603 wd_604 wd_605 wd_83 wd_606 rfl rfl (by decide +kernel) ⟨Nat.le_of_ble_eq_true rfl, Nat.le_of_ble_eq_true rfl⟩) (pre_V hPc hK hDc hN hO (ci := 11) (q0 := 0) rfl rfl) rfl rfl hl.1 rfl (lv_room (Nat.le_of_ble_eq_true rfl)) dL_law_558 ⟨Nat.le_of_ble_eq_true rfl, Nat.le_of_ble_eq_true rfl⟩) hP hD hS hA [0, 1] [2] rfl rfl (by decide) (by decide) (fun r16 u17 H locs h18 hP hD hS => ?_)
    have hP : va_P D vwCl [((rm 0), .inr (12, fM rm 0 0))] H := hP
    have hD : va_D A [((rm 0), .inr (12, fM rm 0 0))] := hD
    refine lv_aload_n hx hb dL_law_561 rfl (lv_at hl 1 rfl) ?_
    refine lv_aload_n hx hb dL_law_562 rfl (lv_at hl 3 rfl) ?_
    refine lv_iload_n hx hb dL_law_563 rfl (lv_at hl 0 rfl) ?_
    refine lv_iconst (v := 1) hx hb dL_law_564 (by decide) ?_
    refine lv_iadd hx hb dL_law_565 ?_
    refine lv_topi (fun v19 e20 => ?_)
    obtain rfl : v19 = 1 := e20.trans (by decide)
    refine va_sld hx hb hX hbl hbA hS (vp_in_iff.mpr (by decide)) dL_law_566 ?_
    refine lv_aload_n hx hb dL_law_567 rfl (lv_at hl 3 rfl) ?_
    refine lv_iload_n hx hb dL_law_568 rfl (lv_at hl 0 rfl) ?_
    refine lv_iconst (v := 2) hx hb dL_law_569 (by decide) ?_
    refine lv_iadd hx hb dL_law_570 ?_
    refine lv_topi (fun v21 e22 => ?_)
    obtain rfl : v21 = 2 := e22.trans (by decide)
    refine va_sld hx hb hX hbl hbA hS (vp_in_iff.mpr (by decide)) dL_law_571 ?_
    refine lv_if_eq (tgt := 579) hx hb dL_law_572 (by decide) (fun c => absurd c c5) (fun _ => ?_)
    refine lv_iconst (v := 1) hx hb dL_law_575 (by decide) ?_
    refine lv_goto (tgt := 580) hx hb dL_law_576 (by decide) ?_
    have hPc := hP.sub (ws' := [((rm 0), .inr (12, fM rm 0 0))]) [0] rfl
    have hDc := hD.sub (ws' := [((rm 0), .inr (12, fM rm 0 0))]) [0] (by decide) rfl
    refine cl_i (wr := []) (va_runV (As := [.int (xs (Int32.toNatClampNeg 1)), .int 1]) (rest := [.int r16]) ⟨hx, hb, hml, hown, hts⟩ (c_X12_sluice l D c H.size rm ((xs (Int32.toNatClampNeg 1))) 1) (kw_V 2 hts wd_1457 wd_1458 wd_1459 wd_90 wd_1460 rfl rfl (by decide +kernel) ⟨Nat.le_of_ble_eq_true rfl, Nat.le_of_ble_eq_true rfl⟩) (pre_V hPc hK hDc hN hO (ci := 12) (q0 := 0) rfl rfl) rfl rfl hl.1 rfl (lv_room (Nat.le_of_ble_eq_true rfl)) dL_law_580 ⟨Nat.le_of_ble_eq_true rfl, Nat.le_of_ble_eq_true rfl⟩) hP hD hS hA [0] [] rfl rfl (by decide) (by decide) (fun r23 u24 H locs h25 hP hD hS => ?_)
    have hP : va_P D vwCl [] H := hP
    have hD : va_D A [] := hD
    refine lv_icmp_eq (tgt := 1533) hx hb dL_law_583 (by decide) (fun _ => ?_) (fun c => absurd (h18.trans h25.symm) c)
    exact law_fin hx hb hr hml hown hlocks hX hbl hbA hAs (Nat.le_of_ble_eq_true rfl) (Nat.le_of_ble_eq_true rfl) hS (lv_sub hl [0, 3] rfl)
set_option maxHeartbeats 4000000 in
set_option maxRecDepth 100000 in
theorem law_10 {p : Program} {l : Launch} {e : Env} {s : State} {m : MethodId} {below : List Frame} {meth : Method} {cd : Code} {b : Nat} {xs : Nat → Int32} {H : Heap} {locs : List Loc} {ls : Array Slot} {A : Nat → Prop} {D : va_G} {c : Nat → ClassId} {rx rm : Nat → Nat} (hx : p.tables.exec = Jvm.exec) (hb : cd.code = cL_law) (hr : meth.sig.returnType = ret) (hml : cd.maxLocals = 4) (hown : s.vm.findClass R_law = some m.cls) (hlocks : meth.locks = false) (hX : va_X b 8 xs s s.heap) (hbl : b < s.heap.size) (hbA : ¬ A b) (hAs : ∀ q, A q → s.heap.size ≤ q) (hts : ∀ w ∈ Wd, w.before #[Value.ref b] s = true) (hN : NW s) (hO : ∀ C ∈ aoL, va_AO C s) (hK : va_K D vwCl (TY c) s) (hA : ∀ q, s.heap.size ≤ q → A q) (hP : va_P D vwCl [((rx 0), .inr (11, fX rx 0 0)), ((rx 3), .inl (c 4, 11, .inr (.inr (.inr (.inr (fun _ => none)))))), ((rm 0), .inr (12, fM rm 0 0))] H) (hD : va_D A [((rx 0), .inr (11, fX rx 0 0)), ((rx 3), .inl (c 4, 11, .inr (.inr (.inr (.inr (fun _ => none)))))), ((rm 0), .inr (12, fM rm 0 0))]) (hS : va_S A s.heap H locs) (hl : lv_has ls 4 [(3, .int 0), (2, .ref (rm 0)), (1, .ref (rx 0)), (0, .ref b)]) : W p l e room_1 s m #[Value.ref b] below meth cd H locs 95 102698 (lw_Z below #[Value.ref b] s) (F0 m 588 ls []) := by
  refine lv_aload_n hx hb dL_law_588 rfl (lv_at hl 2 rfl) ?_
  refine lv_aload_n hx hb dL_law_589 rfl (lv_at hl 3 rfl) ?_
  refine lv_iload_n hx hb dL_law_590 rfl (lv_at hl 0 rfl) ?_
  refine lv_iconst (v := 1) hx hb dL_law_591 (by decide) ?_
  refine lv_iadd hx hb dL_law_592 ?_
  refine lv_topi (fun v1 e2 => ?_)
  obtain rfl : v1 = 1 := e2.trans (by decide)
  refine va_sld hx hb hX hbl hbA hS (vp_in_iff.mpr (by decide)) dL_law_593 ?_
  refine lv_aload_n hx hb dL_law_594 rfl (lv_at hl 3 rfl) ?_
  refine lv_iload_n hx hb dL_law_595 rfl (lv_at hl 0 rfl) ?_
  refine lv_iconst (v := 2) hx hb dL_law_596 (by decide) ?_
  refine lv_iadd hx hb dL_law_597 ?_
  refine lv_topi (fun v3 e4 => ?_)
  obtain rfl : v3 = 2 := e4.trans (by decide)
  refine va_sld hx hb hX hbl hbA hS (vp_in_iff.mpr (by decide)) dL_law_598 ?_
  have hPc := hP.sub (ws' := [((rx 0), .inr (11, fX rx 0 0)), ((rx 3), .inl (c 4, 11, .inr (.inr (.inr (.inr (fun _ => none))))))]) [0, 1] rfl
  have hDc := hD.sub (ws' := [((rx 0), .inr (11, fX rx 0 0)), ((rx 3), .inl (c 4, 11, .inr (.inr (.inr (.inr (fun _ => none))))))]) [0, 1] (by decide) rfl
  refine cl_i (wr := [((rm 0), .inr (12, fM rm 0 0))]) (va_runV (As := [.int (xs (Int32.toNatClampNeg 1)), .int (xs (Int32.toNatClampNeg 2))]) (rest := []) ⟨hx, hb, hml, hown, hts⟩ (c_X11_pump l D c H.size rx ((xs (Int32.toNatClampNeg 1))) ((xs (Int32.toNatClampNeg 2)))) (kw_V 2 hts wd_607 wd_608 wd_609 wd_83 wd_610 rfl rfl (by decide +kernel) ⟨Nat.le_of_ble_eq_true rfl, Nat.le_of_ble_eq_true rfl⟩) (pre_V hPc hK hDc hN hO (ci := 11) (q0 := 0) rfl rfl) rfl rfl hl.1 rfl (lv_room (Nat.le_of_ble_eq_true rfl)) dL_law_599 ⟨Nat.le_of_ble_eq_true rfl, Nat.le_of_ble_eq_true rfl⟩) hP hD hS hA [0, 1] [2] rfl rfl (by decide) (by decide) (fun r5 u6 H locs h7 hP hD hS => ?_)
  have hP : va_P D vwCl [((rm 0), .inr (12, fM rm 0 0))] H := hP
  have hD : va_D A [((rm 0), .inr (12, fM rm 0 0))] := hD
  refine lv_aload_n hx hb dL_law_602 rfl (lv_at hl 1 rfl) ?_
  refine lv_aload_n hx hb dL_law_603 rfl (lv_at hl 3 rfl) ?_
  refine lv_iload_n hx hb dL_law_604 rfl (lv_at hl 0 rfl) ?_
  refine lv_iconst (v := 1) hx hb dL_law_605 (by decide) ?_
  refine lv_iadd hx hb dL_law_606 ?_
  refine lv_topi (fun v8 e9 => ?_)
  obtain rfl : v8 = 1 := e9.trans (by decide)
  refine va_sld hx hb hX hbl hbA hS (vp_in_iff.mpr (by decide)) dL_law_607 ?_
  refine lv_aload_n hx hb dL_law_608 rfl (lv_at hl 3 rfl) ?_
  refine lv_iload_n hx hb dL_law_609 rfl (lv_at hl 0 rfl) ?_
  refine lv_iconst (v := 2) hx hb dL_law_610 (by decide) ?_
  refine lv_iadd hx hb dL_law_611 ?_
  refine lv_topi (fun v10 e11 => ?_)
  obtain rfl : v10 = 2 := e11.trans (by decide)
  refine va_sld hx hb hX hbl hbA hS (vp_in_iff.mpr (by decide)) dL_law_612 ?_
  have hPc := hP.sub (ws' := [((rm 0), .inr (12, fM rm 0 0))]) [0] rfl
  have hDc := hD.sub (ws' := [((rm 0), .inr (12, fM rm 0 0))]) [0] (by decide) rfl
  refine cl_i (wr := []) (va_runV (As := [.int (xs (Int32.toNatClampNeg 1)), .int (xs (Int32.toNatClampNeg 2))]) (rest := [.int r5]) ⟨hx, hb, hml, hown, hts⟩ (c_X12_pump l D c H.size rm ((xs (Int32.toNatClampNeg 1))) ((xs (Int32.toNatClampNeg 2)))) (kw_V 2 hts wd_1461 wd_1462 wd_1463 wd_90 wd_1464 rfl rfl (by decide +kernel) ⟨Nat.le_of_ble_eq_true rfl, Nat.le_of_ble_eq_true rfl⟩) (pre_V hPc hK hDc hN hO (ci := 12) (q0 := 0) rfl rfl) rfl rfl hl.1 rfl (lv_room (Nat.le_of_ble_eq_true rfl)) dL_law_613 ⟨Nat.le_of_ble_eq_true rfl, Nat.le_of_ble_eq_true rfl⟩) hP hD hS hA [0] [] rfl rfl (by decide) (by decide) (fun r12 u13 H locs h14 hP hD hS => ?_)
  have hP : va_P D vwCl [] H := hP
  have hD : va_D A [] := hD
  refine lv_icmp_eq (tgt := 1533) hx hb dL_law_616 (by decide) (fun _ => ?_) (fun c => absurd (h7.trans h14.symm) c)
  exact law_fin hx hb hr hml hown hlocks hX hbl hbA hAs (Nat.le_of_ble_eq_true rfl) (Nat.le_of_ble_eq_true rfl) hS (lv_sub hl [0, 3] rfl)
set_option maxHeartbeats 4000000 in
set_option maxRecDepth 100000 in
theorem law_11 {p : Program} {l : Launch} {e : Env} {s : State} {m : MethodId} {below : List Frame} {meth : Method} {cd : Code} {b : Nat} {xs : Nat → Int32} {H : Heap} {locs : List Loc} {ls : Array Slot} {A : Nat → Prop} {D : va_G} {c : Nat → ClassId} {rx rm : Nat → Nat} (hx : p.tables.exec = Jvm.exec) (hb : cd.code = cL_law) (hr : meth.sig.returnType = ret) (hml : cd.maxLocals = 4) (hown : s.vm.findClass R_law = some m.cls) (hlocks : meth.locks = false) (hX : va_X b 8 xs s s.heap) (hbl : b < s.heap.size) (hbA : ¬ A b) (hAs : ∀ q, A q → s.heap.size ≤ q) (hts : ∀ w ∈ Wd, w.before #[Value.ref b] s = true) (hN : NW s) (hO : ∀ C ∈ aoL, va_AO C s) (hK : va_K D vwCl (TY c) s) (hA : ∀ q, s.heap.size ≤ q → A q) (hP : va_P D vwCl [((rx 0), .inr (11, fX rx 0 0)), ((rx 3), .inl (c 4, 11, .inr (.inr (.inr (.inr (fun _ => none)))))), ((rm 0), .inr (12, fM rm 0 0))] H) (hD : va_D A [((rx 0), .inr (11, fX rx 0 0)), ((rx 3), .inl (c 4, 11, .inr (.inr (.inr (.inr (fun _ => none)))))), ((rm 0), .inr (12, fM rm 0 0))]) (hS : va_S A s.heap H locs) (hl : lv_has ls 4 [(3, .int 0), (2, .ref (rm 0)), (1, .ref (rx 0)), (0, .ref b)]) : W p l e room_1 s m #[Value.ref b] below meth cd H locs 95 102698 (lw_Z below #[Value.ref b] s) (F0 m 621 ls []) := by
  refine lv_aload_n hx hb dL_law_621 rfl (lv_at hl 2 rfl) ?_
  refine lv_aload_n hx hb dL_law_622 rfl (lv_at hl 3 rfl) ?_
  refine lv_iload_n hx hb dL_law_623 rfl (lv_at hl 0 rfl) ?_
  refine lv_iconst (v := 1) hx hb dL_law_624 (by decide) ?_
  refine lv_iadd hx hb dL_law_625 ?_
  refine lv_topi (fun v1 e2 => ?_)
  obtain rfl : v1 = 1 := e2.trans (by decide)
  refine va_sld hx hb hX hbl hbA hS (vp_in_iff.mpr (by decide)) dL_law_626 ?_
  have hPc := hP.sub (ws' := [((rx 0), .inr (11, fX rx 0 0)), ((rx 3), .inl (c 4, 11, .inr (.inr (.inr (.inr (fun _ => none))))))]) [0, 1] rfl
  have hDc := hD.sub (ws' := [((rx 0), .inr (11, fX rx 0 0)), ((rx 3), .inl (c 4, 11, .inr (.inr (.inr (.inr (fun _ => none))))))]) [0, 1] (by decide) rfl
  refine cl_i (wr := [((rm 0), .inr (12, fM rm 0 0))]) (va_runV (As := [.int (xs (Int32.toNatClampNeg 1))]) (rest := []) ⟨hx, hb, hml, hown, hts⟩ (c_X11_clean l D c H.size rx ((xs (Int32.toNatClampNeg 1)))) (kw_V 1 hts wd_611 wd_612 wd_613 wd_83 wd_614 rfl rfl (by decide +kernel) ⟨Nat.le_of_ble_eq_true rfl, Nat.le_of_ble_eq_true rfl⟩) (pre_V hPc hK hDc hN hO (ci := 11) (q0 := 0) rfl rfl) rfl rfl hl.1 rfl (lv_room (Nat.le_of_ble_eq_true rfl)) dL_law_627 ⟨Nat.le_of_ble_eq_true rfl, Nat.le_of_ble_eq_true rfl⟩) hP hD hS hA [0, 1] [2] rfl rfl (by decide) (by decide) (fun r3 u4 H locs h5 hP hD hS => ?_)
  have hP : va_P D vwCl [((rm 0), .inr (12, fM rm 0 0))] H := hP
  have hD : va_D A [((rm 0), .inr (12, fM rm 0 0))] := hD
  refine lv_aload_n hx hb dL_law_630 rfl (lv_at hl 1 rfl) ?_
  refine lv_aload_n hx hb dL_law_631 rfl (lv_at hl 3 rfl) ?_
  refine lv_iload_n hx hb dL_law_632 rfl (lv_at hl 0 rfl) ?_
  refine lv_iconst (v := 1) hx hb dL_law_633 (by decide) ?_
  refine lv_iadd hx hb dL_law_634 ?_
  refine lv_topi (fun v6 e7 => ?_)
  obtain rfl : v6 = 1 := e7.trans (by decide)
  refine va_sld hx hb hX hbl hbA hS (vp_in_iff.mpr (by decide)) dL_law_635 ?_
  have hPc := hP.sub (ws' := [((rm 0), .inr (12, fM rm 0 0))]) [0] rfl
  have hDc := hD.sub (ws' := [((rm 0), .inr (12, fM rm 0 0))]) [0] (by decide) rfl
  refine cl_i (wr := []) (va_runV (As := [.int (xs (Int32.toNatClampNeg 1))]) (rest := [.int r3]) ⟨hx, hb, hml, hown, hts⟩ (c_X12_clean l D c H.size rm ((xs (Int32.toNatClampNeg 1)))) (kw_V 1 hts wd_1465 wd_1466 wd_1467 wd_90 wd_1468 rfl rfl (by decide +kernel) ⟨Nat.le_of_ble_eq_true rfl, Nat.le_of_ble_eq_true rfl⟩) (pre_V hPc hK hDc hN hO (ci := 12) (q0 := 0) rfl rfl) rfl rfl hl.1 rfl (lv_room (Nat.le_of_ble_eq_true rfl)) dL_law_636 ⟨Nat.le_of_ble_eq_true rfl, Nat.le_of_ble_eq_true rfl⟩) hP hD hS hA [0] [] rfl rfl (by decide) (by decide) (fun r8 u9 H locs h10 hP hD hS => ?_)
  have hP : va_P D vwCl [] H := hP
  have hD : va_D A [] := hD
  refine lv_icmp_eq (tgt := 1533) hx hb dL_law_639 (by decide) (fun _ => ?_) (fun c => absurd (h5.trans h10.symm) c)
  exact law_fin hx hb hr hml hown hlocks hX hbl hbA hAs (Nat.le_of_ble_eq_true rfl) (Nat.le_of_ble_eq_true rfl) hS (lv_sub hl [0, 3] rfl)
set_option maxHeartbeats 4000000 in
set_option maxRecDepth 100000 in
theorem law_12 {p : Program} {l : Launch} {e : Env} {s : State} {m : MethodId} {below : List Frame} {meth : Method} {cd : Code} {b : Nat} {xs : Nat → Int32} {H : Heap} {locs : List Loc} {ls : Array Slot} {A : Nat → Prop} {D : va_G} {c : Nat → ClassId} {rx rm : Nat → Nat} (hx : p.tables.exec = Jvm.exec) (hb : cd.code = cL_law) (hr : meth.sig.returnType = ret) (hml : cd.maxLocals = 4) (hown : s.vm.findClass R_law = some m.cls) (hlocks : meth.locks = false) (hX : va_X b 8 xs s s.heap) (hbl : b < s.heap.size) (hbA : ¬ A b) (hAs : ∀ q, A q → s.heap.size ≤ q) (hts : ∀ w ∈ Wd, w.before #[Value.ref b] s = true) (hN : NW s) (hO : ∀ C ∈ aoL, va_AO C s) (hK : va_K D vwCl (TY c) s) (hA : ∀ q, s.heap.size ≤ q → A q) (hP : va_P D vwCl [((rx 0), .inr (11, fX rx 0 0)), ((rx 3), .inl (c 4, 11, .inr (.inr (.inr (.inr (fun _ => none)))))), ((rm 0), .inr (12, fM rm 0 0)), ((rm 9), .inl (c 0, 3, .inl (setF)))] H) (hD : va_D A [((rx 0), .inr (11, fX rx 0 0)), ((rx 3), .inl (c 4, 11, .inr (.inr (.inr (.inr (fun _ => none)))))), ((rm 0), .inr (12, fM rm 0 0)), ((rm 9), .inl (c 0, 3, .inl (setF)))]) (hS : va_S A s.heap H locs) (hl : lv_has ls 4 [(3, .int 0), (2, .ref (rm 0)), (1, .ref (rx 0)), (0, .ref b)]) : W p l e room_1 s m #[Value.ref b] below meth cd H locs 95 102698 (lw_Z below #[Value.ref b] s) (F0 m 644 ls []) := by
  refine lv_aload_n hx hb dL_law_644 rfl (lv_at hl 2 rfl) ?_
  refine lv_aload_n hx hb dL_law_645 rfl (lv_at hl 3 rfl) ?_
  refine lv_iload_n hx hb dL_law_646 rfl (lv_at hl 0 rfl) ?_
  refine lv_iconst (v := 1) hx hb dL_law_647 (by decide) ?_
  refine lv_iadd hx hb dL_law_648 ?_
  refine lv_topi (fun v1 e2 => ?_)
  obtain rfl : v1 = 1 := e2.trans (by decide)
  refine va_sld hx hb hX hbl hbA hS (vp_in_iff.mpr (by decide)) dL_law_649 ?_
  have hPc := hP.sub (ws' := [((rx 0), .inr (11, fX rx 0 0)), ((rx 3), .inl (c 4, 11, .inr (.inr (.inr (.inr (fun _ => none))))))]) [0, 1] rfl
  have hDc := hD.sub (ws' := [((rx 0), .inr (11, fX rx 0 0)), ((rx 3), .inl (c 4, 11, .inr (.inr (.inr (.inr (fun _ => none))))))]) [0, 1] (by decide) rfl
  refine cl_i (wr := [((rm 0), .inr (12, fM rm 0 0)), ((rm 9), .inl (c 0, 3, .inl (setF)))]) (va_runV (As := [.int (xs (Int32.toNatClampNeg 1))]) (rest := []) ⟨hx, hb, hml, hown, hts⟩ (c_X11_pass l D c H.size rx ((xs (Int32.toNatClampNeg 1)))) (kw_V 1 hts wd_619 wd_620 wd_621 wd_83 wd_622 rfl rfl (by decide +kernel) ⟨Nat.le_of_ble_eq_true rfl, Nat.le_of_ble_eq_true rfl⟩) (pre_V hPc hK hDc hN hO (ci := 11) (q0 := 0) rfl rfl) rfl rfl hl.1 rfl (lv_room (Nat.le_of_ble_eq_true rfl)) dL_law_650 ⟨Nat.le_of_ble_eq_true rfl, Nat.le_of_ble_eq_true rfl⟩) hP hD hS hA [0, 1] [2, 3] rfl rfl (by decide) (by decide) (fun r3 u4 H locs h5 hP hD hS => ?_)
  have hP : va_P D vwCl [((rm 0), .inr (12, fM rm 0 0)), ((rm 9), .inl (c 0, 3, .inl (setF)))] H := hP
  have hD : va_D A [((rm 0), .inr (12, fM rm 0 0)), ((rm 9), .inl (c 0, 3, .inl (setF)))] := hD
  refine lv_aload_n hx hb dL_law_653 rfl (lv_at hl 1 rfl) ?_
  refine lv_aload_n hx hb dL_law_654 rfl (lv_at hl 3 rfl) ?_
  refine lv_iload_n hx hb dL_law_655 rfl (lv_at hl 0 rfl) ?_
  refine lv_iconst (v := 1) hx hb dL_law_656 (by decide) ?_
  refine lv_iadd hx hb dL_law_657 ?_
  refine lv_topi (fun v6 e7 => ?_)
  obtain rfl : v6 = 1 := e7.trans (by decide)
  refine va_sld hx hb hX hbl hbA hS (vp_in_iff.mpr (by decide)) dL_law_658 ?_
  have hPc := hP.sub (ws' := [((rm 0), .inr (12, fM rm 0 0)), ((rm 9), .inl (c 0, 3, .inl (setF)))]) [0, 1] rfl
  have hDc := hD.sub (ws' := [((rm 0), .inr (12, fM rm 0 0)), ((rm 9), .inl (c 0, 3, .inl (setF)))]) [0, 1] (by decide) rfl
  refine cl_i (wr := []) (va_runV (As := [.int (xs (Int32.toNatClampNeg 1))]) (rest := [.int r3]) ⟨hx, hb, hml, hown, hts⟩ (c_X12_pass l D c H.size rm ((xs (Int32.toNatClampNeg 1)))) (kw_V 1 hts wd_1469 wd_1470 wd_1471 wd_90 wd_1472 rfl rfl (by decide +kernel) ⟨Nat.le_of_ble_eq_true rfl, Nat.le_of_ble_eq_true rfl⟩) (pre_V hPc hK hDc hN hO (ci := 12) (q0 := 0) rfl rfl) rfl rfl hl.1 rfl (lv_room (Nat.le_of_ble_eq_true rfl)) dL_law_659 ⟨Nat.le_of_ble_eq_true rfl, Nat.le_of_ble_eq_true rfl⟩) hP hD hS hA [0, 1] [] rfl rfl (by decide) (by decide) (fun r8 u9 H locs h10 hP hD hS => ?_)
  have hP : va_P D vwCl [] H := hP
  have hD : va_D A [] := hD
  refine lv_icmp_eq (tgt := 1533) hx hb dL_law_662 (by decide) (fun _ => ?_) (fun c => absurd (h5.trans h10.symm) c)
  exact law_fin hx hb hr hml hown hlocks hX hbl hbA hAs (Nat.le_of_ble_eq_true rfl) (Nat.le_of_ble_eq_true rfl) hS (lv_sub hl [0, 3] rfl)
set_option maxHeartbeats 4000000 in
set_option maxRecDepth 100000 in
theorem law_13 {p : Program} {l : Launch} {e : Env} {s : State} {m : MethodId} {below : List Frame} {meth : Method} {cd : Code} {b : Nat} {xs : Nat → Int32} {H : Heap} {locs : List Loc} {ls : Array Slot} {A : Nat → Prop} {D : va_G} {c : Nat → ClassId} {rx rm : Nat → Nat} (hx : p.tables.exec = Jvm.exec) (hb : cd.code = cL_law) (hr : meth.sig.returnType = ret) (hml : cd.maxLocals = 4) (hown : s.vm.findClass R_law = some m.cls) (hlocks : meth.locks = false) (hX : va_X b 8 xs s s.heap) (hbl : b < s.heap.size) (hbA : ¬ A b) (hAs : ∀ q, A q → s.heap.size ≤ q) (hts : ∀ w ∈ Wd, w.before #[Value.ref b] s = true) (hN : NW s) (hO : ∀ C ∈ aoL, va_AO C s) (hK : va_K D vwCl (TY c) s) (hA : ∀ q, s.heap.size ≤ q → A q) (hP : va_P D vwCl [((rx 0), .inr (11, fX rx 0 0)), ((rx 3), .inl (c 4, 11, .inr (.inr (.inr (.inr (fun _ => none)))))), ((rm 0), .inr (12, fM rm 0 0))] H) (hD : va_D A [((rx 0), .inr (11, fX rx 0 0)), ((rx 3), .inl (c 4, 11, .inr (.inr (.inr (.inr (fun _ => none)))))), ((rm 0), .inr (12, fM rm 0 0))]) (hS : va_S A s.heap H locs) (hl : lv_has ls 4 [(3, .int 0), (2, .ref (rm 0)), (1, .ref (rx 0)), (0, .ref b)]) : W p l e room_1 s m #[Value.ref b] below meth cd H locs 95 102698 (lw_Z below #[Value.ref b] s) (F0 m 667 ls []) := by
  refine lv_aload_n hx hb dL_law_667 rfl (lv_at hl 2 rfl) ?_
  refine lv_aload_n hx hb dL_law_668 rfl (lv_at hl 3 rfl) ?_
  refine lv_iload_n hx hb dL_law_669 rfl (lv_at hl 0 rfl) ?_
  refine lv_iconst (v := 1) hx hb dL_law_670 (by decide) ?_
  refine lv_iadd hx hb dL_law_671 ?_
  refine lv_topi (fun v1 e2 => ?_)
  obtain rfl : v1 = 1 := e2.trans (by decide)
  refine va_sld hx hb hX hbl hbA hS (vp_in_iff.mpr (by decide)) dL_law_672 ?_
  refine lv_aload_n hx hb dL_law_673 rfl (lv_at hl 3 rfl) ?_
  refine lv_iload_n hx hb dL_law_674 rfl (lv_at hl 0 rfl) ?_
  refine lv_iconst (v := 2) hx hb dL_law_675 (by decide) ?_
  refine lv_iadd hx hb dL_law_676 ?_
  refine lv_topi (fun v3 e4 => ?_)
  obtain rfl : v3 = 2 := e4.trans (by decide)
  refine va_sld hx hb hX hbl hbA hS (vp_in_iff.mpr (by decide)) dL_law_677 ?_
  have hPc := hP.sub (ws' := [((rx 0), .inr (11, fX rx 0 0)), ((rx 3), .inl (c 4, 11, .inr (.inr (.inr (.inr (fun _ => none))))))]) [0, 1] rfl
  have hDc := hD.sub (ws' := [((rx 0), .inr (11, fX rx 0 0)), ((rx 3), .inl (c 4, 11, .inr (.inr (.inr (.inr (fun _ => none))))))]) [0, 1] (by decide) rfl
  refine cl_i (wr := [((rm 0), .inr (12, fM rm 0 0))]) (va_runV (As := [.int (xs (Int32.toNatClampNeg 1)), .int (xs (Int32.toNatClampNeg 2))]) (rest := []) ⟨hx, hb, hml, hown, hts⟩ (c_X11_about l D c H.size rx ((xs (Int32.toNatClampNeg 1))) ((xs (Int32.toNatClampNeg 2)))) (kw_V 2 hts wd_677 wd_678 wd_679 wd_83 wd_680 rfl rfl (by decide +kernel) ⟨Nat.le_of_ble_eq_true rfl, Nat.le_of_ble_eq_true rfl⟩) (pre_V hPc hK hDc hN hO (ci := 11) (q0 := 0) rfl rfl) rfl rfl hl.1 rfl (lv_room (Nat.le_of_ble_eq_true rfl)) dL_law_678 ⟨Nat.le_of_ble_eq_true rfl, Nat.le_of_ble_eq_true rfl⟩) hP hD hS hA [0, 1] [2] rfl rfl (by decide) (by decide) (fun r5 u6 H locs h7 hP hD hS => ?_)
  have hP : va_P D vwCl [((rm 0), .inr (12, fM rm 0 0))] H := hP
  have hD : va_D A [((rm 0), .inr (12, fM rm 0 0))] := hD
  refine lv_aload_n hx hb dL_law_681 rfl (lv_at hl 1 rfl) ?_
  refine lv_aload_n hx hb dL_law_682 rfl (lv_at hl 3 rfl) ?_
  refine lv_iload_n hx hb dL_law_683 rfl (lv_at hl 0 rfl) ?_
  refine lv_iconst (v := 1) hx hb dL_law_684 (by decide) ?_
  refine lv_iadd hx hb dL_law_685 ?_
  refine lv_topi (fun v8 e9 => ?_)
  obtain rfl : v8 = 1 := e9.trans (by decide)
  refine va_sld hx hb hX hbl hbA hS (vp_in_iff.mpr (by decide)) dL_law_686 ?_
  refine lv_aload_n hx hb dL_law_687 rfl (lv_at hl 3 rfl) ?_
  refine lv_iload_n hx hb dL_law_688 rfl (lv_at hl 0 rfl) ?_
  refine lv_iconst (v := 2) hx hb dL_law_689 (by decide) ?_
  refine lv_iadd hx hb dL_law_690 ?_
  refine lv_topi (fun v10 e11 => ?_)
  obtain rfl : v10 = 2 := e11.trans (by decide)
  refine va_sld hx hb hX hbl hbA hS (vp_in_iff.mpr (by decide)) dL_law_691 ?_
  have hPc := hP.sub (ws' := [((rm 0), .inr (12, fM rm 0 0))]) [0] rfl
  have hDc := hD.sub (ws' := [((rm 0), .inr (12, fM rm 0 0))]) [0] (by decide) rfl
  refine cl_i (wr := []) (va_runV (As := [.int (xs (Int32.toNatClampNeg 1)), .int (xs (Int32.toNatClampNeg 2))]) (rest := [.int r5]) ⟨hx, hb, hml, hown, hts⟩ (c_X12_about l D c H.size rm ((xs (Int32.toNatClampNeg 1))) ((xs (Int32.toNatClampNeg 2)))) (kw_V 2 hts wd_1519 wd_1520 wd_1521 wd_90 wd_1522 rfl rfl (by decide +kernel) ⟨Nat.le_of_ble_eq_true rfl, Nat.le_of_ble_eq_true rfl⟩) (pre_V hPc hK hDc hN hO (ci := 12) (q0 := 0) rfl rfl) rfl rfl hl.1 rfl (lv_room (Nat.le_of_ble_eq_true rfl)) dL_law_692 ⟨Nat.le_of_ble_eq_true rfl, Nat.le_of_ble_eq_true rfl⟩) hP hD hS hA [0] [] rfl rfl (by decide) (by decide) (fun r12 u13 H locs h14 hP hD hS => ?_)
  have hP : va_P D vwCl [] H := hP
  have hD : va_D A [] := hD
  refine lv_icmp_eq (tgt := 1533) hx hb dL_law_695 (by decide) (fun _ => ?_) (fun c => absurd (h7.trans h14.symm) c)
  exact law_fin hx hb hr hml hown hlocks hX hbl hbA hAs (Nat.le_of_ble_eq_true rfl) (Nat.le_of_ble_eq_true rfl) hS (lv_sub hl [0, 3] rfl)
set_option maxHeartbeats 4000000 in
set_option maxRecDepth 100000 in
theorem law_14 {p : Program} {l : Launch} {e : Env} {s : State} {m : MethodId} {below : List Frame} {meth : Method} {cd : Code} {b : Nat} {xs : Nat → Int32} {H : Heap} {locs : List Loc} {ls : Array Slot} {A : Nat → Prop} {D : va_G} {c : Nat → ClassId} {rx rm : Nat → Nat} (hx : p.tables.exec = Jvm.exec) (hb : cd.code = cL_law) (hr : meth.sig.returnType = ret) (hml : cd.maxLocals = 4) (hown : s.vm.findClass R_law = some m.cls) (hlocks : meth.locks = false) (hX : va_X b 8 xs s s.heap) (hbl : b < s.heap.size) (hbA : ¬ A b) (hAs : ∀ q, A q → s.heap.size ≤ q) (hts : ∀ w ∈ Wd, w.before #[Value.ref b] s = true) (hN : NW s) (hO : ∀ C ∈ aoL, va_AO C s) (hK : va_K D vwCl (TY c) s) (hA : ∀ q, s.heap.size ≤ q → A q) (hP : va_P D vwCl [((rx 0), .inr (11, fX rx 0 0)), ((rx 3), .inl (c 4, 11, .inr (.inr (.inr (.inr (fun _ => none)))))), ((rm 0), .inr (12, fM rm 0 0))] H) (hD : va_D A [((rx 0), .inr (11, fX rx 0 0)), ((rx 3), .inl (c 4, 11, .inr (.inr (.inr (.inr (fun _ => none)))))), ((rm 0), .inr (12, fM rm 0 0))]) (hS : va_S A s.heap H locs) (hl : lv_has ls 4 [(3, .int 0), (2, .ref (rm 0)), (1, .ref (rx 0)), (0, .ref b)]) : W p l e room_1 s m #[Value.ref b] below meth cd H locs 95 102698 (lw_Z below #[Value.ref b] s) (F0 m 700 ls []) := by
  refine lv_aload_n hx hb dL_law_700 rfl (lv_at hl 2 rfl) ?_
  refine lv_aload_n hx hb dL_law_701 rfl (lv_at hl 3 rfl) ?_
  refine lv_iload_n hx hb dL_law_702 rfl (lv_at hl 0 rfl) ?_
  refine lv_iconst (v := 1) hx hb dL_law_703 (by decide) ?_
  refine lv_iadd hx hb dL_law_704 ?_
  refine lv_topi (fun v1 e2 => ?_)
  obtain rfl : v1 = 1 := e2.trans (by decide)
  refine va_sld hx hb hX hbl hbA hS (vp_in_iff.mpr (by decide)) dL_law_705 ?_
  refine lv_aload_n hx hb dL_law_706 rfl (lv_at hl 3 rfl) ?_
  refine lv_iload_n hx hb dL_law_707 rfl (lv_at hl 0 rfl) ?_
  refine lv_iconst (v := 2) hx hb dL_law_708 (by decide) ?_
  refine lv_iadd hx hb dL_law_709 ?_
  refine lv_topi (fun v3 e4 => ?_)
  obtain rfl : v3 = 2 := e4.trans (by decide)
  refine va_sld hx hb hX hbl hbA hS (vp_in_iff.mpr (by decide)) dL_law_710 ?_
  refine lv_aload_n hx hb dL_law_711 rfl (lv_at hl 3 rfl) ?_
  refine lv_iload_n hx hb dL_law_712 rfl (lv_at hl 0 rfl) ?_
  refine lv_iconst (v := 3) hx hb dL_law_713 (by decide) ?_
  refine lv_iadd hx hb dL_law_714 ?_
  refine lv_topi (fun v5 e6 => ?_)
  obtain rfl : v5 = 3 := e6.trans (by decide)
  refine va_sld hx hb hX hbl hbA hS (vp_in_iff.mpr (by decide)) dL_law_715 ?_
  have hPc := hP.sub (ws' := [((rx 0), .inr (11, fX rx 0 0)), ((rx 3), .inl (c 4, 11, .inr (.inr (.inr (.inr (fun _ => none))))))]) [0, 1] rfl
  have hDc := hD.sub (ws' := [((rx 0), .inr (11, fX rx 0 0)), ((rx 3), .inl (c 4, 11, .inr (.inr (.inr (.inr (fun _ => none))))))]) [0, 1] (by decide) rfl
  refine cl_i (wr := [((rm 0), .inr (12, fM rm 0 0))]) (va_runV (As := [.int (xs (Int32.toNatClampNeg 1)), .int (xs (Int32.toNatClampNeg 2)), .int (xs (Int32.toNatClampNeg 3))]) (rest := []) ⟨hx, hb, hml, hown, hts⟩ (c_X11_hour l D c H.size rx ((xs (Int32.toNatClampNeg 1))) ((xs (Int32.toNatClampNeg 2))) ((xs (Int32.toNatClampNeg 3)))) (kw_V 3 hts wd_682 wd_683 wd_684 wd_83 wd_685 rfl rfl (by decide +kernel) ⟨Nat.le_of_ble_eq_true rfl, Nat.le_of_ble_eq_true rfl⟩) (pre_V hPc hK hDc hN hO (ci := 11) (q0 := 0) rfl rfl) rfl rfl hl.1 rfl (lv_room (Nat.le_of_ble_eq_true rfl)) dL_law_716 ⟨Nat.le_of_ble_eq_true rfl, Nat.le_of_ble_eq_true rfl⟩) hP hD hS hA [0, 1] [2] rfl rfl (by decide) (by decide) (fun r7 u8 H locs h9 hP hD hS => ?_)
  have hP : va_P D vwCl [((rm 0), .inr (12, fM rm 0 0))] H := hP
  have hD : va_D A [((rm 0), .inr (12, fM rm 0 0))] := hD
  refine lv_aload_n hx hb dL_law_719 rfl (lv_at hl 1 rfl) ?_
  refine lv_aload_n hx hb dL_law_720 rfl (lv_at hl 3 rfl) ?_
  refine lv_iload_n hx hb dL_law_721 rfl (lv_at hl 0 rfl) ?_
  refine lv_iconst (v := 1) hx hb dL_law_722 (by decide) ?_
  refine lv_iadd hx hb dL_law_723 ?_
  refine lv_topi (fun v10 e11 => ?_)
  obtain rfl : v10 = 1 := e11.trans (by decide)
  refine va_sld hx hb hX hbl hbA hS (vp_in_iff.mpr (by decide)) dL_law_724 ?_
  refine lv_aload_n hx hb dL_law_725 rfl (lv_at hl 3 rfl) ?_
  refine lv_iload_n hx hb dL_law_726 rfl (lv_at hl 0 rfl) ?_
  refine lv_iconst (v := 2) hx hb dL_law_727 (by decide) ?_
  refine lv_iadd hx hb dL_law_728 ?_
  refine lv_topi (fun v12 e13 => ?_)
  obtain rfl : v12 = 2 := e13.trans (by decide)
  refine va_sld hx hb hX hbl hbA hS (vp_in_iff.mpr (by decide)) dL_law_729 ?_
  refine lv_aload_n hx hb dL_law_730 rfl (lv_at hl 3 rfl) ?_
  refine lv_iload_n hx hb dL_law_731 rfl (lv_at hl 0 rfl) ?_
  refine lv_iconst (v := 3) hx hb dL_law_732 (by decide) ?_
  refine lv_iadd hx hb dL_law_733 ?_
  refine lv_topi (fun v14 e15 => ?_)
  obtain rfl : v14 = 3 := e15.trans (by decide)
  refine va_sld hx hb hX hbl hbA hS (vp_in_iff.mpr (by decide)) dL_law_734 ?_
  have hPc := hP.sub (ws' := [((rm 0), .inr (12, fM rm 0 0))]) [0] rfl
  have hDc := hD.sub (ws' := [((rm 0), .inr (12, fM rm 0 0))]) [0] (by decide) rfl
  refine cl_i (wr := []) (va_runV (As := [.int (xs (Int32.toNatClampNeg 1)), .int (xs (Int32.toNatClampNeg 2)), .int (xs (Int32.toNatClampNeg 3))]) (rest := [.int r7]) ⟨hx, hb, hml, hown, hts⟩ (c_X12_hour l D c H.size rm ((xs (Int32.toNatClampNeg 1))) ((xs (Int32.toNatClampNeg 2))) ((xs (Int32.toNatClampNeg 3)))) (kw_V 3 hts wd_1523 wd_1524 wd_1525 wd_90 wd_1526 rfl rfl (by decide +kernel) ⟨Nat.le_of_ble_eq_true rfl, Nat.le_of_ble_eq_true rfl⟩) (pre_V hPc hK hDc hN hO (ci := 12) (q0 := 0) rfl rfl) rfl rfl hl.1 rfl (lv_room (Nat.le_of_ble_eq_true rfl)) dL_law_735 ⟨Nat.le_of_ble_eq_true rfl, Nat.le_of_ble_eq_true rfl⟩) hP hD hS hA [0] [] rfl rfl (by decide) (by decide) (fun r16 u17 H locs h18 hP hD hS => ?_)
  have hP : va_P D vwCl [] H := hP
  have hD : va_D A [] := hD
  refine lv_icmp_eq (tgt := 1533) hx hb dL_law_738 (by decide) (fun _ => ?_) (fun c => absurd (h9.trans h18.symm) c)
  exact law_fin hx hb hr hml hown hlocks hX hbl hbA hAs (Nat.le_of_ble_eq_true rfl) (Nat.le_of_ble_eq_true rfl) hS (lv_sub hl [0, 3] rfl)
set_option maxHeartbeats 4000000 in
set_option maxRecDepth 100000 in
theorem law_15 {p : Program} {l : Launch} {e : Env} {s : State} {m : MethodId} {below : List Frame} {meth : Method} {cd : Code} {b : Nat} {xs : Nat → Int32} {H : Heap} {locs : List Loc} {ls : Array Slot} {A : Nat → Prop} {D : va_G} {c : Nat → ClassId} {rx rm : Nat → Nat} (hx : p.tables.exec = Jvm.exec) (hb : cd.code = cL_law) (hr : meth.sig.returnType = ret) (hml : cd.maxLocals = 4) (hown : s.vm.findClass R_law = some m.cls) (hlocks : meth.locks = false) (hX : va_X b 8 xs s s.heap) (hbl : b < s.heap.size) (hbA : ¬ A b) (hAs : ∀ q, A q → s.heap.size ≤ q) (hts : ∀ w ∈ Wd, w.before #[Value.ref b] s = true) (hN : NW s) (hO : ∀ C ∈ aoL, va_AO C s) (hK : va_K D vwCl (TY c) s) (hA : ∀ q, s.heap.size ≤ q → A q) (hP : va_P D vwCl [((rx 0), .inr (11, fX rx 0 0)), ((rx 4), .inr (5, fRd rx 0)), ((rx 27), .inl (c 0, 300, .inl (fun _ => 0))), ((rm 0), .inr (12, fM rm 0 0)), ((rm 45), .inl (c 1, 300, .inl (fun _ => 0)))] H) (hD : va_D A [((rx 0), .inr (11, fX rx 0 0)), ((rx 4), .inr (5, fRd rx 0)), ((rx 27), .inl (c 0, 300, .inl (fun _ => 0))), ((rm 0), .inr (12, fM rm 0 0)), ((rm 45), .inl (c 1, 300, .inl (fun _ => 0)))]) (hS : va_S A s.heap H locs) (hl : lv_has ls 4 [(3, .int 0), (2, .ref (rm 0)), (1, .ref (rx 0)), (0, .ref b)]) : W p l e room_1 s m #[Value.ref b] below meth cd H locs 95 102698 (lw_Z below #[Value.ref b] s) (F0 m 743 ls []) := by
  refine lv_aload_n hx hb dL_law_743 rfl (lv_at hl 2 rfl) ?_
  refine lv_aload_n hx hb dL_law_744 rfl (lv_at hl 3 rfl) ?_
  refine lv_iload_n hx hb dL_law_745 rfl (lv_at hl 0 rfl) ?_
  refine lv_iconst (v := 1) hx hb dL_law_746 (by decide) ?_
  refine lv_iadd hx hb dL_law_747 ?_
  refine lv_topi (fun v1 e2 => ?_)
  obtain rfl : v1 = 1 := e2.trans (by decide)
  refine va_sld hx hb hX hbl hbA hS (vp_in_iff.mpr (by decide)) dL_law_748 ?_
  refine lv_aload_n hx hb dL_law_749 rfl (lv_at hl 3 rfl) ?_
  refine lv_iload_n hx hb dL_law_750 rfl (lv_at hl 0 rfl) ?_
  refine lv_iconst (v := 2) hx hb dL_law_751 (by decide) ?_
  refine lv_iadd hx hb dL_law_752 ?_
  refine lv_topi (fun v3 e4 => ?_)
  obtain rfl : v3 = 2 := e4.trans (by decide)
  refine va_sld hx hb hX hbl hbA hS (vp_in_iff.mpr (by decide)) dL_law_753 ?_
  refine lv_aload_n hx hb dL_law_754 rfl (lv_at hl 3 rfl) ?_
  refine lv_iload_n hx hb dL_law_755 rfl (lv_at hl 0 rfl) ?_
  refine lv_iconst (v := 3) hx hb dL_law_756 (by decide) ?_
  refine lv_iadd hx hb dL_law_757 ?_
  refine lv_topi (fun v5 e6 => ?_)
  obtain rfl : v5 = 3 := e6.trans (by decide)
  refine va_sld hx hb hX hbl hbA hS (vp_in_iff.mpr (by decide)) dL_law_758 ?_
  refine lv_aload_n hx hb dL_law_759 rfl (lv_at hl 3 rfl) ?_
  refine lv_iload_n hx hb dL_law_760 rfl (lv_at hl 0 rfl) ?_
  refine lv_iconst (v := 4) hx hb dL_law_761 (by decide) ?_
  refine lv_iadd hx hb dL_law_762 ?_
  refine lv_topi (fun v7 e8 => ?_)
  obtain rfl : v7 = 4 := e8.trans (by decide)
  refine va_sld hx hb hX hbl hbA hS (vp_in_iff.mpr (by decide)) dL_law_763 ?_
  refine lv_aload_n hx hb dL_law_764 rfl (lv_at hl 3 rfl) ?_
  refine lv_iload_n hx hb dL_law_765 rfl (lv_at hl 0 rfl) ?_
  refine lv_iconst (v := 5) hx hb dL_law_766 (by decide) ?_
  refine lv_iadd hx hb dL_law_767 ?_
  refine lv_topi (fun v9 e10 => ?_)
  obtain rfl : v9 = 5 := e10.trans (by decide)
  refine va_sld hx hb hX hbl hbA hS (vp_in_iff.mpr (by decide)) dL_law_768 ?_
  have hPc := hP.sub (ws' := [((rx 0), .inr (11, fX rx 0 0)), ((rx 4), .inr (5, fRd rx 0)), ((rx 27), .inl (c 0, 300, .inl (fun _ => 0)))]) [0, 1, 2] rfl
  have hDc := hD.sub (ws' := [((rx 0), .inr (11, fX rx 0 0)), ((rx 4), .inr (5, fRd rx 0)), ((rx 27), .inl (c 0, 300, .inl (fun _ => 0)))]) [0, 1, 2] (by decide) rfl
  refine cl_i (wr := [((rm 0), .inr (12, fM rm 0 0)), ((rm 45), .inl (c 1, 300, .inl (fun _ => 0)))]) (va_runV (As := [.int (xs (Int32.toNatClampNeg 1)), .int (xs (Int32.toNatClampNeg 2)), .int (xs (Int32.toNatClampNeg 3)), .int (xs (Int32.toNatClampNeg 4)), .int (xs (Int32.toNatClampNeg 5))]) (rest := []) ⟨hx, hb, hml, hown, hts⟩ (c_X11_feed l D c H.size rx ((xs (Int32.toNatClampNeg 1))) ((xs (Int32.toNatClampNeg 2))) ((xs (Int32.toNatClampNeg 3))) ((xs (Int32.toNatClampNeg 4))) ((xs (Int32.toNatClampNeg 5)))) (kw_V 5 hts wd_701 wd_702 wd_703 wd_83 wd_704 rfl rfl (by decide +kernel) ⟨Nat.le_of_ble_eq_true rfl, Nat.le_of_ble_eq_true rfl⟩) (pre_V hPc hK hDc hN hO (ci := 11) (q0 := 0) rfl rfl) rfl rfl hl.1 rfl (lv_room (Nat.le_of_ble_eq_true rfl)) dL_law_769 ⟨Nat.le_of_ble_eq_true rfl, Nat.le_of_ble_eq_true rfl⟩) hP hD hS hA [0, 1, 2] [3, 4] rfl rfl (by decide) (by decide) (fun r11 u12 H locs h13 hP hD hS => ?_)
  have hP : va_P D vwCl [((rm 0), .inr (12, fM rm 0 0)), ((rm 45), .inl (c 1, 300, .inl (fun _ => 0)))] H := hP
  have hD : va_D A [((rm 0), .inr (12, fM rm 0 0)), ((rm 45), .inl (c 1, 300, .inl (fun _ => 0)))] := hD
  refine lv_aload_n hx hb dL_law_772 rfl (lv_at hl 1 rfl) ?_
  refine lv_aload_n hx hb dL_law_773 rfl (lv_at hl 3 rfl) ?_
  refine lv_iload_n hx hb dL_law_774 rfl (lv_at hl 0 rfl) ?_
  refine lv_iconst (v := 1) hx hb dL_law_775 (by decide) ?_
  refine lv_iadd hx hb dL_law_776 ?_
  refine lv_topi (fun v14 e15 => ?_)
  obtain rfl : v14 = 1 := e15.trans (by decide)
  refine va_sld hx hb hX hbl hbA hS (vp_in_iff.mpr (by decide)) dL_law_777 ?_
  refine lv_aload_n hx hb dL_law_778 rfl (lv_at hl 3 rfl) ?_
  refine lv_iload_n hx hb dL_law_779 rfl (lv_at hl 0 rfl) ?_
  refine lv_iconst (v := 2) hx hb dL_law_780 (by decide) ?_
  refine lv_iadd hx hb dL_law_781 ?_
  refine lv_topi (fun v16 e17 => ?_)
  obtain rfl : v16 = 2 := e17.trans (by decide)
  refine va_sld hx hb hX hbl hbA hS (vp_in_iff.mpr (by decide)) dL_law_782 ?_
  refine lv_aload_n hx hb dL_law_783 rfl (lv_at hl 3 rfl) ?_
  refine lv_iload_n hx hb dL_law_784 rfl (lv_at hl 0 rfl) ?_
  refine lv_iconst (v := 3) hx hb dL_law_785 (by decide) ?_
  refine lv_iadd hx hb dL_law_786 ?_
  refine lv_topi (fun v18 e19 => ?_)
  obtain rfl : v18 = 3 := e19.trans (by decide)
  refine va_sld hx hb hX hbl hbA hS (vp_in_iff.mpr (by decide)) dL_law_787 ?_
  refine lv_aload_n hx hb dL_law_788 rfl (lv_at hl 3 rfl) ?_
  refine lv_iload_n hx hb dL_law_789 rfl (lv_at hl 0 rfl) ?_
  refine lv_iconst (v := 4) hx hb dL_law_790 (by decide) ?_
  refine lv_iadd hx hb dL_law_791 ?_
  refine lv_topi (fun v20 e21 => ?_)
  obtain rfl : v20 = 4 := e21.trans (by decide)
  refine va_sld hx hb hX hbl hbA hS (vp_in_iff.mpr (by decide)) dL_law_792 ?_
  refine lv_aload_n hx hb dL_law_793 rfl (lv_at hl 3 rfl) ?_
  refine lv_iload_n hx hb dL_law_794 rfl (lv_at hl 0 rfl) ?_
  refine lv_iconst (v := 5) hx hb dL_law_795 (by decide) ?_
  refine lv_iadd hx hb dL_law_796 ?_
  refine lv_topi (fun v22 e23 => ?_)
  obtain rfl : v22 = 5 := e23.trans (by decide)
  refine va_sld hx hb hX hbl hbA hS (vp_in_iff.mpr (by decide)) dL_law_797 ?_
  have hPc := hP.sub (ws' := [((rm 0), .inr (12, fM rm 0 0)), ((rm 45), .inl (c 1, 300, .inl (fun _ => 0)))]) [0, 1] rfl
  have hDc := hD.sub (ws' := [((rm 0), .inr (12, fM rm 0 0)), ((rm 45), .inl (c 1, 300, .inl (fun _ => 0)))]) [0, 1] (by decide) rfl
  refine cl_i (wr := []) (va_runV (As := [.int (xs (Int32.toNatClampNeg 1)), .int (xs (Int32.toNatClampNeg 2)), .int (xs (Int32.toNatClampNeg 3)), .int (xs (Int32.toNatClampNeg 4)), .int (xs (Int32.toNatClampNeg 5))]) (rest := [.int r11]) ⟨hx, hb, hml, hown, hts⟩ (c_X12_feed l D c H.size rm ((xs (Int32.toNatClampNeg 1))) ((xs (Int32.toNatClampNeg 2))) ((xs (Int32.toNatClampNeg 3))) ((xs (Int32.toNatClampNeg 4))) ((xs (Int32.toNatClampNeg 5)))) (kw_V 5 hts wd_1539 wd_1540 wd_1541 wd_90 wd_1542 rfl rfl (by decide +kernel) ⟨Nat.le_of_ble_eq_true rfl, Nat.le_of_ble_eq_true rfl⟩) (pre_V hPc hK hDc hN hO (ci := 12) (q0 := 0) rfl rfl) rfl rfl hl.1 rfl (lv_room (Nat.le_of_ble_eq_true rfl)) dL_law_798 ⟨Nat.le_of_ble_eq_true rfl, Nat.le_of_ble_eq_true rfl⟩) hP hD hS hA [0, 1] [] rfl rfl (by decide) (by decide) (fun r24 u25 H locs h26 hP hD hS => ?_)
  have hP : va_P D vwCl [] H := hP
  have hD : va_D A [] := hD
  refine lv_icmp_eq (tgt := 1533) hx hb dL_law_801 (by decide) (fun _ => ?_) (fun c => absurd (h13.trans h26.symm) c)
  exact law_fin hx hb hr hml hown hlocks hX hbl hbA hAs (Nat.le_of_ble_eq_true rfl) (Nat.le_of_ble_eq_true rfl) hS (lv_sub hl [0, 3] rfl)
set_option maxHeartbeats 4000000 in
set_option maxRecDepth 100000 in
theorem law_16 {p : Program} {l : Launch} {e : Env} {s : State} {m : MethodId} {below : List Frame} {meth : Method} {cd : Code} {b : Nat} {xs : Nat → Int32} {H : Heap} {locs : List Loc} {ls : Array Slot} {A : Nat → Prop} {D : va_G} {c : Nat → ClassId} {rx rm : Nat → Nat} (hx : p.tables.exec = Jvm.exec) (hb : cd.code = cL_law) (hr : meth.sig.returnType = ret) (hml : cd.maxLocals = 4) (hown : s.vm.findClass R_law = some m.cls) (hlocks : meth.locks = false) (hX : va_X b 8 xs s s.heap) (hbl : b < s.heap.size) (hbA : ¬ A b) (hAs : ∀ q, A q → s.heap.size ≤ q) (hts : ∀ w ∈ Wd, w.before #[Value.ref b] s = true) (hN : NW s) (hO : ∀ C ∈ aoL, va_AO C s) (hK : va_K D vwCl (TY c) s) (hA : ∀ q, s.heap.size ≤ q → A q) (hP : va_P D vwCl [((rx 0), .inr (11, fX rx 0 0)), ((rx 4), .inr (5, fRd rx 0)), ((rm 0), .inr (12, fM rm 0 0))] H) (hD : va_D A [((rx 0), .inr (11, fX rx 0 0)), ((rx 4), .inr (5, fRd rx 0)), ((rm 0), .inr (12, fM rm 0 0))]) (hS : va_S A s.heap H locs) (hl : lv_has ls 4 [(3, .int 0), (2, .ref (rm 0)), (1, .ref (rx 0)), (0, .ref b)]) : W p l e room_1 s m #[Value.ref b] below meth cd H locs 95 102698 (lw_Z below #[Value.ref b] s) (F0 m 806 ls []) := by
  refine lv_aload_n hx hb dL_law_806 rfl (lv_at hl 2 rfl) ?_
  refine lv_aload_n hx hb dL_law_807 rfl (lv_at hl 3 rfl) ?_
  refine lv_iload_n hx hb dL_law_808 rfl (lv_at hl 0 rfl) ?_
  refine lv_iconst (v := 1) hx hb dL_law_809 (by decide) ?_
  refine lv_iadd hx hb dL_law_810 ?_
  refine lv_topi (fun v1 e2 => ?_)
  obtain rfl : v1 = 1 := e2.trans (by decide)
  refine va_sld hx hb hX hbl hbA hS (vp_in_iff.mpr (by decide)) dL_law_811 ?_
  have hPc := hP.sub (ws' := [((rx 0), .inr (11, fX rx 0 0)), ((rx 4), .inr (5, fRd rx 0))]) [0, 1] rfl
  have hDc := hD.sub (ws' := [((rx 0), .inr (11, fX rx 0 0)), ((rx 4), .inr (5, fRd rx 0))]) [0, 1] (by decide) rfl
  refine cl_i (wr := [((rm 0), .inr (12, fM rm 0 0))]) (va_runV (As := [.int (xs (Int32.toNatClampNeg 1))]) (rest := []) ⟨hx, hb, hml, hown, hts⟩ (c_X11_end l D c H.size rx ((xs (Int32.toNatClampNeg 1)))) (kw_V 1 hts wd_710 wd_711 wd_712 wd_83 wd_713 rfl rfl (by decide +kernel) ⟨Nat.le_of_ble_eq_true rfl, Nat.le_of_ble_eq_true rfl⟩) (pre_V hPc hK hDc hN hO (ci := 11) (q0 := 0) rfl rfl) rfl rfl hl.1 rfl (lv_room (Nat.le_of_ble_eq_true rfl)) dL_law_812 ⟨Nat.le_of_ble_eq_true rfl, Nat.le_of_ble_eq_true rfl⟩) hP hD hS hA [0, 1] [2] rfl rfl (by decide) (by decide) (fun r3 u4 H locs h5 hP hD hS => ?_)
  have hP : va_P D vwCl [((rm 0), .inr (12, fM rm 0 0))] H := hP
  have hD : va_D A [((rm 0), .inr (12, fM rm 0 0))] := hD
  refine lv_aload_n hx hb dL_law_815 rfl (lv_at hl 1 rfl) ?_
  refine lv_aload_n hx hb dL_law_816 rfl (lv_at hl 3 rfl) ?_
  refine lv_iload_n hx hb dL_law_817 rfl (lv_at hl 0 rfl) ?_
  refine lv_iconst (v := 1) hx hb dL_law_818 (by decide) ?_
  refine lv_iadd hx hb dL_law_819 ?_
  refine lv_topi (fun v6 e7 => ?_)
  obtain rfl : v6 = 1 := e7.trans (by decide)
  refine va_sld hx hb hX hbl hbA hS (vp_in_iff.mpr (by decide)) dL_law_820 ?_
  have hPc := hP.sub (ws' := [((rm 0), .inr (12, fM rm 0 0))]) [0] rfl
  have hDc := hD.sub (ws' := [((rm 0), .inr (12, fM rm 0 0))]) [0] (by decide) rfl
  refine cl_i (wr := []) (va_runV (As := [.int (xs (Int32.toNatClampNeg 1))]) (rest := [.int r3]) ⟨hx, hb, hml, hown, hts⟩ (c_X12_end l D c H.size rm ((xs (Int32.toNatClampNeg 1)))) (kw_V 1 hts wd_1547 wd_1548 wd_1549 wd_90 wd_1550 rfl rfl (by decide +kernel) ⟨Nat.le_of_ble_eq_true rfl, Nat.le_of_ble_eq_true rfl⟩) (pre_V hPc hK hDc hN hO (ci := 12) (q0 := 0) rfl rfl) rfl rfl hl.1 rfl (lv_room (Nat.le_of_ble_eq_true rfl)) dL_law_821 ⟨Nat.le_of_ble_eq_true rfl, Nat.le_of_ble_eq_true rfl⟩) hP hD hS hA [0] [] rfl rfl (by decide) (by decide) (fun r8 u9 H locs h10 hP hD hS => ?_)
  have hP : va_P D vwCl [] H := hP
  have hD : va_D A [] := hD
  refine lv_icmp_eq (tgt := 1533) hx hb dL_law_824 (by decide) (fun _ => ?_) (fun c => absurd (h5.trans h10.symm) c)
  exact law_fin hx hb hr hml hown hlocks hX hbl hbA hAs (Nat.le_of_ble_eq_true rfl) (Nat.le_of_ble_eq_true rfl) hS (lv_sub hl [0, 3] rfl)
set_option maxHeartbeats 4000000 in
set_option maxRecDepth 100000 in
theorem law_17 {p : Program} {l : Launch} {e : Env} {s : State} {m : MethodId} {below : List Frame} {meth : Method} {cd : Code} {b : Nat} {xs : Nat → Int32} {H : Heap} {locs : List Loc} {ls : Array Slot} {A : Nat → Prop} {D : va_G} {c : Nat → ClassId} {rx rm : Nat → Nat} (hx : p.tables.exec = Jvm.exec) (hb : cd.code = cL_law) (hr : meth.sig.returnType = ret) (hml : cd.maxLocals = 4) (hown : s.vm.findClass R_law = some m.cls) (hlocks : meth.locks = false) (hX : va_X b 8 xs s s.heap) (hbl : b < s.heap.size) (hbA : ¬ A b) (hAs : ∀ q, A q → s.heap.size ≤ q) (hts : ∀ w ∈ Wd, w.before #[Value.ref b] s = true) (hN : NW s) (hO : ∀ C ∈ aoL, va_AO C s) (hK : va_K D vwCl (TY c) s) (hA : ∀ q, s.heap.size ≤ q → A q) (hP : va_P D vwCl [((rx 0), .inr (11, fX rx 0 0)), ((rx 4), .inr (5, fRd rx 0)), ((rx 26), .inl (c 0, 320, .inl (fun _ => 0))), ((rx 5), .inl (c 5, 10, .inr (.inr (.inr (.inr (fun _ => none)))))), ((rm 0), .inr (12, fM rm 0 0)), ((rm 59), .inl (c 0, 10, .inl (fun _ => 0))), ((rm 60), .inl (c 0, 10, .inl (fun _ => 0)))] H) (hD : va_D A [((rx 0), .inr (11, fX rx 0 0)), ((rx 4), .inr (5, fRd rx 0)), ((rx 26), .inl (c 0, 320, .inl (fun _ => 0))), ((rx 5), .inl (c 5, 10, .inr (.inr (.inr (.inr (fun _ => none)))))), ((rm 0), .inr (12, fM rm 0 0)), ((rm 59), .inl (c 0, 10, .inl (fun _ => 0))), ((rm 60), .inl (c 0, 10, .inl (fun _ => 0)))]) (hS : va_S A s.heap H locs) (hl : lv_has ls 4 [(3, .int 0), (2, .ref (rm 0)), (1, .ref (rx 0)), (0, .ref b)]) : W p l e room_1 s m #[Value.ref b] below meth cd H locs 95 102698 (lw_Z below #[Value.ref b] s) (F0 m 829 ls []) := by
  refine lv_aload_n hx hb dL_law_829 rfl (lv_at hl 2 rfl) ?_
  have hPc := hP.sub (ws' := [((rx 0), .inr (11, fX rx 0 0)), ((rx 4), .inr (5, fRd rx 0)), ((rx 26), .inl (c 0, 320, .inl (fun _ => 0))), ((rx 5), .inl (c 5, 10, .inr (.inr (.inr (.inr (fun _ => none))))))]) [0, 1, 2, 3] rfl
  have hDc := hD.sub (ws' := [((rx 0), .inr (11, fX rx 0 0)), ((rx 4), .inr (5, fRd rx 0)), ((rx 26), .inl (c 0, 320, .inl (fun _ => 0))), ((rx 5), .inl (c 5, 10, .inr (.inr (.inr (.inr (fun _ => none))))))]) [0, 1, 2, 3] (by decide) rfl
  refine cl_i (wr := [((rm 0), .inr (12, fM rm 0 0)), ((rm 59), .inl (c 0, 10, .inl (fun _ => 0))), ((rm 60), .inl (c 0, 10, .inl (fun _ => 0)))]) (va_runV (As := []) (rest := []) ⟨hx, hb, hml, hown, hts⟩ (c_X11_rules l D c H.size rx) (kw_V 0 hts wd_714 wd_715 wd_716 wd_83 wd_717 rfl rfl (by decide +kernel) ⟨Nat.le_of_ble_eq_true rfl, Nat.le_of_ble_eq_true rfl⟩) (pre_V hPc hK hDc hN hO (ci := 11) (q0 := 0) rfl rfl) rfl rfl hl.1 rfl (lv_room (Nat.le_of_ble_eq_true rfl)) dL_law_830 ⟨Nat.le_of_ble_eq_true rfl, Nat.le_of_ble_eq_true rfl⟩) hP hD hS hA [0, 1, 2, 3] [4, 5, 6] rfl rfl (by decide) (by decide) (fun r1 u2 H locs h3 hP hD hS => ?_)
  refine W.widen (k := 97) (n := 102701) (Nat.le_of_ble_eq_true rfl) (Nat.le_of_ble_eq_true rfl) ?_
  have hP : va_P D vwCl [((rm 0), .inr (12, fM rm 0 0)), ((rm 59), .inl (c 0, 10, .inl (fun _ => 0))), ((rm 60), .inl (c 0, 10, .inl (fun _ => 0)))] H := hP
  have hD : va_D A [((rm 0), .inr (12, fM rm 0 0)), ((rm 59), .inl (c 0, 10, .inl (fun _ => 0))), ((rm 60), .inl (c 0, 10, .inl (fun _ => 0)))] := hD
  refine lv_aload_n hx hb dL_law_833 rfl (lv_at hl 1 rfl) ?_
  have hPc := hP.sub (ws' := [((rm 0), .inr (12, fM rm 0 0)), ((rm 59), .inl (c 0, 10, .inl (fun _ => 0))), ((rm 60), .inl (c 0, 10, .inl (fun _ => 0)))]) [0, 1, 2] rfl
  have hDc := hD.sub (ws' := [((rm 0), .inr (12, fM rm 0 0)), ((rm 59), .inl (c 0, 10, .inl (fun _ => 0))), ((rm 60), .inl (c 0, 10, .inl (fun _ => 0)))]) [0, 1, 2] (by decide) rfl
  refine cl_i (wr := []) (va_runV (As := []) (rest := [.int r1]) ⟨hx, hb, hml, hown, hts⟩ (c_X12_rules l D c H.size rm) (kw_V 0 hts wd_1551 wd_1552 wd_1553 wd_90 wd_1554 rfl rfl (by decide +kernel) ⟨Nat.le_of_ble_eq_true rfl, Nat.le_of_ble_eq_true rfl⟩) (pre_V hPc hK hDc hN hO (ci := 12) (q0 := 0) rfl rfl) rfl rfl hl.1 rfl (lv_room (Nat.le_of_ble_eq_true rfl)) dL_law_834 ⟨Nat.le_of_ble_eq_true rfl, Nat.le_of_ble_eq_true rfl⟩) hP hD hS hA [0, 1, 2] [] rfl rfl (by decide) (by decide) (fun r4 u5 H locs h6 hP hD hS => ?_)
  have hP : va_P D vwCl [] H := hP
  have hD : va_D A [] := hD
  refine lv_icmp_eq (tgt := 1533) hx hb dL_law_837 (by decide) (fun _ => ?_) (fun c => absurd (h3.trans h6.symm) c)
  exact law_fin hx hb hr hml hown hlocks hX hbl hbA hAs (Nat.le_of_ble_eq_true rfl) (Nat.le_of_ble_eq_true rfl) hS (lv_sub hl [0, 3] rfl)
