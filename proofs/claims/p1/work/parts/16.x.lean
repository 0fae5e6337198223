set_option maxHeartbeats 4000000 in
set_option maxRecDepth 100000 in
/-- X11_turn -/
theorem c_X11_turn (l : Launch) (D : va_G) (c : Nat → ClassId) (sz : Nat) (r : Nat → Nat) (t : Int32) (v : Int32) : Met l yX11_turn (.code yX11_turn cX11_turn 3 (some .int) :: Wd) ({ frames := 2, cells := 0, slots := 0, locals := 44 }) (va_Pc [.ref (r 0), .int t, .int v] (WB D c [((r 0), .inr (11, fX r 0 0)), ((r 1), .inr (8, fTd r)), ((r 20), .inl (c 0, 500, .inl (fun _ => 0))), ((r 21), .inl (c 0, 500, .inl (fun _ => 0)))] sz)) (QI (S := Unit) D c (fun q _ => q = f_turn t v) (fun _ => []) (va_A [((r 0), .inr (11, fX r 0 0)), ((r 1), .inr (8, fTd r)), ((r 20), .inl (c 0, 500, .inl (fun _ => 0))), ((r 21), .inl (c 0, 500, .inl (fun _ => 0)))] sz)) 0 0 (va_A [((r 0), .inr (11, fX r 0 0)), ((r 1), .inr (8, fTd r)), ((r 20), .inl (c 0, 500, .inl (fun _ => 0))), ((r 21), .inl (c 0, 500, .inl (fun _ => 0)))] sz) := by
  refine kz_met (Qc := QI (S := Unit) D c (fun q _ => q = f_turn t v) (fun _ => [])) (by decide) (Nat.le_of_ble_eq_true rfl) ?_
  intro p e s m below meth cd A ls H locs hx hb hr hml hts hown hlocks hin hN hO hK hP hD hS hA hl
  have hl : lv_has ls 3 [(0, .ref (r 0)), (1, .int t), (2, .int v)] := hl
  have hown : s.vm.findClass RX11 = some m.cls := hown
  refine lv_aload_n hx hb dX11_turn_0 rfl (lv_at hl 0 rfl) ?_
  have hPc := hP.sub (ws' := [((r 0), .inr (11, fX r 0 0))]) [0] rfl
  have hDc := hD.sub (ws' := [((r 0), .inr (11, fX r 0 0))]) [0] (by decide) rfl
  refine cl_i (wr := [((r 1), .inr (8, fTd r)), ((r 20), .inl (c 0, 500, .inl (fun _ => 0))), ((r 21), .inl (c 0, 500, .inl (fun _ => 0)))]) (va_runV (As := []) (rest := []) ⟨hx, hb, hml, hown, hts⟩ (c_X11_atEnd l D c H.size r 0) (kw_V 0 hts wd_322 wd_324 wd_0 wd_83 wd_325 rfl rfl (by decide +kernel) ⟨Nat.le_of_ble_eq_true rfl, Nat.le_of_ble_eq_true rfl⟩) (pre_V hPc hK hDc hN hO (ci := 11) (q0 := 0) rfl rfl) rfl rfl hl.1 rfl (lv_room (Nat.le_of_ble_eq_true rfl)) dX11_turn_1 ⟨Nat.le_of_ble_eq_true rfl, Nat.le_of_ble_eq_true rfl⟩) hP hD hS hA [0] [1, 2, 3] rfl rfl (by decide) (by decide) (fun r1 u2 H locs h3 hP hD hS => ?_)
  have hP : va_P D vwCl [((r 1), .inr (8, fTd r)), ((r 20), .inl (c 0, 500, .inl (fun _ => 0))), ((r 21), .inl (c 0, 500, .inl (fun _ => 0))), ((r 0), .inr (11, fX r 0 0))] H := hP
  have hD : va_D A [((r 1), .inr (8, fTd r)), ((r 20), .inl (c 0, 500, .inl (fun _ => 0))), ((r 21), .inl (c 0, 500, .inl (fun _ => 0))), ((r 0), .inr (11, fX r 0 0))] := hD
  obtain rfl : r1 = 0 := h3
  refine lv_if_ne (tgt := 19) hx hb dX11_turn_4 (by decide) (fun c => False.elim (by revert c; decide)) (fun _ => ?_)
  refine lv_aload_n hx hb dX11_turn_7 rfl (lv_at hl 0 rfl) ?_
  refine va_get (D := D) (ci := 11) (v := .ref (r 1)) (C := RX11) (T := TX11) (N := 16) hx hb hts inW_11 hown hK hP 3 rfl rfl 0 (by decide) (hts _ wd_269) (fun _ h9 => h9) rfl dX11_turn_8 ?_
  refine lv_iload_n hx hb dX11_turn_11 rfl (lv_at hl 1 rfl) ?_
  refine lv_iload_n hx hb dX11_turn_12 rfl (lv_at hl 2 rfl) ?_
  have hPc := hP.sub (ws' := [((r 1), .inr (8, fTd r))]) [0] rfl
  have hDc := hD.sub (ws' := [((r 1), .inr (8, fTd r))]) [0] (by decide) rfl
  refine cl_i (wr := [((r 20), .inl (c 0, 500, .inl (fun _ => 0))), ((r 21), .inl (c 0, 500, .inl (fun _ => 0))), ((r 0), .inr (11, fX r 0 0))]) (va_runV (As := [.int t, .int v]) (rest := []) ⟨hx, hb, hml, hown, hts⟩ (c_X8_takes l D c H.size r t v) (kw_V 2 hts wd_326 wd_327 wd_328 wd_84 wd_329 rfl rfl (by decide +kernel) ⟨Nat.le_of_ble_eq_true rfl, Nat.le_of_ble_eq_true rfl⟩) (pre_V hPc hK hDc hN hO (ci := 8) (q0 := 0) rfl rfl) rfl rfl hl.1 rfl (lv_room (Nat.le_of_ble_eq_true rfl)) dX11_turn_13 ⟨Nat.le_of_ble_eq_true rfl, Nat.le_of_ble_eq_true rfl⟩) hP hD hS hA [0] [1, 2, 3] rfl rfl (by decide) (by decide) (fun r4 u5 H locs h6 hP hD hS => ?_)
  have hP : va_P D vwCl [((r 20), .inl (c 0, 500, .inl (fun _ => 0))), ((r 21), .inl (c 0, 500, .inl (fun _ => 0))), ((r 0), .inr (11, fX r 0 0)), ((r 1), .inr (8, fTd r))] H := hP
  have hD : va_D A [((r 20), .inl (c 0, 500, .inl (fun _ => 0))), ((r 21), .inl (c 0, 500, .inl (fun _ => 0))), ((r 0), .inr (11, fX r 0 0)), ((r 1), .inr (8, fTd r))] := hD
  rcases takes_c h6 with ⟨h7, rfl⟩ | ⟨h7, rfl⟩
  · refine lv_if_ne (tgt := 21) hx hb dX11_turn_16 (by decide) (fun _ => ?_) (fun c => False.elim (by revert c; decide))
    refine lv_aload_n hx hb dX11_turn_21 rfl (lv_at hl 0 rfl) ?_
    refine lv_dup hx hb dX11_turn_22 rfl ?_
    refine va_get (D := D) (ci := 11) (v := .int 0) (C := RX11) (T := TX11) (N := 16) hx hb hts inW_11 hown hK hP 2 rfl rfl 15 (by decide) (hts _ wd_284) (fun _ h9 => h9) rfl dX11_turn_23 ?_
    refine lv_iconst (v := 1) hx hb dX11_turn_26 (by decide) ?_
    refine lv_iadd hx hb dX11_turn_27 ?_
    refine lv_topi (fun v8 e9 => ?_)
    obtain rfl : v8 = 1 := e9.trans (by decide)
    refine va_put (D := D) (ci := 11) (v := .int 1) (ty := .int) (C := RX11) (T := TX11) (N := 16) hx hb hts inW_11 tyX11 tyX11_ok nmX11 hown hK hP hD hS 2 rfl rfl 15 (by decide) (hts _ wd_284) (fun _ h9 => h9) rfl (by decide +kernel) rfl rfl (Nat.le_of_ble_eq_true rfl) dX11_turn_28 (fun H locs hP hD hS => ?_)
    have hP : va_P D vwCl [((r 20), .inl (c 0, 500, .inl (fun _ => 0))), ((r 21), .inl (c 0, 500, .inl (fun _ => 0))), ((r 0), .inr (11, (fX r 0 0).set 15 (.int 1))), ((r 1), .inr (8, fTd r))] H := hP
    have hD : va_D A [((r 20), .inl (c 0, 500, .inl (fun _ => 0))), ((r 21), .inl (c 0, 500, .inl (fun _ => 0))), ((r 0), .inr (11, (fX r 0 0).set 15 (.int 1))), ((r 1), .inr (8, fTd r))] := hD
    refine lv_aload_n hx hb dX11_turn_31 rfl (lv_at hl 0 rfl) ?_
    refine va_get (D := D) (ci := 11) (v := .ref (r 1)) (C := RX11) (T := TX11) (N := 16) hx hb hts inW_11 hown hK hP 2 rfl rfl 0 (by decide) (hts _ wd_269) (fun _ h9 => h9) rfl dX11_turn_32 ?_
    refine lv_iload_n hx hb dX11_turn_35 rfl (lv_at hl 1 rfl) ?_
    refine lv_iload_n hx hb dX11_turn_36 rfl (lv_at hl 2 rfl) ?_
    have hPc := hP.sub (ws' := [((r 1), .inr (8, fTd r)), ((r 20), .inl (c 0, 500, .inl (fun _ => 0))), ((r 21), .inl (c 0, 500, .inl (fun _ => 0)))]) [3, 0, 1] rfl
    have hDc := hD.sub (ws' := [((r 1), .inr (8, fTd r)), ((r 20), .inl (c 0, 500, .inl (fun _ => 0))), ((r 21), .inl (c 0, 500, .inl (fun _ => 0)))]) [3, 0, 1] (by decide) rfl
    refine cl_i (wr := [((r 0), .inr (11, (fX r 0 0).set 15 (.int 1)))]) (va_runV (As := [.int t, .int v]) (rest := []) ⟨hx, hb, hml, hown, hts⟩ (c_X8_add l D c H.size r t v) (kw_V 2 hts wd_336 wd_337 wd_338 wd_84 wd_339 rfl rfl (by decide +kernel) ⟨Nat.le_of_ble_eq_true rfl, Nat.le_of_ble_eq_true rfl⟩) (pre_V hPc hK hDc hN hO (ci := 8) (q0 := 0) rfl rfl) rfl rfl hl.1 rfl (lv_room (Nat.le_of_ble_eq_true rfl)) dX11_turn_37 ⟨Nat.le_of_ble_eq_true rfl, Nat.le_of_ble_eq_true rfl⟩) hP hD hS hA [3, 0, 1] [2] rfl rfl (by decide) (by decide) (fun r10 u11 H locs h12 hP hD hS => ?_)
    have hP : va_P D vwCl [((r 0), .inr (11, (fX r 0 0).set 15 (.int 1)))] H := hP
    have hD : va_D A [((r 0), .inr (11, (fX r 0 0).set 15 (.int 1)))] := hD
    obtain rfl : r10 = 1 := h12
    exact rt_i hx hb hr hlocks hK hP hD hS rfl dX11_turn_40 () [] rfl rfl (by show (1 : Int32) = _; unfold f_turn; (try simp only [Int32.reduceToInt, not_true_eq_false, false_or, not_false_eq_true, true_or, and_true, true_and]); (try simp only [Int32.le_iff_toInt_le, Int32.lt_iff_toInt_lt, ← Int32.toInt_inj, Int32.reduceToInt] at h7); first | (rw [if_pos (by omega)]; done) | (rw [if_neg (by omega)]; done) | (rw [if_pos (by omega)]; exact Int32.toInt_inj.mp (by (try simp only [Int32.reduceToInt]); omega)))
  · refine lv_if_ne (tgt := 21) hx hb dX11_turn_16 (by decide) (fun c => False.elim (by revert c; decide)) (fun _ => ?_)
    refine lv_iconst (v := (-1)) hx hb dX11_turn_19 (by decide) ?_
    exact rt_i hx hb hr hlocks hK hP hD hS rfl dX11_turn_20 () [] rfl rfl (by show ((-1) : Int32) = _; unfold f_turn; (try simp only [Int32.reduceToInt, not_true_eq_false, false_or, not_false_eq_true, true_or, and_true, true_and]); (try simp only [Int32.le_iff_toInt_le, Int32.lt_iff_toInt_lt, ← Int32.toInt_inj, Int32.reduceToInt] at h7); first | (rw [if_pos (by omega)]; done) | (rw [if_neg (by omega)]; done) | (rw [if_pos (by omega)]; exact Int32.toInt_inj.mp (by (try simp only [Int32.reduceToInt]); omega)))
set_option maxHeartbeats 4000000 in
set_option maxRecDepth 100000 in
/-- X11_sea -/
theorem c_X11_sea (l : Launch) (D : va_G) (c : Nat → ClassId) (sz : Nat) (r : Nat → Nat) (t : Int32) : Met l yX11_sea (.code yX11_sea cX11_sea 2 (some .int) :: Wd) ({ frames := 1, cells := 0, slots := 0, locals := 24 }) (va_Pc [.ref (r 0), .int t] (WB D c [((r 0), .inr (11, fX r 0 0)), ((r 1), .inr (8, fTd r))] sz)) (QI (S := Unit) D c (fun q _ => q = f_sea t) (fun _ => []) (va_A [((r 0), .inr (11, fX r 0 0)), ((r 1), .inr (8, fTd r))] sz)) 0 0 (va_A [((r 0), .inr (11, fX r 0 0)), ((r 1), .inr (8, fTd r))] sz) := by
  refine kz_met (Qc := QI (S := Unit) D c (fun q _ => q = f_sea t) (fun _ => [])) (by decide) (Nat.le_of_ble_eq_true rfl) ?_
  intro p e s m below meth cd A ls H locs hx hb hr hml hts hown hlocks hin hN hO hK hP hD hS hA hl
  have hl : lv_has ls 2 [(0, .ref (r 0)), (1, .int t)] := hl
  have hown : s.vm.findClass RX11 = some m.cls := hown
  refine lv_iload_n hx hb dX11_sea_0 rfl (lv_at hl 1 rfl) ?_
  refine lv_iconst (v := 0) hx hb dX11_sea_1 (by decide) ?_
  refine lv_sipush (v := 14399) hx hb dX11_sea_2 (by decide) ?_
  have hPc := hP.sub (ws' := []) [] rfl
  have hDc := hD.sub (ws' := []) [] (by decide) rfl
  refine cl_i (wr := [((r 0), .inr (11, fX r 0 0)), ((r 1), .inr (8, fTd r))]) (va_runS (As := [.int t, .int 0, .int 14399]) (rest := []) ⟨hx, hb, hml, hown, hts⟩ (c_X11_within l D c H.size t 0 14399) (kw_S 3 hts wd_347 wd_331 wd_83 wd_332 rfl rfl (by decide +kernel) ⟨Nat.le_of_ble_eq_true rfl, Nat.le_of_ble_eq_true rfl⟩) (pre_S hPc hK hDc hN hO) rfl rfl hl.1 rfl (lv_room (Nat.le_of_ble_eq_true rfl)) dX11_sea_5 ⟨Nat.le_of_ble_eq_true rfl, Nat.le_of_ble_eq_true rfl⟩) hP hD hS hA [] [0, 1] rfl rfl (by decide) (by decide) (fun r1 u2 H locs h3 hP hD hS => ?_)
  have hP : va_P D vwCl [((r 0), .inr (11, fX r 0 0)), ((r 1), .inr (8, fTd r))] H := hP
  have hD : va_D A [((r 0), .inr (11, fX r 0 0)), ((r 1), .inr (8, fTd r))] := hD
  rcases inB_c h3 with ⟨h4, rfl⟩ | ⟨h4, rfl⟩
  · refine lv_if_eq (tgt := 22) hx hb dX11_sea_8 (by decide) (fun c => False.elim (by revert c; decide)) (fun _ => ?_)
    refine lv_aload_n hx hb dX11_sea_11 rfl (lv_at hl 0 rfl) ?_
    refine va_get (D := D) (ci := 11) (v := .ref (r 1)) (C := RX11) (T := TX11) (N := 16) hx hb hts inW_11 hown hK hP 0 rfl rfl 0 (by decide) (hts _ wd_269) (fun _ h9 => h9) rfl dX11_sea_12 ?_
    refine lv_iload_n hx hb dX11_sea_15 rfl (lv_at hl 1 rfl) ?_
    have hPc := hP.sub (ws' := [((r 1), .inr (8, fTd r))]) [1] rfl
    have hDc := hD.sub (ws' := [((r 1), .inr (8, fTd r))]) [1] (by decide) rfl
    refine cl_i (wr := [((r 0), .inr (11, fX r 0 0))]) (va_runV (As := [.int t]) (rest := []) ⟨hx, hb, hml, hown, hts⟩ (c_X8_levelAt l D c H.size r t) (kw_V 1 hts wd_348 wd_349 wd_350 wd_84 wd_351 rfl rfl (by decide +kernel) ⟨Nat.le_of_ble_eq_true rfl, Nat.le_of_ble_eq_true rfl⟩) (pre_V hPc hK hDc hN hO (ci := 8) (q0 := 0) rfl rfl) rfl rfl hl.1 rfl (lv_room (Nat.le_of_ble_eq_true rfl)) dX11_sea_16 ⟨Nat.le_of_ble_eq_true rfl, Nat.le_of_ble_eq_true rfl⟩) hP hD hS hA [1] [0] rfl rfl (by decide) (by decide) (fun r5 u6 H locs h7 hP hD hS => ?_)
    have hP : va_P D vwCl [((r 0), .inr (11, fX r 0 0))] H := hP
    have hD : va_D A [((r 0), .inr (11, fX r 0 0))] := hD
    obtain rfl : r5 = 0 := h7
    refine lv_goto (tgt := 25) hx hb dX11_sea_19 (by decide) ?_
    exact rt_i hx hb hr hlocks hK hP hD hS rfl dX11_sea_25 () [] rfl rfl (by show (0 : Int32) = _; unfold f_sea; (try simp only [Int32.reduceToInt, not_true_eq_false, false_or, not_false_eq_true, true_or, and_true, true_and]); (try simp only [Int32.le_iff_toInt_le, Int32.lt_iff_toInt_lt, ← Int32.toInt_inj, Int32.reduceToInt] at h4); first | (rw [if_pos (by omega)]; done) | (rw [if_neg (by omega)]; done) | (rw [if_pos (by omega)]; exact Int32.toInt_inj.mp (by (try simp only [Int32.reduceToInt]); omega)))
  · refine lv_if_eq (tgt := 22) hx hb dX11_sea_8 (by decide) (fun _ => ?_) (fun c => False.elim (by revert c; decide))
    refine lv_sipush (v := (-1000)) hx hb dX11_sea_22 (by decide) ?_
    exact rt_i hx hb hr hlocks hK hP hD hS rfl dX11_sea_25 () [] rfl rfl (by show ((-1000) : Int32) = _; unfold f_sea; (try simp only [Int32.reduceToInt, not_true_eq_false, false_or, not_false_eq_true, true_or, and_true, true_and]); (try simp only [Int32.le_iff_toInt_le, Int32.lt_iff_toInt_lt, ← Int32.toInt_inj, Int32.reduceToInt] at h4); first | (rw [if_pos (by omega)]; done) | (rw [if_neg (by omega)]; done) | (rw [if_pos (by omega)]; exact Int32.toInt_inj.mp (by (try simp only [Int32.reduceToInt]); omega)))
set_option maxHeartbeats 4000000 in
set_option maxRecDepth 100000 in
/-- X11_wave -/
theorem c_X11_wave (l : Launch) (D : va_G) (c : Nat → ClassId) (sz : Nat) (r : Nat → Nat) (h : Int32) (x : Int32) : Met l yX11_wave (.code yX11_wave cX11_wave 3 (some .int) :: Wd) ({ frames := 2, cells := 0, slots := 0, locals := 45 }) (va_Pc [.ref (r 0), .int h, .int x] (WB D c [((r 0), .inr (11, fX r 0 0)), ((r 2), .inr (10, fWv r)), ((r 22), .inl (c 0, 2400, .inl (fun _ => 0))), ((r 23), .inl (c 0, 1500, .inl (fun _ => 0))), ((r 24), .inl (c 0, 1500, .inl (fun _ => 0))), ((r 25), .inl (c 0, 1500, .inl (fun _ => 0)))] sz)) (QI (S := Unit) D c (fun q _ => q = f_wave h x) (fun _ => []) (va_A [((r 0), .inr (11, fX r 0 0)), ((r 2), .inr (10, fWv r)), ((r 22), .inl (c 0, 2400, .inl (fun _ => 0))), ((r 23), .inl (c 0, 1500, .inl (fun _ => 0))), ((r 24), .inl (c 0, 1500, .inl (fun _ => 0))), ((r 25), .inl (c 0, 1500, .inl (fun _ => 0)))] sz)) 0 0 (va_A [((r 0), .inr (11, fX r 0 0)), ((r 2), .inr (10, fWv r)), ((r 22), .inl (c 0, 2400, .inl (fun _ => 0))), ((r 23), .inl (c 0, 1500, .inl (fun _ => 0))), ((r 24), .inl (c 0, 1500, .inl (fun _ => 0))), ((r 25), .inl (c 0, 1500, .inl (fun _ => 0)))] sz) := by
  refine kz_met (Qc := QI (S := Unit) D c (fun q _ => q = f_wave h x) (fun _ => [])) (by decide) (Nat.le_of_ble_eq_true rfl) ?_
  intro p e s m below meth cd A ls H locs hx hb hr hml hts hown hlocks hin hN hO hK hP hD hS hA hl
  have hl : lv_has ls 3 [(0, .ref (r 0)), (1, .int h), (2, .int x)] := hl
  have hown : s.vm.findClass RX11 = some m.cls := hown
  refine lv_aload_n hx hb dX11_wave_0 rfl (lv_at hl 0 rfl) ?_
  have hPc := hP.sub (ws' := [((r 0), .inr (11, fX r 0 0))]) [0] rfl
  have hDc := hD.sub (ws' := [((r 0), .inr (11, fX r 0 0))]) [0] (by decide) rfl
  refine cl_i (wr := [((r 2), .inr (10, fWv r)), ((r 22), .inl (c 0, 2400, .inl (fun _ => 0))), ((r 23), .inl (c 0, 1500, .inl (fun _ => 0))), ((r 24), .inl (c 0, 1500, .inl (fun _ => 0))), ((r 25), .inl (c 0, 1500, .inl (fun _ => 0)))]) (va_runV (As := []) (rest := []) ⟨hx, hb, hml, hown, hts⟩ (c_X11_atEnd l D c H.size r 0) (kw_V 0 hts wd_322 wd_324 wd_0 wd_83 wd_325 rfl rfl (by decide +kernel) ⟨Nat.le_of_ble_eq_true rfl, Nat.le_of_ble_eq_true rfl⟩) (pre_V hPc hK hDc hN hO (ci := 11) (q0 := 0) rfl rfl) rfl rfl hl.1 rfl (lv_room (Nat.le_of_ble_eq_true rfl)) dX11_wave_1 ⟨Nat.le_of_ble_eq_true rfl, Nat.le_of_ble_eq_true rfl⟩) hP hD hS hA [0] [1, 2, 3, 4, 5] rfl rfl (by decide) (by decide) (fun r1 u2 H locs h3 hP hD hS => ?_)
  have hP : va_P D vwCl [((r 2), .inr (10, fWv r)), ((r 22), .inl (c 0, 2400, .inl (fun _ => 0))), ((r 23), .inl (c 0, 1500, .inl (fun _ => 0))), ((r 24), .inl (c 0, 1500, .inl (fun _ => 0))), ((r 25), .inl (c 0, 1500, .inl (fun _ => 0))), ((r 0), .inr (11, fX r 0 0))] H := hP
  have hD : va_D A [((r 2), .inr (10, fWv r)), ((r 22), .inl (c 0, 2400, .inl (fun _ => 0))), ((r 23), .inl (c 0, 1500, .inl (fun _ => 0))), ((r 24), .inl (c 0, 1500, .inl (fun _ => 0))), ((r 25), .inl (c 0, 1500, .inl (fun _ => 0))), ((r 0), .inr (11, fX r 0 0))] := hD
  obtain rfl : r1 = 0 := h3
  refine lv_if_ne (tgt := 50) hx hb dX11_wave_4 (by decide) (fun c => False.elim (by revert c; decide)) (fun _ => ?_)
  refine lv_aload_n hx hb dX11_wave_7 rfl (lv_at hl 0 rfl) ?_
  refine va_get (D := D) (ci := 11) (v := .ref (r 2)) (C := RX11) (T := TX11) (N := 16) hx hb hts inW_11 hown hK hP 5 rfl rfl 1 (by decide) (hts _ wd_270) (fun _ h9 => h9) rfl dX11_wave_8 ?_
  refine va_get (D := D) (ci := 10) (v := .int 0) (C := RX10) (T := TX10) (N := 7) hx hb hts inW_10 hown hK hP 0 rfl rfl 4 (by decide) (hts _ wd_141) (fun _ h9 => h9) rfl dX11_wave_11 ?_
  refine lv_sipush (v := 1500) hx hb dX11_wave_14 (by decide) ?_
  refine lv_icmp_ge (tgt := 50) hx hb dX11_wave_17 (by decide) (fun c => False.elim (by revert c; decide)) (fun _ => ?_)
  refine lv_iload_n hx hb dX11_wave_20 rfl (lv_at hl 1 rfl) ?_
  have hPc := hP.sub (ws' := []) [] rfl
  have hDc := hD.sub (ws' := []) [] (by decide) rfl
  refine cl_i (wr := [((r 2), .inr (10, fWv r)), ((r 22), .inl (c 0, 2400, .inl (fun _ => 0))), ((r 23), .inl (c 0, 1500, .inl (fun _ => 0))), ((r 24), .inl (c 0, 1500, .inl (fun _ => 0))), ((r 25), .inl (c 0, 1500, .inl (fun _ => 0))), ((r 0), .inr (11, fX r 0 0))]) (va_runS (As := [.int h]) (rest := []) ⟨hx, hb, hml, hown, hts⟩ (c_X11_isHour l D c H.size h) (kw_S 1 hts wd_365 wd_366 wd_83 wd_367 rfl rfl (by decide +kernel) ⟨Nat.le_of_ble_eq_true rfl, Nat.le_of_ble_eq_true rfl⟩) (pre_S hPc hK hDc hN hO) rfl rfl hl.1 rfl (lv_room (Nat.le_of_ble_eq_true rfl)) dX11_wave_21 ⟨Nat.le_of_ble_eq_true rfl, Nat.le_of_ble_eq_true rfl⟩) hP hD hS hA [] [0, 1, 2, 3, 4, 5] rfl rfl (by decide) (by decide) (fun r4 u5 H locs h6 hP hD hS => ?_)
  have hP : va_P D vwCl [((r 2), .inr (10, fWv r)), ((r 22), .inl (c 0, 2400, .inl (fun _ => 0))), ((r 23), .inl (c 0, 1500, .inl (fun _ => 0))), ((r 24), .inl (c 0, 1500, .inl (fun _ => 0))), ((r 25), .inl (c 0, 1500, .inl (fun _ => 0))), ((r 0), .inr (11, fX r 0 0))] H := hP
  have hD : va_D A [((r 2), .inr (10, fWv r)), ((r 22), .inl (c 0, 2400, .inl (fun _ => 0))), ((r 23), .inl (c 0, 1500, .inl (fun _ => 0))), ((r 24), .inl (c 0, 1500, .inl (fun _ => 0))), ((r 25), .inl (c 0, 1500, .inl (fun _ => 0))), ((r 0), .inr (11, fX r 0 0))] := hD
  rcases inB_c h6 with ⟨h7, rfl⟩ | ⟨h7, rfl⟩
  · refine lv_if_eq (tgt := 50) hx hb dX11_wave_24 (by decide) (fun c => False.elim (by revert c; decide)) (fun _ => ?_)
    refine lv_iload_n hx hb dX11_wave_27 rfl (lv_at hl 1 rfl) ?_
    refine lv_aload_n hx hb dX11_wave_28 rfl (lv_at hl 0 rfl) ?_
    have hPc := hP.sub (ws' := [((r 0), .inr (11, fX r 0 0))]) [5] rfl
    have hDc := hD.sub (ws' := [((r 0), .inr (11, fX r 0 0))]) [5] (by decide) rfl
    refine cl_i (wr := [((r 2), .inr (10, fWv r)), ((r 22), .inl (c 0, 2400, .inl (fun _ => 0))), ((r 23), .inl (c 0, 1500, .inl (fun _ => 0))), ((r 24), .inl (c 0, 1500, .inl (fun _ => 0))), ((r 25), .inl (c 0, 1500, .inl (fun _ => 0)))]) (va_runV (As := []) (rest := [.int h]) ⟨hx, hb, hml, hown, hts⟩ (c_X11_hourNow l D c H.size r 0) (kw_V 0 hts wd_368 wd_370 wd_2 wd_83 wd_371 rfl rfl (by decide +kernel) ⟨Nat.le_of_ble_eq_true rfl, Nat.le_of_ble_eq_true rfl⟩) (pre_V hPc hK hDc hN hO (ci := 11) (q0 := 0) rfl rfl) rfl rfl hl.1 rfl (lv_room (Nat.le_of_ble_eq_true rfl)) dX11_wave_29 ⟨Nat.le_of_ble_eq_true rfl, Nat.le_of_ble_eq_true rfl⟩) hP hD hS hA [5] [0, 1, 2, 3, 4] rfl rfl (by decide) (by decide) (fun r8 u9 H locs h10 hP hD hS => ?_)
    have hP : va_P D vwCl [((r 2), .inr (10, fWv r)), ((r 22), .inl (c 0, 2400, .inl (fun _ => 0))), ((r 23), .inl (c 0, 1500, .inl (fun _ => 0))), ((r 24), .inl (c 0, 1500, .inl (fun _ => 0))), ((r 25), .inl (c 0, 1500, .inl (fun _ => 0))), ((r 0), .inr (11, fX r 0 0))] H := hP
    have hD : va_D A [((r 2), .inr (10, fWv r)), ((r 22), .inl (c 0, 2400, .inl (fun _ => 0))), ((r 23), .inl (c 0, 1500, .inl (fun _ => 0))), ((r 24), .inl (c 0, 1500, .inl (fun _ => 0))), ((r 25), .inl (c 0, 1500, .inl (fun _ => 0))), ((r 0), .inr (11, fX r 0 0))] := hD
    obtain rfl : r8 = 0 := h10
    refine lv_sipush (v := 240) hx hb dX11_wave_32 (by decide) ?_
    refine lv_iadd hx hb dX11_wave_35 ?_
    refine lv_topi (fun v11 e12 => ?_)
    obtain rfl : v11 = 240 := e12.trans (by decide)
    refine lv_icmp_gt (tgt := 50) hx hb dX11_wave_36 (by decide) (fun c13 => ?_) (fun c13 => ?_)
    · refine lv_iconst (v := (-1)) hx hb dX11_wave_50 (by decide) ?_
      exact rt_i hx hb hr hlocks hK hP hD hS rfl dX11_wave_51 () [] rfl rfl (by show ((-1) : Int32) = _; unfold f_wave; (try simp only [Int32.reduceToInt, not_true_eq_false, false_or, not_false_eq_true, true_or, and_true, true_and]); (try simp only [Int32.le_iff_toInt_le, Int32.lt_iff_toInt_lt, ← Int32.toInt_inj, Int32.reduceToInt] at h7); (try simp only [Int32.le_iff_toInt_le, Int32.lt_iff_toInt_lt, ← Int32.toInt_inj, Int32.reduceToInt] at c13); first | (rw [if_pos (by omega)]; done) | (rw [if_neg (by omega)]; done) | (rw [if_pos (by omega)]; exact Int32.toInt_inj.mp (by (try simp only [Int32.reduceToInt]); omega)))
    · refine lv_iload_n hx hb dX11_wave_39 rfl (lv_at hl 2 rfl) ?_
      refine lv_iconst (v := 0) hx hb dX11_wave_40 (by decide) ?_
      refine lv_sipush (v := 500) hx hb dX11_wave_41 (by decide) ?_
      have hPc := hP.sub (ws' := []) [] rfl
      have hDc := hD.sub (ws' := []) [] (by decide) rfl
      refine cl_i (wr := [((r 2), .inr (10, fWv r)), ((r 22), .inl (c 0, 2400, .inl (fun _ => 0))), ((r 23), .inl (c 0, 1500, .inl (fun _ => 0))), ((r 24), .inl (c 0, 1500, .inl (fun _ => 0))), ((r 25), .inl (c 0, 1500, .inl (fun _ => 0))), ((r 0), .inr (11, fX r 0 0))]) (va_runS (As := [.int x, .int 0, .int 500]) (rest := []) ⟨hx, hb, hml, hown, hts⟩ (c_X11_within l D c H.size x 0 500) (kw_S 3 hts wd_347 wd_331 wd_83 wd_332 rfl rfl (by decide +kernel) ⟨Nat.le_of_ble_eq_true rfl, Nat.le_of_ble_eq_true rfl⟩) (pre_S hPc hK hDc hN hO) rfl rfl hl.1 rfl (lv_room (Nat.le_of_ble_eq_true rfl)) dX11_wave_44 ⟨Nat.le_of_ble_eq_true rfl, Nat.le_of_ble_eq_true rfl⟩) hP hD hS hA [] [0, 1, 2, 3, 4, 5] rfl rfl (by decide) (by decide) (fun r14 u15 H locs h16 hP hD hS => ?_)
      have hP : va_P D vwCl [((r 2), .inr (10, fWv r)), ((r 22), .inl (c 0, 2400, .inl (fun _ => 0))), ((r 23), .inl (c 0, 1500, .inl (fun _ => 0))), ((r 24), .inl (c 0, 1500, .inl (fun _ => 0))), ((r 25), .inl (c 0, 1500, .inl (fun _ => 0))), ((r 0), .inr (11, fX r 0 0))] H := hP
      have hD : va_D A [((r 2), .inr (10, fWv r)), ((r 22), .inl (c 0, 2400, .inl (fun _ => 0))), ((r 23), .inl (c 0, 1500, .inl (fun _ => 0))), ((r 24), .inl (c 0, 1500, .inl (fun _ => 0))), ((r 25), .inl (c 0, 1500, .inl (fun _ => 0))), ((r 0), .inr (11, fX r 0 0))] := hD
      rcases inB_c h16 with ⟨h17, rfl⟩ | ⟨h17, rfl⟩
      · refine lv_if_ne (tgt := 52) hx hb dX11_wave_47 (by decide) (fun _ => ?_) (fun c => False.elim (by revert c; decide))
        refine lv_aload_n hx hb dX11_wave_52 rfl (lv_at hl 0 rfl) ?_
        refine lv_dup hx hb dX11_wave_53 rfl ?_
        refine va_get (D := D) (ci := 11) (v := .int 0) (C := RX11) (T := TX11) (N := 16) hx hb hts inW_11 hown hK hP 5 rfl rfl 15 (by decide) (hts _ wd_284) (fun _ h9 => h9) rfl dX11_wave_54 ?_
        refine lv_iconst (v := 1) hx hb dX11_wave_57 (by decide) ?_
        refine lv_iadd hx hb dX11_wave_58 ?_
        refine lv_topi (fun v18 e19 => ?_)
        obtain rfl : v18 = 1 := e19.trans (by decide)
        refine va_put (D := D) (ci := 11) (v := .int 1) (ty := .int) (C := RX11) (T := TX11) (N := 16) hx hb hts inW_11 tyX11 tyX11_ok nmX11 hown hK hP hD hS 5 rfl rfl 15 (by decide) (hts _ wd_284) (fun _ h9 => h9) rfl (by decide +kernel) rfl rfl (Nat.le_of_ble_eq_true rfl) dX11_wave_59 (fun H locs hP hD hS => ?_)
        have hP : va_P D vwCl [((r 2), .inr (10, fWv r)), ((r 22), .inl (c 0, 2400, .inl (fun _ => 0))), ((r 23), .inl (c 0, 1500, .inl (fun _ => 0))), ((r 24), .inl (c 0, 1500, .inl (fun _ => 0))), ((r 25), .inl (c 0, 1500, .inl (fun _ => 0))), ((r 0), .inr (11, (fX r 0 0).set 15 (.int 1)))] H := hP
        have hD : va_D A [((r 2), .inr (10, fWv r)), ((r 22), .inl (c 0, 2400, .inl (fun _ => 0))), ((r 23), .inl (c 0, 1500, .inl (fun _ => 0))), ((r 24), .inl (c 0, 1500, .inl (fun _ => 0))), ((r 25), .inl (c 0, 1500, .inl (fun _ => 0))), ((r 0), .inr (11, (fX r 0 0).set 15 (.int 1)))] := hD
        refine lv_aload_n hx hb dX11_wave_62 rfl (lv_at hl 0 rfl) ?_
        refine va_get (D := D) (ci := 11) (v := .ref (r 2)) (C := RX11) (T := TX11) (N := 16) hx hb hts inW_11 hown hK hP 5 rfl rfl 1 (by decide) (hts _ wd_270) (fun _ h9 => h9) rfl dX11_wave_63 ?_
        refine lv_iload_n hx hb dX11_wave_66 rfl (lv_at hl 1 rfl) ?_
        refine lv_iload_n hx hb dX11_wave_67 rfl (lv_at hl 2 rfl) ?_
        refine lv_aload_n hx hb dX11_wave_68 rfl (lv_at hl 0 rfl) ?_
        have hPc := hP.sub (ws' := [((r 0), .inr (11, fX r 0 1))]) [5] rfl
        have hDc := hD.sub (ws' := [((r 0), .inr (11, fX r 0 1))]) [5] (by decide) rfl
        refine cl_i (wr := [((r 2), .inr (10, fWv r)), ((r 22), .inl (c 0, 2400, .inl (fun _ => 0))), ((r 23), .inl (c 0, 1500, .inl (fun _ => 0))), ((r 24), .inl (c 0, 1500, .inl (fun _ => 0))), ((r 25), .inl (c 0, 1500, .inl (fun _ => 0)))]) (va_runV (As := []) (rest := [.int x, .int h, .ref (r 2)]) ⟨hx, hb, hml, hown, hts⟩ (c_X11_hourNow l D c H.size r 1) (kw_V 0 hts wd_368 wd_370 wd_2 wd_83 wd_371 rfl rfl (by decide +kernel) ⟨Nat.le_of_ble_eq_true rfl, Nat.le_of_ble_eq_true rfl⟩) (pre_V hPc hK hDc hN hO (ci := 11) (q0 := 0) rfl rfl) rfl rfl hl.1 rfl (lv_room (Nat.le_of_ble_eq_true rfl)) dX11_wave_69 ⟨Nat.le_of_ble_eq_true rfl, Nat.le_of_ble_eq_true rfl⟩) hP hD hS hA [5] [0, 1, 2, 3, 4] rfl rfl (by decide) (by decide) (fun r20 u21 H locs h22 hP hD hS => ?_)
        have hP : va_P D vwCl [((r 2), .inr (10, fWv r)), ((r 22), .inl (c 0, 2400, .inl (fun _ => 0))), ((r 23), .inl (c 0, 1500, .inl (fun _ => 0))), ((r 24), .inl (c 0, 1500, .inl (fun _ => 0))), ((r 25), .inl (c 0, 1500, .inl (fun _ => 0))), ((r 0), .inr (11, fX r 0 1))] H := hP
        have hD : va_D A [((r 2), .inr (10, fWv r)), ((r 22), .inl (c 0, 2400, .inl (fun _ => 0))), ((r 23), .inl (c 0, 1500, .inl (fun _ => 0))), ((r 24), .inl (c 0, 1500, .inl (fun _ => 0))), ((r 25), .inl (c 0, 1500, .inl (fun _ => 0))), ((r 0), .inr (11, fX r 0 1))] := hD
        obtain rfl : r20 = 0 := h22
        have hPc := hP.sub (ws' := [((r 2), .inr (10, fWv r)), ((r 22), .inl (c 0, 2400, .inl (fun _ => 0))), ((r 23), .inl (c 0, 1500, .inl (fun _ => 0))), ((r 24), .inl (c 0, 1500, .inl (fun _ => 0))), ((r 25), .inl (c 0, 1500, .inl (fun _ => 0)))]) [0, 1, 2, 3, 4] rfl
        have hDc := hD.sub (ws' := [((r 2), .inr (10, fWv r)), ((r 22), .inl (c 0, 2400, .inl (fun _ => 0))), ((r 23), .inl (c 0, 1500, .inl (fun _ => 0))), ((r 24), .inl (c 0, 1500, .inl (fun _ => 0))), ((r 25), .inl (c 0, 1500, .inl (fun _ => 0)))]) [0, 1, 2, 3, 4] (by decide) rfl
        refine cl_i (wr := [((r 0), .inr (11, fX r 0 1))]) (va_runV (As := [.int h, .int x, .int 0]) (rest := []) ⟨hx, hb, hml, hown, hts⟩ (c_X10_add l D c H.size r h x 0) (kw_V 3 hts wd_372 wd_373 wd_374 wd_85 wd_375 rfl rfl (by decide +kernel) ⟨Nat.le_of_ble_eq_true rfl, Nat.le_of_ble_eq_true rfl⟩) (pre_V hPc hK hDc hN hO (ci := 10) (q0 := 0) rfl rfl) rfl rfl hl.1 rfl (lv_room (Nat.le_of_ble_eq_true rfl)) dX11_wave_72 ⟨Nat.le_of_ble_eq_true rfl, Nat.le_of_ble_eq_true rfl⟩) hP hD hS hA [0, 1, 2, 3, 4] [5] rfl rfl (by decide) (by decide) (fun r23 u24 H locs h25 hP hD hS => ?_)
        have hP : va_P D vwCl [((r 0), .inr (11, fX r 0 1))] H := hP
        have hD : va_D A [((r 0), .inr (11, fX r 0 1))] := hD
        obtain rfl : r23 = 1 := h25
        exact rt_i hx hb hr hlocks hK hP hD hS rfl dX11_wave_75 () [] rfl rfl (by show (1 : Int32) = _; unfold f_wave; (try simp only [Int32.reduceToInt, not_true_eq_false, false_or, not_false_eq_true, true_or, and_true, true_and]); (try simp only [Int32.le_iff_toInt_le, Int32.lt_iff_toInt_lt, ← Int32.toInt_inj, Int32.reduceToInt] at h7); (try simp only [Int32.le_iff_toInt_le, Int32.lt_iff_toInt_lt, ← Int32.toInt_inj, Int32.reduceToInt] at c13); (try simp only [Int32.le_iff_toInt_le, Int32.lt_iff_toInt_lt, ← Int32.toInt_inj, Int32.reduceToInt] at h17); first | (rw [if_pos (by omega)]; done) | (rw [if_neg (by omega)]; done) | (rw [if_pos (by omega)]; exact Int32.toInt_inj.mp (by (try simp only [Int32.reduceToInt]); omega)))
      · refine lv_if_ne (tgt := 52) hx hb dX11_wave_47 (by decide) (fun c => False.elim (by revert c; decide)) (fun _ => ?_)
        refine lv_iconst (v := (-1)) hx hb dX11_wave_50 (by decide) ?_
        exact rt_i hx hb hr hlocks hK hP hD hS rfl dX11_wave_51 () [] rfl rfl (by show ((-1) : Int32) = _; unfold f_wave; (try simp only [Int32.reduceToInt, not_true_eq_false, false_or, not_false_eq_true, true_or, and_true, true_and]); (try simp only [Int32.le_iff_toInt_le, Int32.lt_iff_toInt_lt, ← Int32.toInt_inj, Int32.reduceToInt] at h7); (try simp only [Int32.le_iff_toInt_le, Int32.lt_iff_toInt_lt, ← Int32.toInt_inj, Int32.reduceToInt] at c13); (try simp only [Int32.le_iff_toInt_le, Int32.lt_iff_toInt_lt, ← Int32.toInt_inj, Int32.reduceToInt] at h17); first | (rw [if_pos (by omega)]; done) | (rw [if_neg (by omega)]; done) | (rw [if_pos (by omega)]; exact Int32.toInt_inj.mp (by (try simp only [Int32.reduceToInt]); omega)))
  · refine lv_if_eq (tgt := 50) hx hb dX11_wave_24 (by decide) (fun _ => ?_) (fun c => False.elim (by revert c; decide))
    refine lv_iconst (v := (-1)) hx hb dX11_wave_50 (by decide) ?_
    exact rt_i hx hb hr hlocks hK hP hD hS rfl dX11_wave_51 () [] rfl rfl (by show ((-1) : Int32) = _; unfold f_wave; (try simp only [Int32.reduceToInt, not_true_eq_false, false_or, not_false_eq_true, true_or, and_true, true_and]); (try simp only [Int32.le_iff_toInt_le, Int32.lt_iff_toInt_lt, ← Int32.toInt_inj, Int32.reduceToInt] at h7); first | (rw [if_pos (by omega)]; done) | (rw [if_neg (by omega)]; done) | (rw [if_pos (by omega)]; exact Int32.toInt_inj.mp (by (try simp only [Int32.reduceToInt]); omega)))
set_option maxHeartbeats 4000000 in
set_option maxRecDepth 100000 in
/-- X11_waved -/
theorem c_X11_waved (l : Launch) (D : va_G) (c : Nat → ClassId) (sz : Nat) (r : Nat → Nat) (h : Int32) (k : Int32) : Met l yX11_waved (.code yX11_waved cX11_waved 3 (some .int) :: Wd) ({ frames := 2, cells := 0, slots := 0, locals := 45 }) (va_Pc [.ref (r 0), .int h, .int k] (WB D c [((r 0), .inr (11, fX r 0 0)), ((r 2), .inr (10, fWv r)), ((r 22), .inl (c 0, 2400, .inl (fun _ => 0)))] sz)) (QI (S := Unit) D c (fun q _ => q = f_waved h k) (fun _ => []) (va_A [((r 0), .inr (11, fX r 0 0)), ((r 2), .inr (10, fWv r)), ((r 22), .inl (c 0, 2400, .inl (fun _ => 0)))] sz)) 0 0 (va_A [((r 0), .inr (11, fX r 0 0)), ((r 2), .inr (10, fWv r)), ((r 22), .inl (c 0, 2400, .inl (fun _ => 0)))] sz) := by
  refine kz_met (Qc := QI (S := Unit) D c (fun q _ => q = f_waved h k) (fun _ => [])) (by decide) (Nat.le_of_ble_eq_true rfl) ?_
  intro p e s m below meth cd A ls H locs hx hb hr hml hts hown hlocks hin hN hO hK hP hD hS hA hl
  have hl : lv_has ls 3 [(0, .ref (r 0)), (1, .int h), (2, .int k)] := hl
  have hown : s.vm.findClass RX11 = some m.cls := hown
  refine lv_iload_n hx hb dX11_waved_0 rfl (lv_at hl 1 rfl) ?_
  have hPc := hP.sub (ws' := []) [] rfl
  have hDc := hD.sub (ws' := []) [] (by decide) rfl
  refine cl_i (wr := [((r 0), .inr (11, fX r 0 0)), ((r 2), .inr (10, fWv r)), ((r 22), .inl (c 0, 2400, .inl (fun _ => 0)))]) (va_runS (As := [.int h]) (rest := []) ⟨hx, hb, hml, hown, hts⟩ (c_X11_isHour l D c H.size h) (kw_S 1 hts wd_365 wd_366 wd_83 wd_367 rfl rfl (by decide +kernel) ⟨Nat.le_of_ble_eq_true rfl, Nat.le_of_ble_eq_true rfl⟩) (pre_S hPc hK hDc hN hO) rfl rfl hl.1 rfl (lv_room (Nat.le_of_ble_eq_true rfl)) dX11_waved_1 ⟨Nat.le_of_ble_eq_true rfl, Nat.le_of_ble_eq_true rfl⟩) hP hD hS hA [] [0, 1, 2] rfl rfl (by decide) (by decide) (fun r1 u2 H locs h3 hP hD hS => ?_)
  have hP : va_P D vwCl [((r 0), .inr (11, fX r 0 0)), ((r 2), .inr (10, fWv r)), ((r 22), .inl (c 0, 2400, .inl (fun _ => 0)))] H := hP
  have hD : va_D A [((r 0), .inr (11, fX r 0 0)), ((r 2), .inr (10, fWv r)), ((r 22), .inl (c 0, 2400, .inl (fun _ => 0)))] := hD
  rcases inB_c h3 with ⟨h4, rfl⟩ | ⟨h4, rfl⟩
  · refine lv_if_eq (tgt := 26) hx hb dX11_waved_4 (by decide) (fun c => False.elim (by revert c; decide)) (fun _ => ?_)
    refine lv_iload_n hx hb dX11_waved_7 rfl (lv_at hl 2 rfl) ?_
    have hPc := hP.sub (ws' := []) [] rfl
    have hDc := hD.sub (ws' := []) [] (by decide) rfl
    refine cl_i (wr := [((r 0), .inr (11, fX r 0 0)), ((r 2), .inr (10, fWv r)), ((r 22), .inl (c 0, 2400, .inl (fun _ => 0)))]) (va_runS (As := [.int k]) (rest := []) ⟨hx, hb, hml, hown, hts⟩ (c_X11_isHour l D c H.size k) (kw_S 1 hts wd_365 wd_366 wd_83 wd_367 rfl rfl (by decide +kernel) ⟨Nat.le_of_ble_eq_true rfl, Nat.le_of_ble_eq_true rfl⟩) (pre_S hPc hK hDc hN hO) rfl rfl hl.1 rfl (lv_room (Nat.le_of_ble_eq_true rfl)) dX11_waved_8 ⟨Nat.le_of_ble_eq_true rfl, Nat.le_of_ble_eq_true rfl⟩) hP hD hS hA [] [0, 1, 2] rfl rfl (by decide) (by decide) (fun r5 u6 H locs h7 hP hD hS => ?_)
    have hP : va_P D vwCl [((r 0), .inr (11, fX r 0 0)), ((r 2), .inr (10, fWv r)), ((r 22), .inl (c 0, 2400, .inl (fun _ => 0)))] H := hP
    have hD : va_D A [((r 0), .inr (11, fX r 0 0)), ((r 2), .inr (10, fWv r)), ((r 22), .inl (c 0, 2400, .inl (fun _ => 0)))] := hD
    rcases inB_c h7 with ⟨h8, rfl⟩ | ⟨h8, rfl⟩
    · refine lv_if_eq (tgt := 26) hx hb dX11_waved_11 (by decide) (fun c => False.elim (by revert c; decide)) (fun _ => ?_)
      refine lv_aload_n hx hb dX11_waved_14 rfl (lv_at hl 0 rfl) ?_
      refine va_get (D := D) (ci := 11) (v := .ref (r 2)) (C := RX11) (T := TX11) (N := 16) hx hb hts inW_11 hown hK hP 0 rfl rfl 1 (by decide) (hts _ wd_270) (fun _ h9 => h9) rfl dX11_waved_15 ?_
      refine lv_iload_n hx hb dX11_waved_18 rfl (lv_at hl 1 rfl) ?_
      refine lv_iload_n hx hb dX11_waved_19 rfl (lv_at hl 2 rfl) ?_
      have hPc := hP.sub (ws' := [((r 2), .inr (10, fWv r)), ((r 22), .inl (c 0, 2400, .inl (fun _ => 0)))]) [1, 2] rfl
      have hDc := hD.sub (ws' := [((r 2), .inr (10, fWv r)), ((r 22), .inl (c 0, 2400, .inl (fun _ => 0)))]) [1, 2] (by decide) rfl
      refine cl_i (wr := [((r 0), .inr (11, fX r 0 0))]) (va_runV (As := [.int h, .int k]) (rest := []) ⟨hx, hb, hml, hown, hts⟩ (c_X10_heightOf l D c H.size r h k) (kw_V 2 hts wd_382 wd_383 wd_384 wd_85 wd_385 rfl rfl (by decide +kernel) ⟨Nat.le_of_ble_eq_true rfl, Nat.le_of_ble_eq_true rfl⟩) (pre_V hPc hK hDc hN hO (ci := 10) (q0 := 0) rfl rfl) rfl rfl hl.1 rfl (lv_room (Nat.le_of_ble_eq_true rfl)) dX11_waved_20 ⟨Nat.le_of_ble_eq_true rfl, Nat.le_of_ble_eq_true rfl⟩) hP hD hS hA [1, 2] [0] rfl rfl (by decide) (by decide) (fun r9 u10 H locs h11 hP hD hS => ?_)
      have hP : va_P D vwCl [((r 0), .inr (11, fX r 0 0))] H := hP
      have hD : va_D A [((r 0), .inr (11, fX r 0 0))] := hD
      obtain rfl : r9 = 100 := h11
      refine lv_goto (tgt := 27) hx hb dX11_waved_23 (by decide) ?_
      exact rt_i hx hb hr hlocks hK hP hD hS rfl dX11_waved_27 () [] rfl rfl (by show (100 : Int32) = _; unfold f_waved; (try simp only [Int32.reduceToInt, not_true_eq_false, false_or, not_false_eq_true, true_or, and_true, true_and]); (try simp only [Int32.le_iff_toInt_le, Int32.lt_iff_toInt_lt, ← Int32.toInt_inj, Int32.reduceToInt] at h4); (try simp only [Int32.le_iff_toInt_le, Int32.lt_iff_toInt_lt, ← Int32.toInt_inj, Int32.reduceToInt] at h8); first | (rw [if_pos (by omega)]; done) | (rw [if_neg (by omega)]; done) | (rw [if_pos (by omega)]; exact Int32.toInt_inj.mp (by (try simp only [Int32.reduceToInt]); omega)))
    · refine lv_if_eq (tgt := 26) hx hb dX11_waved_11 (by decide) (fun _ => ?_) (fun c => False.elim (by revert c; decide))
      refine lv_iconst (v := (-1)) hx hb dX11_waved_26 (by decide) ?_
      exact rt_i hx hb hr hlocks hK hP hD hS rfl dX11_waved_27 () [] rfl rfl (by show ((-1) : Int32) = _; unfold f_waved; (try simp only [Int32.reduceToInt, not_true_eq_false, false_or, not_false_eq_true, true_or, and_true, true_and]); (try simp only [Int32.le_iff_toInt_le, Int32.lt_iff_toInt_lt, ← Int32.toInt_inj, Int32.reduceToInt] at h4); (try simp only [Int32.le_iff_toInt_le, Int32.lt_iff_toInt_lt, ← Int32.toInt_inj, Int32.reduceToInt] at h8); first | (rw [if_pos (by omega)]; done) | (rw [if_neg (by omega)]; done) | (rw [if_pos (by omega)]; exact Int32.toInt_inj.mp (by (try simp only [Int32.reduceToInt]); omega)))
  · refine lv_if_eq (tgt := 26) hx hb dX11_waved_4 (by decide) (fun _ => ?_) (fun c => False.elim (by revert c; decide))
    refine lv_iconst (v := (-1)) hx hb dX11_waved_26 (by decide) ?_
    exact rt_i hx hb hr hlocks hK hP hD hS rfl dX11_waved_27 () [] rfl rfl (by show ((-1) : Int32) = _; unfold f_waved; (try simp only [Int32.reduceToInt, not_true_eq_false, false_or, not_false_eq_true, true_or, and_true, true_and]); (try simp only [Int32.le_iff_toInt_le, Int32.lt_iff_toInt_lt, ← Int32.toInt_inj, Int32.reduceToInt] at h4); first | (rw [if_pos (by omega)]; done) | (rw [if_neg (by omega)]; done) | (rw [if_pos (by omega)]; exact Int32.toInt_inj.mp (by (try simp only [Int32.reduceToInt]); omega)))
set_option maxHeartbeats 4000000 in
set_option maxRecDepth 100000 in
/-- X11_set -/
theorem c_X11_set (l : Launch) (D : va_G) (c : Nat → ClassId) (sz : Nat) (r : Nat → Nat) (w : Int32) (v : Int32) : Met l yX11_set (.code yX11_set cX11_set 4 (some .int) :: Wd) ({ frames := 1, cells := 0, slots := 0, locals := 22 }) (va_Pc [.ref (r 0), .int w, .int v] (WB D c [((r 0), .inr (11, fX r 0 0)), ((r 2), .inr (10, fWv r))] sz)) (QI (S := Unit) D c (fun q _ => q = f_set w v) (fun _ => []) (va_A [((r 0), .inr (11, fX r 0 0)), ((r 2), .inr (10, fWv r))] sz)) 0 0 (va_A [((r 0), .inr (11, fX r 0 0)), ((r 2), .inr (10, fWv r))] sz) := by
  refine kz_met (Qc := QI (S := Unit) D c (fun q _ => q = f_set w v) (fun _ => [])) (by decide) (Nat.le_of_ble_eq_true rfl) ?_
  intro p e s m below meth cd A ls H locs hx hb hr hml hts hown hlocks hin hN hO hK hP hD hS hA hl
  have hl : lv_has ls 4 [(0, .ref (r 0)), (1, .int w), (2, .int v)] := hl
  have hown : s.vm.findClass RX11 = some m.cls := hown
  refine lv_aload_n hx hb dX11_set_0 rfl (lv_at hl 0 rfl) ?_
  have hPc := hP.sub (ws' := [((r 0), .inr (11, fX r 0 0))]) [0] rfl
  have hDc := hD.sub (ws' := [((r 0), .inr (11, fX r 0 0))]) [0] (by decide) rfl
  refine cl_i (wr := [((r 2), .inr (10, fWv r))]) (va_runV (As := []) (rest := []) ⟨hx, hb, hml, hown, hts⟩ (c_X11_atEnd l D c H.size r 0) (kw_V 0 hts wd_322 wd_324 wd_0 wd_83 wd_325 rfl rfl (by decide +kernel) ⟨Nat.le_of_ble_eq_true rfl, Nat.le_of_ble_eq_true rfl⟩) (pre_V hPc hK hDc hN hO (ci := 11) (q0 := 0) rfl rfl) rfl rfl hl.1 rfl (lv_room (Nat.le_of_ble_eq_true rfl)) dX11_set_1 ⟨Nat.le_of_ble_eq_true rfl, Nat.le_of_ble_eq_true rfl⟩) hP hD hS hA [0] [1] rfl rfl (by decide) (by decide) (fun r1 u2 H locs h3 hP hD hS => ?_)
  have hP : va_P D vwCl [((r 2), .inr (10, fWv r)), ((r 0), .inr (11, fX r 0 0))] H := hP
  have hD : va_D A [((r 2), .inr (10, fWv r)), ((r 0), .inr (11, fX r 0 0))] := hD
  obtain rfl : r1 = 0 := h3
  refine lv_if_ne (tgt := 46) hx hb dX11_set_4 (by decide) (fun c => False.elim (by revert c; decide)) (fun _ => ?_)
  refine lv_iload_n hx hb dX11_set_7 rfl (lv_at hl 1 rfl) ?_
  refine lv_iconst (v := 0) hx hb dX11_set_8 (by decide) ?_
  refine lv_iconst (v := 2) hx hb dX11_set_9 (by decide) ?_
  have hPc := hP.sub (ws' := []) [] rfl
  have hDc := hD.sub (ws' := []) [] (by decide) rfl
  refine cl_i (wr := [((r 2), .inr (10, fWv r)), ((r 0), .inr (11, fX r 0 0))]) (va_runS (As := [.int w, .int 0, .int 2]) (rest := []) ⟨hx, hb, hml, hown, hts⟩ (c_X11_within l D c H.size w 0 2) (kw_S 3 hts wd_347 wd_331 wd_83 wd_332 rfl rfl (by decide +kernel) ⟨Nat.le_of_ble_eq_true rfl, Nat.le_of_ble_eq_true rfl⟩) (pre_S hPc hK hDc hN hO) rfl rfl hl.1 rfl (lv_room (Nat.le_of_ble_eq_true rfl)) dX11_set_10 ⟨Nat.le_of_ble_eq_true rfl, Nat.le_of_ble_eq_true rfl⟩) hP hD hS hA [] [0, 1] rfl rfl (by decide) (by decide) (fun r4 u5 H locs h6 hP hD hS => ?_)
  have hP : va_P D vwCl [((r 2), .inr (10, fWv r)), ((r 0), .inr (11, fX r 0 0))] H := hP
  have hD : va_D A [((r 2), .inr (10, fWv r)), ((r 0), .inr (11, fX r 0 0))] := hD
  rcases inB_c h6 with ⟨h7, rfl⟩ | ⟨h7, rfl⟩
  · refine lv_if_eq (tgt := 46) hx hb dX11_set_13 (by decide) (fun c => False.elim (by revert c; decide)) (fun _ => ?_)
    refine lv_iload_n hx hb dX11_set_16 rfl (lv_at hl 2 rfl) ?_
    refine lv_iload_n hx hb dX11_set_17 rfl (lv_at hl 1 rfl) ?_
    refine lv_iconst (v := 2) hx hb dX11_set_18 (by decide) ?_
    refine lv_icmp_ne (tgt := 26) hx hb dX11_set_19 (by decide) (fun c8 => ?_) (fun c8 => ?_)
    · refine lv_iconst (v := 0) hx hb dX11_set_26 (by decide) ?_
      refine lv_iload_n hx hb dX11_set_27 rfl (lv_at hl 1 rfl) ?_
      refine lv_iconst (v := 2) hx hb dX11_set_28 (by decide) ?_
      refine lv_icmp_ne (tgt := 37) hx hb dX11_set_29 (by decide) (fun _ => ?_) (fun c => absurd c c8)
      refine lv_sipush (v := 500) hx hb dX11_set_37 (by decide) ?_
      have hPc := hP.sub (ws' := []) [] rfl
      have hDc := hD.sub (ws' := []) [] (by decide) rfl
      refine cl_i (wr := [((r 2), .inr (10, fWv r)), ((r 0), .inr (11, fX r 0 0))]) (va_runS (As := [.int v, .int 0, .int 500]) (rest := []) ⟨hx, hb, hml, hown, hts⟩ (c_X11_within l D c H.size v 0 500) (kw_S 3 hts wd_347 wd_331 wd_83 wd_332 rfl rfl (by decide +kernel) ⟨Nat.le_of_ble_eq_true rfl, Nat.le_of_ble_eq_true rfl⟩) (pre_S hPc hK hDc hN hO) rfl rfl hl.1 rfl (lv_room (Nat.le_of_ble_eq_true rfl)) dX11_set_40 ⟨Nat.le_of_ble_eq_true rfl, Nat.le_of_ble_eq_true rfl⟩) hP hD hS hA [] [0, 1] rfl rfl (by decide) (by decide) (fun r9 u10 H locs h11 hP hD hS => ?_)
      have hP : va_P D vwCl [((r 2), .inr (10, fWv r)), ((r 0), .inr (11, fX r 0 0))] H := hP
      have hD : va_D A [((r 2), .inr (10, fWv r)), ((r 0), .inr (11, fX r 0 0))] := hD
      rcases inB_c h11 with ⟨h12, rfl⟩ | ⟨h12, rfl⟩
      · refine lv_if_ne (tgt := 48) hx hb dX11_set_43 (by decide) (fun _ => ?_) (fun c => False.elim (by revert c; decide))
        refine lv_aload_n hx hb dX11_set_48 rfl (lv_at hl 0 rfl) ?_
        refine lv_iload_n hx hb dX11_set_49 rfl (lv_at hl 1 rfl) ?_
        have hPc := hP.sub (ws' := [((r 0), .inr (11, fX r 0 0)), ((r 2), .inr (10, fWv r))]) [1, 0] rfl
        have hDc := hD.sub (ws' := [((r 0), .inr (11, fX r 0 0)), ((r 2), .inr (10, fWv r))]) [1, 0] (by decide) rfl
        refine cl_i (wr := []) (va_runV (As := [.int w]) (rest := []) ⟨hx, hb, hml, hown, hts⟩ (c_X11_settingOf l D c H.size r 0 w) (kw_V 1 hts wd_390 wd_392 wd_3 wd_83 wd_393 rfl rfl (by decide +kernel) ⟨Nat.le_of_ble_eq_true rfl, Nat.le_of_ble_eq_true rfl⟩) (pre_V hPc hK hDc hN hO (ci := 11) (q0 := 0) rfl rfl) rfl rfl hl.1 rfl (lv_room (Nat.le_of_ble_eq_true rfl)) dX11_set_50 ⟨Nat.le_of_ble_eq_true rfl, Nat.le_of_ble_eq_true rfl⟩) hP hD hS hA [1, 0] [] rfl rfl (by decide) (by decide) (fun r13 u14 H locs h15 hP hD hS => ?_)
        have hP : va_P D vwCl [((r 0), .inr (11, fX r 0 0)), ((r 2), .inr (10, fWv r))] H := hP
        have hD : va_D A [((r 0), .inr (11, fX r 0 0)), ((r 2), .inr (10, fWv r))] := hD
        refine lv_istore_n (lv' := [(3, .int r13), (0, .ref (r 0)), (1, .int w), (2, .int v)]) hx hb dX11_set_53 rfl hl (by decide) rfl (fun ls hl => ?_)
        refine lv_aload_n hx hb dX11_set_54 rfl (lv_at hl 1 rfl) ?_
        refine lv_dup hx hb dX11_set_55 rfl ?_
        refine va_get (D := D) (ci := 11) (v := .int 0) (C := RX11) (T := TX11) (N := 16) hx hb hts inW_11 hown hK hP 0 rfl rfl 15 (by decide) (hts _ wd_284) (fun _ h9 => h9) rfl dX11_set_56 ?_
        refine lv_iconst (v := 1) hx hb dX11_set_59 (by decide) ?_
        refine lv_iadd hx hb dX11_set_60 ?_
        refine lv_topi (fun v16 e17 => ?_)
        obtain rfl : v16 = 1 := e17.trans (by decide)
        refine va_put (D := D) (ci := 11) (v := .int 1) (ty := .int) (C := RX11) (T := TX11) (N := 16) hx hb hts inW_11 tyX11 tyX11_ok nmX11 hown hK hP hD hS 0 rfl rfl 15 (by decide) (hts _ wd_284) (fun _ h9 => h9) rfl (by decide +kernel) rfl rfl (Nat.le_of_ble_eq_true rfl) dX11_set_61 (fun H locs hP hD hS => ?_)
        have hP : va_P D vwCl [((r 0), .inr (11, (fX r 0 0).set 15 (.int 1))), ((r 2), .inr (10, fWv r))] H := hP
        have hD : va_D A [((r 0), .inr (11, (fX r 0 0).set 15 (.int 1))), ((r 2), .inr (10, fWv r))] := hD
        refine lv_iload_n hx hb dX11_set_64 rfl (lv_at hl 2 rfl) ?_
        by_cases c18 : w = 0
        · subst c18
          refine lv_lookup (off := 27) (tgt := 92) hx hb dX11_set_65 (by decide) (by decide) (by decide) ?_
          refine lv_aload_n hx hb dX11_set_92 rfl (lv_at hl 1 rfl) ?_
          refine va_get (D := D) (ci := 11) (v := .ref (r 2)) (C := RX11) (T := TX11) (N := 16) hx hb hts inW_11 hown hK hP 0 rfl rfl 1 (by decide) (hts _ wd_270) (fun _ h9 => h9) rfl dX11_set_93 ?_
          refine lv_iload_n hx hb dX11_set_96 rfl (lv_at hl 3 rfl) ?_
          refine va_put (D := D) (ci := 10) (v := .int v) (ty := .int) (C := RX10) (T := TX10) (N := 7) hx hb hts inW_10 tyX10 tyX10_ok nmX10 hown hK hP hD hS 1 rfl rfl 5 (by decide) (hts _ wd_143) (fun _ h9 => h9) rfl (by decide +kernel) rfl rfl (Nat.le_of_ble_eq_true rfl) dX11_set_97 (fun H locs hP hD hS => ?_)
          have hP : va_P D vwCl [((r 0), .inr (11, (fX r 0 0).set 15 (.int 1))), ((r 2), .inr (10, (fWv r).set 5 (.int v)))] H := hP
          have hD : va_D A [((r 0), .inr (11, (fX r 0 0).set 15 (.int 1))), ((r 2), .inr (10, (fWv r).set 5 (.int v)))] := hD
          refine lv_goto (tgt := 119) hx hb dX11_set_100 (by decide) ?_
          refine lv_iload_n hx hb dX11_set_119 rfl (lv_at hl 0 rfl) ?_
          exact rt_i hx hb hr hlocks hK hP hD hS rfl dX11_set_120 () [] rfl rfl (by show r13 = _; rw [h15]; unfold f_set; (try simp only [Int32.reduceToInt, not_true_eq_false, false_or, not_false_eq_true, true_or, and_true, true_and]); (try simp only [Int32.le_iff_toInt_le, Int32.lt_iff_toInt_lt, ← Int32.toInt_inj, Int32.reduceToInt] at h7); (try simp only [Int32.le_iff_toInt_le, Int32.lt_iff_toInt_lt, ← Int32.toInt_inj, Int32.reduceToInt] at c8); (try simp only [Int32.le_iff_toInt_le, Int32.lt_iff_toInt_lt, ← Int32.toInt_inj, Int32.reduceToInt] at h12); rw [if_pos (by omega)])
        · by_cases c19 : w = 1
          · subst c19
            refine lv_lookup (off := 38) (tgt := 103) hx hb dX11_set_65 (by decide) (by decide) (by decide) ?_
            refine lv_aload_n hx hb dX11_set_103 rfl (lv_at hl 1 rfl) ?_
            refine va_get (D := D) (ci := 11) (v := .ref (r 2)) (C := RX11) (T := TX11) (N := 16) hx hb hts inW_11 hown hK hP 0 rfl rfl 1 (by decide) (hts _ wd_270) (fun _ h9 => h9) rfl dX11_set_104 ?_
            refine lv_iload_n hx hb dX11_set_107 rfl (lv_at hl 3 rfl) ?_
            refine va_put (D := D) (ci := 10) (v := .int v) (ty := .int) (C := RX10) (T := TX10) (N := 7) hx hb hts inW_10 tyX10 tyX10_ok nmX10 hown hK hP hD hS 1 rfl rfl 6 (by decide) (hts _ wd_145) (fun _ h9 => h9) rfl (by decide +kernel) rfl rfl (Nat.le_of_ble_eq_true rfl) dX11_set_108 (fun H locs hP hD hS => ?_)
            have hP : va_P D vwCl [((r 0), .inr (11, (fX r 0 0).set 15 (.int 1))), ((r 2), .inr (10, (fWv r).set 6 (.int v)))] H := hP
            have hD : va_D A [((r 0), .inr (11, (fX r 0 0).set 15 (.int 1))), ((r 2), .inr (10, (fWv r).set 6 (.int v)))] := hD
            refine lv_goto (tgt := 119) hx hb dX11_set_111 (by decide) ?_
            refine lv_iload_n hx hb dX11_set_119 rfl (lv_at hl 0 rfl) ?_
            exact rt_i hx hb hr hlocks hK hP hD hS rfl dX11_set_120 () [] rfl rfl (by show r13 = _; rw [h15]; unfold f_set; (try simp only [Int32.reduceToInt, not_true_eq_false, false_or, not_false_eq_true, true_or, and_true, true_and]); (try simp only [Int32.le_iff_toInt_le, Int32.lt_iff_toInt_lt, ← Int32.toInt_inj, Int32.reduceToInt] at h7); (try simp only [Int32.le_iff_toInt_le, Int32.lt_iff_toInt_lt, ← Int32.toInt_inj, Int32.reduceToInt] at c8); (try simp only [Int32.le_iff_toInt_le, Int32.lt_iff_toInt_lt, ← Int32.toInt_inj, Int32.reduceToInt] at h12); (try simp only [Int32.le_iff_toInt_le, Int32.lt_iff_toInt_lt, ← Int32.toInt_inj, Int32.reduceToInt] at c18); rw [if_pos (by omega)])
          · refine lv_lookup (off := 49) (tgt := 114) hx hb dX11_set_65 (by decide) ((lv_osw c18 (by decide)).trans ((lv_osw c19 (by decide)).trans (rfl))) (by decide) ?_
            refine lv_aload_n hx hb dX11_set_114 rfl (lv_at hl 1 rfl) ?_
            refine lv_iload_n hx hb dX11_set_115 rfl (lv_at hl 3 rfl) ?_
            refine va_put (D := D) (ci := 11) (v := .int v) (ty := .int) (C := RX11) (T := TX11) (N := 16) hx hb hts inW_11 tyX11 tyX11_ok nmX11 hown hK hP hD hS 0 rfl rfl 14 (by decide) (hts _ wd_283) (fun _ h9 => h9) rfl (by decide +kernel) rfl rfl (Nat.le_of_ble_eq_true rfl) dX11_set_116 (fun H locs hP hD hS => ?_)
            have hP : va_P D vwCl [((r 0), .inr (11, ((fX r 0 0).set 15 (.int 1)).set 14 (.int v))), ((r 2), .inr (10, fWv r))] H := hP
            have hD : va_D A [((r 0), .inr (11, ((fX r 0 0).set 15 (.int 1)).set 14 (.int v))), ((r 2), .inr (10, fWv r))] := hD
            refine lv_iload_n hx hb dX11_set_119 rfl (lv_at hl 0 rfl) ?_
            exact rt_i hx hb hr hlocks hK hP hD hS rfl dX11_set_120 () [] rfl rfl (by show r13 = _; rw [h15]; unfold f_set; (try simp only [Int32.reduceToInt, not_true_eq_false, false_or, not_false_eq_true, true_or, and_true, true_and]); (try simp only [Int32.le_iff_toInt_le, Int32.lt_iff_toInt_lt, ← Int32.toInt_inj, Int32.reduceToInt] at h7); (try simp only [Int32.le_iff_toInt_le, Int32.lt_iff_toInt_lt, ← Int32.toInt_inj, Int32.reduceToInt] at c8); (try simp only [Int32.le_iff_toInt_le, Int32.lt_iff_toInt_lt, ← Int32.toInt_inj, Int32.reduceToInt] at h12); (try simp only [Int32.le_iff_toInt_le, Int32.lt_iff_toInt_lt, ← Int32.toInt_inj, Int32.reduceToInt] at c18); (try simp only [Int32.le_iff_toInt_le, Int32.lt_iff_toInt_lt, ← Int32.toInt_inj, Int32.reduceToInt] at c19); rw [if_pos (by omega)])
      · refine lv_if_ne (tgt := 48) hx hb dX11_set_43 (by decide) (fun c => False.elim (by revert c; decide)) (fun _ => ?_)
        refine lv_iconst (v := (-1)) hx hb dX11_set_46 (by decide) ?_
        exact rt_i hx hb hr hlocks hK hP hD hS rfl dX11_set_47 () [] rfl rfl (by show ((-1) : Int32) = _; unfold f_set; (try simp only [Int32.reduceToInt, not_true_eq_false, false_or, not_false_eq_true, true_or, and_true, true_and]); (try simp only [Int32.le_iff_toInt_le, Int32.lt_iff_toInt_lt, ← Int32.toInt_inj, Int32.reduceToInt] at h7); (try simp only [Int32.le_iff_toInt_le, Int32.lt_iff_toInt_lt, ← Int32.toInt_inj, Int32.reduceToInt] at c8); (try simp only [Int32.le_iff_toInt_le, Int32.lt_iff_toInt_lt, ← Int32.toInt_inj, Int32.reduceToInt] at h12); first | (rw [if_pos (by omega)]; done) | (rw [if_neg (by omega)]; done) | (rw [if_pos (by omega)]; exact Int32.toInt_inj.mp (by (try simp only [Int32.reduceToInt]); omega)))
    · subst c8
      refine lv_iconst (v := 1) hx hb dX11_set_22 (by decide) ?_
      refine lv_goto (tgt := 27) hx hb dX11_set_23 (by decide) ?_
      refine lv_iload_n hx hb dX11_set_27 rfl (lv_at hl 1 rfl) ?_
      refine lv_iconst (v := 2) hx hb dX11_set_28 (by decide) ?_
      refine lv_icmp_ne (tgt := 37) hx hb dX11_set_29 (by decide) (fun c => False.elim (by revert c; decide)) (fun _ => ?_)
      refine lv_bipush (v := 24) hx hb dX11_set_32 (by decide) ?_
      refine lv_goto (tgt := 40) hx hb dX11_set_34 (by decide) ?_
      have hPc := hP.sub (ws' := []) [] rfl
      have hDc := hD.sub (ws' := []) [] (by decide) rfl
      refine cl_i (wr := [((r 2), .inr (10, fWv r)), ((r 0), .inr (11, fX r 0 0))]) (va_runS (As := [.int v, .int 1, .int 24]) (rest := []) ⟨hx, hb, hml, hown, hts⟩ (c_X11_within l D c H.size v 1 24) (kw_S 3 hts wd_347 wd_331 wd_83 wd_332 rfl rfl (by decide +kernel) ⟨Nat.le_of_ble_eq_true rfl, Nat.le_of_ble_eq_true rfl⟩) (pre_S hPc hK hDc hN hO) rfl rfl hl.1 rfl (lv_room (Nat.le_of_ble_eq_true rfl)) dX11_set_40 ⟨Nat.le_of_ble_eq_true rfl, Nat.le_of_ble_eq_true rfl⟩) hP hD hS hA [] [0, 1] rfl rfl (by decide) (by decide) (fun r20 u21 H locs h22 hP hD hS => ?_)
      have hP : va_P D vwCl [((r 2), .inr (10, fWv r)), ((r 0), .inr (11, fX r 0 0))] H := hP
      have hD : va_D A [((r 2), .inr (10, fWv r)), ((r 0), .inr (11, fX r 0 0))] := hD
      rcases inB_c h22 with ⟨h23, rfl⟩ | ⟨h23, rfl⟩
      · refine lv_if_ne (tgt := 48) hx hb dX11_set_43 (by decide) (fun _ => ?_) (fun c => False.elim (by revert c; decide))
        refine lv_aload_n hx hb dX11_set_48 rfl (lv_at hl 0 rfl) ?_
        refine lv_iload_n hx hb dX11_set_49 rfl (lv_at hl 1 rfl) ?_
        have hPc := hP.sub (ws' := [((r 0), .inr (11, fX r 0 0)), ((r 2), .inr (10, fWv r))]) [1, 0] rfl
        have hDc := hD.sub (ws' := [((r 0), .inr (11, fX r 0 0)), ((r 2), .inr (10, fWv r))]) [1, 0] (by decide) rfl
        refine cl_i (wr := []) (va_runV (As := [.int 2]) (rest := []) ⟨hx, hb, hml, hown, hts⟩ (c_X11_settingOf l D c H.size r 0 2) (kw_V 1 hts wd_390 wd_392 wd_3 wd_83 wd_393 rfl rfl (by decide +kernel) ⟨Nat.le_of_ble_eq_true rfl, Nat.le_of_ble_eq_true rfl⟩) (pre_V hPc hK hDc hN hO (ci := 11) (q0 := 0) rfl rfl) rfl rfl hl.1 rfl (lv_room (Nat.le_of_ble_eq_true rfl)) dX11_set_50 ⟨Nat.le_of_ble_eq_true rfl, Nat.le_of_ble_eq_true rfl⟩) hP hD hS hA [1, 0] [] rfl rfl (by decide) (by decide) (fun r24 u25 H locs h26 hP hD hS => ?_)
        have hP : va_P D vwCl [((r 0), .inr (11, fX r 0 0)), ((r 2), .inr (10, fWv r))] H := hP
        have hD : va_D A [((r 0), .inr (11, fX r 0 0)), ((r 2), .inr (10, fWv r))] := hD
        obtain rfl : r24 = 8 := h26.trans (by decide)
        refine lv_istore_n (lv' := [(3, .int 8), (0, .ref (r 0)), (1, .int 2), (2, .int v)]) hx hb dX11_set_53 rfl hl (by decide) rfl (fun ls hl => ?_)
        refine lv_aload_n hx hb dX11_set_54 rfl (lv_at hl 1 rfl) ?_
        refine lv_dup hx hb dX11_set_55 rfl ?_
        refine va_get (D := D) (ci := 11) (v := .int 0) (C := RX11) (T := TX11) (N := 16) hx hb hts inW_11 hown hK hP 0 rfl rfl 15 (by decide) (hts _ wd_284) (fun _ h9 => h9) rfl dX11_set_56 ?_
        refine lv_iconst (v := 1) hx hb dX11_set_59 (by decide) ?_
        refine lv_iadd hx hb dX11_set_60 ?_
        refine lv_topi (fun v27 e28 => ?_)
        obtain rfl : v27 = 1 := e28.trans (by decide)
        refine va_put (D := D) (ci := 11) (v := .int 1) (ty := .int) (C := RX11) (T := TX11) (N := 16) hx hb hts inW_11 tyX11 tyX11_ok nmX11 hown hK hP hD hS 0 rfl rfl 15 (by decide) (hts _ wd_284) (fun _ h9 => h9) rfl (by decide +kernel) rfl rfl (Nat.le_of_ble_eq_true rfl) dX11_set_61 (fun H locs hP hD hS => ?_)
        have hP : va_P D vwCl [((r 0), .inr (11, (fX r 0 0).set 15 (.int 1))), ((r 2), .inr (10, fWv r))] H := hP
        have hD : va_D A [((r 0), .inr (11, (fX r 0 0).set 15 (.int 1))), ((r 2), .inr (10, fWv r))] := hD
        refine lv_iload_n hx hb dX11_set_64 rfl (lv_at hl 2 rfl) ?_
        refine lv_lookup (off := 49) (tgt := 114) hx hb dX11_set_65 (by decide) (by decide) (by decide) ?_
        refine lv_aload_n hx hb dX11_set_114 rfl (lv_at hl 1 rfl) ?_
        refine lv_iload_n hx hb dX11_set_115 rfl (lv_at hl 3 rfl) ?_
        refine va_put (D := D) (ci := 11) (v := .int v) (ty := .int) (C := RX11) (T := TX11) (N := 16) hx hb hts inW_11 tyX11 tyX11_ok nmX11 hown hK hP hD hS 0 rfl rfl 14 (by decide) (hts _ wd_283) (fun _ h9 => h9) rfl (by decide +kernel) rfl rfl (Nat.le_of_ble_eq_true rfl) dX11_set_116 (fun H locs hP hD hS => ?_)
        have hP : va_P D vwCl [((r 0), .inr (11, ((fX r 0 0).set 15 (.int 1)).set 14 (.int v))), ((r 2), .inr (10, fWv r))] H := hP
        have hD : va_D A [((r 0), .inr (11, ((fX r 0 0).set 15 (.int 1)).set 14 (.int v))), ((r 2), .inr (10, fWv r))] := hD
        refine lv_iload_n hx hb dX11_set_119 rfl (lv_at hl 0 rfl) ?_
        exact rt_i hx hb hr hlocks hK hP hD hS rfl dX11_set_120 () [] rfl rfl (by show (8 : Int32) = _; unfold f_set; (try simp only [Int32.reduceToInt, not_true_eq_false, false_or, not_false_eq_true, true_or, and_true, true_and]); (try simp only [Int32.le_iff_toInt_le, Int32.lt_iff_toInt_lt, ← Int32.toInt_inj, Int32.reduceToInt] at h7); (try simp only [Int32.le_iff_toInt_le, Int32.lt_iff_toInt_lt, ← Int32.toInt_inj, Int32.reduceToInt] at h23); rw [if_pos (by omega)]; decide)
      · refine lv_if_ne (tgt := 48) hx hb dX11_set_43 (by decide) (fun c => False.elim (by revert c; decide)) (fun _ => ?_)
        refine lv_iconst (v := (-1)) hx hb dX11_set_46 (by decide) ?_
        exact rt_i hx hb hr hlocks hK hP hD hS rfl dX11_set_47 () [] rfl rfl (by show ((-1) : Int32) = _; unfold f_set; (try simp only [Int32.reduceToInt, not_true_eq_false, false_or, not_false_eq_true, true_or, and_true, true_and]); (try simp only [Int32.le_iff_toInt_le, Int32.lt_iff_toInt_lt, ← Int32.toInt_inj, Int32.reduceToInt] at h7); (try simp only [Int32.le_iff_toInt_le, Int32.lt_iff_toInt_lt, ← Int32.toInt_inj, Int32.reduceToInt] at h23); first | (rw [if_pos (by omega)]; done) | (rw [if_neg (by omega)]; done) | (rw [if_pos (by omega)]; exact Int32.toInt_inj.mp (by (try simp only [Int32.reduceToInt]); omega)))
  · refine lv_if_eq (tgt := 46) hx hb dX11_set_13 (by decide) (fun _ => ?_) (fun c => False.elim (by revert c; decide))
    refine lv_iconst (v := (-1)) hx hb dX11_set_46 (by decide) ?_
    exact rt_i hx hb hr hlocks hK hP hD hS rfl dX11_set_47 () [] rfl rfl (by show ((-1) : Int32) = _; unfold f_set; (try simp only [Int32.reduceToInt, not_true_eq_false, false_or, not_false_eq_true, true_or, and_true, true_and]); (try simp only [Int32.le_iff_toInt_le, Int32.lt_iff_toInt_lt, ← Int32.toInt_inj, Int32.reduceToInt] at h7); first | (rw [if_pos (by omega)]; done) | (rw [if_neg (by omega)]; done) | (rw [if_pos (by omega)]; exact Int32.toInt_inj.mp (by (try simp only [Int32.reduceToInt]); omega)))
set_option maxHeartbeats 4000000 in
set_option maxRecDepth 100000 in
/-- X11_pool -/
theorem c_X11_pool (l : Launch) (D : va_G) (c : Nat → ClassId) (sz : Nat) (r : Nat → Nat) (a : Int32) (f : Int32) (w : Int32) (s0 : Int32) (sl : Int32) (ov : Int32) (d : Int32) : Met l yX11_pool (.code yX11_pool cX11_pool 10 (some .int) :: Wd) ({ frames := 3, cells := 18, slots := 7500, locals := 77 }) (va_Pc [.ref (r 0), .int a, .int f, .int w, .int s0, .int sl, .int ov, .int d] (WB D c [((r 0), .inr (11, fX r 0 0)), ((r 3), .inl (c 4, 11, .inr (.inr (.inr (.inr (fun _ => none))))))] sz)) (QI (S := Unit) D c (fun q _ => q = f_pool a f w s0 sl ov d) (fun _ => []) (va_A [((r 0), .inr (11, fX r 0 0)), ((r 3), .inl (c 4, 11, .inr (.inr (.inr (.inr (fun _ => none))))))] sz)) 18 7500 (va_A [((r 0), .inr (11, fX r 0 0)), ((r 3), .inl (c 4, 11, .inr (.inr (.inr (.inr (fun _ => none))))))] sz) := by
  refine kz_met (Qc := QI (S := Unit) D c (fun q _ => q = f_pool a f w s0 sl ov d) (fun _ => [])) (by decide) (Nat.le_of_ble_eq_true rfl) ?_
  intro p e s m below meth cd A ls H locs hx hb hr hml hts hown hlocks hin hN hO hK hP hD hS hA hl
  have hl : lv_has ls 10 [(0, .ref (r 0)), (1, .int a), (2, .int f), (3, .int w), (4, .int s0), (5, .int sl), (6, .int ov), (7, .int d)] := hl
  have hown : s.vm.findClass RX11 = some m.cls := hown
  refine lv_iload_n hx hb dX11_pool_0 rfl (lv_at hl 2 rfl) ?_
  refine lv_sipush (v := (-300)) hx hb dX11_pool_1 (by decide) ?_
  refine lv_sipush (v := 800) hx hb dX11_pool_4 (by decide) ?_
  have hPc := hP.sub (ws' := []) [] rfl
  have hDc := hD.sub (ws' := []) [] (by decide) rfl
  refine cl_i (wr := [((r 0), .inr (11, fX r 0 0)), ((r 3), .inl (c 4, 11, .inr (.inr (.inr (.inr (fun _ => none))))))]) (va_runS (As := [.int f, .int (-300), .int 800]) (rest := []) ⟨hx, hb, hml, hown, hts⟩ (c_X11_within l D c H.size f ((-300)) 800) (kw_S 3 hts wd_347 wd_331 wd_83 wd_332 rfl rfl (by decide +kernel) ⟨Nat.le_of_ble_eq_true rfl, Nat.le_of_ble_eq_true rfl⟩) (pre_S hPc hK hDc hN hO) rfl rfl hl.1 rfl (lv_room (Nat.le_of_ble_eq_true rfl)) dX11_pool_7 ⟨Nat.le_of_ble_eq_true rfl, Nat.le_of_ble_eq_true rfl⟩) hP hD hS hA [] [0, 1] rfl rfl (by decide) (by decide) (fun r1 u2 H locs h3 hP hD hS => ?_)
  have hP : va_P D vwCl [((r 0), .inr (11, fX r 0 0)), ((r 3), .inl (c 4, 11, .inr (.inr (.inr (.inr (fun _ => none))))))] H := hP
  have hD : va_D A [((r 0), .inr (11, fX r 0 0)), ((r 3), .inl (c 4, 11, .inr (.inr (.inr (.inr (fun _ => none))))))] := hD
  rcases inB_c h3 with ⟨h4, rfl⟩ | ⟨h4, rfl⟩
  · refine lv_if_eq (tgt := 51) hx hb dX11_pool_10 (by decide) (fun c => False.elim (by revert c; decide)) (fun _ => ?_)
    refine lv_iload_n hx hb dX11_pool_13 rfl (lv_at hl 3 rfl) ?_
    refine lv_iload_n hx hb dX11_pool_14 rfl (lv_at hl 2 rfl) ?_
    refine lv_icmp_le (tgt := 51) hx hb dX11_pool_15 (by decide) (fun c5 => ?_) (fun c5 => ?_)
    · refine lv_iconst (v := 0) hx hb dX11_pool_51 (by decide) ?_
      refine lv_istore (lv' := [(8, .int 0), (0, .ref (r 0)), (1, .int a), (2, .int f), (3, .int w), (4, .int s0), (5, .int sl), (6, .int ov), (7, .int d)]) hx hb dX11_pool_52 hl (by decide) rfl (fun ls hl => ?_)
      refine lv_aload_n hx hb dX11_pool_54 rfl (lv_at hl 1 rfl) ?_
      have hPc := hP.sub (ws' := [((r 0), .inr (11, fX r 0 0))]) [0] rfl
      have hDc := hD.sub (ws' := [((r 0), .inr (11, fX r 0 0))]) [0] (by decide) rfl
      refine cl_i (wr := [((r 3), .inl (c 4, 11, .inr (.inr (.inr (.inr (fun _ => none))))))]) (va_runV (As := []) (rest := []) ⟨hx, hb, hml, hown, hts⟩ (c_X11_atEnd l D c H.size r 0) (kw_V 0 hts wd_322 wd_324 wd_0 wd_83 wd_325 rfl rfl (by decide +kernel) ⟨Nat.le_of_ble_eq_true rfl, Nat.le_of_ble_eq_true rfl⟩) (pre_V hPc hK hDc hN hO (ci := 11) (q0 := 0) rfl rfl) rfl rfl hl.1 rfl (lv_room (Nat.le_of_ble_eq_true rfl)) dX11_pool_55 ⟨Nat.le_of_ble_eq_true rfl, Nat.le_of_ble_eq_true rfl⟩) hP hD hS hA [0] [1] rfl rfl (by decide) (by decide) (fun r6 u7 H locs h8 hP hD hS => ?_)
      have hP : va_P D vwCl [((r 3), .inl (c 4, 11, .inr (.inr (.inr (.inr (fun _ => none)))))), ((r 0), .inr (11, fX r 0 0))] H := hP
      have hD : va_D A [((r 3), .inl (c 4, 11, .inr (.inr (.inr (.inr (fun _ => none)))))), ((r 0), .inr (11, fX r 0 0))] := hD
      obtain rfl : r6 = 0 := h8
      refine lv_if_ne (tgt := 111) hx hb dX11_pool_58 (by decide) (fun c => False.elim (by revert c; decide)) (fun _ => ?_)
      refine lv_aload_n hx hb dX11_pool_61 rfl (lv_at hl 1 rfl) ?_
      refine va_get (D := D) (ci := 11) (v := .int 0) (C := RX11) (T := TX11) (N := 16) hx hb hts inW_11 hown hK hP 1 rfl rfl 10 (by decide) (hts _ wd_279) (fun _ h9 => h9) rfl dX11_pool_62 ?_
      refine lv_aload_n hx hb dX11_pool_65 rfl (lv_at hl 1 rfl) ?_
      refine va_get (D := D) (ci := 11) (v := .ref (r 3)) (C := RX11) (T := TX11) (N := 16) hx hb hts inW_11 hown hK hP 1 rfl rfl 2 (by decide) (hts _ wd_271) (fun _ h9 => h9) rfl dX11_pool_66 ?_
      refine va_alen (v := 11) hx hb hK hP 0 4 rfl rfl (by show Int32.ofNat 11 = 11; decide) dX11_pool_69 ?_
      refine lv_icmp_ge (tgt := 111) hx hb dX11_pool_70 (by decide) (fun c => False.elim (by revert c; decide)) (fun _ => ?_)
      refine lv_iload hx hb dX11_pool_73 (lv_at hl 0 rfl) ?_
      refine lv_if_eq (tgt := 111) hx hb dX11_pool_75 (by decide) (fun _ => ?_) (fun c => False.elim (by revert c; decide))
      refine lv_iconst (v := (-1)) hx hb dX11_pool_111 (by decide) ?_
      refine W.widen (k := 18) (n := 7500) (Nat.le_of_ble_eq_true rfl) (Nat.le_of_ble_eq_true rfl) ?_
      exact rt_i hx hb hr hlocks hK hP hD hS rfl dX11_pool_112 () [] rfl rfl (by show ((-1) : Int32) = _; unfold f_pool; (try simp only [Int32.reduceToInt, not_true_eq_false, false_or, not_false_eq_true, true_or, and_true, true_and]); (try simp only [Int32.le_iff_toInt_le, Int32.lt_iff_toInt_lt, ← Int32.toInt_inj, Int32.reduceToInt] at h4); (try simp only [Int32.le_iff_toInt_le, Int32.lt_iff_toInt_lt, ← Int32.toInt_inj, Int32.reduceToInt] at c5); first | (rw [if_pos (by omega)]; done) | (rw [if_neg (by omega)]; done) | (rw [if_pos (by omega)]; exact Int32.toInt_inj.mp (by (try simp only [Int32.reduceToInt]); omega)))
    · refine lv_iload_n hx hb dX11_pool_18 rfl (lv_at hl 3 rfl) ?_
      refine lv_sipush (v := 900) hx hb dX11_pool_19 (by decide) ?_
      refine lv_icmp_gt (tgt := 51) hx hb dX11_pool_22 (by decide) (fun c9 => ?_) (fun c9 => ?_)
      · refine lv_iconst (v := 0) hx hb dX11_pool_51 (by decide) ?_
        refine lv_istore (lv' := [(8, .int 0), (0, .ref (r 0)), (1, .int a), (2, .int f), (3, .int w), (4, .int s0), (5, .int sl), (6, .int ov), (7, .int d)]) hx hb dX11_pool_52 hl (by decide) rfl (fun ls hl => ?_)
        refine lv_aload_n hx hb dX11_pool_54 rfl (lv_at hl 1 rfl) ?_
        have hPc := hP.sub (ws' := [((r 0), .inr (11, fX r 0 0))]) [0] rfl
        have hDc := hD.sub (ws' := [((r 0), .inr (11, fX r 0 0))]) [0] (by decide) rfl
        refine cl_i (wr := [((r 3), .inl (c 4, 11, .inr (.inr (.inr (.inr (fun _ => none))))))]) (va_runV (As := []) (rest := []) ⟨hx, hb, hml, hown, hts⟩ (c_X11_atEnd l D c H.size r 0) (kw_V 0 hts wd_322 wd_324 wd_0 wd_83 wd_325 rfl rfl (by decide +kernel) ⟨Nat.le_of_ble_eq_true rfl, Nat.le_of_ble_eq_true rfl⟩) (pre_V hPc hK hDc hN hO (ci := 11) (q0 := 0) rfl rfl) rfl rfl hl.1 rfl (lv_room (Nat.le_of_ble_eq_true rfl)) dX11_pool_55 ⟨Nat.le_of_ble_eq_true rfl, Nat.le_of_ble_eq_true rfl⟩) hP hD hS hA [0] [1] rfl rfl (by decide) (by decide) (fun r10 u11 H locs h12 hP hD hS => ?_)
        have hP : va_P D vwCl [((r 3), .inl (c 4, 11, .inr (.inr (.inr (.inr (fun _ => none)))))), ((r 0), .inr (11, fX r 0 0))] H := hP
        have hD : va_D A [((r 3), .inl (c 4, 11, .inr (.inr (.inr (.inr (fun _ => none)))))), ((r 0), .inr (11, fX r 0 0))] := hD
        obtain rfl : r10 = 0 := h12
        refine lv_if_ne (tgt := 111) hx hb dX11_pool_58 (by decide) (fun c => False.elim (by revert c; decide)) (fun _ => ?_)
        refine lv_aload_n hx hb dX11_pool_61 rfl (lv_at hl 1 rfl) ?_
        refine va_get (D := D) (ci := 11) (v := .int 0) (C := RX11) (T := TX11) (N := 16) hx hb hts inW_11 hown hK hP 1 rfl rfl 10 (by decide) (hts _ wd_279) (fun _ h9 => h9) rfl dX11_pool_62 ?_
        refine lv_aload_n hx hb dX11_pool_65 rfl (lv_at hl 1 rfl) ?_
        refine va_get (D := D) (ci := 11) (v := .ref (r 3)) (C := RX11) (T := TX11) (N := 16) hx hb hts inW_11 hown hK hP 1 rfl rfl 2 (by decide) (hts _ wd_271) (fun _ h9 => h9) rfl dX11_pool_66 ?_
        refine va_alen (v := 11) hx hb hK hP 0 4 rfl rfl (by show Int32.ofNat 11 = 11; decide) dX11_pool_69 ?_
        refine lv_icmp_ge (tgt := 111) hx hb dX11_pool_70 (by decide) (fun c => False.elim (by revert c; decide)) (fun _ => ?_)
        refine lv_iload hx hb dX11_pool_73 (lv_at hl 0 rfl) ?_
        refine lv_if_eq (tgt := 111) hx hb dX11_pool_75 (by decide) (fun _ => ?_) (fun c => False.elim (by revert c; decide))
        refine lv_iconst (v := (-1)) hx hb dX11_pool_111 (by decide) ?_
        refine W.widen (k := 18) (n := 7500) (Nat.le_of_ble_eq_true rfl) (Nat.le_of_ble_eq_true rfl) ?_
        exact rt_i hx hb hr hlocks hK hP hD hS rfl dX11_pool_112 () [] rfl rfl (by show ((-1) : Int32) = _; unfold f_pool; (try simp only [Int32.reduceToInt, not_true_eq_false, false_or, not_false_eq_true, true_or, and_true, true_and]); (try simp only [Int32.le_iff_toInt_le, Int32.lt_iff_toInt_lt, ← Int32.toInt_inj, Int32.reduceToInt] at h4); (try simp only [Int32.le_iff_toInt_le, Int32.lt_iff_toInt_lt, ← Int32.toInt_inj, Int32.reduceToInt] at c5); (try simp only [Int32.le_iff_toInt_le, Int32.lt_iff_toInt_lt, ← Int32.toInt_inj, Int32.reduceToInt] at c9); first | (rw [if_pos (by omega)]; done) | (rw [if_neg (by omega)]; done) | (rw [if_pos (by omega)]; exact Int32.toInt_inj.mp (by (try simp only [Int32.reduceToInt]); omega)))
      · refine lv_iload hx hb dX11_pool_25 (lv_at hl 4 rfl) ?_
        refine lv_iload_n hx hb dX11_pool_27 rfl (lv_at hl 2 rfl) ?_
        refine lv_iload_n hx hb dX11_pool_28 rfl (lv_at hl 3 rfl) ?_
        have hPc := hP.sub (ws' := []) [] rfl
        have hDc := hD.sub (ws' := []) [] (by decide) rfl
        refine cl_i (wr := [((r 0), .inr (11, fX r 0 0)), ((r 3), .inl (c 4, 11, .inr (.inr (.inr (.inr (fun _ => none))))))]) (va_runS (As := [.int s0, .int f, .int w]) (rest := []) ⟨hx, hb, hml, hown, hts⟩ (c_X11_within l D c H.size s0 f w) (kw_S 3 hts wd_347 wd_331 wd_83 wd_332 rfl rfl (by decide +kernel) ⟨Nat.le_of_ble_eq_true rfl, Nat.le_of_ble_eq_true rfl⟩) (pre_S hPc hK hDc hN hO) rfl rfl hl.1 rfl (lv_room (Nat.le_of_ble_eq_true rfl)) dX11_pool_29 ⟨Nat.le_of_ble_eq_true rfl, Nat.le_of_ble_eq_true rfl⟩) hP hD hS hA [] [0, 1] rfl rfl (by decide) (by decide) (fun r13 u14 H locs h15 hP hD hS => ?_)
        have hP : va_P D vwCl [((r 0), .inr (11, fX r 0 0)), ((r 3), .inl (c 4, 11, .inr (.inr (.inr (.inr (fun _ => none))))))] H := hP
        have hD : va_D A [((r 0), .inr (11, fX r 0 0)), ((r 3), .inl (c 4, 11, .inr (.inr (.inr (.inr (fun _ => none))))))] := hD
        rcases inB_c h15 with ⟨h16, rfl⟩ | ⟨h16, rfl⟩
        · refine lv_if_eq (tgt := 51) hx hb dX11_pool_32 (by decide) (fun c => False.elim (by revert c; decide)) (fun _ => ?_)
          refine lv_iload hx hb dX11_pool_35 (lv_at hl 7 rfl) ?_
          refine lv_iconst (v := 0) hx hb dX11_pool_37 (by decide) ?_
          refine lv_iload_n hx hb dX11_pool_38 rfl (lv_at hl 3 rfl) ?_
          refine lv_iload_n hx hb dX11_pool_39 rfl (lv_at hl 2 rfl) ?_
          refine lv_isub hx hb dX11_pool_40 ?_
          refine lv_topi (fun v17 e18 => ?_)
          have hPc := hP.sub (ws' := []) [] rfl
          have hDc := hD.sub (ws' := []) [] (by decide) rfl
          refine cl_i (wr := [((r 0), .inr (11, fX r 0 0)), ((r 3), .inl (c 4, 11, .inr (.inr (.inr (.inr (fun _ => none))))))]) (va_runS (As := [.int d, .int 0, .int v17]) (rest := []) ⟨hx, hb, hml, hown, hts⟩ (c_X11_within l D c H.size d 0 v17) (kw_S 3 hts wd_347 wd_331 wd_83 wd_332 rfl rfl (by decide +kernel) ⟨Nat.le_of_ble_eq_true rfl, Nat.le_of_ble_eq_true rfl⟩) (pre_S hPc hK hDc hN hO) rfl rfl hl.1 rfl (lv_room (Nat.le_of_ble_eq_true rfl)) dX11_pool_41 ⟨Nat.le_of_ble_eq_true rfl, Nat.le_of_ble_eq_true rfl⟩) hP hD hS hA [] [0, 1] rfl rfl (by decide) (by decide) (fun r19 u20 H locs h21 hP hD hS => ?_)
          have hP : va_P D vwCl [((r 0), .inr (11, fX r 0 0)), ((r 3), .inl (c 4, 11, .inr (.inr (.inr (.inr (fun _ => none))))))] H := hP
          have hD : va_D A [((r 0), .inr (11, fX r 0 0)), ((r 3), .inl (c 4, 11, .inr (.inr (.inr (.inr (fun _ => none))))))] := hD
          rcases inB_c h21 with ⟨h22, rfl⟩ | ⟨h22, rfl⟩
          · refine lv_if_eq (tgt := 51) hx hb dX11_pool_44 (by decide) (fun c => False.elim (by revert c; decide)) (fun _ => ?_)
            refine lv_iconst (v := 1) hx hb dX11_pool_47 (by decide) ?_
            refine lv_goto (tgt := 52) hx hb dX11_pool_48 (by decide) ?_
            refine lv_istore (lv' := [(8, .int 1), (0, .ref (r 0)), (1, .int a), (2, .int f), (3, .int w), (4, .int s0), (5, .int sl), (6, .int ov), (7, .int d)]) hx hb dX11_pool_52 hl (by decide) rfl (fun ls hl => ?_)
            refine lv_aload_n hx hb dX11_pool_54 rfl (lv_at hl 1 rfl) ?_
            have hPc := hP.sub (ws' := [((r 0), .inr (11, fX r 0 0))]) [0] rfl
            have hDc := hD.sub (ws' := [((r 0), .inr (11, fX r 0 0))]) [0] (by decide) rfl
            refine cl_i (wr := [((r 3), .inl (c 4, 11, .inr (.inr (.inr (.inr (fun _ => none))))))]) (va_runV (As := []) (rest := []) ⟨hx, hb, hml, hown, hts⟩ (c_X11_atEnd l D c H.size r 0) (kw_V 0 hts wd_322 wd_324 wd_0 wd_83 wd_325 rfl rfl (by decide +kernel) ⟨Nat.le_of_ble_eq_true rfl, Nat.le_of_ble_eq_true rfl⟩) (pre_V hPc hK hDc hN hO (ci := 11) (q0 := 0) rfl rfl) rfl rfl hl.1 rfl (lv_room (Nat.le_of_ble_eq_true rfl)) dX11_pool_55 ⟨Nat.le_of_ble_eq_true rfl, Nat.le_of_ble_eq_true rfl⟩) hP hD hS hA [0] [1] rfl rfl (by decide) (by decide) (fun r23 u24 H locs h25 hP hD hS => ?_)
            have hP : va_P D vwCl [((r 3), .inl (c 4, 11, .inr (.inr (.inr (.inr (fun _ => none)))))), ((r 0), .inr (11, fX r 0 0))] H := hP
            have hD : va_D A [((r 3), .inl (c 4, 11, .inr (.inr (.inr (.inr (fun _ => none)))))), ((r 0), .inr (11, fX r 0 0))] := hD
            obtain rfl : r23 = 0 := h25
            refine lv_if_ne (tgt := 111) hx hb dX11_pool_58 (by decide) (fun c => False.elim (by revert c; decide)) (fun _ => ?_)
            refine lv_aload_n hx hb dX11_pool_61 rfl (lv_at hl 1 rfl) ?_
            refine va_get (D := D) (ci := 11) (v := .int 0) (C := RX11) (T := TX11) (N := 16) hx hb hts inW_11 hown hK hP 1 rfl rfl 10 (by decide) (hts _ wd_279) (fun _ h9 => h9) rfl dX11_pool_62 ?_
            refine lv_aload_n hx hb dX11_pool_65 rfl (lv_at hl 1 rfl) ?_
            refine va_get (D := D) (ci := 11) (v := .ref (r 3)) (C := RX11) (T := TX11) (N := 16) hx hb hts inW_11 hown hK hP 1 rfl rfl 2 (by decide) (hts _ wd_271) (fun _ h9 => h9) rfl dX11_pool_66 ?_
            refine va_alen (v := 11) hx hb hK hP 0 4 rfl rfl (by show Int32.ofNat 11 = 11; decide) dX11_pool_69 ?_
            refine lv_icmp_ge (tgt := 111) hx hb dX11_pool_70 (by decide) (fun c => False.elim (by revert c; decide)) (fun _ => ?_)
            refine lv_iload hx hb dX11_pool_73 (lv_at hl 0 rfl) ?_
            refine lv_if_eq (tgt := 111) hx hb dX11_pool_75 (by decide) (fun c => False.elim (by revert c; decide)) (fun _ => ?_)
            refine lv_iload_n hx hb dX11_pool_78 rfl (lv_at hl 2 rfl) ?_
            refine lv_iconst (v := 1) hx hb dX11_pool_79 (by decide) ?_
            refine lv_sipush (v := 2000) hx hb dX11_pool_80 (by decide) ?_
            have hPc := hP.sub (ws' := []) [] rfl
            have hDc := hD.sub (ws' := []) [] (by decide) rfl
            refine cl_i (wr := [((r 3), .inl (c 4, 11, .inr (.inr (.inr (.inr (fun _ => none)))))), ((r 0), .inr (11, fX r 0 0))]) (va_runS (As := [.int a, .int 1, .int 2000]) (rest := []) ⟨hx, hb, hml, hown, hts⟩ (c_X11_within l D c H.size a 1 2000) (kw_S 3 hts wd_347 wd_331 wd_83 wd_332 rfl rfl (by decide +kernel) ⟨Nat.le_of_ble_eq_true rfl, Nat.le_of_ble_eq_true rfl⟩) (pre_S hPc hK hDc hN hO) rfl rfl hl.1 rfl (lv_room (Nat.le_of_ble_eq_true rfl)) dX11_pool_83 ⟨Nat.le_of_ble_eq_true rfl, Nat.le_of_ble_eq_true rfl⟩) hP hD hS hA [] [0, 1] rfl rfl (by decide) (by decide) (fun r26 u27 H locs h28 hP hD hS => ?_)
            have hP : va_P D vwCl [((r 3), .inl (c 4, 11, .inr (.inr (.inr (.inr (fun _ => none)))))), ((r 0), .inr (11, fX r 0 0))] H := hP
            have hD : va_D A [((r 3), .inl (c 4, 11, .inr (.inr (.inr (.inr (fun _ => none)))))), ((r 0), .inr (11, fX r 0 0))] := hD
            rcases inB_c h28 with ⟨h29, rfl⟩ | ⟨h29, rfl⟩
            · refine lv_if_eq (tgt := 111) hx hb dX11_pool_86 (by decide) (fun c => False.elim (by revert c; decide)) (fun _ => ?_)
              refine lv_iload hx hb dX11_pool_89 (lv_at hl 6 rfl) ?_
              refine lv_iconst (v := 0) hx hb dX11_pool_91 (by decide) ?_
              refine lv_bipush (v := 100) hx hb dX11_pool_92 (by decide) ?_
              have hPc := hP.sub (ws' := []) [] rfl
              have hDc := hD.sub (ws' := []) [] (by decide) rfl
              refine cl_i (wr := [((r 3), .inl (c 4, 11, .inr (.inr (.inr (.inr (fun _ => none)))))), ((r 0), .inr (11, fX r 0 0))]) (va_runS (As := [.int sl, .int 0, .int 100]) (rest := []) ⟨hx, hb, hml, hown, hts⟩ (c_X11_within l D c H.size sl 0 100) (kw_S 3 hts wd_347 wd_331 wd_83 wd_332 rfl rfl (by decide +kernel) ⟨Nat.le_of_ble_eq_true rfl, Nat.le_of_ble_eq_true rfl⟩) (pre_S hPc hK hDc hN hO) rfl rfl hl.1 rfl (lv_room (Nat.le_of_ble_eq_true rfl)) dX11_pool_94 ⟨Nat.le_of_ble_eq_true rfl, Nat.le_of_ble_eq_true rfl⟩) hP hD hS hA [] [0, 1] rfl rfl (by decide) (by decide) (fun r30 u31 H locs h32 hP hD hS => ?_)
              have hP : va_P D vwCl [((r 3), .inl (c 4, 11, .inr (.inr (.inr (.inr (fun _ => none)))))), ((r 0), .inr (11, fX r 0 0))] H := hP
              have hD : va_D A [((r 3), .inl (c 4, 11, .inr (.inr (.inr (.inr (fun _ => none)))))), ((r 0), .inr (11, fX r 0 0))] := hD
              rcases inB_c h32 with ⟨h33, rfl⟩ | ⟨h33, rfl⟩
              · refine lv_if_eq (tgt := 111) hx hb dX11_pool_97 (by decide) (fun c => False.elim (by revert c; decide)) (fun _ => ?_)
                refine lv_iload hx hb dX11_pool_100 (lv_at hl 7 rfl) ?_
                refine lv_iconst (v := 0) hx hb dX11_pool_102 (by decide) ?_
                refine lv_bipush (v := 100) hx hb dX11_pool_103 (by decide) ?_
                have hPc := hP.sub (ws' := []) [] rfl
                have hDc := hD.sub (ws' := []) [] (by decide) rfl
                refine cl_i (wr := [((r 3), .inl (c 4, 11, .inr (.inr (.inr (.inr (fun _ => none)))))), ((r 0), .inr (11, fX r 0 0))]) (va_runS (As := [.int ov, .int 0, .int 100]) (rest := []) ⟨hx, hb, hml, hown, hts⟩ (c_X11_within l D c H.size ov 0 100) (kw_S 3 hts wd_347 wd_331 wd_83 wd_332 rfl rfl (by decide +kernel) ⟨Nat.le_of_ble_eq_true rfl, Nat.le_of_ble_eq_true rfl⟩) (pre_S hPc hK hDc hN hO) rfl rfl hl.1 rfl (lv_room (Nat.le_of_ble_eq_true rfl)) dX11_pool_105 ⟨Nat.le_of_ble_eq_true rfl, Nat.le_of_ble_eq_true rfl⟩) hP hD hS hA [] [0, 1] rfl rfl (by decide) (by decide) (fun r34 u35 H locs h36 hP hD hS => ?_)
                have hP : va_P D vwCl [((r 3), .inl (c 4, 11, .inr (.inr (.inr (.inr (fun _ => none)))))), ((r 0), .inr (11, fX r 0 0))] H := hP
                have hD : va_D A [((r 3), .inl (c 4, 11, .inr (.inr (.inr (.inr (fun _ => none)))))), ((r 0), .inr (11, fX r 0 0))] := hD
                rcases inB_c h36 with ⟨h37, rfl⟩ | ⟨h37, rfl⟩
                · refine lv_if_ne (tgt := 113) hx hb dX11_pool_108 (by decide) (fun _ => ?_) (fun c => False.elim (by revert c; decide))
                  refine va_new (ci := 0) (fs := nwX0) (C := RX0) (T := TX0) (N := 13) hx hb hts inW_0 tyX0 tyX0_ok hown (hts _ wd_398) (hts _ wd_399) (hts _ wd_91) hK hP hD hS hA rfl nwX0_ok (Nat.le_of_ble_eq_true rfl) (Nat.le_of_ble_eq_true rfl) dX11_pool_113 (fun q38 H hP hD hS => ?_)
                  have hP : va_P D vwCl [((r 3), .inl (c 4, 11, .inr (.inr (.inr (.inr (fun _ => none)))))), ((r 0), .inr (11, fX r 0 0)), (q38, .inr (0, nwX0))] H := hP
                  have hD : va_D A [((r 3), .inl (c 4, 11, .inr (.inr (.inr (.inr (fun _ => none)))))), ((r 0), .inr (11, fX r 0 0)), (q38, .inr (0, nwX0))] := hD
                  refine W.widen (k := 1) (n := 13) (Nat.le_of_ble_eq_true rfl) (Nat.le_of_ble_eq_true rfl) ?_
                  refine lv_dup hx hb dX11_pool_116 rfl ?_
                  refine lv_iload_n hx hb dX11_pool_117 rfl (lv_at hl 2 rfl) ?_
                  refine lv_iload_n hx hb dX11_pool_118 rfl (lv_at hl 3 rfl) ?_
                  refine lv_iload_n hx hb dX11_pool_119 rfl (lv_at hl 4 rfl) ?_
                  refine lv_iload hx hb dX11_pool_120 (lv_at hl 5 rfl) ?_
                  refine lv_iload hx hb dX11_pool_122 (lv_at hl 6 rfl) ?_
                  refine lv_iload hx hb dX11_pool_124 (lv_at hl 7 rfl) ?_
                  have hPc := hP.sub (ws' := [(q38, .inr (0, nwX0))]) [2] rfl
                  have hDc := hD.sub (ws' := [(q38, .inr (0, nwX0))]) [2] (by decide) rfl
                  refine cl_v (wr := [((r 3), .inl (c 4, 11, .inr (.inr (.inr (.inr (fun _ => none)))))), ((r 0), .inr (11, fX r 0 0))]) (va_runI (As := [.int a, .int f, .int w, .int s0, .int sl, .int ov]) (rest := [.ref q38]) ⟨hx, hb, hml, hown, hts⟩ (c_X0_init l D c H.size q38 a f w s0 sl ov) (kw_I 6 hts wd_400 wd_401 wd_91 wd_402 rfl rfl rfl (by decide +kernel) ⟨Nat.le_of_ble_eq_true rfl, Nat.le_of_ble_eq_true rfl⟩) (pre_S hPc hK hDc hN hO) rfl rfl hl.1 rfl (lv_room (Nat.le_of_ble_eq_true rfl)) dX11_pool_126 ⟨Nat.le_of_ble_eq_true rfl, Nat.le_of_ble_eq_true rfl⟩) hP hD hS hA [2] [0, 1] rfl rfl (by decide) (by decide) (fun u40 H locs h41 hP hD hS => ?_)
                  refine W.widen (k := 3) (n := 21) (Nat.le_of_ble_eq_true rfl) (Nat.le_of_ble_eq_true rfl) ?_
                  obtain ⟨q42, q43⟩ := u40
                  have hP : va_P D vwCl [((r 3), .inl (c 4, 11, .inr (.inr (.inr (.inr (fun _ => none)))))), ((r 0), .inr (11, fX r 0 0)), (q38, .inr (0, [.int a, .int f, .int w, .int s0, .int sl, .int ov, .ref q42, .ref q43, .int 0, .int 0, .int 0, .int 0, .int 0]))] H := hP
                  have hD : va_D A [((r 3), .inl (c 4, 11, .inr (.inr (.inr (.inr (fun _ => none)))))), ((r 0), .inr (11, fX r 0 0)), (q38, .inr (0, [.int a, .int f, .int w, .int s0, .int sl, .int ov, .ref q42, .ref q43, .int 0, .int 0, .int 0, .int 0, .int 0]))] := hD
                  refine lv_astore (lv' := [(9, .ref q38), (8, .int 1), (0, .ref (r 0)), (1, .int a), (2, .int f), (3, .int w), (4, .int s0), (5, .int sl), (6, .int ov), (7, .int d)]) hx hb dX11_pool_129 hl (by decide) rfl (fun ls hl => ?_)
                  refine lv_aload_n hx hb dX11_pool_131 rfl (lv_at hl 2 rfl) ?_
                  refine va_get (D := D) (ci := 11) (v := .ref (r 3)) (C := RX11) (T := TX11) (N := 16) hx hb hts inW_11 hown hK hP 1 rfl rfl 2 (by decide) (hts _ wd_271) (fun _ h9 => h9) rfl dX11_pool_132 ?_
                  refine lv_aload_n hx hb dX11_pool_135 rfl (lv_at hl 2 rfl) ?_
                  refine va_get (D := D) (ci := 11) (v := .int 0) (C := RX11) (T := TX11) (N := 16) hx hb hts inW_11 hown hK hP 1 rfl rfl 10 (by decide) (hts _ wd_279) (fun _ h9 => h9) rfl dX11_pool_136 ?_
                  refine va_new (ci := 4) (fs := nwX4) (C := RX4) (T := TX4) (N := 12) hx hb hts inW_4 tyX4 tyX4_ok hown (hts _ wd_161) (hts _ wd_462) (hts _ wd_92) hK hP hD hS hA rfl nwX4_ok (Nat.le_of_ble_eq_true rfl) (Nat.le_of_ble_eq_true rfl) dX11_pool_139 (fun q44 H hP hD hS => ?_)
                  have hP : va_P D vwCl [((r 3), .inl (c 4, 11, .inr (.inr (.inr (.inr (fun _ => none)))))), ((r 0), .inr (11, fX r 0 0)), (q38, .inr (0, [.int a, .int f, .int w, .int s0, .int sl, .int ov, .ref q42, .ref q43, .int 0, .int 0, .int 0, .int 0, .int 0])), (q44, .inr (4, nwX4))] H := hP
                  have hD : va_D A [((r 3), .inl (c 4, 11, .inr (.inr (.inr (.inr (fun _ => none)))))), ((r 0), .inr (11, fX r 0 0)), (q38, .inr (0, [.int a, .int f, .int w, .int s0, .int sl, .int ov, .ref q42, .ref q43, .int 0, .int 0, .int 0, .int 0, .int 0])), (q44, .inr (4, nwX4))] := hD
                  refine W.widen (k := 4) (n := 33) (Nat.le_of_ble_eq_true rfl) (Nat.le_of_ble_eq_true rfl) ?_
                  refine lv_dup hx hb dX11_pool_142 rfl ?_
                  refine lv_aload hx hb dX11_pool_143 (lv_at hl 0 rfl) ?_
                  refine lv_aload_n hx hb dX11_pool_145 rfl (lv_at hl 2 rfl) ?_
                  refine va_get (D := D) (ci := 11) (v := .int 0) (C := RX11) (T := TX11) (N := 16) hx hb hts inW_11 hown hK hP 1 rfl rfl 10 (by decide) (hts _ wd_279) (fun _ h9 => h9) rfl dX11_pool_146 ?_
                  refine lv_iload hx hb dX11_pool_149 (lv_at hl 9 rfl) ?_
                  refine lv_aload_n hx hb dX11_pool_151 rfl (lv_at hl 2 rfl) ?_
                  have hPc := hP.sub (ws' := [((r 0), .inr (11, fX r 0 0))]) [1] rfl
                  have hDc := hD.sub (ws' := [((r 0), .inr (11, fX r 0 0))]) [1] (by decide) rfl
                  refine cl_i (wr := [((r 3), .inl (c 4, 11, .inr (.inr (.inr (.inr (fun _ => none)))))), (q38, .inr (0, [.int a, .int f, .int w, .int s0, .int sl, .int ov, .ref q42, .ref q43, .int 0, .int 0, .int 0, .int 0, .int 0])), (q44, .inr (4, nwX4))]) (va_runV (As := []) (rest := [.int d, .int 0, .ref q38, .ref q44, .ref q44, .int 0, .ref (r 3)]) ⟨hx, hb, hml, hown, hts⟩ (c_X11_hourNow l D c H.size r 0) (kw_V 0 hts wd_368 wd_370 wd_2 wd_83 wd_371 rfl rfl (by decide +kernel) ⟨Nat.le_of_ble_eq_true rfl, Nat.le_of_ble_eq_true rfl⟩) (pre_V hPc hK hDc hN hO (ci := 11) (q0 := 0) rfl rfl) rfl rfl hl.1 rfl (lv_room (Nat.le_of_ble_eq_true rfl)) dX11_pool_152 ⟨Nat.le_of_ble_eq_true rfl, Nat.le_of_ble_eq_true rfl⟩) hP hD hS hA [1] [0, 2, 3] rfl rfl (by decide) (by decide) (fun r45 u46 H locs h47 hP hD hS => ?_)
                  have hP : va_P D vwCl [((r 3), .inl (c 4, 11, .inr (.inr (.inr (.inr (fun _ => none)))))), (q38, .inr (0, [.int a, .int f, .int w, .int s0, .int sl, .int ov, .ref q42, .ref q43, .int 0, .int 0, .int 0, .int 0, .int 0])), (q44, .inr (4, nwX4)), ((r 0), .inr (11, fX r 0 0))] H := hP
                  have hD : va_D A [((r 3), .inl (c 4, 11, .inr (.inr (.inr (.inr (fun _ => none)))))), (q38, .inr (0, [.int a, .int f, .int w, .int s0, .int sl, .int ov, .ref q42, .ref q43, .int 0, .int 0, .int 0, .int 0, .int 0])), (q44, .inr (4, nwX4)), ((r 0), .inr (11, fX r 0 0))] := hD
                  obtain rfl : r45 = 0 := h47
                  have hPc := hP.sub (ws' := [(q44, .inr (4, nwX4)), (q38, .inr (0, [.int a, .int f, .int w, .int s0, .int sl, .int ov, .ref q42, .ref q43, .int 0, .int 0, .int 0, .int 0, .int 0]))]) [2, 1] rfl
                  have hDc := hD.sub (ws' := [(q44, .inr (4, nwX4)), (q38, .inr (0, [.int a, .int f, .int w, .int s0, .int sl, .int ov, .ref q42, .ref q43, .int 0, .int 0, .int 0, .int 0, .int 0]))]) [2, 1] (by decide) rfl
                  refine cl_v (wr := [((r 3), .inl (c 4, 11, .inr (.inr (.inr (.inr (fun _ => none)))))), ((r 0), .inr (11, fX r 0 0))]) (va_runI (As := [.ref q38, .int 0, .int d, .int 0]) (rest := [.ref q44, .int 0, .ref (r 3)]) ⟨hx, hb, hml, hown, hts⟩ (c_X4_init l D c H.size q44 q38 a f w s0 sl ov q42 q43 0 d 0) (kw_I 4 hts wd_463 wd_464 wd_92 wd_465 rfl rfl rfl (by decide +kernel) ⟨Nat.le_of_ble_eq_true rfl, Nat.le_of_ble_eq_true rfl⟩) (pre_S hPc hK hDc hN hO) rfl rfl hl.1 rfl (lv_room (Nat.le_of_ble_eq_true rfl)) dX11_pool_155 ⟨Nat.le_of_ble_eq_true rfl, Nat.le_of_ble_eq_true rfl⟩) hP hD hS hA [2, 1] [0, 3] rfl rfl (by decide) (by decide) (fun u49 H locs h50 hP hD hS => ?_)
                  refine W.widen (k := 18) (n := 7500) (Nat.le_of_ble_eq_true rfl) (Nat.le_of_ble_eq_true rfl) ?_
                  have hP : va_P D vwCl [((r 3), .inl (c 4, 11, .inr (.inr (.inr (.inr (fun _ => none)))))), ((r 0), .inr (11, fX r 0 0)), (q44, .inr (4, u49))] H := hP
                  have hD : va_D A [((r 3), .inl (c 4, 11, .inr (.inr (.inr (.inr (fun _ => none)))))), ((r 0), .inr (11, fX r 0 0)), (q44, .inr (4, u49))] := hD
                  refine va_astq hx hb hK hP hD hS 0 4 2 4 rfl rfl rfl rfl (vp_in_iff.mpr (by decide)) dX11_pool_158 (fun H locs hP hD hS => ?_)
                  have hP : va_P D vwCl [((r 3), .inl (c 4, 11, .inr (.inr (.inr (.inr (va_up (fun _ => none) (Int32.toNatClampNeg 0) (some q44))))))), ((r 0), .inr (11, fX r 0 0)), (q44, .inr (4, u49))] H := hP
                  have hD : va_D A [((r 3), .inl (c 4, 11, .inr (.inr (.inr (.inr (va_up (fun _ => none) (Int32.toNatClampNeg 0) (some q44))))))), ((r 0), .inr (11, fX r 0 0)), (q44, .inr (4, u49))] := hD
                  refine lv_aload_n hx hb dX11_pool_159 rfl (lv_at hl 2 rfl) ?_
                  refine lv_dup hx hb dX11_pool_160 rfl ?_
                  refine va_get (D := D) (ci := 11) (v := .int 0) (C := RX11) (T := TX11) (N := 16) hx hb hts inW_11 hown hK hP 1 rfl rfl 10 (by decide) (hts _ wd_279) (fun _ h9 => h9) rfl dX11_pool_161 ?_
                  refine lv_iconst (v := 1) hx hb dX11_pool_164 (by decide) ?_
                  refine lv_iadd hx hb dX11_pool_165 ?_
                  refine lv_topi (fun v51 e52 => ?_)
                  obtain rfl : v51 = 1 := e52.trans (by decide)
                  refine va_put (D := D) (ci := 11) (v := .int 1) (ty := .int) (C := RX11) (T := TX11) (N := 16) hx hb hts inW_11 tyX11 tyX11_ok nmX11 hown hK hP hD hS 1 rfl rfl 10 (by decide) (hts _ wd_279) (fun _ h9 => h9) rfl (by decide +kernel) rfl rfl (Nat.le_of_ble_eq_true rfl) dX11_pool_166 (fun H locs hP hD hS => ?_)
                  have hP : va_P D vwCl [((r 3), .inl (c 4, 11, .inr (.inr (.inr (.inr (va_up (fun _ => none) (Int32.toNatClampNeg 0) (some q44))))))), ((r 0), .inr (11, (fX r 0 0).set 10 (.int 1))), (q44, .inr (4, u49))] H := hP
                  have hD : va_D A [((r 3), .inl (c 4, 11, .inr (.inr (.inr (.inr (va_up (fun _ => none) (Int32.toNatClampNeg 0) (some q44))))))), ((r 0), .inr (11, (fX r 0 0).set 10 (.int 1))), (q44, .inr (4, u49))] := hD
                  refine lv_aload_n hx hb dX11_pool_169 rfl (lv_at hl 2 rfl) ?_
                  refine va_get (D := D) (ci := 11) (v := .int 1) (C := RX11) (T := TX11) (N := 16) hx hb hts inW_11 hown hK hP 1 rfl rfl 10 (by decide) (hts _ wd_279) (fun _ h9 => h9) rfl dX11_pool_170 ?_
                  refine lv_iconst (v := 1) hx hb dX11_pool_173 (by decide) ?_
                  refine lv_isub hx hb dX11_pool_174 ?_
                  refine lv_topi (fun v53 e54 => ?_)
                  obtain rfl : v53 = 0 := e54.trans (by decide)
                  exact rt_i hx hb hr hlocks hK hP hD hS rfl dX11_pool_175 () [] rfl rfl (by show (0 : Int32) = _; unfold f_pool; (try simp only [Int32.reduceToInt, not_true_eq_false, false_or, not_false_eq_true, true_or, and_true, true_and]); (try simp only [Int32.le_iff_toInt_le, Int32.lt_iff_toInt_lt, ← Int32.toInt_inj, Int32.reduceToInt] at h4); (try simp only [Int32.le_iff_toInt_le, Int32.lt_iff_toInt_lt, ← Int32.toInt_inj, Int32.reduceToInt] at c5); (try simp only [Int32.le_iff_toInt_le, Int32.lt_iff_toInt_lt, ← Int32.toInt_inj, Int32.reduceToInt] at c9); (try simp only [Int32.le_iff_toInt_le, Int32.lt_iff_toInt_lt, ← Int32.toInt_inj, Int32.reduceToInt] at h16); (try simp only [Int32.le_iff_toInt_le, Int32.lt_iff_toInt_lt, ← Int32.toInt_inj, Int32.reduceToInt] at h22); (try simp only [Int32.le_iff_toInt_le, Int32.lt_iff_toInt_lt, ← Int32.toInt_inj, Int32.reduceToInt] at h29); (try simp only [Int32.le_iff_toInt_le, Int32.lt_iff_toInt_lt, ← Int32.toInt_inj, Int32.reduceToInt] at h33); (try simp only [Int32.le_iff_toInt_le, Int32.lt_iff_toInt_lt, ← Int32.toInt_inj, Int32.reduceToInt] at h37); (try have z_v17 : v17.toInt = w.toInt - f.toInt := by rw [e18]; exact i32_sub (by (try simp only [Int32.reduceToInt]); omega) (by (try simp only [Int32.reduceToInt]); omega) (by (try simp only [Int32.reduceToInt]); omega) (by (try simp only [Int32.reduceToInt]); omega)); (try simp only [Int32.reduceToInt] at z_v17); first | (rw [if_pos (by omega)]; done) | (rw [if_neg (by omega)]; done) | (rw [if_pos (by omega)]; exact Int32.toInt_inj.mp (by (try simp only [Int32.reduceToInt]); omega)))
                · refine lv_if_ne (tgt := 113) hx hb dX11_pool_108 (by decide) (fun c => False.elim (by revert c; decide)) (fun _ => ?_)
                  refine lv_iconst (v := (-1)) hx hb dX11_pool_111 (by decide) ?_
                  refine W.widen (k := 18) (n := 7500) (Nat.le_of_ble_eq_true rfl) (Nat.le_of_ble_eq_true rfl) ?_
                  exact rt_i hx hb hr hlocks hK hP hD hS rfl dX11_pool_112 () [] rfl rfl (by show ((-1) : Int32) = _; unfold f_pool; (try simp only [Int32.reduceToInt, not_true_eq_false, false_or, not_false_eq_true, true_or, and_true, true_and]); (try simp only [Int32.le_iff_toInt_le, Int32.lt_iff_toInt_lt, ← Int32.toInt_inj, Int32.reduceToInt] at h4); (try simp only [Int32.le_iff_toInt_le, Int32.lt_iff_toInt_lt, ← Int32.toInt_inj, Int32.reduceToInt] at c5); (try simp only [Int32.le_iff_toInt_le, Int32.lt_iff_toInt_lt, ← Int32.toInt_inj, Int32.reduceToInt] at c9); (try simp only [Int32.le_iff_toInt_le, Int32.lt_iff_toInt_lt, ← Int32.toInt_inj, Int32.reduceToInt] at h16); (try simp only [Int32.le_iff_toInt_le, Int32.lt_iff_toInt_lt, ← Int32.toInt_inj, Int32.reduceToInt] at h22); (try simp only [Int32.le_iff_toInt_le, Int32.lt_iff_toInt_lt, ← Int32.toInt_inj, Int32.reduceToInt] at h29); (try simp only [Int32.le_iff_toInt_le, Int32.lt_iff_toInt_lt, ← Int32.toInt_inj, Int32.reduceToInt] at h33); (try simp only [Int32.le_iff_toInt_le, Int32.lt_iff_toInt_lt, ← Int32.toInt_inj, Int32.reduceToInt] at h37); (try have z_v17 : v17.toInt = w.toInt - f.toInt := by rw [e18]; exact i32_sub (by (try simp only [Int32.reduceToInt]); omega) (by (try simp only [Int32.reduceToInt]); omega) (by (try simp only [Int32.reduceToInt]); omega) (by (try simp only [Int32.reduceToInt]); omega)); (try simp only [Int32.reduceToInt] at z_v17); first | (rw [if_pos (by omega)]; done) | (rw [if_neg (by omega)]; done) | (rw [if_pos (by omega)]; exact Int32.toInt_inj.mp (by (try simp only [Int32.reduceToInt]); omega)))
              · refine lv_if_eq (tgt := 111) hx hb dX11_pool_97 (by decide) (fun _ => ?_) (fun c => False.elim (by revert c; decide))
                refine lv_iconst (v := (-1)) hx hb dX11_pool_111 (by decide) ?_
                refine W.widen (k := 18) (n := 7500) (Nat.le_of_ble_eq_true rfl) (Nat.le_of_ble_eq_true rfl) ?_
                exact rt_i hx hb hr hlocks hK hP hD hS rfl dX11_pool_112 () [] rfl rfl (by show ((-1) : Int32) = _; unfold f_pool; (try simp only [Int32.reduceToInt, not_true_eq_false, false_or, not_false_eq_true, true_or, and_true, true_and]); (try simp only [Int32.le_iff_toInt_le, Int32.lt_iff_toInt_lt, ← Int32.toInt_inj, Int32.reduceToInt] at h4); (try simp only [Int32.le_iff_toInt_le, Int32.lt_iff_toInt_lt, ← Int32.toInt_inj, Int32.reduceToInt] at c5); (try simp only [Int32.le_iff_toInt_le, Int32.lt_iff_toInt_lt, ← Int32.toInt_inj, Int32.reduceToInt] at c9); (try simp only [Int32.le_iff_toInt_le, Int32.lt_iff_toInt_lt, ← Int32.toInt_inj, Int32.reduceToInt] at h16); (try simp only [Int32.le_iff_toInt_le, Int32.lt_iff_toInt_lt, ← Int32.toInt_inj, Int32.reduceToInt] at h22); (try simp only [Int32.le_iff_toInt_le, Int32.lt_iff_toInt_lt, ← Int32.toInt_inj, Int32.reduceToInt] at h29); (try simp only [Int32.le_iff_toInt_le, Int32.lt_iff_toInt_lt, ← Int32.toInt_inj, Int32.reduceToInt] at h33); (try have z_v17 : v17.toInt = w.toInt - f.toInt := by rw [e18]; exact i32_sub (by (try simp only [Int32.reduceToInt]); omega) (by (try simp only [Int32.reduceToInt]); omega) (by (try simp only [Int32.reduceToInt]); omega) (by (try simp only [Int32.reduceToInt]); omega)); (try simp only [Int32.reduceToInt] at z_v17); first | (rw [if_pos (by omega)]; done) | (rw [if_neg (by omega)]; done) | (rw [if_pos (by omega)]; exact Int32.toInt_inj.mp (by (try simp only [Int32.reduceToInt]); omega)))
            · refine lv_if_eq (tgt := 111) hx hb dX11_pool_86 (by decide) (fun _ => ?_) (fun c => False.elim (by revert c; decide))
              refine lv_iconst (v := (-1)) hx hb dX11_pool_111 (by decide) ?_
              refine W.widen (k := 18) (n := 7500) (Nat.le_of_ble_eq_true rfl) (Nat.le_of_ble_eq_true rfl) ?_
              exact rt_i hx hb hr hlocks hK hP hD hS rfl dX11_pool_112 () [] rfl rfl (by show ((-1) : Int32) = _; unfold f_pool; (try simp only [Int32.reduceToInt, not_true_eq_false, false_or, not_false_eq_true, true_or, and_true, true_and]); (try simp only [Int32.le_iff_toInt_le, Int32.lt_iff_toInt_lt, ← Int32.toInt_inj, Int32.reduceToInt] at h4); (try simp only [Int32.le_iff_toInt_le, Int32.lt_iff_toInt_lt, ← Int32.toInt_inj, Int32.reduceToInt] at c5); (try simp only [Int32.le_iff_toInt_le, Int32.lt_iff_toInt_lt, ← Int32.toInt_inj, Int32.reduceToInt] at c9); (try simp only [Int32.le_iff_toInt_le, Int32.lt_iff_toInt_lt, ← Int32.toInt_inj, Int32.reduceToInt] at h16); (try simp only [Int32.le_iff_toInt_le, Int32.lt_iff_toInt_lt, ← Int32.toInt_inj, Int32.reduceToInt] at h22); (try simp only [Int32.le_iff_toInt_le, Int32.lt_iff_toInt_lt, ← Int32.toInt_inj, Int32.reduceToInt] at h29); (try have z_v17 : v17.toInt = w.toInt - f.toInt := by rw [e18]; exact i32_sub (by (try simp only [Int32.reduceToInt]); omega) (by (try simp only [Int32.reduceToInt]); omega) (by (try simp only [Int32.reduceToInt]); omega) (by (try simp only [Int32.reduceToInt]); omega)); (try simp only [Int32.reduceToInt] at z_v17); first | (rw [if_pos (by omega)]; done) | (rw [if_neg (by omega)]; done) | (rw [if_pos (by omega)]; exact Int32.toInt_inj.mp (by (try simp only [Int32.reduceToInt]); omega)))
          · refine lv_if_eq (tgt := 51) hx hb dX11_pool_44 (by decide) (fun _ => ?_) (fun c => False.elim (by revert c; decide))
            refine lv_iconst (v := 0) hx hb dX11_pool_51 (by decide) ?_
            refine lv_istore (lv' := [(8, .int 0), (0, .ref (r 0)), (1, .int a), (2, .int f), (3, .int w), (4, .int s0), (5, .int sl), (6, .int ov), (7, .int d)]) hx hb dX11_pool_52 hl (by decide) rfl (fun ls hl => ?_)
            refine lv_aload_n hx hb dX11_pool_54 rfl (lv_at hl 1 rfl) ?_
            have hPc := hP.sub (ws' := [((r 0), .inr (11, fX r 0 0))]) [0] rfl
            have hDc := hD.sub (ws' := [((r 0), .inr (11, fX r 0 0))]) [0] (by decide) rfl
            refine cl_i (wr := [((r 3), .inl (c 4, 11, .inr (.inr (.inr (.inr (fun _ => none))))))]) (va_runV (As := []) (rest := []) ⟨hx, hb, hml, hown, hts⟩ (c_X11_atEnd l D c H.size r 0) (kw_V 0 hts wd_322 wd_324 wd_0 wd_83 wd_325 rfl rfl (by decide +kernel) ⟨Nat.le_of_ble_eq_true rfl, Nat.le_of_ble_eq_true rfl⟩) (pre_V hPc hK hDc hN hO (ci := 11) (q0 := 0) rfl rfl) rfl rfl hl.1 rfl (lv_room (Nat.le_of_ble_eq_true rfl)) dX11_pool_55 ⟨Nat.le_of_ble_eq_true rfl, Nat.le_of_ble_eq_true rfl⟩) hP hD hS hA [0] [1] rfl rfl (by decide) (by decide) (fun r55 u56 H locs h57 hP hD hS => ?_)
            have hP : va_P D vwCl [((r 3), .inl (c 4, 11, .inr (.inr (.inr (.inr (fun _ => none)))))), ((r 0), .inr (11, fX r 0 0))] H := hP
            have hD : va_D A [((r 3), .inl (c 4, 11, .inr (.inr (.inr (.inr (fun _ => none)))))), ((r 0), .inr (11, fX r 0 0))] := hD
            obtain rfl : r55 = 0 := h57
            refine lv_if_ne (tgt := 111) hx hb dX11_pool_58 (by decide) (fun c => False.elim (by revert c; decide)) (fun _ => ?_)
            refine lv_aload_n hx hb dX11_pool_61 rfl (lv_at hl 1 rfl) ?_
            refine va_get (D := D) (ci := 11) (v := .int 0) (C := RX11) (T := TX11) (N := 16) hx hb hts inW_11 hown hK hP 1 rfl rfl 10 (by decide) (hts _ wd_279) (fun _ h9 => h9) rfl dX11_pool_62 ?_
            refine lv_aload_n hx hb dX11_pool_65 rfl (lv_at hl 1 rfl) ?_
            refine va_get (D := D) (ci := 11) (v := .ref (r 3)) (C := RX11) (T := TX11) (N := 16) hx hb hts inW_11 hown hK hP 1 rfl rfl 2 (by decide) (hts _ wd_271) (fun _ h9 => h9) rfl dX11_pool_66 ?_
            refine va_alen (v := 11) hx hb hK hP 0 4 rfl rfl (by show Int32.ofNat 11 = 11; decide) dX11_pool_69 ?_
            refine lv_icmp_ge (tgt := 111) hx hb dX11_pool_70 (by decide) (fun c => False.elim (by revert c; decide)) (fun _ => ?_)
            refine lv_iload hx hb dX11_pool_73 (lv_at hl 0 rfl) ?_
            refine lv_if_eq (tgt := 111) hx hb dX11_pool_75 (by decide) (fun _ => ?_) (fun c => False.elim (by revert c; decide))
            refine lv_iconst (v := (-1)) hx hb dX11_pool_111 (by decide) ?_
            refine W.widen (k := 18) (n := 7500) (Nat.le_of_ble_eq_true rfl) (Nat.le_of_ble_eq_true rfl) ?_
            exact rt_i hx hb hr hlocks hK hP hD hS rfl dX11_pool_112 () [] rfl rfl (by show ((-1) : Int32) = _; unfold f_pool; (try simp only [Int32.reduceToInt, not_true_eq_false, false_or, not_false_eq_true, true_or, and_true, true_and]); (try simp only [Int32.le_iff_toInt_le, Int32.lt_iff_toInt_lt, ← Int32.toInt_inj, Int32.reduceToInt] at h4); (try simp only [Int32.le_iff_toInt_le, Int32.lt_iff_toInt_lt, ← Int32.toInt_inj, Int32.reduceToInt] at c5); (try simp only [Int32.le_iff_toInt_le, Int32.lt_iff_toInt_lt, ← Int32.toInt_inj, Int32.reduceToInt] at c9); (try simp only [Int32.le_iff_toInt_le, Int32.lt_iff_toInt_lt, ← Int32.toInt_inj, Int32.reduceToInt] at h16); (try simp only [Int32.le_iff_toInt_le, Int32.lt_iff_toInt_lt, ← Int32.toInt_inj, Int32.reduceToInt] at h22); (try have z_v17 : v17.toInt = w.toInt - f.toInt := by rw [e18]; exact i32_sub (by (try simp only [Int32.reduceToInt]); omega) (by (try simp only [Int32.reduceToInt]); omega) (by (try simp only [Int32.reduceToInt]); omega) (by (try simp only [Int32.reduceToInt]); omega)); (try simp only [Int32.reduceToInt] at z_v17); first | (rw [if_pos (by omega)]; done) | (rw [if_neg (by omega)]; done) | (rw [if_pos (by omega)]; exact Int32.toInt_inj.mp (by (try simp only [Int32.reduceToInt]); omega)))
        · refine lv_if_eq (tgt := 51) hx hb dX11_pool_32 (by decide) (fun _ => ?_) (fun c => False.elim (by revert c; decide))
          refine lv_iconst (v := 0) hx hb dX11_pool_51 (by decide) ?_
          refine lv_istore (lv' := [(8, .int 0), (0, .ref (r 0)), (1, .int a), (2, .int f), (3, .int w), (4, .int s0), (5, .int sl), (6, .int ov), (7, .int d)]) hx hb dX11_pool_52 hl (by decide) rfl (fun ls hl => ?_)
          refine lv_aload_n hx hb dX11_pool_54 rfl (lv_at hl 1 rfl) ?_
          have hPc := hP.sub (ws' := [((r 0), .inr (11, fX r 0 0))]) [0] rfl
          have hDc := hD.sub (ws' := [((r 0), .inr (11, fX r 0 0))]) [0] (by decide) rfl
          refine cl_i (wr := [((r 3), .inl (c 4, 11, .inr (.inr (.inr (.inr (fun _ => none))))))]) (va_runV (As := []) (rest := []) ⟨hx, hb, hml, hown, hts⟩ (c_X11_atEnd l D c H.size r 0) (kw_V 0 hts wd_322 wd_324 wd_0 wd_83 wd_325 rfl rfl (by decide +kernel) ⟨Nat.le_of_ble_eq_true rfl, Nat.le_of_ble_eq_true rfl⟩) (pre_V hPc hK hDc hN hO (ci := 11) (q0 := 0) rfl rfl) rfl rfl hl.1 rfl (lv_room (Nat.le_of_ble_eq_true rfl)) dX11_pool_55 ⟨Nat.le_of_ble_eq_true rfl, Nat.le_of_ble_eq_true rfl⟩) hP hD hS hA [0] [1] rfl rfl (by decide) (by decide) (fun r58 u59 H locs h60 hP hD hS => ?_)
          have hP : va_P D vwCl [((r 3), .inl (c 4, 11, .inr (.inr (.inr (.inr (fun _ => none)))))), ((r 0), .inr (11, fX r 0 0))] H := hP
          have hD : va_D A [((r 3), .inl (c 4, 11, .inr (.inr (.inr (.inr (fun _ => none)))))), ((r 0), .inr (11, fX r 0 0))] := hD
          obtain rfl : r58 = 0 := h60
          refine lv_if_ne (tgt := 111) hx hb dX11_pool_58 (by decide) (fun c => False.elim (by revert c; decide)) (fun _ => ?_)
          refine lv_aload_n hx hb dX11_pool_61 rfl (lv_at hl 1 rfl) ?_
          refine va_get (D := D) (ci := 11) (v := .int 0) (C := RX11) (T := TX11) (N := 16) hx hb hts inW_11 hown hK hP 1 rfl rfl 10 (by decide) (hts _ wd_279) (fun _ h9 => h9) rfl dX11_pool_62 ?_
          refine lv_aload_n hx hb dX11_pool_65 rfl (lv_at hl 1 rfl) ?_
          refine va_get (D := D) (ci := 11) (v := .ref (r 3)) (C := RX11) (T := TX11) (N := 16) hx hb hts inW_11 hown hK hP 1 rfl rfl 2 (by decide) (hts _ wd_271) (fun _ h9 => h9) rfl dX11_pool_66 ?_
          refine va_alen (v := 11) hx hb hK hP 0 4 rfl rfl (by show Int32.ofNat 11 = 11; decide) dX11_pool_69 ?_
          refine lv_icmp_ge (tgt := 111) hx hb dX11_pool_70 (by decide) (fun c => False.elim (by revert c; decide)) (fun _ => ?_)
          refine lv_iload hx hb dX11_pool_73 (lv_at hl 0 rfl) ?_
          refine lv_if_eq (tgt := 111) hx hb dX11_pool_75 (by decide) (fun _ => ?_) (fun c => False.elim (by revert c; decide))
          refine lv_iconst (v := (-1)) hx hb dX11_pool_111 (by decide) ?_
          refine W.widen (k := 18) (n := 7500) (Nat.le_of_ble_eq_true rfl) (Nat.le_of_ble_eq_true rfl) ?_
          exact rt_i hx hb hr hlocks hK hP hD hS rfl dX11_pool_112 () [] rfl rfl (by show ((-1) : Int32) = _; unfold f_pool; (try simp only [Int32.reduceToInt, not_true_eq_false, false_or, not_false_eq_true, true_or, and_true, true_and]); (try simp only [Int32.le_iff_toInt_le, Int32.lt_iff_toInt_lt, ← Int32.toInt_inj, Int32.reduceToInt] at h4); (try simp only [Int32.le_iff_toInt_le, Int32.lt_iff_toInt_lt, ← Int32.toInt_inj, Int32.reduceToInt] at c5); (try simp only [Int32.le_iff_toInt_le, Int32.lt_iff_toInt_lt, ← Int32.toInt_inj, Int32.reduceToInt] at c9); (try simp only [Int32.le_iff_toInt_le, Int32.lt_iff_toInt_lt, ← Int32.toInt_inj, Int32.reduceToInt] at h16); first | (rw [if_pos (by omega)]; done) | (rw [if_neg (by omega)]; done) | (rw [if_pos (by omega)]; exact Int32.toInt_inj.mp (by (try simp only [Int32.reduceToInt]); omega)))
  · refine lv_if_eq (tgt := 51) hx hb dX11_pool_10 (by decide) (fun _ => ?_) (fun c => False.elim (by revert c; decide))
    refine lv_iconst (v := 0) hx hb dX11_pool_51 (by decide) ?_
    refine lv_istore (lv' := [(8, .int 0), (0, .ref (r 0)), (1, .int a), (2, .int f), (3, .int w), (4, .int s0), (5, .int sl), (6, .int ov), (7, .int d)]) hx hb dX11_pool_52 hl (by decide) rfl (fun ls hl => ?_)
    refine lv_aload_n hx hb dX11_pool_54 rfl (lv_at hl 1 rfl) ?_
    have hPc := hP.sub (ws' := [((r 0), .inr (11, fX r 0 0))]) [0] rfl
    have hDc := hD.sub (ws' := [((r 0), .inr (11, fX r 0 0))]) [0] (by decide) rfl
    refine cl_i (wr := [((r 3), .inl (c 4, 11, .inr (.inr (.inr (.inr (fun _ => none))))))]) (va_runV (As := []) (rest := []) ⟨hx, hb, hml, hown, hts⟩ (c_X11_atEnd l D c H.size r 0) (kw_V 0 hts wd_322 wd_324 wd_0 wd_83 wd_325 rfl rfl (by decide +kernel) ⟨Nat.le_of_ble_eq_true rfl, Nat.le_of_ble_eq_true rfl⟩) (pre_V hPc hK hDc hN hO (ci := 11) (q0 := 0) rfl rfl) rfl rfl hl.1 rfl (lv_room (Nat.le_of_ble_eq_true rfl)) dX11_pool_55 ⟨Nat.le_of_ble_eq_true rfl, Nat.le_of_ble_eq_true rfl⟩) hP hD hS hA [0] [1] rfl rfl (by decide) (by decide) (fun r61 u62 H locs h63 hP hD hS => ?_)
    have hP : va_P D vwCl [((r 3), .inl (c 4, 11, .inr (.inr (.inr (.inr (fun _ => none)))))), ((r 0), .inr (11, fX r 0 0))] H := hP
    have hD : va_D A [((r 3), .inl (c 4, 11, .inr (.inr (.inr (.inr (fun _ => none)))))), ((r 0), .inr (11, fX r 0 0))] := hD
    obtain rfl : r61 = 0 := h63
    refine lv_if_ne (tgt := 111) hx hb dX11_pool_58 (by decide) (fun c => False.elim (by revert c; decide)) (fun _ => ?_)
    refine lv_aload_n hx hb dX11_pool_61 rfl (lv_at hl 1 rfl) ?_
    refine va_get (D := D) (ci := 11) (v := .int 0) (C := RX11) (T := TX11) (N := 16) hx hb hts inW_11 hown hK hP 1 rfl rfl 10 (by decide) (hts _ wd_279) (fun _ h9 => h9) rfl dX11_pool_62 ?_
    refine lv_aload_n hx hb dX11_pool_65 rfl (lv_at hl 1 rfl) ?_
    refine va_get (D := D) (ci := 11) (v := .ref (r 3)) (C := RX11) (T := TX11) (N := 16) hx hb hts inW_11 hown hK hP 1 rfl rfl 2 (by decide) (hts _ wd_271) (fun _ h9 => h9) rfl dX11_pool_66 ?_
    refine va_alen (v := 11) hx hb hK hP 0 4 rfl rfl (by show Int32.ofNat 11 = 11; decide) dX11_pool_69 ?_
    refine lv_icmp_ge (tgt := 111) hx hb dX11_pool_70 (by decide) (fun c => False.elim (by revert c; decide)) (fun _ => ?_)
    refine lv_iload hx hb dX11_pool_73 (lv_at hl 0 rfl) ?_
    refine lv_if_eq (tgt := 111) hx hb dX11_pool_75 (by decide) (fun _ => ?_) (fun c => False.elim (by revert c; decide))
    refine lv_iconst (v := (-1)) hx hb dX11_pool_111 (by decide) ?_
    refine W.widen (k := 18) (n := 7500) (Nat.le_of_ble_eq_true rfl) (Nat.le_of_ble_eq_true rfl) ?_
    exact rt_i hx hb hr hlocks hK hP hD hS rfl dX11_pool_112 () [] rfl rfl (by show ((-1) : Int32) = _; unfold f_pool; (try simp only [Int32.reduceToInt, not_true_eq_false, false_or, not_false_eq_true, true_or, and_true, true_and]); (try simp only [Int32.le_iff_toInt_le, Int32.lt_iff_toInt_lt, ← Int32.toInt_inj, Int32.reduceToInt] at h4); first | (rw [if_pos (by omega)]; done) | (rw [if_neg (by omega)]; done) | (rw [if_pos (by omega)]; exact Int32.toInt_inj.mp (by (try simp only [Int32.reduceToInt]); omega)))
set_option maxHeartbeats 4000000 in
set_option maxRecDepth 100000 in
/-- X11_dirt -/
theorem c_X11_dirt (l : Launch) (D : va_G) (c : Nat → ClassId) (sz : Nat) (r : Nat → Nat) (p0 : Int32) (s0 : Int32) (w : Int32) : Met l yX11_dirt (.code yX11_dirt cX11_dirt 5 (some .boolean) :: Wd) ({ frames := 1, cells := 0, slots := 0, locals := 21 }) (va_Pc [.ref (r 0), .int p0, .int s0, .int w] (WB D c [((r 0), .inr (11, fX r 0 0)), ((r 3), .inl (c 4, 11, .inr (.inr (.inr (.inr (fun _ => none))))))] sz)) (QI (S := Unit) D c (fun q _ => q = 0) (fun _ => []) (va_A [((r 0), .inr (11, fX r 0 0)), ((r 3), .inl (c 4, 11, .inr (.inr (.inr (.inr (fun _ => none))))))] sz)) 0 0 (va_A [((r 0), .inr (11, fX r 0 0)), ((r 3), .inl (c 4, 11, .inr (.inr (.inr (.inr (fun _ => none))))))] sz) := by
  refine kz_met (Qc := QI (S := Unit) D c (fun q _ => q = 0) (fun _ => [])) (by decide) (Nat.le_of_ble_eq_true rfl) ?_
  intro p e s m below meth cd A ls H locs hx hb hr hml hts hown hlocks hin hN hO hK hP hD hS hA hl
  have hl : lv_has ls 5 [(0, .ref (r 0)), (1, .int p0), (2, .int s0), (3, .int w)] := hl
  have hown : s.vm.findClass RX11 = some m.cls := hown
  refine lv_aload_n hx hb dX11_dirt_0 rfl (lv_at hl 0 rfl) ?_
  refine lv_iload_n hx hb dX11_dirt_1 rfl (lv_at hl 1 rfl) ?_
  have hPc := hP.sub (ws' := [((r 0), .inr (11, fX r 0 0)), ((r 3), .inl (c 4, 11, .inr (.inr (.inr (.inr (fun _ => none))))))]) [0, 1] rfl
  have hDc := hD.sub (ws' := [((r 0), .inr (11, fX r 0 0)), ((r 3), .inl (c 4, 11, .inr (.inr (.inr (.inr (fun _ => none))))))]) [0, 1] (by decide) rfl
  refine cl_n (wr := []) (va_runV (As := [.int p0]) (rest := []) ⟨hx, hb, hml, hown, hts⟩ (c_X11_poolAt l D c H.size r 0 p0) (kw_V 1 hts wd_581 wd_583 wd_4 wd_83 wd_584 rfl rfl (by decide +kernel) ⟨Nat.le_of_ble_eq_true rfl, Nat.le_of_ble_eq_true rfl⟩) (pre_V hPc hK hDc hN hO (ci := 11) (q0 := 0) rfl rfl) rfl rfl hl.1 rfl (lv_room (Nat.le_of_ble_eq_true rfl)) dX11_dirt_2 ⟨Nat.le_of_ble_eq_true rfl, Nat.le_of_ble_eq_true rfl⟩) hP hD hS hA [0, 1] [] rfl rfl (by decide) (by decide) (fun u2 H locs hP hD hS => ?_)
  have hP : va_P D vwCl [((r 0), .inr (11, fX r 0 0)), ((r 3), .inl (c 4, 11, .inr (.inr (.inr (.inr (fun _ => none))))))] H := hP
  have hD : va_D A [((r 0), .inr (11, fX r 0 0)), ((r 3), .inl (c 4, 11, .inr (.inr (.inr (.inr (fun _ => none))))))] := hD
  refine lv_astoreN (lv' := [(4, .null), (0, .ref (r 0)), (1, .int p0), (2, .int s0), (3, .int w)]) hx hb dX11_dirt_5 hl (by decide) rfl (fun ls hl => ?_)
  refine lv_aload_n hx hb dX11_dirt_7 rfl (lv_at hl 1 rfl) ?_
  have hPc := hP.sub (ws' := [((r 0), .inr (11, fX r 0 0))]) [0] rfl
  have hDc := hD.sub (ws' := [((r 0), .inr (11, fX r 0 0))]) [0] (by decide) rfl
  refine cl_i (wr := [((r 3), .inl (c 4, 11, .inr (.inr (.inr (.inr (fun _ => none))))))]) (va_runV (As := []) (rest := []) ⟨hx, hb, hml, hown, hts⟩ (c_X11_atEnd l D c H.size r 0) (kw_V 0 hts wd_322 wd_324 wd_0 wd_83 wd_325 rfl rfl (by decide +kernel) ⟨Nat.le_of_ble_eq_true rfl, Nat.le_of_ble_eq_true rfl⟩) (pre_V hPc hK hDc hN hO (ci := 11) (q0 := 0) rfl rfl) rfl rfl hl.1 rfl (lv_room (Nat.le_of_ble_eq_true rfl)) dX11_dirt_8 ⟨Nat.le_of_ble_eq_true rfl, Nat.le_of_ble_eq_true rfl⟩) hP hD hS hA [0] [1] rfl rfl (by decide) (by decide) (fun r4 u5 H locs h6 hP hD hS => ?_)
  have hP : va_P D vwCl [((r 3), .inl (c 4, 11, .inr (.inr (.inr (.inr (fun _ => none)))))), ((r 0), .inr (11, fX r 0 0))] H := hP
  have hD : va_D A [((r 3), .inl (c 4, 11, .inr (.inr (.inr (.inr (fun _ => none)))))), ((r 0), .inr (11, fX r 0 0))] := hD
  obtain rfl : r4 = 0 := h6
  refine lv_if_ne (tgt := 39) hx hb dX11_dirt_11 (by decide) (fun c => False.elim (by revert c; decide)) (fun _ => ?_)
  refine lv_aloadN hx hb dX11_dirt_14 (lv_at hl 0 rfl) ?_
  refine lv_ifnullN (tgt := 39) hx hb dX11_dirt_16 (by decide) ?_
  refine lv_iconst (v := 0) hx hb dX11_dirt_39 (by decide) ?_
  exact rt_i hx hb hr hlocks hK hP hD hS rfl dX11_dirt_40 () [] rfl rfl rfl
set_option maxHeartbeats 4000000 in
set_option maxRecDepth 100000 in
/-- X11_crack -/
theorem c_X11_crack (l : Launch) (D : va_G) (c : Nat → ClassId) (sz : Nat) (r : Nat → Nat) (p0 : Int32) (z : Int32) (t : Int32) : Met l yX11_crack (.code yX11_crack cX11_crack 5 (some .int) :: Wd) ({ frames := 1, cells := 0, slots := 0, locals := 21 }) (va_Pc [.ref (r 0), .int p0, .int z, .int t] (WB D c [((r 0), .inr (11, fX r 0 0)), ((r 3), .inl (c 4, 11, .inr (.inr (.inr (.inr (fun _ => none))))))] sz)) (QI (S := Unit) D c (fun q _ => q = -1) (fun _ => []) (va_A [((r 0), .inr (11, fX r 0 0)), ((r 3), .inl (c 4, 11, .inr (.inr (.inr (.inr (fun _ => none))))))] sz)) 0 0 (va_A [((r 0), .inr (11, fX r 0 0)), ((r 3), .inl (c 4, 11, .inr (.inr (.inr (.inr (fun _ => none))))))] sz) := by
  refine kz_met (Qc := QI (S := Unit) D c (fun q _ => q = -1) (fun _ => [])) (by decide) (Nat.le_of_ble_eq_true rfl) ?_
  intro p e s m below meth cd A ls H locs hx hb hr hml hts hown hlocks hin hN hO hK hP hD hS hA hl
  have hl : lv_has ls 5 [(0, .ref (r 0)), (1, .int p0), (2, .int z), (3, .int t)] := hl
  have hown : s.vm.findClass RX11 = some m.cls := hown
  refine lv_aload_n hx hb dX11_crack_0 rfl (lv_at hl 0 rfl) ?_
  refine lv_iload_n hx hb dX11_crack_1 rfl (lv_at hl 1 rfl) ?_
  have hPc := hP.sub (ws' := [((r 0), .inr (11, fX r 0 0)), ((r 3), .inl (c 4, 11, .inr (.inr (.inr (.inr (fun _ => none))))))]) [0, 1] rfl
  have hDc := hD.sub (ws' := [((r 0), .inr (11, fX r 0 0)), ((r 3), .inl (c 4, 11, .inr (.inr (.inr (.inr (fun _ => none))))))]) [0, 1] (by decide) rfl
  refine cl_n (wr := []) (va_runV (As := [.int p0]) (rest := []) ⟨hx, hb, hml, hown, hts⟩ (c_X11_poolAt l D c H.size r 0 p0) (kw_V 1 hts wd_581 wd_583 wd_4 wd_83 wd_584 rfl rfl (by decide +kernel) ⟨Nat.le_of_ble_eq_true rfl, Nat.le_of_ble_eq_true rfl⟩) (pre_V hPc hK hDc hN hO (ci := 11) (q0 := 0) rfl rfl) rfl rfl hl.1 rfl (lv_room (Nat.le_of_ble_eq_true rfl)) dX11_crack_2 ⟨Nat.le_of_ble_eq_true rfl, Nat.le_of_ble_eq_true rfl⟩) hP hD hS hA [0, 1] [] rfl rfl (by decide) (by decide) (fun u2 H locs hP hD hS => ?_)
  have hP : va_P D vwCl [((r 0), .inr (11, fX r 0 0)), ((r 3), .inl (c 4, 11, .inr (.inr (.inr (.inr (fun _ => none))))))] H := hP
  have hD : va_D A [((r 0), .inr (11, fX r 0 0)), ((r 3), .inl (c 4, 11, .inr (.inr (.inr (.inr (fun _ => none))))))] := hD
  refine lv_astoreN (lv' := [(4, .null), (0, .ref (r 0)), (1, .int p0), (2, .int z), (3, .int t)]) hx hb dX11_crack_5 hl (by decide) rfl (fun ls hl => ?_)
  refine lv_aload_n hx hb dX11_crack_7 rfl (lv_at hl 1 rfl) ?_
  have hPc := hP.sub (ws' := [((r 0), .inr (11, fX r 0 0))]) [0] rfl
  have hDc := hD.sub (ws' := [((r 0), .inr (11, fX r 0 0))]) [0] (by decide) rfl
  refine cl_i (wr := [((r 3), .inl (c 4, 11, .inr (.inr (.inr (.inr (fun _ => none))))))]) (va_runV (As := []) (rest := []) ⟨hx, hb, hml, hown, hts⟩ (c_X11_atEnd l D c H.size r 0) (kw_V 0 hts wd_322 wd_324 wd_0 wd_83 wd_325 rfl rfl (by decide +kernel) ⟨Nat.le_of_ble_eq_true rfl, Nat.le_of_ble_eq_true rfl⟩) (pre_V hPc hK hDc hN hO (ci := 11) (q0 := 0) rfl rfl) rfl rfl hl.1 rfl (lv_room (Nat.le_of_ble_eq_true rfl)) dX11_crack_8 ⟨Nat.le_of_ble_eq_true rfl, Nat.le_of_ble_eq_true rfl⟩) hP hD hS hA [0] [1] rfl rfl (by decide) (by decide) (fun r4 u5 H locs h6 hP hD hS => ?_)
  have hP : va_P D vwCl [((r 3), .inl (c 4, 11, .inr (.inr (.inr (.inr (fun _ => none)))))), ((r 0), .inr (11, fX r 0 0))] H := hP
  have hD : va_D A [((r 3), .inl (c 4, 11, .inr (.inr (.inr (.inr (fun _ => none)))))), ((r 0), .inr (11, fX r 0 0))] := hD
  obtain rfl : r4 = 0 := h6
  refine lv_if_ne (tgt := 32) hx hb dX11_crack_11 (by decide) (fun c => False.elim (by revert c; decide)) (fun _ => ?_)
  refine lv_aloadN hx hb dX11_crack_14 (lv_at hl 0 rfl) ?_
  refine lv_ifnullN (tgt := 32) hx hb dX11_crack_16 (by decide) ?_
  refine lv_iconst (v := (-1)) hx hb dX11_crack_32 (by decide) ?_
  exact rt_i hx hb hr hlocks hK hP hD hS rfl dX11_crack_33 () [] rfl rfl rfl
set_option maxHeartbeats 4000000 in
set_option maxRecDepth 100000 in
/-- X11_mend -/
theorem c_X11_mend (l : Launch) (D : va_G) (c : Nat → ClassId) (sz : Nat) (r : Nat → Nat) (p0 : Int32) : Met l yX11_mend (.code yX11_mend cX11_mend 4 (some .int) :: Wd) ({ frames := 1, cells := 0, slots := 0, locals := 21 }) (va_Pc [.ref (r 0), .int p0] (WB D c [((r 0), .inr (11, fX r 0 0)), ((r 3), .inl (c 4, 11, .inr (.inr (.inr (.inr (fun _ => none))))))] sz)) (QI (S := Unit) D c (fun q _ => q = -1) (fun _ => []) (va_A [((r 0), .inr (11, fX r 0 0)), ((r 3), .inl (c 4, 11, .inr (.inr (.inr (.inr (fun _ => none))))))] sz)) 0 0 (va_A [((r 0), .inr (11, fX r 0 0)), ((r 3), .inl (c 4, 11, .inr (.inr (.inr (.inr (fun _ => none))))))] sz) := by
  refine kz_met (Qc := QI (S := Unit) D c (fun q _ => q = -1) (fun _ => [])) (by decide) (Nat.le_of_ble_eq_true rfl) ?_
  intro p e s m below meth cd A ls H locs hx hb hr hml hts hown hlocks hin hN hO hK hP hD hS hA hl
  have hl : lv_has ls 4 [(0, .ref (r 0)), (1, .int p0)] := hl
  have hown : s.vm.findClass RX11 = some m.cls := hown
  refine lv_aload_n hx hb dX11_mend_0 rfl (lv_at hl 0 rfl) ?_
  refine lv_iload_n hx hb dX11_mend_1 rfl (lv_at hl 1 rfl) ?_
  have hPc := hP.sub (ws' := [((r 0), .inr (11, fX r 0 0)), ((r 3), .inl (c 4, 11, .inr (.inr (.inr (.inr (fun _ => none))))))]) [0, 1] rfl
  have hDc := hD.sub (ws' := [((r 0), .inr (11, fX r 0 0)), ((r 3), .inl (c 4, 11, .inr (.inr (.inr (.inr (fun _ => none))))))]) [0, 1] (by decide) rfl
  refine cl_n (wr := []) (va_runV (As := [.int p0]) (rest := []) ⟨hx, hb, hml, hown, hts⟩ (c_X11_poolAt l D c H.size r 0 p0) (kw_V 1 hts wd_581 wd_583 wd_4 wd_83 wd_584 rfl rfl (by decide +kernel) ⟨Nat.le_of_ble_eq_true rfl, Nat.le_of_ble_eq_true rfl⟩) (pre_V hPc hK hDc hN hO (ci := 11) (q0 := 0) rfl rfl) rfl rfl hl.1 rfl (lv_room (Nat.le_of_ble_eq_true rfl)) dX11_mend_2 ⟨Nat.le_of_ble_eq_true rfl, Nat.le_of_ble_eq_true rfl⟩) hP hD hS hA [0, 1] [] rfl rfl (by decide) (by decide) (fun u2 H locs hP hD hS => ?_)
  have hP : va_P D vwCl [((r 0), .inr (11, fX r 0 0)), ((r 3), .inl (c 4, 11, .inr (.inr (.inr (.inr (fun _ => none))))))] H := hP
  have hD : va_D A [((r 0), .inr (11, fX r 0 0)), ((r 3), .inl (c 4, 11, .inr (.inr (.inr (.inr (fun _ => none))))))] := hD
  refine lv_astore_nN (lv' := [(2, .null), (0, .ref (r 0)), (1, .int p0)]) hx hb dX11_mend_5 rfl hl (by decide) rfl (fun ls hl => ?_)
  refine lv_aload_n hx hb dX11_mend_6 rfl (lv_at hl 1 rfl) ?_
  have hPc := hP.sub (ws' := [((r 0), .inr (11, fX r 0 0))]) [0] rfl
  have hDc := hD.sub (ws' := [((r 0), .inr (11, fX r 0 0))]) [0] (by decide) rfl
  refine cl_i (wr := [((r 3), .inl (c 4, 11, .inr (.inr (.inr (.inr (fun _ => none))))))]) (va_runV (As := []) (rest := []) ⟨hx, hb, hml, hown, hts⟩ (c_X11_atEnd l D c H.size r 0) (kw_V 0 hts wd_322 wd_324 wd_0 wd_83 wd_325 rfl rfl (by decide +kernel) ⟨Nat.le_of_ble_eq_true rfl, Nat.le_of_ble_eq_true rfl⟩) (pre_V hPc hK hDc hN hO (ci := 11) (q0 := 0) rfl rfl) rfl rfl hl.1 rfl (lv_room (Nat.le_of_ble_eq_true rfl)) dX11_mend_7 ⟨Nat.le_of_ble_eq_true rfl, Nat.le_of_ble_eq_true rfl⟩) hP hD hS hA [0] [1] rfl rfl (by decide) (by decide) (fun r4 u5 H locs h6 hP hD hS => ?_)
  have hP : va_P D vwCl [((r 3), .inl (c 4, 11, .inr (.inr (.inr (.inr (fun _ => none)))))), ((r 0), .inr (11, fX r 0 0))] H := hP
  have hD : va_D A [((r 3), .inl (c 4, 11, .inr (.inr (.inr (.inr (fun _ => none)))))), ((r 0), .inr (11, fX r 0 0))] := hD
  obtain rfl : r4 = 0 := h6
  refine lv_if_ne (tgt := 17) hx hb dX11_mend_10 (by decide) (fun c => False.elim (by revert c; decide)) (fun _ => ?_)
  refine lv_aload_nN hx hb dX11_mend_13 rfl (lv_at hl 0 rfl) ?_
  refine lv_ifnonnullN hx hb dX11_mend_14 ?_
  refine lv_iconst (v := (-1)) hx hb dX11_mend_17 (by decide) ?_
  exact rt_i hx hb hr hlocks hK hP hD hS rfl dX11_mend_18 () [] rfl rfl rfl
set_option maxHeartbeats 4000000 in
set_option maxRecDepth 100000 in
/-- X11_sluice -/
theorem c_X11_sluice (l : Launch) (D : va_G) (c : Nat → ClassId) (sz : Nat) (r : Nat → Nat) (p0 : Int32) (o : Int32) : Met l yX11_sluice (.code yX11_sluice cX11_sluice 4 (some .boolean) :: Wd) ({ frames := 1, cells := 0, slots := 0, locals := 21 }) (va_Pc [.ref (r 0), .int p0, .int o] (WB D c [((r 0), .inr (11, fX r 0 0)), ((r 3), .inl (c 4, 11, .inr (.inr (.inr (.inr (fun _ => none))))))] sz)) (QI (S := Unit) D c (fun q _ => q = 0) (fun _ => []) (va_A [((r 0), .inr (11, fX r 0 0)), ((r 3), .inl (c 4, 11, .inr (.inr (.inr (.inr (fun _ => none))))))] sz)) 0 0 (va_A [((r 0), .inr (11, fX r 0 0)), ((r 3), .inl (c 4, 11, .inr (.inr (.inr (.inr (fun _ => none))))))] sz) := by
  refine kz_met (Qc := QI (S := Unit) D c (fun q _ => q = 0) (fun _ => [])) (by decide) (Nat.le_of_ble_eq_true rfl) ?_
  intro p e s m below meth cd A ls H locs hx hb hr hml hts hown hlocks hin hN hO hK hP hD hS hA hl
  have hl : lv_has ls 4 [(0, .ref (r 0)), (1, .int p0), (2, .int o)] := hl
  have hown : s.vm.findClass RX11 = some m.cls := hown
  refine lv_aload_n hx hb dX11_sluice_0 rfl (lv_at hl 0 rfl) ?_
  refine lv_iload_n hx hb dX11_sluice_1 rfl (lv_at hl 1 rfl) ?_
  have hPc := hP.sub (ws' := [((r 0), .inr (11, fX r 0 0)), ((r 3), .inl (c 4, 11, .inr (.inr (.inr (.inr (fun _ => none))))))]) [0, 1] rfl
  have hDc := hD.sub (ws' := [((r 0), .inr (11, fX r 0 0)), ((r 3), .inl (c 4, 11, .inr (.inr (.inr (.inr (fun _ => none))))))]) [0, 1] (by decide) rfl
  refine cl_n (wr := []) (va_runV (As := [.int p0]) (rest := []) ⟨hx, hb, hml, hown, hts⟩ (c_X11_poolAt l D c H.size r 0 p0) (kw_V 1 hts wd_581 wd_583 wd_4 wd_83 wd_584 rfl rfl (by decide +kernel) ⟨Nat.le_of_ble_eq_true rfl, Nat.le_of_ble_eq_true rfl⟩) (pre_V hPc hK hDc hN hO (ci := 11) (q0 := 0) rfl rfl) rfl rfl hl.1 rfl (lv_room (Nat.le_of_ble_eq_true rfl)) dX11_sluice_2 ⟨Nat.le_of_ble_eq_true rfl, Nat.le_of_ble_eq_true rfl⟩) hP hD hS hA [0, 1] [] rfl rfl (by decide) (by decide) (fun u2 H locs hP hD hS => ?_)
  have hP : va_P D vwCl [((r 0), .inr (11, fX r 0 0)), ((r 3), .inl (c 4, 11, .inr (.inr (.inr (.inr (fun _ => none))))))] H := hP
  have hD : va_D A [((r 0), .inr (11, fX r 0 0)), ((r 3), .inl (c 4, 11, .inr (.inr (.inr (.inr (fun _ => none))))))] := hD
  refine lv_astore_nN (lv' := [(3, .null), (0, .ref (r 0)), (1, .int p0), (2, .int o)]) hx hb dX11_sluice_5 rfl hl (by decide) rfl (fun ls hl => ?_)
  refine lv_aload_n hx hb dX11_sluice_6 rfl (lv_at hl 1 rfl) ?_
  have hPc := hP.sub (ws' := [((r 0), .inr (11, fX r 0 0))]) [0] rfl
  have hDc := hD.sub (ws' := [((r 0), .inr (11, fX r 0 0))]) [0] (by decide) rfl
  refine cl_i (wr := [((r 3), .inl (c 4, 11, .inr (.inr (.inr (.inr (fun _ => none))))))]) (va_runV (As := []) (rest := []) ⟨hx, hb, hml, hown, hts⟩ (c_X11_atEnd l D c H.size r 0) (kw_V 0 hts wd_322 wd_324 wd_0 wd_83 wd_325 rfl rfl (by decide +kernel) ⟨Nat.le_of_ble_eq_true rfl, Nat.le_of_ble_eq_true rfl⟩) (pre_V hPc hK hDc hN hO (ci := 11) (q0 := 0) rfl rfl) rfl rfl hl.1 rfl (lv_room (Nat.le_of_ble_eq_true rfl)) dX11_sluice_7 ⟨Nat.le_of_ble_eq_true rfl, Nat.le_of_ble_eq_true rfl⟩) hP hD hS hA [0] [1] rfl rfl (by decide) (by decide) (fun r4 u5 H locs h6 hP hD hS => ?_)
  have hP : va_P D vwCl [((r 3), .inl (c 4, 11, .inr (.inr (.inr (.inr (fun _ => none)))))), ((r 0), .inr (11, fX r 0 0))] H := hP
  have hD : va_D A [((r 3), .inl (c 4, 11, .inr (.inr (.inr (.inr (fun _ => none)))))), ((r 0), .inr (11, fX r 0 0))] := hD
  obtain rfl : r4 = 0 := h6
  refine lv_if_ne (tgt := 28) hx hb dX11_sluice_10 (by decide) (fun c => False.elim (by revert c; decide)) (fun _ => ?_)
  refine lv_aload_nN hx hb dX11_sluice_13 rfl (lv_at hl 0 rfl) ?_
  refine lv_ifnullN (tgt := 28) hx hb dX11_sluice_14 (by decide) ?_
  refine lv_iconst (v := 0) hx hb dX11_sluice_28 (by decide) ?_
  exact rt_i hx hb hr hlocks hK hP hD hS rfl dX11_sluice_29 () [] rfl rfl rfl
set_option maxHeartbeats 4000000 in
set_option maxRecDepth 100000 in
/-- X11_pump -/
theorem c_X11_pump (l : Launch) (D : va_G) (c : Nat → ClassId) (sz : Nat) (r : Nat → Nat) (p0 : Int32) (t : Int32) : Met l yX11_pump (.code yX11_pump cX11_pump 5 (some .int) :: Wd) ({ frames := 1, cells := 0, slots := 0, locals := 21 }) (va_Pc [.ref (r 0), .int p0, .int t] (WB D c [((r 0), .inr (11, fX r 0 0)), ((r 3), .inl (c 4, 11, .inr (.inr (.inr (.inr (fun _ => none))))))] sz)) (QI (S := Unit) D c (fun q _ => q = -2000) (fun _ => []) (va_A [((r 0), .inr (11, fX r 0 0)), ((r 3), .inl (c 4, 11, .inr (.inr (.inr (.inr (fun _ => none))))))] sz)) 0 0 (va_A [((r 0), .inr (11, fX r 0 0)), ((r 3), .inl (c 4, 11, .inr (.inr (.inr (.inr (fun _ => none))))))] sz) := by
  refine kz_met (Qc := QI (S := Unit) D c (fun q _ => q = -2000) (fun _ => [])) (by decide) (Nat.le_of_ble_eq_true rfl) ?_
  intro p e s m below meth cd A ls H locs hx hb hr hml hts hown hlocks hin hN hO hK hP hD hS hA hl
  have hl : lv_has ls 5 [(0, .ref (r 0)), (1, .int p0), (2, .int t)] := hl
  have hown : s.vm.findClass RX11 = some m.cls := hown
  refine lv_aload_n hx hb dX11_pump_0 rfl (lv_at hl 0 rfl) ?_
  refine lv_iload_n hx hb dX11_pump_1 rfl (lv_at hl 1 rfl) ?_
  have hPc := hP.sub (ws' := [((r 0), .inr (11, fX r 0 0)), ((r 3), .inl (c 4, 11, .inr (.inr (.inr (.inr (fun _ => none))))))]) [0, 1] rfl
  have hDc := hD.sub (ws' := [((r 0), .inr (11, fX r 0 0)), ((r 3), .inl (c 4, 11, .inr (.inr (.inr (.inr (fun _ => none))))))]) [0, 1] (by decide) rfl
  refine cl_n (wr := []) (va_runV (As := [.int p0]) (rest := []) ⟨hx, hb, hml, hown, hts⟩ (c_X11_poolAt l D c H.size r 0 p0) (kw_V 1 hts wd_581 wd_583 wd_4 wd_83 wd_584 rfl rfl (by decide +kernel) ⟨Nat.le_of_ble_eq_true rfl, Nat.le_of_ble_eq_true rfl⟩) (pre_V hPc hK hDc hN hO (ci := 11) (q0 := 0) rfl rfl) rfl rfl hl.1 rfl (lv_room (Nat.le_of_ble_eq_true rfl)) dX11_pump_2 ⟨Nat.le_of_ble_eq_true rfl, Nat.le_of_ble_eq_true rfl⟩) hP hD hS hA [0, 1] [] rfl rfl (by decide) (by decide) (fun u2 H locs hP hD hS => ?_)
  have hP : va_P D vwCl [((r 0), .inr (11, fX r 0 0)), ((r 3), .inl (c 4, 11, .inr (.inr (.inr (.inr (fun _ => none))))))] H := hP
  have hD : va_D A [((r 0), .inr (11, fX r 0 0)), ((r 3), .inl (c 4, 11, .inr (.inr (.inr (.inr (fun _ => none))))))] := hD
  refine lv_astore_nN (lv' := [(3, .null), (0, .ref (r 0)), (1, .int p0), (2, .int t)]) hx hb dX11_pump_5 rfl hl (by decide) rfl (fun ls hl => ?_)
  refine lv_aload_n hx hb dX11_pump_6 rfl (lv_at hl 1 rfl) ?_
  have hPc := hP.sub (ws' := [((r 0), .inr (11, fX r 0 0))]) [0] rfl
  have hDc := hD.sub (ws' := [((r 0), .inr (11, fX r 0 0))]) [0] (by decide) rfl
  refine cl_i (wr := [((r 3), .inl (c 4, 11, .inr (.inr (.inr (.inr (fun _ => none))))))]) (va_runV (As := []) (rest := []) ⟨hx, hb, hml, hown, hts⟩ (c_X11_atEnd l D c H.size r 0) (kw_V 0 hts wd_322 wd_324 wd_0 wd_83 wd_325 rfl rfl (by decide +kernel) ⟨Nat.le_of_ble_eq_true rfl, Nat.le_of_ble_eq_true rfl⟩) (pre_V hPc hK hDc hN hO (ci := 11) (q0 := 0) rfl rfl) rfl rfl hl.1 rfl (lv_room (Nat.le_of_ble_eq_true rfl)) dX11_pump_7 ⟨Nat.le_of_ble_eq_true rfl, Nat.le_of_ble_eq_true rfl⟩) hP hD hS hA [0] [1] rfl rfl (by decide) (by decide) (fun r4 u5 H locs h6 hP hD hS => ?_)
  have hP : va_P D vwCl [((r 3), .inl (c 4, 11, .inr (.inr (.inr (.inr (fun _ => none)))))), ((r 0), .inr (11, fX r 0 0))] H := hP
  have hD : va_D A [((r 3), .inl (c 4, 11, .inr (.inr (.inr (.inr (fun _ => none)))))), ((r 0), .inr (11, fX r 0 0))] := hD
  obtain rfl : r4 = 0 := h6
  refine lv_if_ne (tgt := 30) hx hb dX11_pump_10 (by decide) (fun c => False.elim (by revert c; decide)) (fun _ => ?_)
  refine lv_aload_nN hx hb dX11_pump_13 rfl (lv_at hl 0 rfl) ?_
  refine lv_ifnullN (tgt := 30) hx hb dX11_pump_14 (by decide) ?_
  refine lv_sipush (v := (-2000)) hx hb dX11_pump_30 (by decide) ?_
  exact rt_i hx hb hr hlocks hK hP hD hS rfl dX11_pump_33 () [] rfl rfl rfl
set_option maxHeartbeats 4000000 in
set_option maxRecDepth 100000 in
/-- X11_clean -/
theorem c_X11_clean (l : Launch) (D : va_G) (c : Nat → ClassId) (sz : Nat) (r : Nat → Nat) (p0 : Int32) : Met l yX11_clean (.code yX11_clean cX11_clean 4 (some .int) :: Wd) ({ frames := 1, cells := 0, slots := 0, locals := 21 }) (va_Pc [.ref (r 0), .int p0] (WB D c [((r 0), .inr (11, fX r 0 0)), ((r 3), .inl (c 4, 11, .inr (.inr (.inr (.inr (fun _ => none))))))] sz)) (QI (S := Unit) D c (fun q _ => q = -1) (fun _ => []) (va_A [((r 0), .inr (11, fX r 0 0)), ((r 3), .inl (c 4, 11, .inr (.inr (.inr (.inr (fun _ => none))))))] sz)) 0 0 (va_A [((r 0), .inr (11, fX r 0 0)), ((r 3), .inl (c 4, 11, .inr (.inr (.inr (.inr (fun _ => none))))))] sz) := by
  refine kz_met (Qc := QI (S := Unit) D c (fun q _ => q = -1) (fun _ => [])) (by decide) (Nat.le_of_ble_eq_true rfl) ?_
  intro p e s m below meth cd A ls H locs hx hb hr hml hts hown hlocks hin hN hO hK hP hD hS hA hl
  have hl : lv_has ls 4 [(0, .ref (r 0)), (1, .int p0)] := hl
  have hown : s.vm.findClass RX11 = some m.cls := hown
  refine lv_aload_n hx hb dX11_clean_0 rfl (lv_at hl 0 rfl) ?_
  refine lv_iload_n hx hb dX11_clean_1 rfl (lv_at hl 1 rfl) ?_
  have hPc := hP.sub (ws' := [((r 0), .inr (11, fX r 0 0)), ((r 3), .inl (c 4, 11, .inr (.inr (.inr (.inr (fun _ => none))))))]) [0, 1] rfl
  have hDc := hD.sub (ws' := [((r 0), .inr (11, fX r 0 0)), ((r 3), .inl (c 4, 11, .inr (.inr (.inr (.inr (fun _ => none))))))]) [0, 1] (by decide) rfl
  refine cl_n (wr := []) (va_runV (As := [.int p0]) (rest := []) ⟨hx, hb, hml, hown, hts⟩ (c_X11_poolAt l D c H.size r 0 p0) (kw_V 1 hts wd_581 wd_583 wd_4 wd_83 wd_584 rfl rfl (by decide +kernel) ⟨Nat.le_of_ble_eq_true rfl, Nat.le_of_ble_eq_true rfl⟩) (pre_V hPc hK hDc hN hO (ci := 11) (q0 := 0) rfl rfl) rfl rfl hl.1 rfl (lv_room (Nat.le_of_ble_eq_true rfl)) dX11_clean_2 ⟨Nat.le_of_ble_eq_true rfl, Nat.le_of_ble_eq_true rfl⟩) hP hD hS hA [0, 1] [] rfl rfl (by decide) (by decide) (fun u2 H locs hP hD hS => ?_)
  have hP : va_P D vwCl [((r 0), .inr (11, fX r 0 0)), ((r 3), .inl (c 4, 11, .inr (.inr (.inr (.inr (fun _ => none))))))] H := hP
  have hD : va_D A [((r 0), .inr (11, fX r 0 0)), ((r 3), .inl (c 4, 11, .inr (.inr (.inr (.inr (fun _ => none))))))] := hD
  refine lv_astore_nN (lv' := [(2, .null), (0, .ref (r 0)), (1, .int p0)]) hx hb dX11_clean_5 rfl hl (by decide) rfl (fun ls hl => ?_)
  refine lv_aload_n hx hb dX11_clean_6 rfl (lv_at hl 1 rfl) ?_
  have hPc := hP.sub (ws' := [((r 0), .inr (11, fX r 0 0))]) [0] rfl
  have hDc := hD.sub (ws' := [((r 0), .inr (11, fX r 0 0))]) [0] (by decide) rfl
  refine cl_i (wr := [((r 3), .inl (c 4, 11, .inr (.inr (.inr (.inr (fun _ => none))))))]) (va_runV (As := []) (rest := []) ⟨hx, hb, hml, hown, hts⟩ (c_X11_atEnd l D c H.size r 0) (kw_V 0 hts wd_322 wd_324 wd_0 wd_83 wd_325 rfl rfl (by decide +kernel) ⟨Nat.le_of_ble_eq_true rfl, Nat.le_of_ble_eq_true rfl⟩) (pre_V hPc hK hDc hN hO (ci := 11) (q0 := 0) rfl rfl) rfl rfl hl.1 rfl (lv_room (Nat.le_of_ble_eq_true rfl)) dX11_clean_7 ⟨Nat.le_of_ble_eq_true rfl, Nat.le_of_ble_eq_true rfl⟩) hP hD hS hA [0] [1] rfl rfl (by decide) (by decide) (fun r4 u5 H locs h6 hP hD hS => ?_)
  have hP : va_P D vwCl [((r 3), .inl (c 4, 11, .inr (.inr (.inr (.inr (fun _ => none)))))), ((r 0), .inr (11, fX r 0 0))] H := hP
  have hD : va_D A [((r 3), .inl (c 4, 11, .inr (.inr (.inr (.inr (fun _ => none)))))), ((r 0), .inr (11, fX r 0 0))] := hD
  obtain rfl : r4 = 0 := h6
  refine lv_if_ne (tgt := 32) hx hb dX11_clean_10 (by decide) (fun c => False.elim (by revert c; decide)) (fun _ => ?_)
  refine lv_aload_nN hx hb dX11_clean_13 rfl (lv_at hl 0 rfl) ?_
  refine lv_ifnullN (tgt := 32) hx hb dX11_clean_14 (by decide) ?_
  refine lv_iconst (v := (-1)) hx hb dX11_clean_32 (by decide) ?_
  exact rt_i hx hb hr hlocks hK hP hD hS rfl dX11_clean_33 () [] rfl rfl rfl
set_option maxHeartbeats 4000000 in
set_option maxRecDepth 100000 in
/-- X11_about -/
theorem c_X11_about (l : Launch) (D : va_G) (c : Nat → ClassId) (sz : Nat) (r : Nat → Nat) (p0 : Int32) (w : Int32) : Met l yX11_about (.code yX11_about cX11_about 4 (some .int) :: Wd) ({ frames := 1, cells := 0, slots := 0, locals := 21 }) (va_Pc [.ref (r 0), .int p0, .int w] (WB D c [((r 0), .inr (11, fX r 0 0)), ((r 3), .inl (c 4, 11, .inr (.inr (.inr (.inr (fun _ => none))))))] sz)) (QI (S := Unit) D c (fun q _ => q = -1000) (fun _ => []) (va_A [((r 0), .inr (11, fX r 0 0)), ((r 3), .inl (c 4, 11, .inr (.inr (.inr (.inr (fun _ => none))))))] sz)) 0 0 (va_A [((r 0), .inr (11, fX r 0 0)), ((r 3), .inl (c 4, 11, .inr (.inr (.inr (.inr (fun _ => none))))))] sz) := by
  refine kz_met (Qc := QI (S := Unit) D c (fun q _ => q = -1000) (fun _ => [])) (by decide) (Nat.le_of_ble_eq_true rfl) ?_
  intro p e s m below meth cd A ls H locs hx hb hr hml hts hown hlocks hin hN hO hK hP hD hS hA hl
  have hl : lv_has ls 4 [(0, .ref (r 0)), (1, .int p0), (2, .int w)] := hl
  have hown : s.vm.findClass RX11 = some m.cls := hown
  refine lv_aload_n hx hb dX11_about_0 rfl (lv_at hl 0 rfl) ?_
  refine lv_iload_n hx hb dX11_about_1 rfl (lv_at hl 1 rfl) ?_
  have hPc := hP.sub (ws' := [((r 0), .inr (11, fX r 0 0)), ((r 3), .inl (c 4, 11, .inr (.inr (.inr (.inr (fun _ => none))))))]) [0, 1] rfl
  have hDc := hD.sub (ws' := [((r 0), .inr (11, fX r 0 0)), ((r 3), .inl (c 4, 11, .inr (.inr (.inr (.inr (fun _ => none))))))]) [0, 1] (by decide) rfl
  refine cl_n (wr := []) (va_runV (As := [.int p0]) (rest := []) ⟨hx, hb, hml, hown, hts⟩ (c_X11_poolAt l D c H.size r 0 p0) (kw_V 1 hts wd_581 wd_583 wd_4 wd_83 wd_584 rfl rfl (by decide +kernel) ⟨Nat.le_of_ble_eq_true rfl, Nat.le_of_ble_eq_true rfl⟩) (pre_V hPc hK hDc hN hO (ci := 11) (q0 := 0) rfl rfl) rfl rfl hl.1 rfl (lv_room (Nat.le_of_ble_eq_true rfl)) dX11_about_2 ⟨Nat.le_of_ble_eq_true rfl, Nat.le_of_ble_eq_true rfl⟩) hP hD hS hA [0, 1] [] rfl rfl (by decide) (by decide) (fun u2 H locs hP hD hS => ?_)
  have hP : va_P D vwCl [((r 0), .inr (11, fX r 0 0)), ((r 3), .inl (c 4, 11, .inr (.inr (.inr (.inr (fun _ => none))))))] H := hP
  have hD : va_D A [((r 0), .inr (11, fX r 0 0)), ((r 3), .inl (c 4, 11, .inr (.inr (.inr (.inr (fun _ => none))))))] := hD
  refine lv_astore_nN (lv' := [(3, .null), (0, .ref (r 0)), (1, .int p0), (2, .int w)]) hx hb dX11_about_5 rfl hl (by decide) rfl (fun ls hl => ?_)
  refine lv_aload_nN hx hb dX11_about_6 rfl (lv_at hl 0 rfl) ?_
  refine lv_ifnonnullN hx hb dX11_about_7 ?_
  refine lv_sipush (v := (-1000)) hx hb dX11_about_10 (by decide) ?_
  exact rt_i hx hb hr hlocks hK hP hD hS rfl dX11_about_13 () [] rfl rfl rfl
set_option maxHeartbeats 4000000 in
set_option maxRecDepth 100000 in
/-- X11_hour -/
theorem c_X11_hour (l : Launch) (D : va_G) (c : Nat → ClassId) (sz : Nat) (r : Nat → Nat) (p0 : Int32) (h : Int32) (w : Int32) : Met l yX11_hour (.code yX11_hour cX11_hour 5 (some .int) :: Wd) ({ frames := 1, cells := 0, slots := 0, locals := 21 }) (va_Pc [.ref (r 0), .int p0, .int h, .int w] (WB D c [((r 0), .inr (11, fX r 0 0)), ((r 3), .inl (c 4, 11, .inr (.inr (.inr (.inr (fun _ => none))))))] sz)) (QI (S := Unit) D c (fun q _ => q = -1000) (fun _ => []) (va_A [((r 0), .inr (11, fX r 0 0)), ((r 3), .inl (c 4, 11, .inr (.inr (.inr (.inr (fun _ => none))))))] sz)) 0 0 (va_A [((r 0), .inr (11, fX r 0 0)), ((r 3), .inl (c 4, 11, .inr (.inr (.inr (.inr (fun _ => none))))))] sz) := by
  refine kz_met (Qc := QI (S := Unit) D c (fun q _ => q = -1000) (fun _ => [])) (by decide) (Nat.le_of_ble_eq_true rfl) ?_
  intro p e s m below meth cd A ls H locs hx hb hr hml hts hown hlocks hin hN hO hK hP hD hS hA hl
  have hl : lv_has ls 5 [(0, .ref (r 0)), (1, .int p0), (2, .int h), (3, .int w)] := hl
  have hown : s.vm.findClass RX11 = some m.cls := hown
  refine lv_aload_n hx hb dX11_hour_0 rfl (lv_at hl 0 rfl) ?_
  refine lv_iload_n hx hb dX11_hour_1 rfl (lv_at hl 1 rfl) ?_
  have hPc := hP.sub (ws' := [((r 0), .inr (11, fX r 0 0)), ((r 3), .inl (c 4, 11, .inr (.inr (.inr (.inr (fun _ => none))))))]) [0, 1] rfl
  have hDc := hD.sub (ws' := [((r 0), .inr (11, fX r 0 0)), ((r 3), .inl (c 4, 11, .inr (.inr (.inr (.inr (fun _ => none))))))]) [0, 1] (by decide) rfl
  refine cl_n (wr := []) (va_runV (As := [.int p0]) (rest := []) ⟨hx, hb, hml, hown, hts⟩ (c_X11_poolAt l D c H.size r 0 p0) (kw_V 1 hts wd_581 wd_583 wd_4 wd_83 wd_584 rfl rfl (by decide +kernel) ⟨Nat.le_of_ble_eq_true rfl, Nat.le_of_ble_eq_true rfl⟩) (pre_V hPc hK hDc hN hO (ci := 11) (q0 := 0) rfl rfl) rfl rfl hl.1 rfl (lv_room (Nat.le_of_ble_eq_true rfl)) dX11_hour_2 ⟨Nat.le_of_ble_eq_true rfl, Nat.le_of_ble_eq_true rfl⟩) hP hD hS hA [0, 1] [] rfl rfl (by decide) (by decide) (fun u2 H locs hP hD hS => ?_)
  have hP : va_P D vwCl [((r 0), .inr (11, fX r 0 0)), ((r 3), .inl (c 4, 11, .inr (.inr (.inr (.inr (fun _ => none))))))] H := hP
  have hD : va_D A [((r 0), .inr (11, fX r 0 0)), ((r 3), .inl (c 4, 11, .inr (.inr (.inr (.inr (fun _ => none))))))] := hD
  refine lv_astoreN (lv' := [(4, .null), (0, .ref (r 0)), (1, .int p0), (2, .int h), (3, .int w)]) hx hb dX11_hour_5 hl (by decide) rfl (fun ls hl => ?_)
  refine lv_aloadN hx hb dX11_hour_7 (lv_at hl 0 rfl) ?_
  refine lv_ifnullN (tgt := 31) hx hb dX11_hour_9 (by decide) ?_
  refine lv_sipush (v := (-1000)) hx hb dX11_hour_31 (by decide) ?_
  exact rt_i hx hb hr hlocks hK hP hD hS rfl dX11_hour_34 () [] rfl rfl rfl
set_option maxHeartbeats 4000000 in
set_option maxRecDepth 100000 in
/-- X11_feed -/
theorem c_X11_feed (l : Launch) (D : va_G) (c : Nat → ClassId) (sz : Nat) (r : Nat → Nat) (a : Int32) (b : Int32) (c0 : Int32) (d : Int32) (e0 : Int32) : Met l yX11_feed (.code yX11_feed cX11_feed 6 (some .int) :: Wd) ({ frames := 2, cells := 0, slots := 0, locals := 44 }) (va_Pc [.ref (r 0), .int a, .int b, .int c0, .int d, .int e0] (WB D c [((r 0), .inr (11, fX r 0 0)), ((r 4), .inr (5, fRd r 0)), ((r 27), .inl (c 0, 300, .inl (fun _ => 0)))] sz)) (QI (S := Unit) D c (fun q _ => q = 20) (fun _ => []) (va_A [((r 0), .inr (11, fX r 0 0)), ((r 4), .inr (5, fRd r 0)), ((r 27), .inl (c 0, 300, .inl (fun _ => 0)))] sz)) 0 0 (va_A [((r 0), .inr (11, fX r 0 0)), ((r 4), .inr (5, fRd r 0)), ((r 27), .inl (c 0, 300, .inl (fun _ => 0)))] sz) := by
  refine kz_met (Qc := QI (S := Unit) D c (fun q _ => q = 20) (fun _ => [])) (by decide) (Nat.le_of_ble_eq_true rfl) ?_
  intro p e s m below meth cd A ls H locs hx hb hr hml hts hown hlocks hin hN hO hK hP hD hS hA hl
  have hl : lv_has ls 6 [(0, .ref (r 0)), (1, .int a), (2, .int b), (3, .int c0), (4, .int d), (5, .int e0)] := hl
  have hown : s.vm.findClass RX11 = some m.cls := hown
  refine lv_aload_n hx hb dX11_feed_0 rfl (lv_at hl 0 rfl) ?_
  refine va_get (D := D) (ci := 11) (v := .ref (r 4)) (C := RX11) (T := TX11) (N := 16) hx hb hts inW_11 hown hK hP 0 rfl rfl 3 (by decide) (hts _ wd_272) (fun _ h9 => h9) rfl dX11_feed_1 ?_
  refine va_get (D := D) (ci := 5) (v := .int 0) (C := RX5) (T := TX5) (N := 9) hx hb hts inW_5 hown hK hP 1 rfl rfl 1 (by decide) (hts _ wd_172) (fun _ h9 => h9) rfl dX11_feed_4 ?_
  refine lv_sipush (v := 280) hx hb dX11_feed_7 (by decide) ?_
  refine lv_icmp_le (tgt := 15) hx hb dX11_feed_10 (by decide) (fun _ => ?_) (fun c => False.elim (by revert c; decide))
  refine lv_aload_n hx hb dX11_feed_15 rfl (lv_at hl 0 rfl) ?_
  refine va_get (D := D) (ci := 11) (v := .ref (r 4)) (C := RX11) (T := TX11) (N := 16) hx hb hts inW_11 hown hK hP 0 rfl rfl 3 (by decide) (hts _ wd_272) (fun _ h9 => h9) rfl dX11_feed_16 ?_
  refine lv_iload_n hx hb dX11_feed_19 rfl (lv_at hl 1 rfl) ?_
  have hPc := hP.sub (ws' := [((r 4), .inr (5, fRd r 0)), ((r 27), .inl (c 0, 300, .inl ((fun _ => 0))))]) [1, 2] rfl
  have hDc := hD.sub (ws' := [((r 4), .inr (5, fRd r 0)), ((r 27), .inl (c 0, 300, .inl ((fun _ => 0))))]) [1, 2] (by decide) rfl
  refine cl_v (wr := [((r 0), .inr (11, fX r 0 0))]) (va_runV (As := [.int a]) (rest := []) ⟨hx, hb, hml, hown, hts⟩ (c_X5_append l D c H.size r 0 ((fun _ => 0)) a) (kw_V 1 hts wd_705 wd_706 wd_707 wd_86 wd_708 rfl rfl (by decide +kernel) ⟨Nat.le_of_ble_eq_true rfl, Nat.le_of_ble_eq_true rfl⟩) (pre_V hPc hK hDc hN hO (ci := 5) (q0 := 0) rfl rfl) rfl rfl hl.1 rfl (lv_room (Nat.le_of_ble_eq_true rfl)) dX11_feed_20 ⟨Nat.le_of_ble_eq_true rfl, Nat.le_of_ble_eq_true rfl⟩) hP hD hS hA [1, 2] [0] rfl rfl (by decide) (by decide) (fun u2 H locs h3 hP hD hS => ?_)
  obtain ⟨n4, f5⟩ := u2
  obtain rfl : n4 = 4 := h3.trans (by decide)
  have hP : va_P D vwCl [((r 0), .inr (11, fX r 0 0)), ((r 4), .inr (5, fRd r 4)), ((r 27), .inl (c 0, 300, .inl (f5)))] H := hP
  have hD : va_D A [((r 0), .inr (11, fX r 0 0)), ((r 4), .inr (5, fRd r 4)), ((r 27), .inl (c 0, 300, .inl (f5)))] := hD
  refine lv_aload_n hx hb dX11_feed_23 rfl (lv_at hl 0 rfl) ?_
  refine va_get (D := D) (ci := 11) (v := .ref (r 4)) (C := RX11) (T := TX11) (N := 16) hx hb hts inW_11 hown hK hP 0 rfl rfl 3 (by decide) (hts _ wd_272) (fun _ h9 => h9) rfl dX11_feed_24 ?_
  refine lv_iload_n hx hb dX11_feed_27 rfl (lv_at hl 2 rfl) ?_
  have hPc := hP.sub (ws' := [((r 4), .inr (5, fRd r 4)), ((r 27), .inl (c 0, 300, .inl ((f5))))]) [1, 2] rfl
  have hDc := hD.sub (ws' := [((r 4), .inr (5, fRd r 4)), ((r 27), .inl (c 0, 300, .inl ((f5))))]) [1, 2] (by decide) rfl
  refine cl_v (wr := [((r 0), .inr (11, fX r 0 0))]) (va_runV (As := [.int b]) (rest := []) ⟨hx, hb, hml, hown, hts⟩ (c_X5_append l D c H.size r 4 ((f5)) b) (kw_V 1 hts wd_705 wd_706 wd_707 wd_86 wd_708 rfl rfl (by decide +kernel) ⟨Nat.le_of_ble_eq_true rfl, Nat.le_of_ble_eq_true rfl⟩) (pre_V hPc hK hDc hN hO (ci := 5) (q0 := 0) rfl rfl) rfl rfl hl.1 rfl (lv_room (Nat.le_of_ble_eq_true rfl)) dX11_feed_28 ⟨Nat.le_of_ble_eq_true rfl, Nat.le_of_ble_eq_true rfl⟩) hP hD hS hA [1, 2] [0] rfl rfl (by decide) (by decide) (fun u7 H locs h8 hP hD hS => ?_)
  obtain ⟨n9, f10⟩ := u7
  obtain rfl : n9 = 8 := h8.trans (by decide)
  have hP : va_P D vwCl [((r 0), .inr (11, fX r 0 0)), ((r 4), .inr (5, fRd r 8)), ((r 27), .inl (c 0, 300, .inl (f10)))] H := hP
  have hD : va_D A [((r 0), .inr (11, fX r 0 0)), ((r 4), .inr (5, fRd r 8)), ((r 27), .inl (c 0, 300, .inl (f10)))] := hD
  refine lv_aload_n hx hb dX11_feed_31 rfl (lv_at hl 0 rfl) ?_
  refine va_get (D := D) (ci := 11) (v := .ref (r 4)) (C := RX11) (T := TX11) (N := 16) hx hb hts inW_11 hown hK hP 0 rfl rfl 3 (by decide) (hts _ wd_272) (fun _ h9 => h9) rfl dX11_feed_32 ?_
  refine lv_iload_n hx hb dX11_feed_35 rfl (lv_at hl 3 rfl) ?_
  have hPc := hP.sub (ws' := [((r 4), .inr (5, fRd r 8)), ((r 27), .inl (c 0, 300, .inl ((f10))))]) [1, 2] rfl
  have hDc := hD.sub (ws' := [((r 4), .inr (5, fRd r 8)), ((r 27), .inl (c 0, 300, .inl ((f10))))]) [1, 2] (by decide) rfl
  refine cl_v (wr := [((r 0), .inr (11, fX r 0 0))]) (va_runV (As := [.int c0]) (rest := []) ⟨hx, hb, hml, hown, hts⟩ (c_X5_append l D c H.size r 8 ((f10)) c0) (kw_V 1 hts wd_705 wd_706 wd_707 wd_86 wd_708 rfl rfl (by decide +kernel) ⟨Nat.le_of_ble_eq_true rfl, Nat.le_of_ble_eq_true rfl⟩) (pre_V hPc hK hDc hN hO (ci := 5) (q0 := 0) rfl rfl) rfl rfl hl.1 rfl (lv_room (Nat.le_of_ble_eq_true rfl)) dX11_feed_36 ⟨Nat.le_of_ble_eq_true rfl, Nat.le_of_ble_eq_true rfl⟩) hP hD hS hA [1, 2] [0] rfl rfl (by decide) (by decide) (fun u12 H locs h13 hP hD hS => ?_)
  obtain ⟨n14, f15⟩ := u12
  obtain rfl : n14 = 12 := h13.trans (by decide)
  have hP : va_P D vwCl [((r 0), .inr (11, fX r 0 0)), ((r 4), .inr (5, fRd r 12)), ((r 27), .inl (c 0, 300, .inl (f15)))] H := hP
  have hD : va_D A [((r 0), .inr (11, fX r 0 0)), ((r 4), .inr (5, fRd r 12)), ((r 27), .inl (c 0, 300, .inl (f15)))] := hD
  refine lv_aload_n hx hb dX11_feed_39 rfl (lv_at hl 0 rfl) ?_
  refine va_get (D := D) (ci := 11) (v := .ref (r 4)) (C := RX11) (T := TX11) (N := 16) hx hb hts inW_11 hown hK hP 0 rfl rfl 3 (by decide) (hts _ wd_272) (fun _ h9 => h9) rfl dX11_feed_40 ?_
  refine lv_iload hx hb dX11_feed_43 (lv_at hl 4 rfl) ?_
  have hPc := hP.sub (ws' := [((r 4), .inr (5, fRd r 12)), ((r 27), .inl (c 0, 300, .inl ((f15))))]) [1, 2] rfl
  have hDc := hD.sub (ws' := [((r 4), .inr (5, fRd r 12)), ((r 27), .inl (c 0, 300, .inl ((f15))))]) [1, 2] (by decide) rfl
  refine cl_v (wr := [((r 0), .inr (11, fX r 0 0))]) (va_runV (As := [.int d]) (rest := []) ⟨hx, hb, hml, hown, hts⟩ (c_X5_append l D c H.size r 12 ((f15)) d) (kw_V 1 hts wd_705 wd_706 wd_707 wd_86 wd_708 rfl rfl (by decide +kernel) ⟨Nat.le_of_ble_eq_true rfl, Nat.le_of_ble_eq_true rfl⟩) (pre_V hPc hK hDc hN hO (ci := 5) (q0 := 0) rfl rfl) rfl rfl hl.1 rfl (lv_room (Nat.le_of_ble_eq_true rfl)) dX11_feed_45 ⟨Nat.le_of_ble_eq_true rfl, Nat.le_of_ble_eq_true rfl⟩) hP hD hS hA [1, 2] [0] rfl rfl (by decide) (by decide) (fun u17 H locs h18 hP hD hS => ?_)
  obtain ⟨n19, f20⟩ := u17
  obtain rfl : n19 = 16 := h18.trans (by decide)
  have hP : va_P D vwCl [((r 0), .inr (11, fX r 0 0)), ((r 4), .inr (5, fRd r 16)), ((r 27), .inl (c 0, 300, .inl (f20)))] H := hP
  have hD : va_D A [((r 0), .inr (11, fX r 0 0)), ((r 4), .inr (5, fRd r 16)), ((r 27), .inl (c 0, 300, .inl (f20)))] := hD
  refine lv_aload_n hx hb dX11_feed_48 rfl (lv_at hl 0 rfl) ?_
  refine va_get (D := D) (ci := 11) (v := .ref (r 4)) (C := RX11) (T := TX11) (N := 16) hx hb hts inW_11 hown hK hP 0 rfl rfl 3 (by decide) (hts _ wd_272) (fun _ h9 => h9) rfl dX11_feed_49 ?_
  refine lv_iload hx hb dX11_feed_52 (lv_at hl 5 rfl) ?_
  have hPc := hP.sub (ws' := [((r 4), .inr (5, fRd r 16)), ((r 27), .inl (c 0, 300, .inl ((f20))))]) [1, 2] rfl
  have hDc := hD.sub (ws' := [((r 4), .inr (5, fRd r 16)), ((r 27), .inl (c 0, 300, .inl ((f20))))]) [1, 2] (by decide) rfl
  refine cl_v (wr := [((r 0), .inr (11, fX r 0 0))]) (va_runV (As := [.int e0]) (rest := []) ⟨hx, hb, hml, hown, hts⟩ (c_X5_append l D c H.size r 16 ((f20)) e0) (kw_V 1 hts wd_705 wd_706 wd_707 wd_86 wd_708 rfl rfl (by decide +kernel) ⟨Nat.le_of_ble_eq_true rfl, Nat.le_of_ble_eq_true rfl⟩) (pre_V hPc hK hDc hN hO (ci := 5) (q0 := 0) rfl rfl) rfl rfl hl.1 rfl (lv_room (Nat.le_of_ble_eq_true rfl)) dX11_feed_54 ⟨Nat.le_of_ble_eq_true rfl, Nat.le_of_ble_eq_true rfl⟩) hP hD hS hA [1, 2] [0] rfl rfl (by decide) (by decide) (fun u22 H locs h23 hP hD hS => ?_)
  obtain ⟨n24, f25⟩ := u22
  obtain rfl : n24 = 20 := h23.trans (by decide)
  have hP : va_P D vwCl [((r 0), .inr (11, fX r 0 0)), ((r 4), .inr (5, fRd r 20)), ((r 27), .inl (c 0, 300, .inl (f25)))] H := hP
  have hD : va_D A [((r 0), .inr (11, fX r 0 0)), ((r 4), .inr (5, fRd r 20)), ((r 27), .inl (c 0, 300, .inl (f25)))] := hD
  refine lv_aload_n hx hb dX11_feed_57 rfl (lv_at hl 0 rfl) ?_
  refine va_get (D := D) (ci := 11) (v := .ref (r 4)) (C := RX11) (T := TX11) (N := 16) hx hb hts inW_11 hown hK hP 0 rfl rfl 3 (by decide) (hts _ wd_272) (fun _ h9 => h9) rfl dX11_feed_58 ?_
  refine va_get (D := D) (ci := 5) (v := .int 20) (C := RX5) (T := TX5) (N := 9) hx hb hts inW_5 hown hK hP 1 rfl rfl 1 (by decide) (hts _ wd_172) (fun _ h9 => h9) rfl dX11_feed_61 ?_
  exact rt_i hx hb hr hlocks hK hP hD hS rfl dX11_feed_64 () [] rfl rfl rfl
set_option maxHeartbeats 4000000 in
set_option maxRecDepth 100000 in
/-- X11_end -/
theorem c_X11_end (l : Launch) (D : va_G) (c : Nat → ClassId) (sz : Nat) (r : Nat → Nat) (n : Int32) : Met l yX11_end (.code yX11_end cX11_end 2 (some .int) :: Wd) ({ frames := 0, cells := 0, slots := 0, locals := 0 }) (va_Pc [.ref (r 0), .int n] (WB D c [((r 0), .inr (11, fX r 0 0)), ((r 4), .inr (5, fRd r 0))] sz)) (QI (S := Unit) D c (fun q _ => q = f_end n) (fun _ => []) (va_A [((r 0), .inr (11, fX r 0 0)), ((r 4), .inr (5, fRd r 0))] sz)) 0 0 (va_A [((r 0), .inr (11, fX r 0 0)), ((r 4), .inr (5, fRd r 0))] sz) := by
  refine kz_met (Qc := QI (S := Unit) D c (fun q _ => q = f_end n) (fun _ => [])) (by decide) (Nat.le_of_ble_eq_true rfl) ?_
  intro p e s m below meth cd A ls H locs hx hb hr hml hts hown hlocks hin hN hO hK hP hD hS hA hl
  have hl : lv_has ls 2 [(0, .ref (r 0)), (1, .int n)] := hl
  have hown : s.vm.findClass RX11 = some m.cls := hown
  refine lv_iload_n hx hb dX11_end_0 rfl (lv_at hl 1 rfl) ?_
  refine lv_if_lt (tgt := 15) hx hb dX11_end_1 (by decide) (fun c1 => ?_) (fun c1 => ?_)
  · refine lv_iconst (v := (-1)) hx hb dX11_end_15 (by decide) ?_
    exact rt_i hx hb hr hlocks hK hP hD hS rfl dX11_end_16 () [] rfl rfl (by show ((-1) : Int32) = _; unfold f_end; (try simp only [Int32.reduceToInt, not_true_eq_false, false_or, not_false_eq_true, true_or, and_true, true_and]); (try simp only [Int32.le_iff_toInt_le, Int32.lt_iff_toInt_lt, ← Int32.toInt_inj, Int32.reduceToInt] at c1); first | (rw [if_pos (by omega)]; done) | (rw [if_neg (by omega)]; done) | (rw [if_pos (by omega)]; exact Int32.toInt_inj.mp (by (try simp only [Int32.reduceToInt]); omega)))
  · refine lv_iload_n hx hb dX11_end_4 rfl (lv_at hl 1 rfl) ?_
    refine lv_aload_n hx hb dX11_end_5 rfl (lv_at hl 0 rfl) ?_
    refine va_get (D := D) (ci := 11) (v := .ref (r 4)) (C := RX11) (T := TX11) (N := 16) hx hb hts inW_11 hown hK hP 0 rfl rfl 3 (by decide) (hts _ wd_272) (fun _ h9 => h9) rfl dX11_end_6 ?_
    refine va_get (D := D) (ci := 5) (v := .int 0) (C := RX5) (T := TX5) (N := 9) hx hb hts inW_5 hown hK hP 1 rfl rfl 1 (by decide) (hts _ wd_172) (fun _ h9 => h9) rfl dX11_end_9 ?_
    refine lv_icmp_le (tgt := 17) hx hb dX11_end_12 (by decide) (fun c2 => ?_) (fun c2 => ?_)
    · refine lv_aload_n hx hb dX11_end_17 rfl (lv_at hl 0 rfl) ?_
      refine va_get (D := D) (ci := 11) (v := .ref (r 4)) (C := RX11) (T := TX11) (N := 16) hx hb hts inW_11 hown hK hP 0 rfl rfl 3 (by decide) (hts _ wd_272) (fun _ h9 => h9) rfl dX11_end_18 ?_
      refine lv_iload_n hx hb dX11_end_21 rfl (lv_at hl 1 rfl) ?_
      refine va_put (D := D) (ci := 5) (v := .int n) (ty := .int) (C := RX5) (T := TX5) (N := 9) hx hb hts inW_5 tyX5 tyX5_ok nmX5 hown hK hP hD hS 1 rfl rfl 1 (by decide) (hts _ wd_172) (fun _ h9 => h9) rfl (by decide +kernel) rfl rfl (Nat.le_of_ble_eq_true rfl) dX11_end_22 (fun H locs hP hD hS => ?_)
      have hP : va_P D vwCl [((r 0), .inr (11, fX r 0 0)), ((r 4), .inr (5, (fRd r 0).set 1 (.int n)))] H := hP
      have hD : va_D A [((r 0), .inr (11, fX r 0 0)), ((r 4), .inr (5, (fRd r 0).set 1 (.int n)))] := hD
      refine lv_iload_n hx hb dX11_end_25 rfl (lv_at hl 1 rfl) ?_
      exact rt_i hx hb hr hlocks hK hP hD hS rfl dX11_end_26 () [] rfl rfl (by show (n : Int32) = _; unfold f_end; (try simp only [Int32.reduceToInt, not_true_eq_false, false_or, not_false_eq_true, true_or, and_true, true_and]); (try simp only [Int32.le_iff_toInt_le, Int32.lt_iff_toInt_lt, ← Int32.toInt_inj, Int32.reduceToInt] at c1); (try simp only [Int32.le_iff_toInt_le, Int32.lt_iff_toInt_lt, ← Int32.toInt_inj, Int32.reduceToInt] at c2); first | (rw [if_pos (by omega)]; done) | (rw [if_neg (by omega)]; done) | (rw [if_pos (by omega)]; exact Int32.toInt_inj.mp (by (try simp only [Int32.reduceToInt]); omega)))
    · refine lv_iconst (v := (-1)) hx hb dX11_end_15 (by decide) ?_
      exact rt_i hx hb hr hlocks hK hP hD hS rfl dX11_end_16 () [] rfl rfl (by show ((-1) : Int32) = _; unfold f_end; (try simp only [Int32.reduceToInt, not_true_eq_false, false_or, not_false_eq_true, true_or, and_true, true_and]); (try simp only [Int32.le_iff_toInt_le, Int32.lt_iff_toInt_lt, ← Int32.toInt_inj, Int32.reduceToInt] at c1); (try simp only [Int32.le_iff_toInt_le, Int32.lt_iff_toInt_lt, ← Int32.toInt_inj, Int32.reduceToInt] at c2); first | (rw [if_pos (by omega)]; done) | (rw [if_neg (by omega)]; done) | (rw [if_pos (by omega)]; exact Int32.toInt_inj.mp (by (try simp only [Int32.reduceToInt]); omega)))
set_option maxHeartbeats 4000000 in
set_option maxRecDepth 100000 in
/-- X11_rules -/
theorem c_X11_rules (l : Launch) (D : va_G) (c : Nat → ClassId) (sz : Nat) (r : Nat → Nat) : Met l yX11_rules (.code yX11_rules cX11_rules 2 (some .int) :: Wd) ({ frames := 2, cells := 2, slots := 3, locals := 65 }) (va_Pc [.ref (r 0)] (WB D c [((r 0), .inr (11, fX r 0 0)), ((r 4), .inr (5, fRd r 0)), ((r 26), .inl (c 0, 320, .inl (fun _ => 0))), ((r 5), .inl (c 5, 10, .inr (.inr (.inr (.inr (fun _ => none))))))] sz)) (QI (S := Unit) D c (fun q _ => q = 0) (fun _ => []) (va_A [((r 0), .inr (11, fX r 0 0)), ((r 4), .inr (5, fRd r 0)), ((r 26), .inl (c 0, 320, .inl (fun _ => 0))), ((r 5), .inl (c 5, 10, .inr (.inr (.inr (.inr (fun _ => none))))))] sz)) 2 3 (va_A [((r 0), .inr (11, fX r 0 0)), ((r 4), .inr (5, fRd r 0)), ((r 26), .inl (c 0, 320, .inl (fun _ => 0))), ((r 5), .inl (c 5, 10, .inr (.inr (.inr (.inr (fun _ => none))))))] sz) := by
  refine kz_met (Qc := QI (S := Unit) D c (fun q _ => q = 0) (fun _ => [])) (by decide) (Nat.le_of_ble_eq_true rfl) ?_
  intro p e s m below meth cd A ls H locs hx hb hr hml hts hown hlocks hin hN hO hK hP hD hS hA hl
  have hl : lv_has ls 2 [(0, .ref (r 0))] := hl
  have hown : s.vm.findClass RX11 = some m.cls := hown
  refine lv_aload_n hx hb dX11_rules_0 rfl (lv_at hl 0 rfl) ?_
  have hPc := hP.sub (ws' := [((r 0), .inr (11, fX r 0 0))]) [0] rfl
  have hDc := hD.sub (ws' := [((r 0), .inr (11, fX r 0 0))]) [0] (by decide) rfl
  refine cl_i (wr := [((r 4), .inr (5, fRd r 0)), ((r 26), .inl (c 0, 320, .inl (fun _ => 0))), ((r 5), .inl (c 5, 10, .inr (.inr (.inr (.inr (fun _ => none))))))]) (va_runV (As := []) (rest := []) ⟨hx, hb, hml, hown, hts⟩ (c_X11_atEnd l D c H.size r 0) (kw_V 0 hts wd_322 wd_324 wd_0 wd_83 wd_325 rfl rfl (by decide +kernel) ⟨Nat.le_of_ble_eq_true rfl, Nat.le_of_ble_eq_true rfl⟩) (pre_V hPc hK hDc hN hO (ci := 11) (q0 := 0) rfl rfl) rfl rfl hl.1 rfl (lv_room (Nat.le_of_ble_eq_true rfl)) dX11_rules_1 ⟨Nat.le_of_ble_eq_true rfl, Nat.le_of_ble_eq_true rfl⟩) hP hD hS hA [0] [1, 2, 3] rfl rfl (by decide) (by decide) (fun r1 u2 H locs h3 hP hD hS => ?_)
  have hP : va_P D vwCl [((r 4), .inr (5, fRd r 0)), ((r 26), .inl (c 0, 320, .inl (fun _ => 0))), ((r 5), .inl (c 5, 10, .inr (.inr (.inr (.inr (fun _ => none)))))), ((r 0), .inr (11, fX r 0 0))] H := hP
  have hD : va_D A [((r 4), .inr (5, fRd r 0)), ((r 26), .inl (c 0, 320, .inl (fun _ => 0))), ((r 5), .inl (c 5, 10, .inr (.inr (.inr (.inr (fun _ => none)))))), ((r 0), .inr (11, fX r 0 0))] := hD
  obtain rfl : r1 = 0 := h3
  refine lv_if_ne (tgt := 19) hx hb dX11_rules_4 (by decide) (fun c => False.elim (by revert c; decide)) (fun _ => ?_)
  refine lv_aload_n hx hb dX11_rules_7 rfl (lv_at hl 0 rfl) ?_
  refine va_get (D := D) (ci := 11) (v := .int 0) (C := RX11) (T := TX11) (N := 16) hx hb hts inW_11 hown hK hP 3 rfl rfl 11 (by decide) (hts _ wd_280) (fun _ h9 => h9) rfl dX11_rules_8 ?_
  refine lv_aload_n hx hb dX11_rules_11 rfl (lv_at hl 0 rfl) ?_
  refine va_get (D := D) (ci := 11) (v := .ref (r 5)) (C := RX11) (T := TX11) (N := 16) hx hb hts inW_11 hown hK hP 3 rfl rfl 4 (by decide) (hts _ wd_273) (fun _ h9 => h9) rfl dX11_rules_12 ?_
  refine va_alen (v := 10) hx hb hK hP 2 5 rfl rfl (by show Int32.ofNat 10 = 10; decide) dX11_rules_15 ?_
  refine lv_icmp_lt (tgt := 21) hx hb dX11_rules_16 (by decide) (fun _ => ?_) (fun c => False.elim (by revert c; decide))
  refine lv_aload_n hx hb dX11_rules_21 rfl (lv_at hl 0 rfl) ?_
  refine va_get (D := D) (ci := 11) (v := .ref (r 4)) (C := RX11) (T := TX11) (N := 16) hx hb hts inW_11 hown hK hP 3 rfl rfl 3 (by decide) (hts _ wd_272) (fun _ h9 => h9) rfl dX11_rules_22 ?_
  have hPc := hP.sub (ws' := [((r 4), .inr (5, fRd r 0))]) [0] rfl
  have hDc := hD.sub (ws' := [((r 4), .inr (5, fRd r 0))]) [0] (by decide) rfl
  refine cl_i (wr := [((r 26), .inl (c 0, 320, .inl (fun _ => 0))), ((r 5), .inl (c 5, 10, .inr (.inr (.inr (.inr (fun _ => none)))))), ((r 0), .inr (11, fX r 0 0))]) (va_runV (As := []) (rest := []) ⟨hx, hb, hml, hown, hts⟩ (c_X5_read l D c H.size r) (kw_V 0 hts wd_718 wd_719 wd_720 wd_86 wd_721 rfl rfl (by decide +kernel) ⟨Nat.le_of_ble_eq_true rfl, Nat.le_of_ble_eq_true rfl⟩) (pre_V hPc hK hDc hN hO (ci := 5) (q0 := 0) rfl rfl) rfl rfl hl.1 rfl (lv_room (Nat.le_of_ble_eq_true rfl)) dX11_rules_25 ⟨Nat.le_of_ble_eq_true rfl, Nat.le_of_ble_eq_true rfl⟩) hP hD hS hA [0] [1, 2, 3] rfl rfl (by decide) (by decide) (fun r4 u5 H locs h6 hP hD hS => ?_)
  have hP : va_P D vwCl [((r 26), .inl (c 0, 320, .inl (fun _ => 0))), ((r 5), .inl (c 5, 10, .inr (.inr (.inr (.inr (fun _ => none)))))), ((r 0), .inr (11, fX r 0 0)), ((r 4), .inr (5, fRd r 0))] H := hP
  have hD : va_D A [((r 26), .inl (c 0, 320, .inl (fun _ => 0))), ((r 5), .inl (c 5, 10, .inr (.inr (.inr (.inr (fun _ => none)))))), ((r 0), .inr (11, fX r 0 0)), ((r 4), .inr (5, fRd r 0))] := hD
  obtain rfl : r4 = 0 := h6
  refine lv_istore_n (lv' := [(1, .int 0), (0, .ref (r 0))]) hx hb dX11_rules_28 rfl hl (by decide) rfl (fun ls hl => ?_)
  refine lv_aload_n hx hb dX11_rules_29 rfl (lv_at hl 1 rfl) ?_
  refine va_get (D := D) (ci := 11) (v := .ref (r 4)) (C := RX11) (T := TX11) (N := 16) hx hb hts inW_11 hown hK hP 2 rfl rfl 3 (by decide) (hts _ wd_272) (fun _ h9 => h9) rfl dX11_rules_30 ?_
  refine lv_iconst (v := 0) hx hb dX11_rules_33 (by decide) ?_
  refine va_put (D := D) (ci := 5) (v := .int 0) (ty := .int) (C := RX5) (T := TX5) (N := 9) hx hb hts inW_5 tyX5 tyX5_ok nmX5 hown hK hP hD hS 3 rfl rfl 1 (by decide) (hts _ wd_172) (fun _ h9 => h9) rfl (by decide +kernel) rfl rfl (Nat.le_of_ble_eq_true rfl) dX11_rules_34 (fun H locs hP hD hS => ?_)
  have hP : va_P D vwCl [((r 26), .inl (c 0, 320, .inl (fun _ => 0))), ((r 5), .inl (c 5, 10, .inr (.inr (.inr (.inr (fun _ => none)))))), ((r 0), .inr (11, fX r 0 0)), ((r 4), .inr (5, (fRd r 0).set 1 (.int 0)))] H := hP
  have hD : va_D A [((r 26), .inl (c 0, 320, .inl (fun _ => 0))), ((r 5), .inl (c 5, 10, .inr (.inr (.inr (.inr (fun _ => none)))))), ((r 0), .inr (11, fX r 0 0)), ((r 4), .inr (5, (fRd r 0).set 1 (.int 0)))] := hD
  refine lv_iload_n hx hb dX11_rules_37 rfl (lv_at hl 0 rfl) ?_
  refine lv_if_eq (tgt := 46) hx hb dX11_rules_38 (by decide) (fun _ => ?_) (fun c => False.elim (by revert c; decide))
  refine lv_aload_n hx hb dX11_rules_46 rfl (lv_at hl 1 rfl) ?_
  refine va_get (D := D) (ci := 11) (v := .ref (r 5)) (C := RX11) (T := TX11) (N := 16) hx hb hts inW_11 hown hK hP 2 rfl rfl 4 (by decide) (hts _ wd_273) (fun _ h9 => h9) rfl dX11_rules_47 ?_
  refine lv_aload_n hx hb dX11_rules_50 rfl (lv_at hl 1 rfl) ?_
  refine va_get (D := D) (ci := 11) (v := .int 0) (C := RX11) (T := TX11) (N := 16) hx hb hts inW_11 hown hK hP 2 rfl rfl 11 (by decide) (hts _ wd_280) (fun _ h9 => h9) rfl dX11_rules_51 ?_
  refine va_new (ci := 6) (fs := nwX6) (C := RX6) (T := TX6) (N := 3) hx hb hts inW_6 tyX6 tyX6_ok hown (hts _ wd_201) (hts _ wd_851) (hts _ wd_100) hK hP hD hS hA rfl nwX6_ok (Nat.le_of_ble_eq_true rfl) (Nat.le_of_ble_eq_true rfl) dX11_rules_54 (fun q7 H hP hD hS => ?_)
  have hP : va_P D vwCl [((r 26), .inl (c 0, 320, .inl (fun _ => 0))), ((r 5), .inl (c 5, 10, .inr (.inr (.inr (.inr (fun _ => none)))))), ((r 0), .inr (11, fX r 0 0)), ((r 4), .inr (5, (fRd r 0).set 1 (.int 0))), (q7, .inr (6, nwX6))] H := hP
  have hD : va_D A [((r 26), .inl (c 0, 320, .inl (fun _ => 0))), ((r 5), .inl (c 5, 10, .inr (.inr (.inr (.inr (fun _ => none)))))), ((r 0), .inr (11, fX r 0 0)), ((r 4), .inr (5, (fRd r 0).set 1 (.int 0))), (q7, .inr (6, nwX6))] := hD
  refine W.widen (k := 1) (n := 3) (Nat.le_of_ble_eq_true rfl) (Nat.le_of_ble_eq_true rfl) ?_
  refine lv_dup hx hb dX11_rules_57 rfl ?_
  refine lv_aload_n hx hb dX11_rules_58 rfl (lv_at hl 1 rfl) ?_
  refine va_get (D := D) (ci := 11) (v := .ref (r 4)) (C := RX11) (T := TX11) (N := 16) hx hb hts inW_11 hown hK hP 2 rfl rfl 3 (by decide) (hts _ wd_272) (fun _ h9 => h9) rfl dX11_rules_59 ?_
  refine va_get (D := D) (ci := 5) (v := .ref (r 26)) (C := RX5) (T := TX5) (N := 9) hx hb hts inW_5 hown hK hP 3 rfl rfl 0 (by decide) (hts _ wd_170) (fun _ h9 => h9) rfl dX11_rules_62 ?_
  refine lv_aload_n hx hb dX11_rules_65 rfl (lv_at hl 1 rfl) ?_
  refine va_get (D := D) (ci := 11) (v := .ref (r 4)) (C := RX11) (T := TX11) (N := 16) hx hb hts inW_11 hown hK hP 2 rfl rfl 3 (by decide) (hts _ wd_272) (fun _ h9 => h9) rfl dX11_rules_66 ?_
  refine va_get (D := D) (ci := 5) (v := .int 0) (C := RX5) (T := TX5) (N := 9) hx hb hts inW_5 hown hK hP 3 rfl rfl 2 (by decide) (hts _ wd_174) (fun _ h9 => h9) rfl dX11_rules_69 ?_
  refine lv_aload_n hx hb dX11_rules_72 rfl (lv_at hl 1 rfl) ?_
  have hPc := hP.sub (ws' := [((r 0), .inr (11, fX r 0 0))]) [2] rfl
  have hDc := hD.sub (ws' := [((r 0), .inr (11, fX r 0 0))]) [2] (by decide) rfl
  refine cl_i (wr := [((r 26), .inl (c 0, 320, .inl (fun _ => 0))), ((r 5), .inl (c 5, 10, .inr (.inr (.inr (.inr (fun _ => none)))))), ((r 4), .inr (5, (fRd r 0).set 1 (.int 0))), (q7, .inr (6, nwX6))]) (va_runV (As := []) (rest := [.int 0, .ref (r 26), .ref q7, .ref q7, .int 0, .ref (r 5)]) ⟨hx, hb, hml, hown, hts⟩ (c_X11_hourNow l D c H.size r 0) (kw_V 0 hts wd_368 wd_370 wd_2 wd_83 wd_371 rfl rfl (by decide +kernel) ⟨Nat.le_of_ble_eq_true rfl, Nat.le_of_ble_eq_true rfl⟩) (pre_V hPc hK hDc hN hO (ci := 11) (q0 := 0) rfl rfl) rfl rfl hl.1 rfl (lv_room (Nat.le_of_ble_eq_true rfl)) dX11_rules_73 ⟨Nat.le_of_ble_eq_true rfl, Nat.le_of_ble_eq_true rfl⟩) hP hD hS hA [2] [0, 1, 3, 4] rfl rfl (by decide) (by decide) (fun r8 u9 H locs h10 hP hD hS => ?_)
  have hP : va_P D vwCl [((r 26), .inl (c 0, 320, .inl (fun _ => 0))), ((r 5), .inl (c 5, 10, .inr (.inr (.inr (.inr (fun _ => none)))))), ((r 4), .inr (5, (fRd r 0).set 1 (.int 0))), (q7, .inr (6, nwX6)), ((r 0), .inr (11, fX r 0 0))] H := hP
  have hD : va_D A [((r 26), .inl (c 0, 320, .inl (fun _ => 0))), ((r 5), .inl (c 5, 10, .inr (.inr (.inr (.inr (fun _ => none)))))), ((r 4), .inr (5, (fRd r 0).set 1 (.int 0))), (q7, .inr (6, nwX6)), ((r 0), .inr (11, fX r 0 0))] := hD
  obtain rfl : r8 = 0 := h10
  have hPc := hP.sub (ws' := [(q7, .inr (6, nwX6)), ((r 26), .inl (c 0, 320, .inl (fun _ => 0)))]) [3, 0] rfl
  have hDc := hD.sub (ws' := [(q7, .inr (6, nwX6)), ((r 26), .inl (c 0, 320, .inl (fun _ => 0)))]) [3, 0] (by decide) rfl
  refine cl_v (wr := [((r 5), .inl (c 5, 10, .inr (.inr (.inr (.inr (fun _ => none)))))), ((r 4), .inr (5, (fRd r 0).set 1 (.int 0))), ((r 0), .inr (11, fX r 0 0))]) (va_runI (As := [.ref (r 26), .int 0, .int 0]) (rest := [.ref q7, .int 0, .ref (r 5)]) ⟨hx, hb, hml, hown, hts⟩ (c_X6_init l D c H.size q7 ((r 26)) 0) (kw_I 3 hts wd_852 wd_853 wd_100 wd_854 rfl rfl rfl (by decide +kernel) ⟨Nat.le_of_ble_eq_true rfl, Nat.le_of_ble_eq_true rfl⟩) (pre_S hPc hK hDc hN hO) rfl rfl hl.1 rfl (lv_room (Nat.le_of_ble_eq_true rfl)) dX11_rules_76 ⟨Nat.le_of_ble_eq_true rfl, Nat.le_of_ble_eq_true rfl⟩) hP hD hS hA [3, 0] [1, 2, 4] rfl rfl (by decide) (by decide) (fun u12 H locs h13 hP hD hS => ?_)
  refine W.widen (k := 2) (n := 3) (Nat.le_of_ble_eq_true rfl) (Nat.le_of_ble_eq_true rfl) ?_
  have hP : va_P D vwCl [((r 5), .inl (c 5, 10, .inr (.inr (.inr (.inr (fun _ => none)))))), ((r 4), .inr (5, (fRd r 0).set 1 (.int 0))), ((r 0), .inr (11, fX r 0 0)), (q7, .inr (6, u12))] H := hP
  have hD : va_D A [((r 5), .inl (c 5, 10, .inr (.inr (.inr (.inr (fun _ => none)))))), ((r 4), .inr (5, (fRd r 0).set 1 (.int 0))), ((r 0), .inr (11, fX r 0 0)), (q7, .inr (6, u12))] := hD
  refine va_astq hx hb hK hP hD hS 0 5 3 6 rfl rfl rfl rfl (vp_in_iff.mpr (by decide)) dX11_rules_79 (fun H locs hP hD hS => ?_)
  have hP : va_P D vwCl [((r 5), .inl (c 5, 10, .inr (.inr (.inr (.inr (va_up (fun _ => none) (Int32.toNatClampNeg 0) (some q7))))))), ((r 4), .inr (5, (fRd r 0).set 1 (.int 0))), ((r 0), .inr (11, fX r 0 0)), (q7, .inr (6, u12))] H := hP
  have hD : va_D A [((r 5), .inl (c 5, 10, .inr (.inr (.inr (.inr (va_up (fun _ => none) (Int32.toNatClampNeg 0) (some q7))))))), ((r 4), .inr (5, (fRd r 0).set 1 (.int 0))), ((r 0), .inr (11, fX r 0 0)), (q7, .inr (6, u12))] := hD
  refine lv_aload_n hx hb dX11_rules_80 rfl (lv_at hl 1 rfl) ?_
  refine lv_dup hx hb dX11_rules_81 rfl ?_
  refine va_get (D := D) (ci := 11) (v := .int 0) (C := RX11) (T := TX11) (N := 16) hx hb hts inW_11 hown hK hP 2 rfl rfl 11 (by decide) (hts _ wd_280) (fun _ h9 => h9) rfl dX11_rules_82 ?_
  refine lv_iconst (v := 1) hx hb dX11_rules_85 (by decide) ?_
  refine lv_iadd hx hb dX11_rules_86 ?_
  refine lv_topi (fun v14 e15 => ?_)
  obtain rfl : v14 = 1 := e15.trans (by decide)
  refine va_put (D := D) (ci := 11) (v := .int 1) (ty := .int) (C := RX11) (T := TX11) (N := 16) hx hb hts inW_11 tyX11 tyX11_ok nmX11 hown hK hP hD hS 2 rfl rfl 11 (by decide) (hts _ wd_280) (fun _ h9 => h9) rfl (by decide +kernel) rfl rfl (Nat.le_of_ble_eq_true rfl) dX11_rules_87 (fun H locs hP hD hS => ?_)
  have hP : va_P D vwCl [((r 5), .inl (c 5, 10, .inr (.inr (.inr (.inr (va_up (fun _ => none) (Int32.toNatClampNeg 0) (some q7))))))), ((r 4), .inr (5, (fRd r 0).set 1 (.int 0))), ((r 0), .inr (11, (fX r 0 0).set 11 (.int 1))), (q7, .inr (6, u12))] H := hP
  have hD : va_D A [((r 5), .inl (c 5, 10, .inr (.inr (.inr (.inr (va_up (fun _ => none) (Int32.toNatClampNeg 0) (some q7))))))), ((r 4), .inr (5, (fRd r 0).set 1 (.int 0))), ((r 0), .inr (11, (fX r 0 0).set 11 (.int 1))), (q7, .inr (6, u12))] := hD
  refine lv_aload_n hx hb dX11_rules_90 rfl (lv_at hl 1 rfl) ?_
  refine va_get (D := D) (ci := 11) (v := .ref (r 4)) (C := RX11) (T := TX11) (N := 16) hx hb hts inW_11 hown hK hP 2 rfl rfl 3 (by decide) (hts _ wd_272) (fun _ h9 => h9) rfl dX11_rules_91 ?_
  refine va_get (D := D) (ci := 5) (v := .int 0) (C := RX5) (T := TX5) (N := 9) hx hb hts inW_5 hown hK hP 1 rfl rfl 3 (by decide) (hts _ wd_176) (fun _ h9 => h9) rfl dX11_rules_94 ?_
  exact rt_i hx hb hr hlocks hK hP hD hS rfl dX11_rules_97 () [] rfl rfl rfl
set_option maxHeartbeats 4000000 in
set_option maxRecDepth 100000 in
/-- X11_test -/
theorem c_X11_test (l : Launch) (D : va_G) (c : Nat → ClassId) (sz : Nat) (r : Nat → Nat) (p0 : Int32) (h : Int32) (t : Int32) : Met l yX11_test (.code yX11_test cX11_test 4 (some .int) :: Wd) ({ frames := 1, cells := 0, slots := 0, locals := 21 }) (va_Pc [.ref (r 0), .int p0, .int h, .int t] (WB D c [((r 0), .inr (11, fX r 0 0)), ((r 3), .inl (c 4, 11, .inr (.inr (.inr (.inr (fun _ => none)))))), ((r 6), .inr (7, fSm r))] sz)) (QI (S := Unit) D c (fun q _ => q = -1) (fun _ => []) (va_A [((r 0), .inr (11, fX r 0 0)), ((r 3), .inl (c 4, 11, .inr (.inr (.inr (.inr (fun _ => none)))))), ((r 6), .inr (7, fSm r))] sz)) 0 0 (va_A [((r 0), .inr (11, fX r 0 0)), ((r 3), .inl (c 4, 11, .inr (.inr (.inr (.inr (fun _ => none)))))), ((r 6), .inr (7, fSm r))] sz) := by
  refine kz_met (Qc := QI (S := Unit) D c (fun q _ => q = -1) (fun _ => [])) (by decide) (Nat.le_of_ble_eq_true rfl) ?_
  intro p e s m below meth cd A ls H locs hx hb hr hml hts hown hlocks hin hN hO hK hP hD hS hA hl
  have hl : lv_has ls 4 [(0, .ref (r 0)), (1, .int p0), (2, .int h), (3, .int t)] := hl
  have hown : s.vm.findClass RX11 = some m.cls := hown
  refine lv_aload_n hx hb dX11_test_0 rfl (lv_at hl 0 rfl) ?_
  have hPc := hP.sub (ws' := [((r 0), .inr (11, fX r 0 0))]) [0] rfl
  have hDc := hD.sub (ws' := [((r 0), .inr (11, fX r 0 0))]) [0] (by decide) rfl
  refine cl_i (wr := [((r 3), .inl (c 4, 11, .inr (.inr (.inr (.inr (fun _ => none)))))), ((r 6), .inr (7, fSm r))]) (va_runV (As := []) (rest := []) ⟨hx, hb, hml, hown, hts⟩ (c_X11_atEnd l D c H.size r 0) (kw_V 0 hts wd_322 wd_324 wd_0 wd_83 wd_325 rfl rfl (by decide +kernel) ⟨Nat.le_of_ble_eq_true rfl, Nat.le_of_ble_eq_true rfl⟩) (pre_V hPc hK hDc hN hO (ci := 11) (q0 := 0) rfl rfl) rfl rfl hl.1 rfl (lv_room (Nat.le_of_ble_eq_true rfl)) dX11_test_1 ⟨Nat.le_of_ble_eq_true rfl, Nat.le_of_ble_eq_true rfl⟩) hP hD hS hA [0] [1, 2] rfl rfl (by decide) (by decide) (fun r1 u2 H locs h3 hP hD hS => ?_)
  have hP : va_P D vwCl [((r 3), .inl (c 4, 11, .inr (.inr (.inr (.inr (fun _ => none)))))), ((r 6), .inr (7, fSm r)), ((r 0), .inr (11, fX r 0 0))] H := hP
  have hD : va_D A [((r 3), .inl (c 4, 11, .inr (.inr (.inr (.inr (fun _ => none)))))), ((r 6), .inr (7, fSm r)), ((r 0), .inr (11, fX r 0 0))] := hD
  obtain rfl : r1 = 0 := h3
  refine lv_if_ne (tgt := 51) hx hb dX11_test_4 (by decide) (fun c => False.elim (by revert c; decide)) (fun _ => ?_)
  refine lv_aload_n hx hb dX11_test_7 rfl (lv_at hl 0 rfl) ?_
  refine va_get (D := D) (ci := 11) (v := .ref (r 6)) (C := RX11) (T := TX11) (N := 16) hx hb hts inW_11 hown hK hP 2 rfl rfl 5 (by decide) (hts _ wd_274) (fun _ h9 => h9) rfl dX11_test_8 ?_
  refine va_get (D := D) (ci := 7) (v := .int 0) (C := RX7) (T := TX7) (N := 5) hx hb hts inW_7 hown hK hP 1 rfl rfl 4 (by decide) (hts _ wd_214) (fun _ h9 => h9) rfl dX11_test_11 ?_
  refine lv_sipush (v := 500) hx hb dX11_test_14 (by decide) ?_
  refine lv_icmp_ge (tgt := 51) hx hb dX11_test_17 (by decide) (fun c => False.elim (by revert c; decide)) (fun _ => ?_)
  refine lv_aload_n hx hb dX11_test_20 rfl (lv_at hl 0 rfl) ?_
  refine lv_iload_n hx hb dX11_test_21 rfl (lv_at hl 1 rfl) ?_
  have hPc := hP.sub (ws' := [((r 0), .inr (11, fX r 0 0)), ((r 3), .inl (c 4, 11, .inr (.inr (.inr (.inr (fun _ => none))))))]) [2, 0] rfl
  have hDc := hD.sub (ws' := [((r 0), .inr (11, fX r 0 0)), ((r 3), .inl (c 4, 11, .inr (.inr (.inr (.inr (fun _ => none))))))]) [2, 0] (by decide) rfl
  refine cl_n (wr := [((r 6), .inr (7, fSm r))]) (va_runV (As := [.int p0]) (rest := []) ⟨hx, hb, hml, hown, hts⟩ (c_X11_poolAt l D c H.size r 0 p0) (kw_V 1 hts wd_581 wd_583 wd_4 wd_83 wd_584 rfl rfl (by decide +kernel) ⟨Nat.le_of_ble_eq_true rfl, Nat.le_of_ble_eq_true rfl⟩) (pre_V hPc hK hDc hN hO (ci := 11) (q0 := 0) rfl rfl) rfl rfl hl.1 rfl (lv_room (Nat.le_of_ble_eq_true rfl)) dX11_test_22 ⟨Nat.le_of_ble_eq_true rfl, Nat.le_of_ble_eq_true rfl⟩) hP hD hS hA [2, 0] [1] rfl rfl (by decide) (by decide) (fun u5 H locs hP hD hS => ?_)
  have hP : va_P D vwCl [((r 6), .inr (7, fSm r)), ((r 0), .inr (11, fX r 0 0)), ((r 3), .inl (c 4, 11, .inr (.inr (.inr (.inr (fun _ => none))))))] H := hP
  have hD : va_D A [((r 6), .inr (7, fSm r)), ((r 0), .inr (11, fX r 0 0)), ((r 3), .inl (c 4, 11, .inr (.inr (.inr (.inr (fun _ => none))))))] := hD
  refine lv_ifnullN (tgt := 51) hx hb dX11_test_25 (by decide) ?_
  refine lv_iconst (v := (-1)) hx hb dX11_test_51 (by decide) ?_
  exact rt_i hx hb hr hlocks hK hP hD hS rfl dX11_test_52 () [] rfl rfl rfl
set_option maxHeartbeats 4000000 in
set_option maxRecDepth 100000 in
/-- X11_closed -/
theorem c_X11_closed (l : Launch) (D : va_G) (c : Nat → ClassId) (sz : Nat) (r : Nat → Nat) (p0 : Int32) (h : Int32) (k : Int32) : Met l yX11_closed (.code yX11_closed cX11_closed 5 (some .int) :: Wd) ({ frames := 1, cells := 0, slots := 0, locals := 21 }) (va_Pc [.ref (r 0), .int p0, .int h, .int k] (WB D c [((r 0), .inr (11, fX r 0 0)), ((r 3), .inl (c 4, 11, .inr (.inr (.inr (.inr (fun _ => none))))))] sz)) (QI (S := Unit) D c (fun q _ => q = -1) (fun _ => []) (va_A [((r 0), .inr (11, fX r 0 0)), ((r 3), .inl (c 4, 11, .inr (.inr (.inr (.inr (fun _ => none))))))] sz)) 0 0 (va_A [((r 0), .inr (11, fX r 0 0)), ((r 3), .inl (c 4, 11, .inr (.inr (.inr (.inr (fun _ => none))))))] sz) := by
  refine kz_met (Qc := QI (S := Unit) D c (fun q _ => q = -1) (fun _ => [])) (by decide) (Nat.le_of_ble_eq_true rfl) ?_
  intro p e s m below meth cd A ls H locs hx hb hr hml hts hown hlocks hin hN hO hK hP hD hS hA hl
  have hl : lv_has ls 5 [(0, .ref (r 0)), (1, .int p0), (2, .int h), (3, .int k)] := hl
  have hown : s.vm.findClass RX11 = some m.cls := hown
  refine lv_aload_n hx hb dX11_closed_0 rfl (lv_at hl 0 rfl) ?_
  refine lv_iload_n hx hb dX11_closed_1 rfl (lv_at hl 1 rfl) ?_
  have hPc := hP.sub (ws' := [((r 0), .inr (11, fX r 0 0)), ((r 3), .inl (c 4, 11, .inr (.inr (.inr (.inr (fun _ => none))))))]) [0, 1] rfl
  have hDc := hD.sub (ws' := [((r 0), .inr (11, fX r 0 0)), ((r 3), .inl (c 4, 11, .inr (.inr (.inr (.inr (fun _ => none))))))]) [0, 1] (by decide) rfl
  refine cl_n (wr := []) (va_runV (As := [.int p0]) (rest := []) ⟨hx, hb, hml, hown, hts⟩ (c_X11_poolAt l D c H.size r 0 p0) (kw_V 1 hts wd_581 wd_583 wd_4 wd_83 wd_584 rfl rfl (by decide +kernel) ⟨Nat.le_of_ble_eq_true rfl, Nat.le_of_ble_eq_true rfl⟩) (pre_V hPc hK hDc hN hO (ci := 11) (q0 := 0) rfl rfl) rfl rfl hl.1 rfl (lv_room (Nat.le_of_ble_eq_true rfl)) dX11_closed_2 ⟨Nat.le_of_ble_eq_true rfl, Nat.le_of_ble_eq_true rfl⟩) hP hD hS hA [0, 1] [] rfl rfl (by decide) (by decide) (fun u2 H locs hP hD hS => ?_)
  have hP : va_P D vwCl [((r 0), .inr (11, fX r 0 0)), ((r 3), .inl (c 4, 11, .inr (.inr (.inr (.inr (fun _ => none))))))] H := hP
  have hD : va_D A [((r 0), .inr (11, fX r 0 0)), ((r 3), .inl (c 4, 11, .inr (.inr (.inr (.inr (fun _ => none))))))] := hD
  refine lv_astoreN (lv' := [(4, .null), (0, .ref (r 0)), (1, .int p0), (2, .int h), (3, .int k)]) hx hb dX11_closed_5 hl (by decide) rfl (fun ls hl => ?_)
  refine lv_aloadN hx hb dX11_closed_7 (lv_at hl 0 rfl) ?_
  refine lv_ifnullN (tgt := 29) hx hb dX11_closed_9 (by decide) ?_
  refine lv_iconst (v := (-1)) hx hb dX11_closed_29 (by decide) ?_
  exact rt_i hx hb hr hlocks hK hP hD hS rfl dX11_closed_30 () [] rfl rfl rfl
set_option maxHeartbeats 4000000 in
set_option maxRecDepth 100000 in
/-- X11_open -/
theorem c_X11_open (l : Launch) (D : va_G) (c : Nat → ClassId) (sz : Nat) (r : Nat → Nat) (p0 : Int32) (d : Int32) (k : Int32) : Met l yX11_open (.code yX11_open cX11_open 5 (some .int) :: Wd) ({ frames := 1, cells := 0, slots := 0, locals := 21 }) (va_Pc [.ref (r 0), .int p0, .int d, .int k] (WB D c [((r 0), .inr (11, fX r 0 0)), ((r 3), .inl (c 4, 11, .inr (.inr (.inr (.inr (fun _ => none))))))] sz)) (QI (S := Unit) D c (fun q _ => q = -1) (fun _ => []) (va_A [((r 0), .inr (11, fX r 0 0)), ((r 3), .inl (c 4, 11, .inr (.inr (.inr (.inr (fun _ => none))))))] sz)) 0 0 (va_A [((r 0), .inr (11, fX r 0 0)), ((r 3), .inl (c 4, 11, .inr (.inr (.inr (.inr (fun _ => none))))))] sz) := by
  refine kz_met (Qc := QI (S := Unit) D c (fun q _ => q = -1) (fun _ => [])) (by decide) (Nat.le_of_ble_eq_true rfl) ?_
  intro p e s m below meth cd A ls H locs hx hb hr hml hts hown hlocks hin hN hO hK hP hD hS hA hl
  have hl : lv_has ls 5 [(0, .ref (r 0)), (1, .int p0), (2, .int d), (3, .int k)] := hl
  have hown : s.vm.findClass RX11 = some m.cls := hown
  refine lv_aload_n hx hb dX11_open_0 rfl (lv_at hl 0 rfl) ?_
  refine lv_iload_n hx hb dX11_open_1 rfl (lv_at hl 1 rfl) ?_
  have hPc := hP.sub (ws' := [((r 0), .inr (11, fX r 0 0)), ((r 3), .inl (c 4, 11, .inr (.inr (.inr (.inr (fun _ => none))))))]) [0, 1] rfl
  have hDc := hD.sub (ws' := [((r 0), .inr (11, fX r 0 0)), ((r 3), .inl (c 4, 11, .inr (.inr (.inr (.inr (fun _ => none))))))]) [0, 1] (by decide) rfl
  refine cl_n (wr := []) (va_runV (As := [.int p0]) (rest := []) ⟨hx, hb, hml, hown, hts⟩ (c_X11_poolAt l D c H.size r 0 p0) (kw_V 1 hts wd_581 wd_583 wd_4 wd_83 wd_584 rfl rfl (by decide +kernel) ⟨Nat.le_of_ble_eq_true rfl, Nat.le_of_ble_eq_true rfl⟩) (pre_V hPc hK hDc hN hO (ci := 11) (q0 := 0) rfl rfl) rfl rfl hl.1 rfl (lv_room (Nat.le_of_ble_eq_true rfl)) dX11_open_2 ⟨Nat.le_of_ble_eq_true rfl, Nat.le_of_ble_eq_true rfl⟩) hP hD hS hA [0, 1] [] rfl rfl (by decide) (by decide) (fun u2 H locs hP hD hS => ?_)
  have hP : va_P D vwCl [((r 0), .inr (11, fX r 0 0)), ((r 3), .inl (c 4, 11, .inr (.inr (.inr (.inr (fun _ => none))))))] H := hP
  have hD : va_D A [((r 0), .inr (11, fX r 0 0)), ((r 3), .inl (c 4, 11, .inr (.inr (.inr (.inr (fun _ => none))))))] := hD
  refine lv_astoreN (lv' := [(4, .null), (0, .ref (r 0)), (1, .int p0), (2, .int d), (3, .int k)]) hx hb dX11_open_5 hl (by decide) rfl (fun ls hl => ?_)
  refine lv_aloadN hx hb dX11_open_7 (lv_at hl 0 rfl) ?_
  refine lv_ifnullN (tgt := 57) hx hb dX11_open_9 (by decide) ?_
  refine lv_iconst (v := (-1)) hx hb dX11_open_57 (by decide) ?_
  exact rt_i hx hb hr hlocks hK hP hD hS rfl dX11_open_58 () [] rfl rfl rfl
set_option maxHeartbeats 4000000 in
set_option maxRecDepth 100000 in
/-- X11_free -/
theorem c_X11_free (l : Launch) (D : va_G) (c : Nat → ClassId) (sz : Nat) (r : Nat → Nat) (p0 : Int32) (d : Int32) (b : Int32) : Met l yX11_free (.code yX11_free cX11_free 6 (some .boolean) :: Wd) ({ frames := 1, cells := 0, slots := 0, locals := 21 }) (va_Pc [.ref (r 0), .int p0, .int d, .int b] (WB D c [((r 0), .inr (11, fX r 0 0)), ((r 3), .inl (c 4, 11, .inr (.inr (.inr (.inr (fun _ => none))))))] sz)) (QI (S := Unit) D c (fun q _ => q = 0) (fun _ => []) (va_A [((r 0), .inr (11, fX r 0 0)), ((r 3), .inl (c 4, 11, .inr (.inr (.inr (.inr (fun _ => none))))))] sz)) 0 0 (va_A [((r 0), .inr (11, fX r 0 0)), ((r 3), .inl (c 4, 11, .inr (.inr (.inr (.inr (fun _ => none))))))] sz) := by
  refine kz_met (Qc := QI (S := Unit) D c (fun q _ => q = 0) (fun _ => [])) (by decide) (Nat.le_of_ble_eq_true rfl) ?_
  intro p e s m below meth cd A ls H locs hx hb hr hml hts hown hlocks hin hN hO hK hP hD hS hA hl
  have hl : lv_has ls 6 [(0, .ref (r 0)), (1, .int p0), (2, .int d), (3, .int b)] := hl
  have hown : s.vm.findClass RX11 = some m.cls := hown
  refine lv_aload_n hx hb dX11_free_0 rfl (lv_at hl 0 rfl) ?_
  refine lv_iload_n hx hb dX11_free_1 rfl (lv_at hl 1 rfl) ?_
  have hPc := hP.sub (ws' := [((r 0), .inr (11, fX r 0 0)), ((r 3), .inl (c 4, 11, .inr (.inr (.inr (.inr (fun _ => none))))))]) [0, 1] rfl
  have hDc := hD.sub (ws' := [((r 0), .inr (11, fX r 0 0)), ((r 3), .inl (c 4, 11, .inr (.inr (.inr (.inr (fun _ => none))))))]) [0, 1] (by decide) rfl
  refine cl_n (wr := []) (va_runV (As := [.int p0]) (rest := []) ⟨hx, hb, hml, hown, hts⟩ (c_X11_poolAt l D c H.size r 0 p0) (kw_V 1 hts wd_581 wd_583 wd_4 wd_83 wd_584 rfl rfl (by decide +kernel) ⟨Nat.le_of_ble_eq_true rfl, Nat.le_of_ble_eq_true rfl⟩) (pre_V hPc hK hDc hN hO (ci := 11) (q0 := 0) rfl rfl) rfl rfl hl.1 rfl (lv_room (Nat.le_of_ble_eq_true rfl)) dX11_free_2 ⟨Nat.le_of_ble_eq_true rfl, Nat.le_of_ble_eq_true rfl⟩) hP hD hS hA [0, 1] [] rfl rfl (by decide) (by decide) (fun u2 H locs hP hD hS => ?_)
  have hP : va_P D vwCl [((r 0), .inr (11, fX r 0 0)), ((r 3), .inl (c 4, 11, .inr (.inr (.inr (.inr (fun _ => none))))))] H := hP
  have hD : va_D A [((r 0), .inr (11, fX r 0 0)), ((r 3), .inl (c 4, 11, .inr (.inr (.inr (.inr (fun _ => none))))))] := hD
  refine lv_astoreN (lv' := [(4, .null), (0, .ref (r 0)), (1, .int p0), (2, .int d), (3, .int b)]) hx hb dX11_free_5 hl (by decide) rfl (fun ls hl => ?_)
  refine lv_iload_n hx hb dX11_free_7 rfl (lv_at hl 4 rfl) ?_
  refine lv_if_eq (tgt := 15) hx hb dX11_free_8 (by decide) (fun c4 => ?_) (fun c4 => ?_)
  · subst c4
    refine lv_iconst (v := 0) hx hb dX11_free_15 (by decide) ?_
    refine lv_istore (lv' := [(5, .int 0), (4, .null), (0, .ref (r 0)), (1, .int p0), (2, .int d), (3, .int 0)]) hx hb dX11_free_16 hl (by decide) rfl (fun ls hl => ?_)
    refine lv_aload_n hx hb dX11_free_18 rfl (lv_at hl 2 rfl) ?_
    have hPc := hP.sub (ws' := [((r 0), .inr (11, fX r 0 0))]) [0] rfl
    have hDc := hD.sub (ws' := [((r 0), .inr (11, fX r 0 0))]) [0] (by decide) rfl
    refine cl_i (wr := [((r 3), .inl (c 4, 11, .inr (.inr (.inr (.inr (fun _ => none))))))]) (va_runV (As := []) (rest := []) ⟨hx, hb, hml, hown, hts⟩ (c_X11_atEnd l D c H.size r 0) (kw_V 0 hts wd_322 wd_324 wd_0 wd_83 wd_325 rfl rfl (by decide +kernel) ⟨Nat.le_of_ble_eq_true rfl, Nat.le_of_ble_eq_true rfl⟩) (pre_V hPc hK hDc hN hO (ci := 11) (q0 := 0) rfl rfl) rfl rfl hl.1 rfl (lv_room (Nat.le_of_ble_eq_true rfl)) dX11_free_19 ⟨Nat.le_of_ble_eq_true rfl, Nat.le_of_ble_eq_true rfl⟩) hP hD hS hA [0] [1] rfl rfl (by decide) (by decide) (fun r5 u6 H locs h7 hP hD hS => ?_)
    have hP : va_P D vwCl [((r 3), .inl (c 4, 11, .inr (.inr (.inr (.inr (fun _ => none)))))), ((r 0), .inr (11, fX r 0 0))] H := hP
    have hD : va_D A [((r 3), .inl (c 4, 11, .inr (.inr (.inr (.inr (fun _ => none)))))), ((r 0), .inr (11, fX r 0 0))] := hD
    obtain rfl : r5 = 0 := h7
    refine lv_if_ne (tgt := 51) hx hb dX11_free_22 (by decide) (fun c => False.elim (by revert c; decide)) (fun _ => ?_)
    refine lv_aloadN hx hb dX11_free_25 (lv_at hl 1 rfl) ?_
    refine lv_ifnullN (tgt := 51) hx hb dX11_free_27 (by decide) ?_
    refine lv_iconst (v := 0) hx hb dX11_free_51 (by decide) ?_
    exact rt_i hx hb hr hlocks hK hP hD hS rfl dX11_free_52 () [] rfl rfl rfl
  · refine lv_iconst (v := 1) hx hb dX11_free_11 (by decide) ?_
    refine lv_goto (tgt := 16) hx hb dX11_free_12 (by decide) ?_
    refine lv_istore (lv' := [(5, .int 1), (4, .null), (0, .ref (r 0)), (1, .int p0), (2, .int d), (3, .int b)]) hx hb dX11_free_16 hl (by decide) rfl (fun ls hl => ?_)
    refine lv_aload_n hx hb dX11_free_18 rfl (lv_at hl 2 rfl) ?_
    have hPc := hP.sub (ws' := [((r 0), .inr (11, fX r 0 0))]) [0] rfl
    have hDc := hD.sub (ws' := [((r 0), .inr (11, fX r 0 0))]) [0] (by decide) rfl
    refine cl_i (wr := [((r 3), .inl (c 4, 11, .inr (.inr (.inr (.inr (fun _ => none))))))]) (va_runV (As := []) (rest := []) ⟨hx, hb, hml, hown, hts⟩ (c_X11_atEnd l D c H.size r 0) (kw_V 0 hts wd_322 wd_324 wd_0 wd_83 wd_325 rfl rfl (by decide +kernel) ⟨Nat.le_of_ble_eq_true rfl, Nat.le_of_ble_eq_true rfl⟩) (pre_V hPc hK hDc hN hO (ci := 11) (q0 := 0) rfl rfl) rfl rfl hl.1 rfl (lv_room (Nat.le_of_ble_eq_true rfl)) dX11_free_19 ⟨Nat.le_of_ble_eq_true rfl, Nat.le_of_ble_eq_true rfl⟩) hP hD hS hA [0] [1] rfl rfl (by decide) (by decide) (fun r8 u9 H locs h10 hP hD hS => ?_)
    have hP : va_P D vwCl [((r 3), .inl (c 4, 11, .inr (.inr (.inr (.inr (fun _ => none)))))), ((r 0), .inr (11, fX r 0 0))] H := hP
    have hD : va_D A [((r 3), .inl (c 4, 11, .inr (.inr (.inr (.inr (fun _ => none)))))), ((r 0), .inr (11, fX r 0 0))] := hD
    obtain rfl : r8 = 0 := h10
    refine lv_if_ne (tgt := 51) hx hb dX11_free_22 (by decide) (fun c => False.elim (by revert c; decide)) (fun _ => ?_)
    refine lv_aloadN hx hb dX11_free_25 (lv_at hl 1 rfl) ?_
    refine lv_ifnullN (tgt := 51) hx hb dX11_free_27 (by decide) ?_
    refine lv_iconst (v := 0) hx hb dX11_free_51 (by decide) ?_
    exact rt_i hx hb hr hlocks hK hP hD hS rfl dX11_free_52 () [] rfl rfl rfl
set_option maxHeartbeats 4000000 in
set_option maxRecDepth 100000 in
/-- X11_low -/
theorem c_X11_low (l : Launch) (D : va_G) (c : Nat → ClassId) (sz : Nat) (r : Nat → Nat) (p0 : Int32) (d : Int32) : Met l yX11_low (.code yX11_low cX11_low 4 (some .int) :: Wd) ({ frames := 1, cells := 0, slots := 0, locals := 21 }) (va_Pc [.ref (r 0), .int p0, .int d] (WB D c [((r 0), .inr (11, fX r 0 0)), ((r 3), .inl (c 4, 11, .inr (.inr (.inr (.inr (fun _ => none))))))] sz)) (QI (S := Unit) D c (fun q _ => q = -1) (fun _ => []) (va_A [((r 0), .inr (11, fX r 0 0)), ((r 3), .inl (c 4, 11, .inr (.inr (.inr (.inr (fun _ => none))))))] sz)) 0 0 (va_A [((r 0), .inr (11, fX r 0 0)), ((r 3), .inl (c 4, 11, .inr (.inr (.inr (.inr (fun _ => none))))))] sz) := by
  refine kz_met (Qc := QI (S := Unit) D c (fun q _ => q = -1) (fun _ => [])) (by decide) (Nat.le_of_ble_eq_true rfl) ?_
  intro p e s m below meth cd A ls H locs hx hb hr hml hts hown hlocks hin hN hO hK hP hD hS hA hl
  have hl : lv_has ls 4 [(0, .ref (r 0)), (1, .int p0), (2, .int d)] := hl
  have hown : s.vm.findClass RX11 = some m.cls := hown
  refine lv_aload_n hx hb dX11_low_0 rfl (lv_at hl 0 rfl) ?_
  refine lv_iload_n hx hb dX11_low_1 rfl (lv_at hl 1 rfl) ?_
  have hPc := hP.sub (ws' := [((r 0), .inr (11, fX r 0 0)), ((r 3), .inl (c 4, 11, .inr (.inr (.inr (.inr (fun _ => none))))))]) [0, 1] rfl
  have hDc := hD.sub (ws' := [((r 0), .inr (11, fX r 0 0)), ((r 3), .inl (c 4, 11, .inr (.inr (.inr (.inr (fun _ => none))))))]) [0, 1] (by decide) rfl
  refine cl_n (wr := []) (va_runV (As := [.int p0]) (rest := []) ⟨hx, hb, hml, hown, hts⟩ (c_X11_poolAt l D c H.size r 0 p0) (kw_V 1 hts wd_581 wd_583 wd_4 wd_83 wd_584 rfl rfl (by decide +kernel) ⟨Nat.le_of_ble_eq_true rfl, Nat.le_of_ble_eq_true rfl⟩) (pre_V hPc hK hDc hN hO (ci := 11) (q0 := 0) rfl rfl) rfl rfl hl.1 rfl (lv_room (Nat.le_of_ble_eq_true rfl)) dX11_low_2 ⟨Nat.le_of_ble_eq_true rfl, Nat.le_of_ble_eq_true rfl⟩) hP hD hS hA [0, 1] [] rfl rfl (by decide) (by decide) (fun u2 H locs hP hD hS => ?_)
  have hP : va_P D vwCl [((r 0), .inr (11, fX r 0 0)), ((r 3), .inl (c 4, 11, .inr (.inr (.inr (.inr (fun _ => none))))))] H := hP
  have hD : va_D A [((r 0), .inr (11, fX r 0 0)), ((r 3), .inl (c 4, 11, .inr (.inr (.inr (.inr (fun _ => none))))))] := hD
  refine lv_astore_nN (lv' := [(3, .null), (0, .ref (r 0)), (1, .int p0), (2, .int d)]) hx hb dX11_low_5 rfl hl (by decide) rfl (fun ls hl => ?_)
  refine lv_aload_nN hx hb dX11_low_6 rfl (lv_at hl 0 rfl) ?_
  refine lv_ifnullN (tgt := 17) hx hb dX11_low_7 (by decide) ?_
  refine lv_iconst (v := (-1)) hx hb dX11_low_17 (by decide) ?_
  exact rt_i hx hb hr hlocks hK hP hD hS rfl dX11_low_18 () [] rfl rfl rfl
set_option maxHeartbeats 4000000 in
set_option maxRecDepth 100000 in
/-- X11_plan -/
theorem c_X11_plan (l : Launch) (D : va_G) (c : Nat → ClassId) (sz : Nat) (r : Nat → Nat) (s0 : Int32) (d : Int32) (n : Int32) (g : Int32) (b : Int32) : Met l yX11_plan (.code yX11_plan cX11_plan 10 (some .int) :: Wd) ({ frames := 1, cells := 0, slots := 0, locals := 22 }) (va_Pc [.ref (r 0), .int s0, .int d, .int n, .int g, .int b] (WB D c [((r 0), .inr (11, fX r 0 0))] sz)) (QI (S := Unit) D c (fun q _ => q = -1) (fun _ => []) (va_A [((r 0), .inr (11, fX r 0 0))] sz)) 0 0 (va_A [((r 0), .inr (11, fX r 0 0))] sz) := by
  refine kz_met (Qc := QI (S := Unit) D c (fun q _ => q = -1) (fun _ => [])) (by decide) (Nat.le_of_ble_eq_true rfl) ?_
  intro p e s m below meth cd A ls H locs hx hb hr hml hts hown hlocks hin hN hO hK hP hD hS hA hl
  have hl : lv_has ls 10 [(0, .ref (r 0)), (1, .int s0), (2, .int d), (3, .int n), (4, .int g), (5, .int b)] := hl
  have hown : s.vm.findClass RX11 = some m.cls := hown
  refine lv_iload_n hx hb dX11_plan_0 rfl (lv_at hl 3 rfl) ?_
  refine lv_iconst (v := 1) hx hb dX11_plan_1 (by decide) ?_
  refine lv_bipush (v := 6) hx hb dX11_plan_2 (by decide) ?_
  have hPc := hP.sub (ws' := []) [] rfl
  have hDc := hD.sub (ws' := []) [] (by decide) rfl
  refine cl_i (wr := [((r 0), .inr (11, fX r 0 0))]) (va_runS (As := [.int n, .int 1, .int 6]) (rest := []) ⟨hx, hb, hml, hown, hts⟩ (c_X11_within l D c H.size n 1 6) (kw_S 3 hts wd_347 wd_331 wd_83 wd_332 rfl rfl (by decide +kernel) ⟨Nat.le_of_ble_eq_true rfl, Nat.le_of_ble_eq_true rfl⟩) (pre_S hPc hK hDc hN hO) rfl rfl hl.1 rfl (lv_room (Nat.le_of_ble_eq_true rfl)) dX11_plan_4 ⟨Nat.le_of_ble_eq_true rfl, Nat.le_of_ble_eq_true rfl⟩) hP hD hS hA [] [0] rfl rfl (by decide) (by decide) (fun r1 u2 H locs h3 hP hD hS => ?_)
  have hP : va_P D vwCl [((r 0), .inr (11, fX r 0 0))] H := hP
  have hD : va_D A [((r 0), .inr (11, fX r 0 0))] := hD
  rcases inB_c h3 with ⟨h4, rfl⟩ | ⟨h4, rfl⟩
  · refine lv_if_eq (tgt := 36) hx hb dX11_plan_7 (by decide) (fun c => False.elim (by revert c; decide)) (fun _ => ?_)
    refine lv_iload hx hb dX11_plan_10 (lv_at hl 4 rfl) ?_
    refine lv_iconst (v := 1) hx hb dX11_plan_12 (by decide) ?_
    refine lv_iconst (v := 3) hx hb dX11_plan_13 (by decide) ?_
    have hPc := hP.sub (ws' := []) [] rfl
    have hDc := hD.sub (ws' := []) [] (by decide) rfl
    refine cl_i (wr := [((r 0), .inr (11, fX r 0 0))]) (va_runS (As := [.int g, .int 1, .int 3]) (rest := []) ⟨hx, hb, hml, hown, hts⟩ (c_X11_within l D c H.size g 1 3) (kw_S 3 hts wd_347 wd_331 wd_83 wd_332 rfl rfl (by decide +kernel) ⟨Nat.le_of_ble_eq_true rfl, Nat.le_of_ble_eq_true rfl⟩) (pre_S hPc hK hDc hN hO) rfl rfl hl.1 rfl (lv_room (Nat.le_of_ble_eq_true rfl)) dX11_plan_14 ⟨Nat.le_of_ble_eq_true rfl, Nat.le_of_ble_eq_true rfl⟩) hP hD hS hA [] [0] rfl rfl (by decide) (by decide) (fun r5 u6 H locs h7 hP hD hS => ?_)
    have hP : va_P D vwCl [((r 0), .inr (11, fX r 0 0))] H := hP
    have hD : va_D A [((r 0), .inr (11, fX r 0 0))] := hD
    rcases inB_c h7 with ⟨h8, rfl⟩ | ⟨h8, rfl⟩
    · refine lv_if_eq (tgt := 36) hx hb dX11_plan_17 (by decide) (fun c => False.elim (by revert c; decide)) (fun _ => ?_)
      refine lv_iload hx hb dX11_plan_20 (lv_at hl 5 rfl) ?_
      refine lv_iconst (v := 0) hx hb dX11_plan_22 (by decide) ?_
      refine lv_sipush (v := 999) hx hb dX11_plan_23 (by decide) ?_
      have hPc := hP.sub (ws' := []) [] rfl
      have hDc := hD.sub (ws' := []) [] (by decide) rfl
      refine cl_i (wr := [((r 0), .inr (11, fX r 0 0))]) (va_runS (As := [.int b, .int 0, .int 999]) (rest := []) ⟨hx, hb, hml, hown, hts⟩ (c_X11_within l D c H.size b 0 999) (kw_S 3 hts wd_347 wd_331 wd_83 wd_332 rfl rfl (by decide +kernel) ⟨Nat.le_of_ble_eq_true rfl, Nat.le_of_ble_eq_true rfl⟩) (pre_S hPc hK hDc hN hO) rfl rfl hl.1 rfl (lv_room (Nat.le_of_ble_eq_true rfl)) dX11_plan_26 ⟨Nat.le_of_ble_eq_true rfl, Nat.le_of_ble_eq_true rfl⟩) hP hD hS hA [] [0] rfl rfl (by decide) (by decide) (fun r9 u10 H locs h11 hP hD hS => ?_)
      have hP : va_P D vwCl [((r 0), .inr (11, fX r 0 0))] H := hP
      have hD : va_D A [((r 0), .inr (11, fX r 0 0))] := hD
      rcases inB_c h11 with ⟨h12, rfl⟩ | ⟨h12, rfl⟩
      · refine lv_if_eq (tgt := 36) hx hb dX11_plan_29 (by decide) (fun c => False.elim (by revert c; decide)) (fun _ => ?_)
        refine lv_iconst (v := 1) hx hb dX11_plan_32 (by decide) ?_
        refine lv_goto (tgt := 37) hx hb dX11_plan_33 (by decide) ?_
        refine lv_istore (lv' := [(6, .int 1), (0, .ref (r 0)), (1, .int s0), (2, .int d), (3, .int n), (4, .int g), (5, .int b)]) hx hb dX11_plan_37 hl (by decide) rfl (fun ls hl => ?_)
        refine lv_iload_n hx hb dX11_plan_39 rfl (lv_at hl 2 rfl) ?_
        refine lv_if_le (tgt := 65) hx hb dX11_plan_40 (by decide) (fun c13 => ?_) (fun c13 => ?_)
        · refine lv_iconst (v := 0) hx hb dX11_plan_65 (by decide) ?_
          refine lv_istore (lv' := [(7, .int 0), (6, .int 1), (0, .ref (r 0)), (1, .int s0), (2, .int d), (3, .int n), (4, .int g), (5, .int b)]) hx hb dX11_plan_66 hl (by decide) rfl (fun ls hl => ?_)
          refine lv_iload hx hb dX11_plan_68 (lv_at hl 1 rfl) ?_
          refine lv_if_eq (tgt := 112) hx hb dX11_plan_70 (by decide) (fun c => False.elim (by revert c; decide)) (fun _ => ?_)
          refine lv_iload hx hb dX11_plan_73 (lv_at hl 0 rfl) ?_
          refine lv_if_eq (tgt := 112) hx hb dX11_plan_75 (by decide) (fun _ => ?_) (fun c => False.elim (by revert c; decide))
          refine lv_iconst (v := (-1)) hx hb dX11_plan_112 (by decide) ?_
          exact rt_i hx hb hr hlocks hK hP hD hS rfl dX11_plan_113 () [] rfl rfl rfl
        · refine lv_iload_n hx hb dX11_plan_43 rfl (lv_at hl 2 rfl) ?_
          refine lv_iconst (v := 1) hx hb dX11_plan_44 (by decide) ?_
          refine lv_aload_n hx hb dX11_plan_45 rfl (lv_at hl 1 rfl) ?_
          refine va_get (D := D) (ci := 11) (v := .int 0) (C := RX11) (T := TX11) (N := 16) hx hb hts inW_11 hown hK hP 0 rfl rfl 10 (by decide) (hts _ wd_279) (fun _ h9 => h9) rfl dX11_plan_46 ?_
          refine lv_ishl hx hb dX11_plan_49 ?_
          refine lv_topi (fun v14 e15 => ?_)
          obtain rfl : v14 = 1 := e15.trans (by decide)
          refine lv_icmp_ge (tgt := 65) hx hb dX11_plan_50 (by decide) (fun _ => ?_) (fun c => absurd (i32_pos1 c13) c)
          refine lv_iconst (v := 0) hx hb dX11_plan_65 (by decide) ?_
          refine lv_istore (lv' := [(7, .int 0), (6, .int 1), (0, .ref (r 0)), (1, .int s0), (2, .int d), (3, .int n), (4, .int g), (5, .int b)]) hx hb dX11_plan_66 hl (by decide) rfl (fun ls hl => ?_)
          refine lv_iload hx hb dX11_plan_68 (lv_at hl 1 rfl) ?_
          refine lv_if_eq (tgt := 112) hx hb dX11_plan_70 (by decide) (fun c => False.elim (by revert c; decide)) (fun _ => ?_)
          refine lv_iload hx hb dX11_plan_73 (lv_at hl 0 rfl) ?_
          refine lv_if_eq (tgt := 112) hx hb dX11_plan_75 (by decide) (fun _ => ?_) (fun c => False.elim (by revert c; decide))
          refine lv_iconst (v := (-1)) hx hb dX11_plan_112 (by decide) ?_
          exact rt_i hx hb hr hlocks hK hP hD hS rfl dX11_plan_113 () [] rfl rfl rfl
      · refine lv_if_eq (tgt := 36) hx hb dX11_plan_29 (by decide) (fun _ => ?_) (fun c => False.elim (by revert c; decide))
        refine lv_iconst (v := 0) hx hb dX11_plan_36 (by decide) ?_
        refine lv_istore (lv' := [(6, .int 0), (0, .ref (r 0)), (1, .int s0), (2, .int d), (3, .int n), (4, .int g), (5, .int b)]) hx hb dX11_plan_37 hl (by decide) rfl (fun ls hl => ?_)
        refine lv_iload_n hx hb dX11_plan_39 rfl (lv_at hl 2 rfl) ?_
        refine lv_if_le (tgt := 65) hx hb dX11_plan_40 (by decide) (fun c16 => ?_) (fun c16 => ?_)
        · refine lv_iconst (v := 0) hx hb dX11_plan_65 (by decide) ?_
          refine lv_istore (lv' := [(7, .int 0), (6, .int 0), (0, .ref (r 0)), (1, .int s0), (2, .int d), (3, .int n), (4, .int g), (5, .int b)]) hx hb dX11_plan_66 hl (by decide) rfl (fun ls hl => ?_)
          refine lv_iload hx hb dX11_plan_68 (lv_at hl 1 rfl) ?_
          refine lv_if_eq (tgt := 112) hx hb dX11_plan_70 (by decide) (fun _ => ?_) (fun c => False.elim (by revert c; decide))
          refine lv_iconst (v := (-1)) hx hb dX11_plan_112 (by decide) ?_
          exact rt_i hx hb hr hlocks hK hP hD hS rfl dX11_plan_113 () [] rfl rfl rfl
        · refine lv_iload_n hx hb dX11_plan_43 rfl (lv_at hl 2 rfl) ?_
          refine lv_iconst (v := 1) hx hb dX11_plan_44 (by decide) ?_
          refine lv_aload_n hx hb dX11_plan_45 rfl (lv_at hl 1 rfl) ?_
          refine va_get (D := D) (ci := 11) (v := .int 0) (C := RX11) (T := TX11) (N := 16) hx hb hts inW_11 hown hK hP 0 rfl rfl 10 (by decide) (hts _ wd_279) (fun _ h9 => h9) rfl dX11_plan_46 ?_
          refine lv_ishl hx hb dX11_plan_49 ?_
          refine lv_topi (fun v17 e18 => ?_)
          obtain rfl : v17 = 1 := e18.trans (by decide)
          refine lv_icmp_ge (tgt := 65) hx hb dX11_plan_50 (by decide) (fun _ => ?_) (fun c => absurd (i32_pos1 c16) c)
          refine lv_iconst (v := 0) hx hb dX11_plan_65 (by decide) ?_
          refine lv_istore (lv' := [(7, .int 0), (6, .int 0), (0, .ref (r 0)), (1, .int s0), (2, .int d), (3, .int n), (4, .int g), (5, .int b)]) hx hb dX11_plan_66 hl (by decide) rfl (fun ls hl => ?_)
          refine lv_iload hx hb dX11_plan_68 (lv_at hl 1 rfl) ?_
          refine lv_if_eq (tgt := 112) hx hb dX11_plan_70 (by decide) (fun _ => ?_) (fun c => False.elim (by revert c; decide))
          refine lv_iconst (v := (-1)) hx hb dX11_plan_112 (by decide) ?_
          exact rt_i hx hb hr hlocks hK hP hD hS rfl dX11_plan_113 () [] rfl rfl rfl
    · refine lv_if_eq (tgt := 36) hx hb dX11_plan_17 (by decide) (fun _ => ?_) (fun c => False.elim (by revert c; decide))
      refine lv_iconst (v := 0) hx hb dX11_plan_36 (by decide) ?_
      refine lv_istore (lv' := [(6, .int 0), (0, .ref (r 0)), (1, .int s0), (2, .int d), (3, .int n), (4, .int g), (5, .int b)]) hx hb dX11_plan_37 hl (by decide) rfl (fun ls hl => ?_)
      refine lv_iload_n hx hb dX11_plan_39 rfl (lv_at hl 2 rfl) ?_
      refine lv_if_le (tgt := 65) hx hb dX11_plan_40 (by decide) (fun c19 => ?_) (fun c19 => ?_)
      · refine lv_iconst (v := 0) hx hb dX11_plan_65 (by decide) ?_
        refine lv_istore (lv' := [(7, .int 0), (6, .int 0), (0, .ref (r 0)), (1, .int s0), (2, .int d), (3, .int n), (4, .int g), (5, .int b)]) hx hb dX11_plan_66 hl (by decide) rfl (fun ls hl => ?_)
        refine lv_iload hx hb dX11_plan_68 (lv_at hl 1 rfl) ?_
        refine lv_if_eq (tgt := 112) hx hb dX11_plan_70 (by decide) (fun _ => ?_) (fun c => False.elim (by revert c; decide))
        refine lv_iconst (v := (-1)) hx hb dX11_plan_112 (by decide) ?_
        exact rt_i hx hb hr hlocks hK hP hD hS rfl dX11_plan_113 () [] rfl rfl rfl
      · refine lv_iload_n hx hb dX11_plan_43 rfl (lv_at hl 2 rfl) ?_
        refine lv_iconst (v := 1) hx hb dX11_plan_44 (by decide) ?_
        refine lv_aload_n hx hb dX11_plan_45 rfl (lv_at hl 1 rfl) ?_
        refine va_get (D := D) (ci := 11) (v := .int 0) (C := RX11) (T := TX11) (N := 16) hx hb hts inW_11 hown hK hP 0 rfl rfl 10 (by decide) (hts _ wd_279) (fun _ h9 => h9) rfl dX11_plan_46 ?_
        refine lv_ishl hx hb dX11_plan_49 ?_
        refine lv_topi (fun v20 e21 => ?_)
        obtain rfl : v20 = 1 := e21.trans (by decide)
        refine lv_icmp_ge (tgt := 65) hx hb dX11_plan_50 (by decide) (fun _ => ?_) (fun c => absurd (i32_pos1 c19) c)
        refine lv_iconst (v := 0) hx hb dX11_plan_65 (by decide) ?_
        refine lv_istore (lv' := [(7, .int 0), (6, .int 0), (0, .ref (r 0)), (1, .int s0), (2, .int d), (3, .int n), (4, .int g), (5, .int b)]) hx hb dX11_plan_66 hl (by decide) rfl (fun ls hl => ?_)
        refine lv_iload hx hb dX11_plan_68 (lv_at hl 1 rfl) ?_
        refine lv_if_eq (tgt := 112) hx hb dX11_plan_70 (by decide) (fun _ => ?_) (fun c => False.elim (by revert c; decide))
        refine lv_iconst (v := (-1)) hx hb dX11_plan_112 (by decide) ?_
        exact rt_i hx hb hr hlocks hK hP hD hS rfl dX11_plan_113 () [] rfl rfl rfl
  · refine lv_if_eq (tgt := 36) hx hb dX11_plan_7 (by decide) (fun _ => ?_) (fun c => False.elim (by revert c; decide))
    refine lv_iconst (v := 0) hx hb dX11_plan_36 (by decide) ?_
    refine lv_istore (lv' := [(6, .int 0), (0, .ref (r 0)), (1, .int s0), (2, .int d), (3, .int n), (4, .int g), (5, .int b)]) hx hb dX11_plan_37 hl (by decide) rfl (fun ls hl => ?_)
    refine lv_iload_n hx hb dX11_plan_39 rfl (lv_at hl 2 rfl) ?_
    refine lv_if_le (tgt := 65) hx hb dX11_plan_40 (by decide) (fun c22 => ?_) (fun c22 => ?_)
    · refine lv_iconst (v := 0) hx hb dX11_plan_65 (by decide) ?_
      refine lv_istore (lv' := [(7, .int 0), (6, .int 0), (0, .ref (r 0)), (1, .int s0), (2, .int d), (3, .int n), (4, .int g), (5, .int b)]) hx hb dX11_plan_66 hl (by decide) rfl (fun ls hl => ?_)
      refine lv_iload hx hb dX11_plan_68 (lv_at hl 1 rfl) ?_
      refine lv_if_eq (tgt := 112) hx hb dX11_plan_70 (by decide) (fun _ => ?_) (fun c => False.elim (by revert c; decide))
      refine lv_iconst (v := (-1)) hx hb dX11_plan_112 (by decide) ?_
      exact rt_i hx hb hr hlocks hK hP hD hS rfl dX11_plan_113 () [] rfl rfl rfl
    · refine lv_iload_n hx hb dX11_plan_43 rfl (lv_at hl 2 rfl) ?_
      refine lv_iconst (v := 1) hx hb dX11_plan_44 (by decide) ?_
      refine lv_aload_n hx hb dX11_plan_45 rfl (lv_at hl 1 rfl) ?_
      refine va_get (D := D) (ci := 11) (v := .int 0) (C := RX11) (T := TX11) (N := 16) hx hb hts inW_11 hown hK hP 0 rfl rfl 10 (by decide) (hts _ wd_279) (fun _ h9 => h9) rfl dX11_plan_46 ?_
      refine lv_ishl hx hb dX11_plan_49 ?_
      refine lv_topi (fun v23 e24 => ?_)
      obtain rfl : v23 = 1 := e24.trans (by decide)
      refine lv_icmp_ge (tgt := 65) hx hb dX11_plan_50 (by decide) (fun _ => ?_) (fun c => absurd (i32_pos1 c22) c)
      refine lv_iconst (v := 0) hx hb dX11_plan_65 (by decide) ?_
      refine lv_istore (lv' := [(7, .int 0), (6, .int 0), (0, .ref (r 0)), (1, .int s0), (2, .int d), (3, .int n), (4, .int g), (5, .int b)]) hx hb dX11_plan_66 hl (by decide) rfl (fun ls hl => ?_)
      refine lv_iload hx hb dX11_plan_68 (lv_at hl 1 rfl) ?_
      refine lv_if_eq (tgt := 112) hx hb dX11_plan_70 (by decide) (fun _ => ?_) (fun c => False.elim (by revert c; decide))
      refine lv_iconst (v := (-1)) hx hb dX11_plan_112 (by decide) ?_
      exact rt_i hx hb hr hlocks hK hP hD hS rfl dX11_plan_113 () [] rfl rfl rfl
set_option maxHeartbeats 4000000 in
set_option maxRecDepth 100000 in
/-- X11_planned -/
theorem c_X11_planned (l : Launch) (D : va_G) (c : Nat → ClassId) (sz : Nat) (r : Nat → Nat) (p0 : Int32) : Met l yX11_planned (.code yX11_planned cX11_planned 2 (some .int) :: Wd) ({ frames := 1, cells := 0, slots := 0, locals := 22 }) (va_Pc [.ref (r 0), .int p0] (WB D c [((r 0), .inr (11, fX r 0 0))] sz)) (QI (S := Unit) D c (fun q _ => q = -1) (fun _ => []) (va_A [((r 0), .inr (11, fX r 0 0))] sz)) 0 0 (va_A [((r 0), .inr (11, fX r 0 0))] sz) := by
  refine kz_met (Qc := QI (S := Unit) D c (fun q _ => q = -1) (fun _ => [])) (by decide) (Nat.le_of_ble_eq_true rfl) ?_
  intro p e s m below meth cd A ls H locs hx hb hr hml hts hown hlocks hin hN hO hK hP hD hS hA hl
  have hl : lv_has ls 2 [(0, .ref (r 0)), (1, .int p0)] := hl
  have hown : s.vm.findClass RX11 = some m.cls := hown
  refine lv_iload_n hx hb dX11_planned_0 rfl (lv_at hl 1 rfl) ?_
  refine lv_iconst (v := 0) hx hb dX11_planned_1 (by decide) ?_
  refine lv_aload_n hx hb dX11_planned_2 rfl (lv_at hl 0 rfl) ?_
  refine va_get (D := D) (ci := 11) (v := .int 0) (C := RX11) (T := TX11) (N := 16) hx hb hts inW_11 hown hK hP 0 rfl rfl 10 (by decide) (hts _ wd_279) (fun _ h9 => h9) rfl dX11_planned_3 ?_
  refine lv_iconst (v := 1) hx hb dX11_planned_6 (by decide) ?_
  refine lv_isub hx hb dX11_planned_7 ?_
  refine lv_topi (fun v1 e2 => ?_)
  obtain rfl : v1 = (-1) := e2.trans (by decide)
  have hPc := hP.sub (ws' := []) [] rfl
  have hDc := hD.sub (ws' := []) [] (by decide) rfl
  refine cl_i (wr := [((r 0), .inr (11, fX r 0 0))]) (va_runS (As := [.int p0, .int 0, .int (-1)]) (rest := []) ⟨hx, hb, hml, hown, hts⟩ (c_X11_within l D c H.size p0 0 ((-1))) (kw_S 3 hts wd_347 wd_331 wd_83 wd_332 rfl rfl (by decide +kernel) ⟨Nat.le_of_ble_eq_true rfl, Nat.le_of_ble_eq_true rfl⟩) (pre_S hPc hK hDc hN hO) rfl rfl hl.1 rfl (lv_room (Nat.le_of_ble_eq_true rfl)) dX11_planned_8 ⟨Nat.le_of_ble_eq_true rfl, Nat.le_of_ble_eq_true rfl⟩) hP hD hS hA [] [0] rfl rfl (by decide) (by decide) (fun r3 u4 H locs h5 hP hD hS => ?_)
  have hP : va_P D vwCl [((r 0), .inr (11, fX r 0 0))] H := hP
  have hD : va_D A [((r 0), .inr (11, fX r 0 0))] := hD
  rcases inB_c h5 with ⟨h6, rfl⟩ | ⟨h6, rfl⟩
  · exact absurd h6 (inB_no (by decide))
  · refine lv_if_eq (tgt := 28) hx hb dX11_planned_11 (by decide) (fun _ => ?_) (fun c => False.elim (by revert c; decide))
    refine lv_iconst (v := (-1)) hx hb dX11_planned_28 (by decide) ?_
    exact rt_i hx hb hr hlocks hK hP hD hS rfl dX11_planned_29 () [] rfl rfl rfl
set_option maxHeartbeats 4000000 in
set_option maxRecDepth 100000 in
/-- X11_race -/
theorem c_X11_race (l : Launch) (D : va_G) (c : Nat → ClassId) (sz : Nat) (r : Nat → Nat) (p0 : Int32) (d : Int32) (f : Int32) (n : Int32) (lo : Int32) (hi : Int32) (w : Int32) : Met l yX11_race (.code yX11_race cX11_race 15 (some .int) :: Wd) ({ frames := 2, cells := 0, slots := 0, locals := 42 }) (va_Pc [.ref (r 0), .int p0, .int d, .int f, .int n, .int lo, .int hi, .int w] (WB D c [((r 0), .inr (11, fX r 0 0)), ((r 3), .inl (c 4, 11, .inr (.inr (.inr (.inr (fun _ => none))))))] sz)) (QI (S := Unit) D c (fun q _ => q = -1) (fun _ => []) (va_A [((r 0), .inr (11, fX r 0 0)), ((r 3), .inl (c 4, 11, .inr (.inr (.inr (.inr (fun _ => none))))))] sz)) 0 0 (va_A [((r 0), .inr (11, fX r 0 0)), ((r 3), .inl (c 4, 11, .inr (.inr (.inr (.inr (fun _ => none))))))] sz) := by
  refine kz_met (Qc := QI (S := Unit) D c (fun q _ => q = -1) (fun _ => [])) (by decide) (Nat.le_of_ble_eq_true rfl) ?_
  intro p e s m below meth cd A ls H locs hx hb hr hml hts hown hlocks hin hN hO hK hP hD hS hA hl
  have hl : lv_has ls 15 [(0, .ref (r 0)), (1, .int p0), (2, .int d), (3, .int f), (4, .int n), (5, .int lo), (6, .int hi), (7, .int w)] := hl
  have hown : s.vm.findClass RX11 = some m.cls := hown
  refine lv_aload_n hx hb dX11_race_0 rfl (lv_at hl 0 rfl) ?_
  refine lv_iload_n hx hb dX11_race_1 rfl (lv_at hl 1 rfl) ?_
  have hPc := hP.sub (ws' := [((r 0), .inr (11, fX r 0 0)), ((r 3), .inl (c 4, 11, .inr (.inr (.inr (.inr (fun _ => none))))))]) [0, 1] rfl
  have hDc := hD.sub (ws' := [((r 0), .inr (11, fX r 0 0)), ((r 3), .inl (c 4, 11, .inr (.inr (.inr (.inr (fun _ => none))))))]) [0, 1] (by decide) rfl
  refine cl_n (wr := []) (va_runV (As := [.int p0]) (rest := []) ⟨hx, hb, hml, hown, hts⟩ (c_X11_poolAt l D c H.size r 0 p0) (kw_V 1 hts wd_581 wd_583 wd_4 wd_83 wd_584 rfl rfl (by decide +kernel) ⟨Nat.le_of_ble_eq_true rfl, Nat.le_of_ble_eq_true rfl⟩) (pre_V hPc hK hDc hN hO (ci := 11) (q0 := 0) rfl rfl) rfl rfl hl.1 rfl (lv_room (Nat.le_of_ble_eq_true rfl)) dX11_race_2 ⟨Nat.le_of_ble_eq_true rfl, Nat.le_of_ble_eq_true rfl⟩) hP hD hS hA [0, 1] [] rfl rfl (by decide) (by decide) (fun u2 H locs hP hD hS => ?_)
  have hP : va_P D vwCl [((r 0), .inr (11, fX r 0 0)), ((r 3), .inl (c 4, 11, .inr (.inr (.inr (.inr (fun _ => none))))))] H := hP
  have hD : va_D A [((r 0), .inr (11, fX r 0 0)), ((r 3), .inl (c 4, 11, .inr (.inr (.inr (.inr (fun _ => none))))))] := hD
  refine lv_astoreN (lv' := [(8, .null), (0, .ref (r 0)), (1, .int p0), (2, .int d), (3, .int f), (4, .int n), (5, .int lo), (6, .int hi), (7, .int w)]) hx hb dX11_race_5 hl (by decide) rfl (fun ls hl => ?_)
  refine lv_iload_n hx hb dX11_race_7 rfl (lv_at hl 3 rfl) ?_
  have hPc := hP.sub (ws' := []) [] rfl
  have hDc := hD.sub (ws' := []) [] (by decide) rfl
  refine cl_i (wr := [((r 0), .inr (11, fX r 0 0)), ((r 3), .inl (c 4, 11, .inr (.inr (.inr (.inr (fun _ => none))))))]) (va_runS (As := [.int d]) (rest := []) ⟨hx, hb, hml, hown, hts⟩ (c_X11_isDay l D c H.size d) (kw_S 1 hts wd_912 wd_913 wd_83 wd_914 rfl rfl (by decide +kernel) ⟨Nat.le_of_ble_eq_true rfl, Nat.le_of_ble_eq_true rfl⟩) (pre_S hPc hK hDc hN hO) rfl rfl hl.1 rfl (lv_room (Nat.le_of_ble_eq_true rfl)) dX11_race_8 ⟨Nat.le_of_ble_eq_true rfl, Nat.le_of_ble_eq_true rfl⟩) hP hD hS hA [] [0, 1] rfl rfl (by decide) (by decide) (fun r4 u5 H locs h6 hP hD hS => ?_)
  have hP : va_P D vwCl [((r 0), .inr (11, fX r 0 0)), ((r 3), .inl (c 4, 11, .inr (.inr (.inr (.inr (fun _ => none))))))] H := hP
  have hD : va_D A [((r 0), .inr (11, fX r 0 0)), ((r 3), .inl (c 4, 11, .inr (.inr (.inr (.inr (fun _ => none))))))] := hD
  rcases inB_c h6 with ⟨h7, rfl⟩ | ⟨h7, rfl⟩
  · refine lv_if_eq (tgt := 57) hx hb dX11_race_11 (by decide) (fun c => False.elim (by revert c; decide)) (fun _ => ?_)
    refine lv_iload_n hx hb dX11_race_14 rfl (lv_at hl 3 rfl) ?_
    refine lv_aload_n hx hb dX11_race_15 rfl (lv_at hl 1 rfl) ?_
    have hPc := hP.sub (ws' := [((r 0), .inr (11, fX r 0 0))]) [0] rfl
    have hDc := hD.sub (ws' := [((r 0), .inr (11, fX r 0 0))]) [0] (by decide) rfl
    refine cl_i (wr := [((r 3), .inl (c 4, 11, .inr (.inr (.inr (.inr (fun _ => none))))))]) (va_runV (As := []) (rest := [.int d]) ⟨hx, hb, hml, hown, hts⟩ (c_X11_dayNow l D c H.size r 0) (kw_V 0 hts wd_941 wd_943 wd_31 wd_83 wd_944 rfl rfl (by decide +kernel) ⟨Nat.le_of_ble_eq_true rfl, Nat.le_of_ble_eq_true rfl⟩) (pre_V hPc hK hDc hN hO (ci := 11) (q0 := 0) rfl rfl) rfl rfl hl.1 rfl (lv_room (Nat.le_of_ble_eq_true rfl)) dX11_race_16 ⟨Nat.le_of_ble_eq_true rfl, Nat.le_of_ble_eq_true rfl⟩) hP hD hS hA [0] [1] rfl rfl (by decide) (by decide) (fun r8 u9 H locs h10 hP hD hS => ?_)
    have hP : va_P D vwCl [((r 3), .inl (c 4, 11, .inr (.inr (.inr (.inr (fun _ => none)))))), ((r 0), .inr (11, fX r 0 0))] H := hP
    have hD : va_D A [((r 3), .inl (c 4, 11, .inr (.inr (.inr (.inr (fun _ => none)))))), ((r 0), .inr (11, fX r 0 0))] := hD
    obtain rfl : r8 = 0 := h10
    refine lv_aload_n hx hb dX11_race_19 rfl (lv_at hl 1 rfl) ?_
    have hPc := hP.sub (ws' := [((r 0), .inr (11, fX r 0 0))]) [1] rfl
    have hDc := hD.sub (ws' := [((r 0), .inr (11, fX r 0 0))]) [1] (by decide) rfl
    refine cl_i (wr := [((r 3), .inl (c 4, 11, .inr (.inr (.inr (.inr (fun _ => none))))))]) (va_runV (As := []) (rest := [.int 0, .int d]) ⟨hx, hb, hml, hown, hts⟩ (c_X11_dayNow l D c H.size r 0) (kw_V 0 hts wd_941 wd_943 wd_31 wd_83 wd_944 rfl rfl (by decide +kernel) ⟨Nat.le_of_ble_eq_true rfl, Nat.le_of_ble_eq_true rfl⟩) (pre_V hPc hK hDc hN hO (ci := 11) (q0 := 0) rfl rfl) rfl rfl hl.1 rfl (lv_room (Nat.le_of_ble_eq_true rfl)) dX11_race_20 ⟨Nat.le_of_ble_eq_true rfl, Nat.le_of_ble_eq_true rfl⟩) hP hD hS hA [1] [0] rfl rfl (by decide) (by decide) (fun r11 u12 H locs h13 hP hD hS => ?_)
    have hP : va_P D vwCl [((r 3), .inl (c 4, 11, .inr (.inr (.inr (.inr (fun _ => none)))))), ((r 0), .inr (11, fX r 0 0))] H := hP
    have hD : va_D A [((r 3), .inl (c 4, 11, .inr (.inr (.inr (.inr (fun _ => none)))))), ((r 0), .inr (11, fX r 0 0))] := hD
    obtain rfl : r11 = 0 := h13
    refine lv_bipush (v := 9) hx hb dX11_race_23 (by decide) ?_
    refine lv_iadd hx hb dX11_race_25 ?_
    refine lv_topi (fun v14 e15 => ?_)
    obtain rfl : v14 = 9 := e15.trans (by decide)
    have hPc := hP.sub (ws' := []) [] rfl
    have hDc := hD.sub (ws' := []) [] (by decide) rfl
    refine cl_i (wr := [((r 3), .inl (c 4, 11, .inr (.inr (.inr (.inr (fun _ => none)))))), ((r 0), .inr (11, fX r 0 0))]) (va_runS (As := [.int d, .int 0, .int 9]) (rest := []) ⟨hx, hb, hml, hown, hts⟩ (c_X11_within l D c H.size d 0 9) (kw_S 3 hts wd_347 wd_331 wd_83 wd_332 rfl rfl (by decide +kernel) ⟨Nat.le_of_ble_eq_true rfl, Nat.le_of_ble_eq_true rfl⟩) (pre_S hPc hK hDc hN hO) rfl rfl hl.1 rfl (lv_room (Nat.le_of_ble_eq_true rfl)) dX11_race_26 ⟨Nat.le_of_ble_eq_true rfl, Nat.le_of_ble_eq_true rfl⟩) hP hD hS hA [] [0, 1] rfl rfl (by decide) (by decide) (fun r16 u17 H locs h18 hP hD hS => ?_)
    have hP : va_P D vwCl [((r 3), .inl (c 4, 11, .inr (.inr (.inr (.inr (fun _ => none)))))), ((r 0), .inr (11, fX r 0 0))] H := hP
    have hD : va_D A [((r 3), .inl (c 4, 11, .inr (.inr (.inr (.inr (fun _ => none)))))), ((r 0), .inr (11, fX r 0 0))] := hD
    rcases inB_c h18 with ⟨h19, rfl⟩ | ⟨h19, rfl⟩
    · refine lv_if_eq (tgt := 57) hx hb dX11_race_29 (by decide) (fun c => False.elim (by revert c; decide)) (fun _ => ?_)
      refine lv_iload_n hx hb dX11_race_32 rfl (lv_at hl 4 rfl) ?_
      refine lv_iconst (v := 0) hx hb dX11_race_33 (by decide) ?_
      refine lv_bipush (v := 23) hx hb dX11_race_34 (by decide) ?_
      have hPc := hP.sub (ws' := []) [] rfl
      have hDc := hD.sub (ws' := []) [] (by decide) rfl
      refine cl_i (wr := [((r 3), .inl (c 4, 11, .inr (.inr (.inr (.inr (fun _ => none)))))), ((r 0), .inr (11, fX r 0 0))]) (va_runS (As := [.int f, .int 0, .int 23]) (rest := []) ⟨hx, hb, hml, hown, hts⟩ (c_X11_within l D c H.size f 0 23) (kw_S 3 hts wd_347 wd_331 wd_83 wd_332 rfl rfl (by decide +kernel) ⟨Nat.le_of_ble_eq_true rfl, Nat.le_of_ble_eq_true rfl⟩) (pre_S hPc hK hDc hN hO) rfl rfl hl.1 rfl (lv_room (Nat.le_of_ble_eq_true rfl)) dX11_race_36 ⟨Nat.le_of_ble_eq_true rfl, Nat.le_of_ble_eq_true rfl⟩) hP hD hS hA [] [0, 1] rfl rfl (by decide) (by decide) (fun r20 u21 H locs h22 hP hD hS => ?_)
      have hP : va_P D vwCl [((r 3), .inl (c 4, 11, .inr (.inr (.inr (.inr (fun _ => none)))))), ((r 0), .inr (11, fX r 0 0))] H := hP
      have hD : va_D A [((r 3), .inl (c 4, 11, .inr (.inr (.inr (.inr (fun _ => none)))))), ((r 0), .inr (11, fX r 0 0))] := hD
      rcases inB_c h22 with ⟨h23, rfl⟩ | ⟨h23, rfl⟩
      · refine lv_if_eq (tgt := 57) hx hb dX11_race_39 (by decide) (fun c => False.elim (by revert c; decide)) (fun _ => ?_)
        refine lv_iload hx hb dX11_race_42 (lv_at hl 5 rfl) ?_
        refine lv_iconst (v := 1) hx hb dX11_race_44 (by decide) ?_
        refine lv_bipush (v := 6) hx hb dX11_race_45 (by decide) ?_
        have hPc := hP.sub (ws' := []) [] rfl
        have hDc := hD.sub (ws' := []) [] (by decide) rfl
        refine cl_i (wr := [((r 3), .inl (c 4, 11, .inr (.inr (.inr (.inr (fun _ => none)))))), ((r 0), .inr (11, fX r 0 0))]) (va_runS (As := [.int n, .int 1, .int 6]) (rest := []) ⟨hx, hb, hml, hown, hts⟩ (c_X11_within l D c H.size n 1 6) (kw_S 3 hts wd_347 wd_331 wd_83 wd_332 rfl rfl (by decide +kernel) ⟨Nat.le_of_ble_eq_true rfl, Nat.le_of_ble_eq_true rfl⟩) (pre_S hPc hK hDc hN hO) rfl rfl hl.1 rfl (lv_room (Nat.le_of_ble_eq_true rfl)) dX11_race_47 ⟨Nat.le_of_ble_eq_true rfl, Nat.le_of_ble_eq_true rfl⟩) hP hD hS hA [] [0, 1] rfl rfl (by decide) (by decide) (fun r24 u25 H locs h26 hP hD hS => ?_)
        have hP : va_P D vwCl [((r 3), .inl (c 4, 11, .inr (.inr (.inr (.inr (fun _ => none)))))), ((r 0), .inr (11, fX r 0 0))] H := hP
        have hD : va_D A [((r 3), .inl (c 4, 11, .inr (.inr (.inr (.inr (fun _ => none)))))), ((r 0), .inr (11, fX r 0 0))] := hD
        rcases inB_c h26 with ⟨h27, rfl⟩ | ⟨h27, rfl⟩
        · refine lv_if_eq (tgt := 57) hx hb dX11_race_50 (by decide) (fun c => False.elim (by revert c; decide)) (fun _ => ?_)
          refine lv_iconst (v := 1) hx hb dX11_race_53 (by decide) ?_
          refine lv_goto (tgt := 58) hx hb dX11_race_54 (by decide) ?_
          refine lv_istore (lv' := [(9, .int 1), (8, .null), (0, .ref (r 0)), (1, .int p0), (2, .int d), (3, .int f), (4, .int n), (5, .int lo), (6, .int hi), (7, .int w)]) hx hb dX11_race_58 hl (by decide) rfl (fun ls hl => ?_)
          refine lv_iload hx hb dX11_race_60 (lv_at hl 7 rfl) ?_
          refine lv_iconst (v := 0) hx hb dX11_race_62 (by decide) ?_
          refine lv_sipush (v := 1200) hx hb dX11_race_63 (by decide) ?_
          have hPc := hP.sub (ws' := []) [] rfl
          have hDc := hD.sub (ws' := []) [] (by decide) rfl
          refine cl_i (wr := [((r 3), .inl (c 4, 11, .inr (.inr (.inr (.inr (fun _ => none)))))), ((r 0), .inr (11, fX r 0 0))]) (va_runS (As := [.int lo, .int 0, .int 1200]) (rest := []) ⟨hx, hb, hml, hown, hts⟩ (c_X11_within l D c H.size lo 0 1200) (kw_S 3 hts wd_347 wd_331 wd_83 wd_332 rfl rfl (by decide +kernel) ⟨Nat.le_of_ble_eq_true rfl, Nat.le_of_ble_eq_true rfl⟩) (pre_S hPc hK hDc hN hO) rfl rfl hl.1 rfl (lv_room (Nat.le_of_ble_eq_true rfl)) dX11_race_66 ⟨Nat.le_of_ble_eq_true rfl, Nat.le_of_ble_eq_true rfl⟩) hP hD hS hA [] [0, 1] rfl rfl (by decide) (by decide) (fun r28 u29 H locs h30 hP hD hS => ?_)
          have hP : va_P D vwCl [((r 3), .inl (c 4, 11, .inr (.inr (.inr (.inr (fun _ => none)))))), ((r 0), .inr (11, fX r 0 0))] H := hP
          have hD : va_D A [((r 3), .inl (c 4, 11, .inr (.inr (.inr (.inr (fun _ => none)))))), ((r 0), .inr (11, fX r 0 0))] := hD
          rcases inB_c h30 with ⟨h31, rfl⟩ | ⟨h31, rfl⟩
          · refine lv_if_eq (tgt := 100) hx hb dX11_race_69 (by decide) (fun c => False.elim (by revert c; decide)) (fun _ => ?_)
            refine lv_iload hx hb dX11_race_72 (lv_at hl 8 rfl) ?_
            refine lv_iconst (v := 0) hx hb dX11_race_74 (by decide) ?_
            refine lv_sipush (v := 1200) hx hb dX11_race_75 (by decide) ?_
            have hPc := hP.sub (ws' := []) [] rfl
            have hDc := hD.sub (ws' := []) [] (by decide) rfl
            refine cl_i (wr := [((r 3), .inl (c 4, 11, .inr (.inr (.inr (.inr (fun _ => none)))))), ((r 0), .inr (11, fX r 0 0))]) (va_runS (As := [.int hi, .int 0, .int 1200]) (rest := []) ⟨hx, hb, hml, hown, hts⟩ (c_X11_within l D c H.size hi 0 1200) (kw_S 3 hts wd_347 wd_331 wd_83 wd_332 rfl rfl (by decide +kernel) ⟨Nat.le_of_ble_eq_true rfl, Nat.le_of_ble_eq_true rfl⟩) (pre_S hPc hK hDc hN hO) rfl rfl hl.1 rfl (lv_room (Nat.le_of_ble_eq_true rfl)) dX11_race_78 ⟨Nat.le_of_ble_eq_true rfl, Nat.le_of_ble_eq_true rfl⟩) hP hD hS hA [] [0, 1] rfl rfl (by decide) (by decide) (fun r32 u33 H locs h34 hP hD hS => ?_)
            have hP : va_P D vwCl [((r 3), .inl (c 4, 11, .inr (.inr (.inr (.inr (fun _ => none)))))), ((r 0), .inr (11, fX r 0 0))] H := hP
            have hD : va_D A [((r 3), .inl (c 4, 11, .inr (.inr (.inr (.inr (fun _ => none)))))), ((r 0), .inr (11, fX r 0 0))] := hD
            rcases inB_c h34 with ⟨h35, rfl⟩ | ⟨h35, rfl⟩
            · refine lv_if_eq (tgt := 100) hx hb dX11_race_81 (by decide) (fun c => False.elim (by revert c; decide)) (fun _ => ?_)
              refine lv_iload hx hb dX11_race_84 (lv_at hl 9 rfl) ?_
              refine lv_iconst (v := 0) hx hb dX11_race_86 (by decide) ?_
              refine lv_sipush (v := 500) hx hb dX11_race_87 (by decide) ?_
              have hPc := hP.sub (ws' := []) [] rfl
              have hDc := hD.sub (ws' := []) [] (by decide) rfl
              refine cl_i (wr := [((r 3), .inl (c 4, 11, .inr (.inr (.inr (.inr (fun _ => none)))))), ((r 0), .inr (11, fX r 0 0))]) (va_runS (As := [.int w, .int 0, .int 500]) (rest := []) ⟨hx, hb, hml, hown, hts⟩ (c_X11_within l D c H.size w 0 500) (kw_S 3 hts wd_347 wd_331 wd_83 wd_332 rfl rfl (by decide +kernel) ⟨Nat.le_of_ble_eq_true rfl, Nat.le_of_ble_eq_true rfl⟩) (pre_S hPc hK hDc hN hO) rfl rfl hl.1 rfl (lv_room (Nat.le_of_ble_eq_true rfl)) dX11_race_90 ⟨Nat.le_of_ble_eq_true rfl, Nat.le_of_ble_eq_true rfl⟩) hP hD hS hA [] [0, 1] rfl rfl (by decide) (by decide) (fun r36 u37 H locs h38 hP hD hS => ?_)
              have hP : va_P D vwCl [((r 3), .inl (c 4, 11, .inr (.inr (.inr (.inr (fun _ => none)))))), ((r 0), .inr (11, fX r 0 0))] H := hP
              have hD : va_D A [((r 3), .inl (c 4, 11, .inr (.inr (.inr (.inr (fun _ => none)))))), ((r 0), .inr (11, fX r 0 0))] := hD
              rcases inB_c h38 with ⟨h39, rfl⟩ | ⟨h39, rfl⟩
              · refine lv_if_eq (tgt := 100) hx hb dX11_race_93 (by decide) (fun c => False.elim (by revert c; decide)) (fun _ => ?_)
                refine lv_iconst (v := 1) hx hb dX11_race_96 (by decide) ?_
                refine lv_goto (tgt := 101) hx hb dX11_race_97 (by decide) ?_
                refine lv_istore (lv' := [(10, .int 1), (9, .int 1), (8, .null), (0, .ref (r 0)), (1, .int p0), (2, .int d), (3, .int f), (4, .int n), (5, .int lo), (6, .int hi), (7, .int w)]) hx hb dX11_race_101 hl (by decide) rfl (fun ls hl => ?_)
                refine lv_aload_n hx hb dX11_race_103 rfl (lv_at hl 3 rfl) ?_
                have hPc := hP.sub (ws' := [((r 0), .inr (11, fX r 0 0))]) [1] rfl
                have hDc := hD.sub (ws' := [((r 0), .inr (11, fX r 0 0))]) [1] (by decide) rfl
                refine cl_i (wr := [((r 3), .inl (c 4, 11, .inr (.inr (.inr (.inr (fun _ => none))))))]) (va_runV (As := []) (rest := []) ⟨hx, hb, hml, hown, hts⟩ (c_X11_atEnd l D c H.size r 0) (kw_V 0 hts wd_322 wd_324 wd_0 wd_83 wd_325 rfl rfl (by decide +kernel) ⟨Nat.le_of_ble_eq_true rfl, Nat.le_of_ble_eq_true rfl⟩) (pre_V hPc hK hDc hN hO (ci := 11) (q0 := 0) rfl rfl) rfl rfl hl.1 rfl (lv_room (Nat.le_of_ble_eq_true rfl)) dX11_race_104 ⟨Nat.le_of_ble_eq_true rfl, Nat.le_of_ble_eq_true rfl⟩) hP hD hS hA [1] [0] rfl rfl (by decide) (by decide) (fun r40 u41 H locs h42 hP hD hS => ?_)
                have hP : va_P D vwCl [((r 3), .inl (c 4, 11, .inr (.inr (.inr (.inr (fun _ => none)))))), ((r 0), .inr (11, fX r 0 0))] H := hP
                have hD : va_D A [((r 3), .inl (c 4, 11, .inr (.inr (.inr (.inr (fun _ => none)))))), ((r 0), .inr (11, fX r 0 0))] := hD
                obtain rfl : r40 = 0 := h42
                refine lv_if_ne (tgt := 143) hx hb dX11_race_107 (by decide) (fun c => False.elim (by revert c; decide)) (fun _ => ?_)
                refine lv_aloadN hx hb dX11_race_110 (lv_at hl 2 rfl) ?_
                refine lv_ifnullN (tgt := 143) hx hb dX11_race_112 (by decide) ?_
                refine lv_iconst (v := (-1)) hx hb dX11_race_143 (by decide) ?_
                exact rt_i hx hb hr hlocks hK hP hD hS rfl dX11_race_144 () [] rfl rfl rfl
              · refine lv_if_eq (tgt := 100) hx hb dX11_race_93 (by decide) (fun _ => ?_) (fun c => False.elim (by revert c; decide))
                refine lv_iconst (v := 0) hx hb dX11_race_100 (by decide) ?_
                refine lv_istore (lv' := [(10, .int 0), (9, .int 1), (8, .null), (0, .ref (r 0)), (1, .int p0), (2, .int d), (3, .int f), (4, .int n), (5, .int lo), (6, .int hi), (7, .int w)]) hx hb dX11_race_101 hl (by decide) rfl (fun ls hl => ?_)
                refine lv_aload_n hx hb dX11_race_103 rfl (lv_at hl 3 rfl) ?_
                have hPc := hP.sub (ws' := [((r 0), .inr (11, fX r 0 0))]) [1] rfl
                have hDc := hD.sub (ws' := [((r 0), .inr (11, fX r 0 0))]) [1] (by decide) rfl
                refine cl_i (wr := [((r 3), .inl (c 4, 11, .inr (.inr (.inr (.inr (fun _ => none))))))]) (va_runV (As := []) (rest := []) ⟨hx, hb, hml, hown, hts⟩ (c_X11_atEnd l D c H.size r 0) (kw_V 0 hts wd_322 wd_324 wd_0 wd_83 wd_325 rfl rfl (by decide +kernel) ⟨Nat.le_of_ble_eq_true rfl, Nat.le_of_ble_eq_true rfl⟩) (pre_V hPc hK hDc hN hO (ci := 11) (q0 := 0) rfl rfl) rfl rfl hl.1 rfl (lv_room (Nat.le_of_ble_eq_true rfl)) dX11_race_104 ⟨Nat.le_of_ble_eq_true rfl, Nat.le_of_ble_eq_true rfl⟩) hP hD hS hA [1] [0] rfl rfl (by decide) (by decide) (fun r43 u44 H locs h45 hP hD hS => ?_)
                have hP : va_P D vwCl [((r 3), .inl (c 4, 11, .inr (.inr (.inr (.inr (fun _ => none)))))), ((r 0), .inr (11, fX r 0 0))] H := hP
                have hD : va_D A [((r 3), .inl (c 4, 11, .inr (.inr (.inr (.inr (fun _ => none)))))), ((r 0), .inr (11, fX r 0 0))] := hD
                obtain rfl : r43 = 0 := h45
                refine lv_if_ne (tgt := 143) hx hb dX11_race_107 (by decide) (fun c => False.elim (by revert c; decide)) (fun _ => ?_)
                refine lv_aloadN hx hb dX11_race_110 (lv_at hl 2 rfl) ?_
                refine lv_ifnullN (tgt := 143) hx hb dX11_race_112 (by decide) ?_
                refine lv_iconst (v := (-1)) hx hb dX11_race_143 (by decide) ?_
                exact rt_i hx hb hr hlocks hK hP hD hS rfl dX11_race_144 () [] rfl rfl rfl
            · refine lv_if_eq (tgt := 100) hx hb dX11_race_81 (by decide) (fun _ => ?_) (fun c => False.elim (by revert c; decide))
              refine lv_iconst (v := 0) hx hb dX11_race_100 (by decide) ?_
              refine lv_istore (lv' := [(10, .int 0), (9, .int 1), (8, .null), (0, .ref (r 0)), (1, .int p0), (2, .int d), (3, .int f), (4, .int n), (5, .int lo), (6, .int hi), (7, .int w)]) hx hb dX11_race_101 hl (by decide) rfl (fun ls hl => ?_)
              refine lv_aload_n hx hb dX11_race_103 rfl (lv_at hl 3 rfl) ?_
              have hPc := hP.sub (ws' := [((r 0), .inr (11, fX r 0 0))]) [1] rfl
              have hDc := hD.sub (ws' := [((r 0), .inr (11, fX r 0 0))]) [1] (by decide) rfl
              refine cl_i (wr := [((r 3), .inl (c 4, 11, .inr (.inr (.inr (.inr (fun _ => none))))))]) (va_runV (As := []) (rest := []) ⟨hx, hb, hml, hown, hts⟩ (c_X11_atEnd l D c H.size r 0) (kw_V 0 hts wd_322 wd_324 wd_0 wd_83 wd_325 rfl rfl (by decide +kernel) ⟨Nat.le_of_ble_eq_true rfl, Nat.le_of_ble_eq_true rfl⟩) (pre_V hPc hK hDc hN hO (ci := 11) (q0 := 0) rfl rfl) rfl rfl hl.1 rfl (lv_room (Nat.le_of_ble_eq_true rfl)) dX11_race_104 ⟨Nat.le_of_ble_eq_true rfl, Nat.le_of_ble_eq_true rfl⟩) hP hD hS hA [1] [0] rfl rfl (by decide) (by decide) (fun r46 u47 H locs h48 hP hD hS => ?_)
              have hP : va_P D vwCl [((r 3), .inl (c 4, 11, .inr (.inr (.inr (.inr (fun _ => none)))))), ((r 0), .inr (11, fX r 0 0))] H := hP
              have hD : va_D A [((r 3), .inl (c 4, 11, .inr (.inr (.inr (.inr (fun _ => none)))))), ((r 0), .inr (11, fX r 0 0))] := hD
              obtain rfl : r46 = 0 := h48
              refine lv_if_ne (tgt := 143) hx hb dX11_race_107 (by decide) (fun c => False.elim (by revert c; decide)) (fun _ => ?_)
              refine lv_aloadN hx hb dX11_race_110 (lv_at hl 2 rfl) ?_
              refine lv_ifnullN (tgt := 143) hx hb dX11_race_112 (by decide) ?_
              refine lv_iconst (v := (-1)) hx hb dX11_race_143 (by decide) ?_
              exact rt_i hx hb hr hlocks hK hP hD hS rfl dX11_race_144 () [] rfl rfl rfl
          · refine lv_if_eq (tgt := 100) hx hb dX11_race_69 (by decide) (fun _ => ?_) (fun c => False.elim (by revert c; decide))
            refine lv_iconst (v := 0) hx hb dX11_race_100 (by decide) ?_
            refine lv_istore (lv' := [(10, .int 0), (9, .int 1), (8, .null), (0, .ref (r 0)), (1, .int p0), (2, .int d), (3, .int f), (4, .int n), (5, .int lo), (6, .int hi), (7, .int w)]) hx hb dX11_race_101 hl (by decide) rfl (fun ls hl => ?_)
            refine lv_aload_n hx hb dX11_race_103 rfl (lv_at hl 3 rfl) ?_
            have hPc := hP.sub (ws' := [((r 0), .inr (11, fX r 0 0))]) [1] rfl
            have hDc := hD.sub (ws' := [((r 0), .inr (11, fX r 0 0))]) [1] (by decide) rfl
            refine cl_i (wr := [((r 3), .inl (c 4, 11, .inr (.inr (.inr (.inr (fun _ => none))))))]) (va_runV (As := []) (rest := []) ⟨hx, hb, hml, hown, hts⟩ (c_X11_atEnd l D c H.size r 0) (kw_V 0 hts wd_322 wd_324 wd_0 wd_83 wd_325 rfl rfl (by decide +kernel) ⟨Nat.le_of_ble_eq_true rfl, Nat.le_of_ble_eq_true rfl⟩) (pre_V hPc hK hDc hN hO (ci := 11) (q0 := 0) rfl rfl) rfl rfl hl.1 rfl (lv_room (Nat.le_of_ble_eq_true rfl)) dX11_race_104 ⟨Nat.le_of_ble_eq_true rfl, Nat.le_of_ble_eq_true rfl⟩) hP hD hS hA [1] [0] rfl rfl (by decide) (by decide) (fun r49 u50 H locs h51 hP hD hS => ?_)
            have hP : va_P D vwCl [((r 3), .inl (c 4, 11, .inr (.inr (.inr (.inr (fun _ => none)))))), ((r 0), .inr (11, fX r 0 0))] H := hP
            have hD : va_D A [((r 3), .inl (c 4, 11, .inr (.inr (.inr (.inr (fun _ => none)))))), ((r 0), .inr (11, fX r 0 0))] := hD
            obtain rfl : r49 = 0 := h51
            refine lv_if_ne (tgt := 143) hx hb dX11_race_107 (by decide) (fun c => False.elim (by revert c; decide)) (fun _ => ?_)
            refine lv_aloadN hx hb dX11_race_110 (lv_at hl 2 rfl) ?_
            refine lv_ifnullN (tgt := 143) hx hb dX11_race_112 (by decide) ?_
            refine lv_iconst (v := (-1)) hx hb dX11_race_143 (by decide) ?_
            exact rt_i hx hb hr hlocks hK hP hD hS rfl dX11_race_144 () [] rfl rfl rfl
        · refine lv_if_eq (tgt := 57) hx hb dX11_race_50 (by decide) (fun _ => ?_) (fun c => False.elim (by revert c; decide))
          refine lv_iconst (v := 0) hx hb dX11_race_57 (by decide) ?_
          refine lv_istore (lv' := [(9, .int 0), (8, .null), (0, .ref (r 0)), (1, .int p0), (2, .int d), (3, .int f), (4, .int n), (5, .int lo), (6, .int hi), (7, .int w)]) hx hb dX11_race_58 hl (by decide) rfl (fun ls hl => ?_)
          refine lv_iload hx hb dX11_race_60 (lv_at hl 7 rfl) ?_
          refine lv_iconst (v := 0) hx hb dX11_race_62 (by decide) ?_
          refine lv_sipush (v := 1200) hx hb dX11_race_63 (by decide) ?_
          have hPc := hP.sub (ws' := []) [] rfl
          have hDc := hD.sub (ws' := []) [] (by decide) rfl
          refine cl_i (wr := [((r 3), .inl (c 4, 11, .inr (.inr (.inr (.inr (fun _ => none)))))), ((r 0), .inr (11, fX r 0 0))]) (va_runS (As := [.int lo, .int 0, .int 1200]) (rest := []) ⟨hx, hb, hml, hown, hts⟩ (c_X11_within l D c H.size lo 0 1200) (kw_S 3 hts wd_347 wd_331 wd_83 wd_332 rfl rfl (by decide +kernel) ⟨Nat.le_of_ble_eq_true rfl, Nat.le_of_ble_eq_true rfl⟩) (pre_S hPc hK hDc hN hO) rfl rfl hl.1 rfl (lv_room (Nat.le_of_ble_eq_true rfl)) dX11_race_66 ⟨Nat.le_of_ble_eq_true rfl, Nat.le_of_ble_eq_true rfl⟩) hP hD hS hA [] [0, 1] rfl rfl (by decide) (by decide) (fun r52 u53 H locs h54 hP hD hS => ?_)
          have hP : va_P D vwCl [((r 3), .inl (c 4, 11, .inr (.inr (.inr (.inr (fun _ => none)))))), ((r 0), .inr (11, fX r 0 0))] H := hP
          have hD : va_D A [((r 3), .inl (c 4, 11, .inr (.inr (.inr (.inr (fun _ => none)))))), ((r 0), .inr (11, fX r 0 0))] := hD
          rcases inB_c h54 with ⟨h55, rfl⟩ | ⟨h55, rfl⟩
          · refine lv_if_eq (tgt := 100) hx hb dX11_race_69 (by decide) (fun c => False.elim (by revert c; decide)) (fun _ => ?_)
            refine lv_iload hx hb dX11_race_72 (lv_at hl 8 rfl) ?_
            refine lv_iconst (v := 0) hx hb dX11_race_74 (by decide) ?_
            refine lv_sipush (v := 1200) hx hb dX11_race_75 (by decide) ?_
            have hPc := hP.sub (ws' := []) [] rfl
            have hDc := hD.sub (ws' := []) [] (by decide) rfl
            refine cl_i (wr := [((r 3), .inl (c 4, 11, .inr (.inr (.inr (.inr (fun _ => none)))))), ((r 0), .inr (11, fX r 0 0))]) (va_runS (As := [.int hi, .int 0, .int 1200]) (rest := []) ⟨hx, hb, hml, hown, hts⟩ (c_X11_within l D c H.size hi 0 1200) (kw_S 3 hts wd_347 wd_331 wd_83 wd_332 rfl rfl (by decide +kernel) ⟨Nat.le_of_ble_eq_true rfl, Nat.le_of_ble_eq_true rfl⟩) (pre_S hPc hK hDc hN hO) rfl rfl hl.1 rfl (lv_room (Nat.le_of_ble_eq_true rfl)) dX11_race_78 ⟨Nat.le_of_ble_eq_true rfl, Nat.le_of_ble_eq_true rfl⟩) hP hD hS hA [] [0, 1] rfl rfl (by decide) (by decide) (fun r56 u57 H locs h58 hP hD hS => ?_)
            have hP : va_P D vwCl [((r 3), .inl (c 4, 11, .inr (.inr (.inr (.inr (fun _ => none)))))), ((r 0), .inr (11, fX r 0 0))] H := hP
            have hD : va_D A [((r 3), .inl (c 4, 11, .inr (.inr (.inr (.inr (fun _ => none)))))), ((r 0), .inr (11, fX r 0 0))] := hD
            rcases inB_c h58 with ⟨h59, rfl⟩ | ⟨h59, rfl⟩
            · refine lv_if_eq (tgt := 100) hx hb dX11_race_81 (by decide) (fun c => False.elim (by revert c; decide)) (fun _ => ?_)
              refine lv_iload hx hb dX11_race_84 (lv_at hl 9 rfl) ?_
              refine lv_iconst (v := 0) hx hb dX11_race_86 (by decide) ?_
              refine lv_sipush (v := 500) hx hb dX11_race_87 (by decide) ?_
              have hPc := hP.sub (ws' := []) [] rfl
              have hDc := hD.sub (ws' := []) [] (by decide) rfl
              refine cl_i (wr := [((r 3), .inl (c 4, 11, .inr (.inr (.inr (.inr (fun _ => none)))))), ((r 0), .inr (11, fX r 0 0))]) (va_runS (As := [.int w, .int 0, .int 500]) (rest := []) ⟨hx, hb, hml, hown, hts⟩ (c_X11_within l D c H.size w 0 500) (kw_S 3 hts wd_347 wd_331 wd_83 wd_332 rfl rfl (by decide +kernel) ⟨Nat.le_of_ble_eq_true rfl, Nat.le_of_ble_eq_true rfl⟩) (pre_S hPc hK hDc hN hO) rfl rfl hl.1 rfl (lv_room (Nat.le_of_ble_eq_true rfl)) dX11_race_90 ⟨Nat.le_of_ble_eq_true rfl, Nat.le_of_ble_eq_true rfl⟩) hP hD hS hA [] [0, 1] rfl rfl (by decide) (by decide) (fun r60 u61 H locs h62 hP hD hS => ?_)
              have hP : va_P D vwCl [((r 3), .inl (c 4, 11, .inr (.inr (.inr (.inr (fun _ => none)))))), ((r 0), .inr (11, fX r 0 0))] H := hP
              have hD : va_D A [((r 3), .inl (c 4, 11, .inr (.inr (.inr (.inr (fun _ => none)))))), ((r 0), .inr (11, fX r 0 0))] := hD
              rcases inB_c h62 with ⟨h63, rfl⟩ | ⟨h63, rfl⟩
              · refine lv_if_eq (tgt := 100) hx hb dX11_race_93 (by decide) (fun c => False.elim (by revert c; decide)) (fun _ => ?_)
                refine lv_iconst (v := 1) hx hb dX11_race_96 (by decide) ?_
                refine lv_goto (tgt := 101) hx hb dX11_race_97 (by decide) ?_
                refine lv_istore (lv' := [(10, .int 1), (9, .int 0), (8, .null), (0, .ref (r 0)), (1, .int p0), (2, .int d), (3, .int f), (4, .int n), (5, .int lo), (6, .int hi), (7, .int w)]) hx hb dX11_race_101 hl (by decide) rfl (fun ls hl => ?_)
                refine lv_aload_n hx hb dX11_race_103 rfl (lv_at hl 3 rfl) ?_
                have hPc := hP.sub (ws' := [((r 0), .inr (11, fX r 0 0))]) [1] rfl
                have hDc := hD.sub (ws' := [((r 0), .inr (11, fX r 0 0))]) [1] (by decide) rfl
                refine cl_i (wr := [((r 3), .inl (c 4, 11, .inr (.inr (.inr (.inr (fun _ => none))))))]) (va_runV (As := []) (rest := []) ⟨hx, hb, hml, hown, hts⟩ (c_X11_atEnd l D c H.size r 0) (kw_V 0 hts wd_322 wd_324 wd_0 wd_83 wd_325 rfl rfl (by decide +kernel) ⟨Nat.le_of_ble_eq_true rfl, Nat.le_of_ble_eq_true rfl⟩) (pre_V hPc hK hDc hN hO (ci := 11) (q0 := 0) rfl rfl) rfl rfl hl.1 rfl (lv_room (Nat.le_of_ble_eq_true rfl)) dX11_race_104 ⟨Nat.le_of_ble_eq_true rfl, Nat.le_of_ble_eq_true rfl⟩) hP hD hS hA [1] [0] rfl rfl (by decide) (by decide) (fun r64 u65 H locs h66 hP hD hS => ?_)
                have hP : va_P D vwCl [((r 3), .inl (c 4, 11, .inr (.inr (.inr (.inr (fun _ => none)))))), ((r 0), .inr (11, fX r 0 0))] H := hP
                have hD : va_D A [((r 3), .inl (c 4, 11, .inr (.inr (.inr (.inr (fun _ => none)))))), ((r 0), .inr (11, fX r 0 0))] := hD
                obtain rfl : r64 = 0 := h66
                refine lv_if_ne (tgt := 143) hx hb dX11_race_107 (by decide) (fun c => False.elim (by revert c; decide)) (fun _ => ?_)
                refine lv_aloadN hx hb dX11_race_110 (lv_at hl 2 rfl) ?_
                refine lv_ifnullN (tgt := 143) hx hb dX11_race_112 (by decide) ?_
                refine lv_iconst (v := (-1)) hx hb dX11_race_143 (by decide) ?_
                exact rt_i hx hb hr hlocks hK hP hD hS rfl dX11_race_144 () [] rfl rfl rfl
              · refine lv_if_eq (tgt := 100) hx hb dX11_race_93 (by decide) (fun _ => ?_) (fun c => False.elim (by revert c; decide))
                refine lv_iconst (v := 0) hx hb dX11_race_100 (by decide) ?_
                refine lv_istore (lv' := [(10, .int 0), (9, .int 0), (8, .null), (0, .ref (r 0)), (1, .int p0), (2, .int d), (3, .int f), (4, .int n), (5, .int lo), (6, .int hi), (7, .int w)]) hx hb dX11_race_101 hl (by decide) rfl (fun ls hl => ?_)
                refine lv_aload_n hx hb dX11_race_103 rfl (lv_at hl 3 rfl) ?_
                have hPc := hP.sub (ws' := [((r 0), .inr (11, fX r 0 0))]) [1] rfl
                have hDc := hD.sub (ws' := [((r 0), .inr (11, fX r 0 0))]) [1] (by decide) rfl
                refine cl_i (wr := [((r 3), .inl (c 4, 11, .inr (.inr (.inr (.inr (fun _ => none))))))]) (va_runV (As := []) (rest := []) ⟨hx, hb, hml, hown, hts⟩ (c_X11_atEnd l D c H.size r 0) (kw_V 0 hts wd_322 wd_324 wd_0 wd_83 wd_325 rfl rfl (by decide +kernel) ⟨Nat.le_of_ble_eq_true rfl, Nat.le_of_ble_eq_true rfl⟩) (pre_V hPc hK hDc hN hO (ci := 11) (q0 := 0) rfl rfl) rfl rfl hl.1 rfl (lv_room (Nat.le_of_ble_eq_true rfl)) dX11_race_104 ⟨Nat.le_of_ble_eq_true rfl, Nat.le_of_ble_eq_true rfl⟩) hP hD hS hA [1] [0] rfl rfl (by decide) (by decide) (fun r67 u68 H locs h69 hP hD hS => ?_)
                have hP : va_P D vwCl [((r 3), .inl (c 4, 11, .inr (.inr (.inr (.inr (fun _ => none)))))), ((r 0), .inr (11, fX r 0 0))] H := hP
                have hD : va_D A [((r 3), .inl (c 4, 11, .inr (.inr (.inr (.inr (fun _ => none)))))), ((r 0), .inr (11, fX r 0 0))] := hD
                obtain rfl : r67 = 0 := h69
                refine lv_if_ne (tgt := 143) hx hb dX11_race_107 (by decide) (fun c => False.elim (by revert c; decide)) (fun _ => ?_)
                refine lv_aloadN hx hb dX11_race_110 (lv_at hl 2 rfl) ?_
                refine lv_ifnullN (tgt := 143) hx hb dX11_race_112 (by decide) ?_
                refine lv_iconst (v := (-1)) hx hb dX11_race_143 (by decide) ?_
                exact rt_i hx hb hr hlocks hK hP hD hS rfl dX11_race_144 () [] rfl rfl rfl
            · refine lv_if_eq (tgt := 100) hx hb dX11_race_81 (by decide) (fun _ => ?_) (fun c => False.elim (by revert c; decide))
              refine lv_iconst (v := 0) hx hb dX11_race_100 (by decide) ?_
              refine lv_istore (lv' := [(10, .int 0), (9, .int 0), (8, .null), (0, .ref (r 0)), (1, .int p0), (2, .int d), (3, .int f), (4, .int n), (5, .int lo), (6, .int hi), (7, .int w)]) hx hb dX11_race_101 hl (by decide) rfl (fun ls hl => ?_)
              refine lv_aload_n hx hb dX11_race_103 rfl (lv_at hl 3 rfl) ?_
              have hPc := hP.sub (ws' := [((r 0), .inr (11, fX r 0 0))]) [1] rfl
              have hDc := hD.sub (ws' := [((r 0), .inr (11, fX r 0 0))]) [1] (by decide) rfl
              refine cl_i (wr := [((r 3), .inl (c 4, 11, .inr (.inr (.inr (.inr (fun _ => none))))))]) (va_runV (As := []) (rest := []) ⟨hx, hb, hml, hown, hts⟩ (c_X11_atEnd l D c H.size r 0) (kw_V 0 hts wd_322 wd_324 wd_0 wd_83 wd_325 rfl rfl (by decide +kernel) ⟨Nat.le_of_ble_eq_true rfl, Nat.le_of_ble_eq_true rfl⟩) (pre_V hPc hK hDc hN hO (ci := 11) (q0 := 0) rfl rfl) rfl rfl hl.1 rfl (lv_room (Nat.le_of_ble_eq_true rfl)) dX11_race_104 ⟨Nat.le_of_ble_eq_true rfl, Nat.le_of_ble_eq_true rfl⟩) hP hD hS hA [1] [0] rfl rfl (by decide) (by decide) (fun r70 u71 H locs h72 hP hD hS => ?_)
              have hP : va_P D vwCl [((r 3), .inl (c 4, 11, .inr (.inr (.inr (.inr (fun _ => none)))))), ((r 0), .inr (11, fX r 0 0))] H := hP
              have hD : va_D A [((r 3), .inl (c 4, 11, .inr (.inr (.inr (.inr (fun _ => none)))))), ((r 0), .inr (11, fX r 0 0))] := hD
              obtain rfl : r70 = 0 := h72
              refine lv_if_ne (tgt := 143) hx hb dX11_race_107 (by decide) (fun c => False.elim (by revert c; decide)) (fun _ => ?_)
              refine lv_aloadN hx hb dX11_race_110 (lv_at hl 2 rfl) ?_
              refine lv_ifnullN (tgt := 143) hx hb dX11_race_112 (by decide) ?_
              refine lv_iconst (v := (-1)) hx hb dX11_race_143 (by decide) ?_
              exact rt_i hx hb hr hlocks hK hP hD hS rfl dX11_race_144 () [] rfl rfl rfl
          · refine lv_if_eq (tgt := 100) hx hb dX11_race_69 (by decide) (fun _ => ?_) (fun c => False.elim (by revert c; decide))
            refine lv_iconst (v := 0) hx hb dX11_race_100 (by decide) ?_
            refine lv_istore (lv' := [(10, .int 0), (9, .int 0), (8, .null), (0, .ref (r 0)), (1, .int p0), (2, .int d), (3, .int f), (4, .int n), (5, .int lo), (6, .int hi), (7, .int w)]) hx hb dX11_race_101 hl (by decide) rfl (fun ls hl => ?_)
            refine lv_aload_n hx hb dX11_race_103 rfl (lv_at hl 3 rfl) ?_
            have hPc := hP.sub (ws' := [((r 0), .inr (11, fX r 0 0))]) [1] rfl
            have hDc := hD.sub (ws' := [((r 0), .inr (11, fX r 0 0))]) [1] (by decide) rfl
            refine cl_i (wr := [((r 3), .inl (c 4, 11, .inr (.inr (.inr (.inr (fun _ => none))))))]) (va_runV (As := []) (rest := []) ⟨hx, hb, hml, hown, hts⟩ (c_X11_atEnd l D c H.size r 0) (kw_V 0 hts wd_322 wd_324 wd_0 wd_83 wd_325 rfl rfl (by decide +kernel) ⟨Nat.le_of_ble_eq_true rfl, Nat.le_of_ble_eq_true rfl⟩) (pre_V hPc hK hDc hN hO (ci := 11) (q0 := 0) rfl rfl) rfl rfl hl.1 rfl (lv_room (Nat.le_of_ble_eq_true rfl)) dX11_race_104 ⟨Nat.le_of_ble_eq_true rfl, Nat.le_of_ble_eq_true rfl⟩) hP hD hS hA [1] [0] rfl rfl (by decide) (by decide) (fun r73 u74 H locs h75 hP hD hS => ?_)
            have hP : va_P D vwCl [((r 3), .inl (c 4, 11, .inr (.inr (.inr (.inr (fun _ => none)))))), ((r 0), .inr (11, fX r 0 0))] H := hP
            have hD : va_D A [((r 3), .inl (c 4, 11, .inr (.inr (.inr (.inr (fun _ => none)))))), ((r 0), .inr (11, fX r 0 0))] := hD
            obtain rfl : r73 = 0 := h75
            refine lv_if_ne (tgt := 143) hx hb dX11_race_107 (by decide) (fun c => False.elim (by revert c; decide)) (fun _ => ?_)
            refine lv_aloadN hx hb dX11_race_110 (lv_at hl 2 rfl) ?_
            refine lv_ifnullN (tgt := 143) hx hb dX11_race_112 (by decide) ?_
            refine lv_iconst (v := (-1)) hx hb dX11_race_143 (by decide) ?_
            exact rt_i hx hb hr hlocks hK hP hD hS rfl dX11_race_144 () [] rfl rfl rfl
      · refine lv_if_eq (tgt := 57) hx hb dX11_race_39 (by decide) (fun _ => ?_) (fun c => False.elim (by revert c; decide))
        refine lv_iconst (v := 0) hx hb dX11_race_57 (by decide) ?_
        refine lv_istore (lv' := [(9, .int 0), (8, .null), (0, .ref (r 0)), (1, .int p0), (2, .int d), (3, .int f), (4, .int n), (5, .int lo), (6, .int hi), (7, .int w)]) hx hb dX11_race_58 hl (by decide) rfl (fun ls hl => ?_)
        refine lv_iload hx hb dX11_race_60 (lv_at hl 7 rfl) ?_
        refine lv_iconst (v := 0) hx hb dX11_race_62 (by decide) ?_
        refine lv_sipush (v := 1200) hx hb dX11_race_63 (by decide) ?_
        have hPc := hP.sub (ws' := []) [] rfl
        have hDc := hD.sub (ws' := []) [] (by decide) rfl
        refine cl_i (wr := [((r 3), .inl (c 4, 11, .inr (.inr (.inr (.inr (fun _ => none)))))), ((r 0), .inr (11, fX r 0 0))]) (va_runS (As := [.int lo, .int 0, .int 1200]) (rest := []) ⟨hx, hb, hml, hown, hts⟩ (c_X11_within l D c H.size lo 0 1200) (kw_S 3 hts wd_347 wd_331 wd_83 wd_332 rfl rfl (by decide +kernel) ⟨Nat.le_of_ble_eq_true rfl, Nat.le_of_ble_eq_true rfl⟩) (pre_S hPc hK hDc hN hO) rfl rfl hl.1 rfl (lv_room (Nat.le_of_ble_eq_true rfl)) dX11_race_66 ⟨Nat.le_of_ble_eq_true rfl, Nat.le_of_ble_eq_true rfl⟩) hP hD hS hA [] [0, 1] rfl rfl (by decide) (by decide) (fun r76 u77 H locs h78 hP hD hS => ?_)
        have hP : va_P D vwCl [((r 3), .inl (c 4, 11, .inr (.inr (.inr (.inr (fun _ => none)))))), ((r 0), .inr (11, fX r 0 0))] H := hP
        have hD : va_D A [((r 3), .inl (c 4, 11, .inr (.inr (.inr (.inr (fun _ => none)))))), ((r 0), .inr (11, fX r 0 0))] := hD
        rcases inB_c h78 with ⟨h79, rfl⟩ | ⟨h79, rfl⟩
        · refine lv_if_eq (tgt := 100) hx hb dX11_race_69 (by decide) (fun c => False.elim (by revert c; decide)) (fun _ => ?_)
          refine lv_iload hx hb dX11_race_72 (lv_at hl 8 rfl) ?_
          refine lv_iconst (v := 0) hx hb dX11_race_74 (by decide) ?_
          refine lv_sipush (v := 1200) hx hb dX11_race_75 (by decide) ?_
          have hPc := hP.sub (ws' := []) [] rfl
          have hDc := hD.sub (ws' := []) [] (by decide) rfl
          refine cl_i (wr := [((r 3), .inl (c 4, 11, .inr (.inr (.inr (.inr (fun _ => none)))))), ((r 0), .inr (11, fX r 0 0))]) (va_runS (As := [.int hi, .int 0, .int 1200]) (rest := []) ⟨hx, hb, hml, hown, hts⟩ (c_X11_within l D c H.size hi 0 1200) (kw_S 3 hts wd_347 wd_331 wd_83 wd_332 rfl rfl (by decide +kernel) ⟨Nat.le_of_ble_eq_true rfl, Nat.le_of_ble_eq_true rfl⟩) (pre_S hPc hK hDc hN hO) rfl rfl hl.1 rfl (lv_room (Nat.le_of_ble_eq_true rfl)) dX11_race_78 ⟨Nat.le_of_ble_eq_true rfl, Nat.le_of_ble_eq_true rfl⟩) hP hD hS hA [] [0, 1] rfl rfl (by decide) (by decide) (fun r80 u81 H locs h82 hP hD hS => ?_)
          have hP : va_P D vwCl [((r 3), .inl (c 4, 11, .inr (.inr (.inr (.inr (fun _ => none)))))), ((r 0), .inr (11, fX r 0 0))] H := hP
          have hD : va_D A [((r 3), .inl (c 4, 11, .inr (.inr (.inr (.inr (fun _ => none)))))), ((r 0), .inr (11, fX r 0 0))] := hD
          rcases inB_c h82 with ⟨h83, rfl⟩ | ⟨h83, rfl⟩
          · refine lv_if_eq (tgt := 100) hx hb dX11_race_81 (by decide) (fun c => False.elim (by revert c; decide)) (fun _ => ?_)
            refine lv_iload hx hb dX11_race_84 (lv_at hl 9 rfl) ?_
            refine lv_iconst (v := 0) hx hb dX11_race_86 (by decide) ?_
            refine lv_sipush (v := 500) hx hb dX11_race_87 (by decide) ?_
            have hPc := hP.sub (ws' := []) [] rfl
            have hDc := hD.sub (ws' := []) [] (by decide) rfl
            refine cl_i (wr := [((r 3), .inl (c 4, 11, .inr (.inr (.inr (.inr (fun _ => none)))))), ((r 0), .inr (11, fX r 0 0))]) (va_runS (As := [.int w, .int 0, .int 500]) (rest := []) ⟨hx, hb, hml, hown, hts⟩ (c_X11_within l D c H.size w 0 500) (kw_S 3 hts wd_347 wd_331 wd_83 wd_332 rfl rfl (by decide +kernel) ⟨Nat.le_of_ble_eq_true rfl, Nat.le_of_ble_eq_true rfl⟩) (pre_S hPc hK hDc hN hO) rfl rfl hl.1 rfl (lv_room (Nat.le_of_ble_eq_true rfl)) dX11_race_90 ⟨Nat.le_of_ble_eq_true rfl, Nat.le_of_ble_eq_true rfl⟩) hP hD hS hA [] [0, 1] rfl rfl (by decide) (by decide) (fun r84 u85 H locs h86 hP hD hS => ?_)
            have hP : va_P D vwCl [((r 3), .inl (c 4, 11, .inr (.inr (.inr (.inr (fun _ => none)))))), ((r 0), .inr (11, fX r 0 0))] H := hP
            have hD : va_D A [((r 3), .inl (c 4, 11, .inr (.inr (.inr (.inr (fun _ => none)))))), ((r 0), .inr (11, fX r 0 0))] := hD
            rcases inB_c h86 with ⟨h87, rfl⟩ | ⟨h87, rfl⟩
            · refine lv_if_eq (tgt := 100) hx hb dX11_race_93 (by decide) (fun c => False.elim (by revert c; decide)) (fun _ => ?_)
              refine lv_iconst (v := 1) hx hb dX11_race_96 (by decide) ?_
              refine lv_goto (tgt := 101) hx hb dX11_race_97 (by decide) ?_
              refine lv_istore (lv' := [(10, .int 1), (9, .int 0), (8, .null), (0, .ref (r 0)), (1, .int p0), (2, .int d), (3, .int f), (4, .int n), (5, .int lo), (6, .int hi), (7, .int w)]) hx hb dX11_race_101 hl (by decide) rfl (fun ls hl => ?_)
              refine lv_aload_n hx hb dX11_race_103 rfl (lv_at hl 3 rfl) ?_
              have hPc := hP.sub (ws' := [((r 0), .inr (11, fX r 0 0))]) [1] rfl
              have hDc := hD.sub (ws' := [((r 0), .inr (11, fX r 0 0))]) [1] (by decide) rfl
              refine cl_i (wr := [((r 3), .inl (c 4, 11, .inr (.inr (.inr (.inr (fun _ => none))))))]) (va_runV (As := []) (rest := []) ⟨hx, hb, hml, hown, hts⟩ (c_X11_atEnd l D c H.size r 0) (kw_V 0 hts wd_322 wd_324 wd_0 wd_83 wd_325 rfl rfl (by decide +kernel) ⟨Nat.le_of_ble_eq_true rfl, Nat.le_of_ble_eq_true rfl⟩) (pre_V hPc hK hDc hN hO (ci := 11) (q0 := 0) rfl rfl) rfl rfl hl.1 rfl (lv_room (Nat.le_of_ble_eq_true rfl)) dX11_race_104 ⟨Nat.le_of_ble_eq_true rfl, Nat.le_of_ble_eq_true rfl⟩) hP hD hS hA [1] [0] rfl rfl (by decide) (by decide) (fun r88 u89 H locs h90 hP hD hS => ?_)
              have hP : va_P D vwCl [((r 3), .inl (c 4, 11, .inr (.inr (.inr (.inr (fun _ => none)))))), ((r 0), .inr (11, fX r 0 0))] H := hP
              have hD : va_D A [((r 3), .inl (c 4, 11, .inr (.inr (.inr (.inr (fun _ => none)))))), ((r 0), .inr (11, fX r 0 0))] := hD
              obtain rfl : r88 = 0 := h90
              refine lv_if_ne (tgt := 143) hx hb dX11_race_107 (by decide) (fun c => False.elim (by revert c; decide)) (fun _ => ?_)
              refine lv_aloadN hx hb dX11_race_110 (lv_at hl 2 rfl) ?_
              refine lv_ifnullN (tgt := 143) hx hb dX11_race_112 (by decide) ?_
              refine lv_iconst (v := (-1)) hx hb dX11_race_143 (by decide) ?_
              exact rt_i hx hb hr hlocks hK hP hD hS rfl dX11_race_144 () [] rfl rfl rfl
            · refine lv_if_eq (tgt := 100) hx hb dX11_race_93 (by decide) (fun _ => ?_) (fun c => False.elim (by revert c; decide))
              refine lv_iconst (v := 0) hx hb dX11_race_100 (by decide) ?_
              refine lv_istore (lv' := [(10, .int 0), (9, .int 0), (8, .null), (0, .ref (r 0)), (1, .int p0), (2, .int d), (3, .int f), (4, .int n), (5, .int lo), (6, .int hi), (7, .int w)]) hx hb dX11_race_101 hl (by decide) rfl (fun ls hl => ?_)
              refine lv_aload_n hx hb dX11_race_103 rfl (lv_at hl 3 rfl) ?_
              have hPc := hP.sub (ws' := [((r 0), .inr (11, fX r 0 0))]) [1] rfl
              have hDc := hD.sub (ws' := [((r 0), .inr (11, fX r 0 0))]) [1] (by decide) rfl
              refine cl_i (wr := [((r 3), .inl (c 4, 11, .inr (.inr (.inr (.inr (fun _ => none))))))]) (va_runV (As := []) (rest := []) ⟨hx, hb, hml, hown, hts⟩ (c_X11_atEnd l D c H.size r 0) (kw_V 0 hts wd_322 wd_324 wd_0 wd_83 wd_325 rfl rfl (by decide +kernel) ⟨Nat.le_of_ble_eq_true rfl, Nat.le_of_ble_eq_true rfl⟩) (pre_V hPc hK hDc hN hO (ci := 11) (q0 := 0) rfl rfl) rfl rfl hl.1 rfl (lv_room (Nat.le_of_ble_eq_true rfl)) dX11_race_104 ⟨Nat.le_of_ble_eq_true rfl, Nat.le_of_ble_eq_true rfl⟩) hP hD hS hA [1] [0] rfl rfl (by decide) (by decide) (fun r91 u92 H locs h93 hP hD hS => ?_)
              have hP : va_P D vwCl [((r 3), .inl (c 4, 11, .inr (.inr (.inr (.inr (fun _ => none)))))), ((r 0), .inr (11, fX r 0 0))] H := hP
              have hD : va_D A [((r 3), .inl (c 4, 11, .inr (.inr (.inr (.inr (fun _ => none)))))), ((r 0), .inr (11, fX r 0 0))] := hD
              obtain rfl : r91 = 0 := h93
              refine lv_if_ne (tgt := 143) hx hb dX11_race_107 (by decide) (fun c => False.elim (by revert c; decide)) (fun _ => ?_)
              refine lv_aloadN hx hb dX11_race_110 (lv_at hl 2 rfl) ?_
              refine lv_ifnullN (tgt := 143) hx hb dX11_race_112 (by decide) ?_
              refine lv_iconst (v := (-1)) hx hb dX11_race_143 (by decide) ?_
              exact rt_i hx hb hr hlocks hK hP hD hS rfl dX11_race_144 () [] rfl rfl rfl
          · refine lv_if_eq (tgt := 100) hx hb dX11_race_81 (by decide) (fun _ => ?_) (fun c => False.elim (by revert c; decide))
            refine lv_iconst (v := 0) hx hb dX11_race_100 (by decide) ?_
            refine lv_istore (lv' := [(10, .int 0), (9, .int 0), (8, .null), (0, .ref (r 0)), (1, .int p0), (2, .int d), (3, .int f), (4, .int n), (5, .int lo), (6, .int hi), (7, .int w)]) hx hb dX11_race_101 hl (by decide) rfl (fun ls hl => ?_)
            refine lv_aload_n hx hb dX11_race_103 rfl (lv_at hl 3 rfl) ?_
            have hPc := hP.sub (ws' := [((r 0), .inr (11, fX r 0 0))]) [1] rfl
            have hDc := hD.sub (ws' := [((r 0), .inr (11, fX r 0 0))]) [1] (by decide) rfl
            refine cl_i (wr := [((r 3), .inl (c 4, 11, .inr (.inr (.inr (.inr (fun _ => none))))))]) (va_runV (As := []) (rest := []) ⟨hx, hb, hml, hown, hts⟩ (c_X11_atEnd l D c H.size r 0) (kw_V 0 hts wd_322 wd_324 wd_0 wd_83 wd_325 rfl rfl (by decide +kernel) ⟨Nat.le_of_ble_eq_true rfl, Nat.le_of_ble_eq_true rfl⟩) (pre_V hPc hK hDc hN hO (ci := 11) (q0 := 0) rfl rfl) rfl rfl hl.1 rfl (lv_room (Nat.le_of_ble_eq_true rfl)) dX11_race_104 ⟨Nat.le_of_ble_eq_true rfl, Nat.le_of_ble_eq_true rfl⟩) hP hD hS hA [1] [0] rfl rfl (by decide) (by decide) (fun r94 u95 H locs h96 hP hD hS => ?_)
            have hP : va_P D vwCl [((r 3), .inl (c 4, 11, .inr (.inr (.inr (.inr (fun _ => none)))))), ((r 0), .inr (11, fX r 0 0))] H := hP
            have hD : va_D A [((r 3), .inl (c 4, 11, .inr (.inr (.inr (.inr (fun _ => none)))))), ((r 0), .inr (11, fX r 0 0))] := hD
            obtain rfl : r94 = 0 := h96
            refine lv_if_ne (tgt := 143) hx hb dX11_race_107 (by decide) (fun c => False.elim (by revert c; decide)) (fun _ => ?_)
            refine lv_aloadN hx hb dX11_race_110 (lv_at hl 2 rfl) ?_
            refine lv_ifnullN (tgt := 143) hx hb dX11_race_112 (by decide) ?_
            refine lv_iconst (v := (-1)) hx hb dX11_race_143 (by decide) ?_
            exact rt_i hx hb hr hlocks hK hP hD hS rfl dX11_race_144 () [] rfl rfl rfl
        · refine lv_if_eq (tgt := 100) hx hb dX11_race_69 (by decide) (fun _ => ?_) (fun c => False.elim (by revert c; decide))
          refine lv_iconst (v := 0) hx hb dX11_race_100 (by decide) ?_
          refine lv_istore (lv' := [(10, .int 0), (9, .int 0), (8, .null), (0, .ref (r 0)), (1, .int p0), (2, .int d), (3, .int f), (4, .int n), (5, .int lo), (6, .int hi), (7, .int w)]) hx hb dX11_race_101 hl (by decide) rfl (fun ls hl => ?_)
          refine lv_aload_n hx hb dX11_race_103 rfl (lv_at hl 3 rfl) ?_
          have hPc := hP.sub (ws' := [((r 0), .inr (11, fX r 0 0))]) [1] rfl
          have hDc := hD.sub (ws' := [((r 0), .inr (11, fX r 0 0))]) [1] (by decide) rfl
          refine cl_i (wr := [((r 3), .inl (c 4, 11, .inr (.inr (.inr (.inr (fun _ => none))))))]) (va_runV (As := []) (rest := []) ⟨hx, hb, hml, hown, hts⟩ (c_X11_atEnd l D c H.size r 0) (kw_V 0 hts wd_322 wd_324 wd_0 wd_83 wd_325 rfl rfl (by decide +kernel) ⟨Nat.le_of_ble_eq_true rfl, Nat.le_of_ble_eq_true rfl⟩) (pre_V hPc hK hDc hN hO (ci := 11) (q0 := 0) rfl rfl) rfl rfl hl.1 rfl (lv_room (Nat.le_of_ble_eq_true rfl)) dX11_race_104 ⟨Nat.le_of_ble_eq_true rfl, Nat.le_of_ble_eq_true rfl⟩) hP hD hS hA [1] [0] rfl rfl (by decide) (by decide) (fun r97 u98 H locs h99 hP hD hS => ?_)
          have hP : va_P D vwCl [((r 3), .inl (c 4, 11, .inr (.inr (.inr (.inr (fun _ => none)))))), ((r 0), .inr (11, fX r 0 0))] H := hP
          have hD : va_D A [((r 3), .inl (c 4, 11, .inr (.inr (.inr (.inr (fun _ => none)))))), ((r 0), .inr (11, fX r 0 0))] := hD
          obtain rfl : r97 = 0 := h99
          refine lv_if_ne (tgt := 143) hx hb dX11_race_107 (by decide) (fun c => False.elim (by revert c; decide)) (fun _ => ?_)
          refine lv_aloadN hx hb dX11_race_110 (lv_at hl 2 rfl) ?_
          refine lv_ifnullN (tgt := 143) hx hb dX11_race_112 (by decide) ?_
          refine lv_iconst (v := (-1)) hx hb dX11_race_143 (by decide) ?_
          exact rt_i hx hb hr hlocks hK hP hD hS rfl dX11_race_144 () [] rfl rfl rfl
    · refine lv_if_eq (tgt := 57) hx hb dX11_race_29 (by decide) (fun _ => ?_) (fun c => False.elim (by revert c; decide))
      refine lv_iconst (v := 0) hx hb dX11_race_57 (by decide) ?_
      refine lv_istore (lv' := [(9, .int 0), (8, .null), (0, .ref (r 0)), (1, .int p0), (2, .int d), (3, .int f), (4, .int n), (5, .int lo), (6, .int hi), (7, .int w)]) hx hb dX11_race_58 hl (by decide) rfl (fun ls hl => ?_)
      refine lv_iload hx hb dX11_race_60 (lv_at hl 7 rfl) ?_
      refine lv_iconst (v := 0) hx hb dX11_race_62 (by decide) ?_
      refine lv_sipush (v := 1200) hx hb dX11_race_63 (by decide) ?_
      have hPc := hP.sub (ws' := []) [] rfl
      have hDc := hD.sub (ws' := []) [] (by decide) rfl
      refine cl_i (wr := [((r 3), .inl (c 4, 11, .inr (.inr (.inr (.inr (fun _ => none)))))), ((r 0), .inr (11, fX r 0 0))]) (va_runS (As := [.int lo, .int 0, .int 1200]) (rest := []) ⟨hx, hb, hml, hown, hts⟩ (c_X11_within l D c H.size lo 0 1200) (kw_S 3 hts wd_347 wd_331 wd_83 wd_332 rfl rfl (by decide +kernel) ⟨Nat.le_of_ble_eq_true rfl, Nat.le_of_ble_eq_true rfl⟩) (pre_S hPc hK hDc hN hO) rfl rfl hl.1 rfl (lv_room (Nat.le_of_ble_eq_true rfl)) dX11_race_66 ⟨Nat.le_of_ble_eq_true rfl, Nat.le_of_ble_eq_true rfl⟩) hP hD hS hA [] [0, 1] rfl rfl (by decide) (by decide) (fun r100 u101 H locs h102 hP hD hS => ?_)
      have hP : va_P D vwCl [((r 3), .inl (c 4, 11, .inr (.inr (.inr (.inr (fun _ => none)))))), ((r 0), .inr (11, fX r 0 0))] H := hP
      have hD : va_D A [((r 3), .inl (c 4, 11, .inr (.inr (.inr (.inr (fun _ => none)))))), ((r 0), .inr (11, fX r 0 0))] := hD
      rcases inB_c h102 with ⟨h103, rfl⟩ | ⟨h103, rfl⟩
      · refine lv_if_eq (tgt := 100) hx hb dX11_race_69 (by decide) (fun c => False.elim (by revert c; decide)) (fun _ => ?_)
        refine lv_iload hx hb dX11_race_72 (lv_at hl 8 rfl) ?_
        refine lv_iconst (v := 0) hx hb dX11_race_74 (by decide) ?_
        refine lv_sipush (v := 1200) hx hb dX11_race_75 (by decide) ?_
        have hPc := hP.sub (ws' := []) [] rfl
        have hDc := hD.sub (ws' := []) [] (by decide) rfl
        refine cl_i (wr := [((r 3), .inl (c 4, 11, .inr (.inr (.inr (.inr (fun _ => none)))))), ((r 0), .inr (11, fX r 0 0))]) (va_runS (As := [.int hi, .int 0, .int 1200]) (rest := []) ⟨hx, hb, hml, hown, hts⟩ (c_X11_within l D c H.size hi 0 1200) (kw_S 3 hts wd_347 wd_331 wd_83 wd_332 rfl rfl (by decide +kernel) ⟨Nat.le_of_ble_eq_true rfl, Nat.le_of_ble_eq_true rfl⟩) (pre_S hPc hK hDc hN hO) rfl rfl hl.1 rfl (lv_room (Nat.le_of_ble_eq_true rfl)) dX11_race_78 ⟨Nat.le_of_ble_eq_true rfl, Nat.le_of_ble_eq_true rfl⟩) hP hD hS hA [] [0, 1] rfl rfl (by decide) (by decide) (fun r104 u105 H locs h106 hP hD hS => ?_)
        have hP : va_P D vwCl [((r 3), .inl (c 4, 11, .inr (.inr (.inr (.inr (fun _ => none)))))), ((r 0), .inr (11, fX r 0 0))] H := hP
        have hD : va_D A [((r 3), .inl (c 4, 11, .inr (.inr (.inr (.inr (fun _ => none)))))), ((r 0), .inr (11, fX r 0 0))] := hD
        rcases inB_c h106 with ⟨h107, rfl⟩ | ⟨h107, rfl⟩
        · refine lv_if_eq (tgt := 100) hx hb dX11_race_81 (by decide) (fun c => False.elim (by revert c; decide)) (fun _ => ?_)
          refine lv_iload hx hb dX11_race_84 (lv_at hl 9 rfl) ?_
          refine lv_iconst (v := 0) hx hb dX11_race_86 (by decide) ?_
          refine lv_sipush (v := 500) hx hb dX11_race_87 (by decide) ?_
          have hPc := hP.sub (ws' := []) [] rfl
          have hDc := hD.sub (ws' := []) [] (by decide) rfl
          refine cl_i (wr := [((r 3), .inl (c 4, 11, .inr (.inr (.inr (.inr (fun _ => none)))))), ((r 0), .inr (11, fX r 0 0))]) (va_runS (As := [.int w, .int 0, .int 500]) (rest := []) ⟨hx, hb, hml, hown, hts⟩ (c_X11_within l D c H.size w 0 500) (kw_S 3 hts wd_347 wd_331 wd_83 wd_332 rfl rfl (by decide +kernel) ⟨Nat.le_of_ble_eq_true rfl, Nat.le_of_ble_eq_true rfl⟩) (pre_S hPc hK hDc hN hO) rfl rfl hl.1 rfl (lv_room (Nat.le_of_ble_eq_true rfl)) dX11_race_90 ⟨Nat.le_of_ble_eq_true rfl, Nat.le_of_ble_eq_true rfl⟩) hP hD hS hA [] [0, 1] rfl rfl (by decide) (by decide) (fun r108 u109 H locs h110 hP hD hS => ?_)
          have hP : va_P D vwCl [((r 3), .inl (c 4, 11, .inr (.inr (.inr (.inr (fun _ => none)))))), ((r 0), .inr (11, fX r 0 0))] H := hP
          have hD : va_D A [((r 3), .inl (c 4, 11, .inr (.inr (.inr (.inr (fun _ => none)))))), ((r 0), .inr (11, fX r 0 0))] := hD
          rcases inB_c h110 with ⟨h111, rfl⟩ | ⟨h111, rfl⟩
          · refine lv_if_eq (tgt := 100) hx hb dX11_race_93 (by decide) (fun c => False.elim (by revert c; decide)) (fun _ => ?_)
            refine lv_iconst (v := 1) hx hb dX11_race_96 (by decide) ?_
            refine lv_goto (tgt := 101) hx hb dX11_race_97 (by decide) ?_
            refine lv_istore (lv' := [(10, .int 1), (9, .int 0), (8, .null), (0, .ref (r 0)), (1, .int p0), (2, .int d), (3, .int f), (4, .int n), (5, .int lo), (6, .int hi), (7, .int w)]) hx hb dX11_race_101 hl (by decide) rfl (fun ls hl => ?_)
            refine lv_aload_n hx hb dX11_race_103 rfl (lv_at hl 3 rfl) ?_
            have hPc := hP.sub (ws' := [((r 0), .inr (11, fX r 0 0))]) [1] rfl
            have hDc := hD.sub (ws' := [((r 0), .inr (11, fX r 0 0))]) [1] (by decide) rfl
            refine cl_i (wr := [((r 3), .inl (c 4, 11, .inr (.inr (.inr (.inr (fun _ => none))))))]) (va_runV (As := []) (rest := []) ⟨hx, hb, hml, hown, hts⟩ (c_X11_atEnd l D c H.size r 0) (kw_V 0 hts wd_322 wd_324 wd_0 wd_83 wd_325 rfl rfl (by decide +kernel) ⟨Nat.le_of_ble_eq_true rfl, Nat.le_of_ble_eq_true rfl⟩) (pre_V hPc hK hDc hN hO (ci := 11) (q0 := 0) rfl rfl) rfl rfl hl.1 rfl (lv_room (Nat.le_of_ble_eq_true rfl)) dX11_race_104 ⟨Nat.le_of_ble_eq_true rfl, Nat.le_of_ble_eq_true rfl⟩) hP hD hS hA [1] [0] rfl rfl (by decide) (by decide) (fun r112 u113 H locs h114 hP hD hS => ?_)
            have hP : va_P D vwCl [((r 3), .inl (c 4, 11, .inr (.inr (.inr (.inr (fun _ => none)))))), ((r 0), .inr (11, fX r 0 0))] H := hP
            have hD : va_D A [((r 3), .inl (c 4, 11, .inr (.inr (.inr (.inr (fun _ => none)))))), ((r 0), .inr (11, fX r 0 0))] := hD
            obtain rfl : r112 = 0 := h114
            refine lv_if_ne (tgt := 143) hx hb dX11_race_107 (by decide) (fun c => False.elim (by revert c; decide)) (fun _ => ?_)
            refine lv_aloadN hx hb dX11_race_110 (lv_at hl 2 rfl) ?_
            refine lv_ifnullN (tgt := 143) hx hb dX11_race_112 (by decide) ?_
            refine lv_iconst (v := (-1)) hx hb dX11_race_143 (by decide) ?_
            exact rt_i hx hb hr hlocks hK hP hD hS rfl dX11_race_144 () [] rfl rfl rfl
          · refine lv_if_eq (tgt := 100) hx hb dX11_race_93 (by decide) (fun _ => ?_) (fun c => False.elim (by revert c; decide))
            refine lv_iconst (v := 0) hx hb dX11_race_100 (by decide) ?_
            refine lv_istore (lv' := [(10, .int 0), (9, .int 0), (8, .null), (0, .ref (r 0)), (1, .int p0), (2, .int d), (3, .int f), (4, .int n), (5, .int lo), (6, .int hi), (7, .int w)]) hx hb dX11_race_101 hl (by decide) rfl (fun ls hl => ?_)
            refine lv_aload_n hx hb dX11_race_103 rfl (lv_at hl 3 rfl) ?_
            have hPc := hP.sub (ws' := [((r 0), .inr (11, fX r 0 0))]) [1] rfl
            have hDc := hD.sub (ws' := [((r 0), .inr (11, fX r 0 0))]) [1] (by decide) rfl
            refine cl_i (wr := [((r 3), .inl (c 4, 11, .inr (.inr (.inr (.inr (fun _ => none))))))]) (va_runV (As := []) (rest := []) ⟨hx, hb, hml, hown, hts⟩ (c_X11_atEnd l D c H.size r 0) (kw_V 0 hts wd_322 wd_324 wd_0 wd_83 wd_325 rfl rfl (by decide +kernel) ⟨Nat.le_of_ble_eq_true rfl, Nat.le_of_ble_eq_true rfl⟩) (pre_V hPc hK hDc hN hO (ci := 11) (q0 := 0) rfl rfl) rfl rfl hl.1 rfl (lv_room (Nat.le_of_ble_eq_true rfl)) dX11_race_104 ⟨Nat.le_of_ble_eq_true rfl, Nat.le_of_ble_eq_true rfl⟩) hP hD hS hA [1] [0] rfl rfl (by decide) (by decide) (fun r115 u116 H locs h117 hP hD hS => ?_)
            have hP : va_P D vwCl [((r 3), .inl (c 4, 11, .inr (.inr (.inr (.inr (fun _ => none)))))), ((r 0), .inr (11, fX r 0 0))] H := hP
            have hD : va_D A [((r 3), .inl (c 4, 11, .inr (.inr (.inr (.inr (fun _ => none)))))), ((r 0), .inr (11, fX r 0 0))] := hD
            obtain rfl : r115 = 0 := h117
            refine lv_if_ne (tgt := 143) hx hb dX11_race_107 (by decide) (fun c => False.elim (by revert c; decide)) (fun _ => ?_)
            refine lv_aloadN hx hb dX11_race_110 (lv_at hl 2 rfl) ?_
            refine lv_ifnullN (tgt := 143) hx hb dX11_race_112 (by decide) ?_
            refine lv_iconst (v := (-1)) hx hb dX11_race_143 (by decide) ?_
            exact rt_i hx hb hr hlocks hK hP hD hS rfl dX11_race_144 () [] rfl rfl rfl
        · refine lv_if_eq (tgt := 100) hx hb dX11_race_81 (by decide) (fun _ => ?_) (fun c => False.elim (by revert c; decide))
          refine lv_iconst (v := 0) hx hb dX11_race_100 (by decide) ?_
          refine lv_istore (lv' := [(10, .int 0), (9, .int 0), (8, .null), (0, .ref (r 0)), (1, .int p0), (2, .int d), (3, .int f), (4, .int n), (5, .int lo), (6, .int hi), (7, .int w)]) hx hb dX11_race_101 hl (by decide) rfl (fun ls hl => ?_)
          refine lv_aload_n hx hb dX11_race_103 rfl (lv_at hl 3 rfl) ?_
          have hPc := hP.sub (ws' := [((r 0), .inr (11, fX r 0 0))]) [1] rfl
          have hDc := hD.sub (ws' := [((r 0), .inr (11, fX r 0 0))]) [1] (by decide) rfl
          refine cl_i (wr := [((r 3), .inl (c 4, 11, .inr (.inr (.inr (.inr (fun _ => none))))))]) (va_runV (As := []) (rest := []) ⟨hx, hb, hml, hown, hts⟩ (c_X11_atEnd l D c H.size r 0) (kw_V 0 hts wd_322 wd_324 wd_0 wd_83 wd_325 rfl rfl (by decide +kernel) ⟨Nat.le_of_ble_eq_true rfl, Nat.le_of_ble_eq_true rfl⟩) (pre_V hPc hK hDc hN hO (ci := 11) (q0 := 0) rfl rfl) rfl rfl hl.1 rfl (lv_room (Nat.le_of_ble_eq_true rfl)) dX11_race_104 ⟨Nat.le_of_ble_eq_true rfl, Nat.le_of_ble_eq_true rfl⟩) hP hD hS hA [1] [0] rfl rfl (by decide) (by decide) (fun r118 u119 H locs h120 hP hD hS => ?_)
          have hP : va_P D vwCl [((r 3), .inl (c 4, 11, .inr (.inr (.inr (.inr (fun _ => none)))))), ((r 0), .inr (11, fX r 0 0))] H := hP
          have hD : va_D A [((r 3), .inl (c 4, 11, .inr (.inr (.inr (.inr (fun _ => none)))))), ((r 0), .inr (11, fX r 0 0))] := hD
          obtain rfl : r118 = 0 := h120
          refine lv_if_ne (tgt := 143) hx hb dX11_race_107 (by decide) (fun c => False.elim (by revert c; decide)) (fun _ => ?_)
          refine lv_aloadN hx hb dX11_race_110 (lv_at hl 2 rfl) ?_
          refine lv_ifnullN (tgt := 143) hx hb dX11_race_112 (by decide) ?_
          refine lv_iconst (v := (-1)) hx hb dX11_race_143 (by decide) ?_
          exact rt_i hx hb hr hlocks hK hP hD hS rfl dX11_race_144 () [] rfl rfl rfl
      · refine lv_if_eq (tgt := 100) hx hb dX11_race_69 (by decide) (fun _ => ?_) (fun c => False.elim (by revert c; decide))
        refine lv_iconst (v := 0) hx hb dX11_race_100 (by decide) ?_
        refine lv_istore (lv' := [(10, .int 0), (9, .int 0), (8, .null), (0, .ref (r 0)), (1, .int p0), (2, .int d), (3, .int f), (4, .int n), (5, .int lo), (6, .int hi), (7, .int w)]) hx hb dX11_race_101 hl (by decide) rfl (fun ls hl => ?_)
        refine lv_aload_n hx hb dX11_race_103 rfl (lv_at hl 3 rfl) ?_
        have hPc := hP.sub (ws' := [((r 0), .inr (11, fX r 0 0))]) [1] rfl
        have hDc := hD.sub (ws' := [((r 0), .inr (11, fX r 0 0))]) [1] (by decide) rfl
        refine cl_i (wr := [((r 3), .inl (c 4, 11, .inr (.inr (.inr (.inr (fun _ => none))))))]) (va_runV (As := []) (rest := []) ⟨hx, hb, hml, hown, hts⟩ (c_X11_atEnd l D c H.size r 0) (kw_V 0 hts wd_322 wd_324 wd_0 wd_83 wd_325 rfl rfl (by decide +kernel) ⟨Nat.le_of_ble_eq_true rfl, Nat.le_of_ble_eq_true rfl⟩) (pre_V hPc hK hDc hN hO (ci := 11) (q0 := 0) rfl rfl) rfl rfl hl.1 rfl (lv_room (Nat.le_of_ble_eq_true rfl)) dX11_race_104 ⟨Nat.le_of_ble_eq_true rfl, Nat.le_of_ble_eq_true rfl⟩) hP hD hS hA [1] [0] rfl rfl (by decide) (by decide) (fun r121 u122 H locs h123 hP hD hS => ?_)
        have hP : va_P D vwCl [((r 3), .inl (c 4, 11, .inr (.inr (.inr (.inr (fun _ => none)))))), ((r 0), .inr (11, fX r 0 0))] H := hP
        have hD : va_D A [((r 3), .inl (c 4, 11, .inr (.inr (.inr (.inr (fun _ => none)))))), ((r 0), .inr (11, fX r 0 0))] := hD
        obtain rfl : r121 = 0 := h123
        refine lv_if_ne (tgt := 143) hx hb dX11_race_107 (by decide) (fun c => False.elim (by revert c; decide)) (fun _ => ?_)
        refine lv_aloadN hx hb dX11_race_110 (lv_at hl 2 rfl) ?_
        refine lv_ifnullN (tgt := 143) hx hb dX11_race_112 (by decide) ?_
        refine lv_iconst (v := (-1)) hx hb dX11_race_143 (by decide) ?_
        exact rt_i hx hb hr hlocks hK hP hD hS rfl dX11_race_144 () [] rfl rfl rfl
  · refine lv_if_eq (tgt := 57) hx hb dX11_race_11 (by decide) (fun _ => ?_) (fun c => False.elim (by revert c; decide))
    refine lv_iconst (v := 0) hx hb dX11_race_57 (by decide) ?_
    refine lv_istore (lv' := [(9, .int 0), (8, .null), (0, .ref (r 0)), (1, .int p0), (2, .int d), (3, .int f), (4, .int n), (5, .int lo), (6, .int hi), (7, .int w)]) hx hb dX11_race_58 hl (by decide) rfl (fun ls hl => ?_)
    refine lv_iload hx hb dX11_race_60 (lv_at hl 7 rfl) ?_
    refine lv_iconst (v := 0) hx hb dX11_race_62 (by decide) ?_
    refine lv_sipush (v := 1200) hx hb dX11_race_63 (by decide) ?_
    have hPc := hP.sub (ws' := []) [] rfl
    have hDc := hD.sub (ws' := []) [] (by decide) rfl
    refine cl_i (wr := [((r 0), .inr (11, fX r 0 0)), ((r 3), .inl (c 4, 11, .inr (.inr (.inr (.inr (fun _ => none))))))]) (va_runS (As := [.int lo, .int 0, .int 1200]) (rest := []) ⟨hx, hb, hml, hown, hts⟩ (c_X11_within l D c H.size lo 0 1200) (kw_S 3 hts wd_347 wd_331 wd_83 wd_332 rfl rfl (by decide +kernel) ⟨Nat.le_of_ble_eq_true rfl, Nat.le_of_ble_eq_true rfl⟩) (pre_S hPc hK hDc hN hO) rfl rfl hl.1 rfl (lv_room (Nat.le_of_ble_eq_true rfl)) dX11_race_66 ⟨Nat.le_of_ble_eq_true rfl, Nat.le_of_ble_eq_true rfl⟩) hP hD hS hA [] [0, 1] rfl rfl (by decide) (by decide) (fun r124 u125 H locs h126 hP hD hS => ?_)
    have hP : va_P D vwCl [((r 0), .inr (11, fX r 0 0)), ((r 3), .inl (c 4, 11, .inr (.inr (.inr (.inr (fun _ => none))))))] H := hP
    have hD : va_D A [((r 0), .inr (11, fX r 0 0)), ((r 3), .inl (c 4, 11, .inr (.inr (.inr (.inr (fun _ => none))))))] := hD
    rcases inB_c h126 with ⟨h127, rfl⟩ | ⟨h127, rfl⟩
    · refine lv_if_eq (tgt := 100) hx hb dX11_race_69 (by decide) (fun c => False.elim (by revert c; decide)) (fun _ => ?_)
      refine lv_iload hx hb dX11_race_72 (lv_at hl 8 rfl) ?_
      refine lv_iconst (v := 0) hx hb dX11_race_74 (by decide) ?_
      refine lv_sipush (v := 1200) hx hb dX11_race_75 (by decide) ?_
      have hPc := hP.sub (ws' := []) [] rfl
      have hDc := hD.sub (ws' := []) [] (by decide) rfl
      refine cl_i (wr := [((r 0), .inr (11, fX r 0 0)), ((r 3), .inl (c 4, 11, .inr (.inr (.inr (.inr (fun _ => none))))))]) (va_runS (As := [.int hi, .int 0, .int 1200]) (rest := []) ⟨hx, hb, hml, hown, hts⟩ (c_X11_within l D c H.size hi 0 1200) (kw_S 3 hts wd_347 wd_331 wd_83 wd_332 rfl rfl (by decide +kernel) ⟨Nat.le_of_ble_eq_true rfl, Nat.le_of_ble_eq_true rfl⟩) (pre_S hPc hK hDc hN hO) rfl rfl hl.1 rfl (lv_room (Nat.le_of_ble_eq_true rfl)) dX11_race_78 ⟨Nat.le_of_ble_eq_true rfl, Nat.le_of_ble_eq_true rfl⟩) hP hD hS hA [] [0, 1] rfl rfl (by decide) (by decide) (fun r128 u129 H locs h130 hP hD hS => ?_)
      have hP : va_P D vwCl [((r 0), .inr (11, fX r 0 0)), ((r 3), .inl (c 4, 11, .inr (.inr (.inr (.inr (fun _ => none))))))] H := hP
      have hD : va_D A [((r 0), .inr (11, fX r 0 0)), ((r 3), .inl (c 4, 11, .inr (.inr (.inr (.inr (fun _ => none))))))] := hD
      rcases inB_c h130 with ⟨h131, rfl⟩ | ⟨h131, rfl⟩
      · refine lv_if_eq (tgt := 100) hx hb dX11_race_81 (by decide) (fun c => False.elim (by revert c; decide)) (fun _ => ?_)
        refine lv_iload hx hb dX11_race_84 (lv_at hl 9 rfl) ?_
        refine lv_iconst (v := 0) hx hb dX11_race_86 (by decide) ?_
        refine lv_sipush (v := 500) hx hb dX11_race_87 (by decide) ?_
        have hPc := hP.sub (ws' := []) [] rfl
        have hDc := hD.sub (ws' := []) [] (by decide) rfl
        refine cl_i (wr := [((r 0), .inr (11, fX r 0 0)), ((r 3), .inl (c 4, 11, .inr (.inr (.inr (.inr (fun _ => none))))))]) (va_runS (As := [.int w, .int 0, .int 500]) (rest := []) ⟨hx, hb, hml, hown, hts⟩ (c_X11_within l D c H.size w 0 500) (kw_S 3 hts wd_347 wd_331 wd_83 wd_332 rfl rfl (by decide +kernel) ⟨Nat.le_of_ble_eq_true rfl, Nat.le_of_ble_eq_true rfl⟩) (pre_S hPc hK hDc hN hO) rfl rfl hl.1 rfl (lv_room (Nat.le_of_ble_eq_true rfl)) dX11_race_90 ⟨Nat.le_of_ble_eq_true rfl, Nat.le_of_ble_eq_true rfl⟩) hP hD hS hA [] [0, 1] rfl rfl (by decide) (by decide) (fun r132 u133 H locs h134 hP hD hS => ?_)
        have hP : va_P D vwCl [((r 0), .inr (11, fX r 0 0)), ((r 3), .inl (c 4, 11, .inr (.inr (.inr (.inr (fun _ => none))))))] H := hP
        have hD : va_D A [((r 0), .inr (11, fX r 0 0)), ((r 3), .inl (c 4, 11, .inr (.inr (.inr (.inr (fun _ => none))))))] := hD
        rcases inB_c h134 with ⟨h135, rfl⟩ | ⟨h135, rfl⟩
        · refine lv_if_eq (tgt := 100) hx hb dX11_race_93 (by decide) (fun c => False.elim (by revert c; decide)) (fun _ => ?_)
          refine lv_iconst (v := 1) hx hb dX11_race_96 (by decide) ?_
          refine lv_goto (tgt := 101) hx hb dX11_race_97 (by decide) ?_
          refine lv_istore (lv' := [(10, .int 1), (9, .int 0), (8, .null), (0, .ref (r 0)), (1, .int p0), (2, .int d), (3, .int f), (4, .int n), (5, .int lo), (6, .int hi), (7, .int w)]) hx hb dX11_race_101 hl (by decide) rfl (fun ls hl => ?_)
          refine lv_aload_n hx hb dX11_race_103 rfl (lv_at hl 3 rfl) ?_
          have hPc := hP.sub (ws' := [((r 0), .inr (11, fX r 0 0))]) [0] rfl
          have hDc := hD.sub (ws' := [((r 0), .inr (11, fX r 0 0))]) [0] (by decide) rfl
          refine cl_i (wr := [((r 3), .inl (c 4, 11, .inr (.inr (.inr (.inr (fun _ => none))))))]) (va_runV (As := []) (rest := []) ⟨hx, hb, hml, hown, hts⟩ (c_X11_atEnd l D c H.size r 0) (kw_V 0 hts wd_322 wd_324 wd_0 wd_83 wd_325 rfl rfl (by decide +kernel) ⟨Nat.le_of_ble_eq_true rfl, Nat.le_of_ble_eq_true rfl⟩) (pre_V hPc hK hDc hN hO (ci := 11) (q0 := 0) rfl rfl) rfl rfl hl.1 rfl (lv_room (Nat.le_of_ble_eq_true rfl)) dX11_race_104 ⟨Nat.le_of_ble_eq_true rfl, Nat.le_of_ble_eq_true rfl⟩) hP hD hS hA [0] [1] rfl rfl (by decide) (by decide) (fun r136 u137 H locs h138 hP hD hS => ?_)
          have hP : va_P D vwCl [((r 3), .inl (c 4, 11, .inr (.inr (.inr (.inr (fun _ => none)))))), ((r 0), .inr (11, fX r 0 0))] H := hP
          have hD : va_D A [((r 3), .inl (c 4, 11, .inr (.inr (.inr (.inr (fun _ => none)))))), ((r 0), .inr (11, fX r 0 0))] := hD
          obtain rfl : r136 = 0 := h138
          refine lv_if_ne (tgt := 143) hx hb dX11_race_107 (by decide) (fun c => False.elim (by revert c; decide)) (fun _ => ?_)
          refine lv_aloadN hx hb dX11_race_110 (lv_at hl 2 rfl) ?_
          refine lv_ifnullN (tgt := 143) hx hb dX11_race_112 (by decide) ?_
          refine lv_iconst (v := (-1)) hx hb dX11_race_143 (by decide) ?_
          exact rt_i hx hb hr hlocks hK hP hD hS rfl dX11_race_144 () [] rfl rfl rfl
        · refine lv_if_eq (tgt := 100) hx hb dX11_race_93 (by decide) (fun _ => ?_) (fun c => False.elim (by revert c; decide))
          refine lv_iconst (v := 0) hx hb dX11_race_100 (by decide) ?_
          refine lv_istore (lv' := [(10, .int 0), (9, .int 0), (8, .null), (0, .ref (r 0)), (1, .int p0), (2, .int d), (3, .int f), (4, .int n), (5, .int lo), (6, .int hi), (7, .int w)]) hx hb dX11_race_101 hl (by decide) rfl (fun ls hl => ?_)
          refine lv_aload_n hx hb dX11_race_103 rfl (lv_at hl 3 rfl) ?_
          have hPc := hP.sub (ws' := [((r 0), .inr (11, fX r 0 0))]) [0] rfl
          have hDc := hD.sub (ws' := [((r 0), .inr (11, fX r 0 0))]) [0] (by decide) rfl
          refine cl_i (wr := [((r 3), .inl (c 4, 11, .inr (.inr (.inr (.inr (fun _ => none))))))]) (va_runV (As := []) (rest := []) ⟨hx, hb, hml, hown, hts⟩ (c_X11_atEnd l D c H.size r 0) (kw_V 0 hts wd_322 wd_324 wd_0 wd_83 wd_325 rfl rfl (by decide +kernel) ⟨Nat.le_of_ble_eq_true rfl, Nat.le_of_ble_eq_true rfl⟩) (pre_V hPc hK hDc hN hO (ci := 11) (q0 := 0) rfl rfl) rfl rfl hl.1 rfl (lv_room (Nat.le_of_ble_eq_true rfl)) dX11_race_104 ⟨Nat.le_of_ble_eq_true rfl, Nat.le_of_ble_eq_true rfl⟩) hP hD hS hA [0] [1] rfl rfl (by decide) (by decide) (fun r139 u140 H locs h141 hP hD hS => ?_)
          have hP : va_P D vwCl [((r 3), .inl (c 4, 11, .inr (.inr (.inr (.inr (fun _ => none)))))), ((r 0), .inr (11, fX r 0 0))] H := hP
          have hD : va_D A [((r 3), .inl (c 4, 11, .inr (.inr (.inr (.inr (fun _ => none)))))), ((r 0), .inr (11, fX r 0 0))] := hD
          obtain rfl : r139 = 0 := h141
          refine lv_if_ne (tgt := 143) hx hb dX11_race_107 (by decide) (fun c => False.elim (by revert c; decide)) (fun _ => ?_)
          refine lv_aloadN hx hb dX11_race_110 (lv_at hl 2 rfl) ?_
          refine lv_ifnullN (tgt := 143) hx hb dX11_race_112 (by decide) ?_
          refine lv_iconst (v := (-1)) hx hb dX11_race_143 (by decide) ?_
          exact rt_i hx hb hr hlocks hK hP hD hS rfl dX11_race_144 () [] rfl rfl rfl
      · refine lv_if_eq (tgt := 100) hx hb dX11_race_81 (by decide) (fun _ => ?_) (fun c => False.elim (by revert c; decide))
        refine lv_iconst (v := 0) hx hb dX11_race_100 (by decide) ?_
        refine lv_istore (lv' := [(10, .int 0), (9, .int 0), (8, .null), (0, .ref (r 0)), (1, .int p0), (2, .int d), (3, .int f), (4, .int n), (5, .int lo), (6, .int hi), (7, .int w)]) hx hb dX11_race_101 hl (by decide) rfl (fun ls hl => ?_)
        refine lv_aload_n hx hb dX11_race_103 rfl (lv_at hl 3 rfl) ?_
        have hPc := hP.sub (ws' := [((r 0), .inr (11, fX r 0 0))]) [0] rfl
        have hDc := hD.sub (ws' := [((r 0), .inr (11, fX r 0 0))]) [0] (by decide) rfl
        refine cl_i (wr := [((r 3), .inl (c 4, 11, .inr (.inr (.inr (.inr (fun _ => none))))))]) (va_runV (As := []) (rest := []) ⟨hx, hb, hml, hown, hts⟩ (c_X11_atEnd l D c H.size r 0) (kw_V 0 hts wd_322 wd_324 wd_0 wd_83 wd_325 rfl rfl (by decide +kernel) ⟨Nat.le_of_ble_eq_true rfl, Nat.le_of_ble_eq_true rfl⟩) (pre_V hPc hK hDc hN hO (ci := 11) (q0 := 0) rfl rfl) rfl rfl hl.1 rfl (lv_room (Nat.le_of_ble_eq_true rfl)) dX11_race_104 ⟨Nat.le_of_ble_eq_true rfl, Nat.le_of_ble_eq_true rfl⟩) hP hD hS hA [0] [1] rfl rfl (by decide) (by decide) (fun r142 u143 H locs h144 hP hD hS => ?_)
        have hP : va_P D vwCl [((r 3), .inl (c 4, 11, .inr (.inr (.inr (.inr (fun _ => none)))))), ((r 0), .inr (11, fX r 0 0))] H := hP
        have hD : va_D A [((r 3), .inl (c 4, 11, .inr (.inr (.inr (.inr (fun _ => none)))))), ((r 0), .inr (11, fX r 0 0))] := hD
        obtain rfl : r142 = 0 := h144
        refine lv_if_ne (tgt := 143) hx hb dX11_race_107 (by decide) (fun c => False.elim (by revert c; decide)) (fun _ => ?_)
        refine lv_aloadN hx hb dX11_race_110 (lv_at hl 2 rfl) ?_
        refine lv_ifnullN (tgt := 143) hx hb dX11_race_112 (by decide) ?_
        refine lv_iconst (v := (-1)) hx hb dX11_race_143 (by decide) ?_
        exact rt_i hx hb hr hlocks hK hP hD hS rfl dX11_race_144 () [] rfl rfl rfl
    · refine lv_if_eq (tgt := 100) hx hb dX11_race_69 (by decide) (fun _ => ?_) (fun c => False.elim (by revert c; decide))
      refine lv_iconst (v := 0) hx hb dX11_race_100 (by decide) ?_
      refine lv_istore (lv' := [(10, .int 0), (9, .int 0), (8, .null), (0, .ref (r 0)), (1, .int p0), (2, .int d), (3, .int f), (4, .int n), (5, .int lo), (6, .int hi), (7, .int w)]) hx hb dX11_race_101 hl (by decide) rfl (fun ls hl => ?_)
      refine lv_aload_n hx hb dX11_race_103 rfl (lv_at hl 3 rfl) ?_
      have hPc := hP.sub (ws' := [((r 0), .inr (11, fX r 0 0))]) [0] rfl
      have hDc := hD.sub (ws' := [((r 0), .inr (11, fX r 0 0))]) [0] (by decide) rfl
      refine cl_i (wr := [((r 3), .inl (c 4, 11, .inr (.inr (.inr (.inr (fun _ => none))))))]) (va_runV (As := []) (rest := []) ⟨hx, hb, hml, hown, hts⟩ (c_X11_atEnd l D c H.size r 0) (kw_V 0 hts wd_322 wd_324 wd_0 wd_83 wd_325 rfl rfl (by decide +kernel) ⟨Nat.le_of_ble_eq_true rfl, Nat.le_of_ble_eq_true rfl⟩) (pre_V hPc hK hDc hN hO (ci := 11) (q0 := 0) rfl rfl) rfl rfl hl.1 rfl (lv_room (Nat.le_of_ble_eq_true rfl)) dX11_race_104 ⟨Nat.le_of_ble_eq_true rfl, Nat.le_of_ble_eq_true rfl⟩) hP hD hS hA [0] [1] rfl rfl (by decide) (by decide) (fun r145 u146 H locs h147 hP hD hS => ?_)
      have hP : va_P D vwCl [((r 3), .inl (c 4, 11, .inr (.inr (.inr (.inr (fun _ => none)))))), ((r 0), .inr (11, fX r 0 0))] H := hP
      have hD : va_D A [((r 3), .inl (c 4, 11, .inr (.inr (.inr (.inr (fun _ => none)))))), ((r 0), .inr (11, fX r 0 0))] := hD
      obtain rfl : r145 = 0 := h147
      refine lv_if_ne (tgt := 143) hx hb dX11_race_107 (by decide) (fun c => False.elim (by revert c; decide)) (fun _ => ?_)
      refine lv_aloadN hx hb dX11_race_110 (lv_at hl 2 rfl) ?_
      refine lv_ifnullN (tgt := 143) hx hb dX11_race_112 (by decide) ?_
      refine lv_iconst (v := (-1)) hx hb dX11_race_143 (by decide) ?_
      exact rt_i hx hb hr hlocks hK hP hD hS rfl dX11_race_144 () [] rfl rfl rfl
set_option maxHeartbeats 4000000 in
set_option maxRecDepth 100000 in
/-- X11_night -/
theorem c_X11_night (l : Launch) (D : va_G) (c : Nat → ClassId) (sz : Nat) (r : Nat → Nat) (p0 : Int32) (a : Int32) (b : Int32) (t : Int32) : Met l yX11_night (.code yX11_night cX11_night 6 (some .int) :: Wd) ({ frames := 1, cells := 0, slots := 0, locals := 21 }) (va_Pc [.ref (r 0), .int p0, .int a, .int b, .int t] (WB D c [((r 0), .inr (11, fX r 0 0)), ((r 3), .inl (c 4, 11, .inr (.inr (.inr (.inr (fun _ => none))))))] sz)) (QI (S := Unit) D c (fun q _ => q = -1) (fun _ => []) (va_A [((r 0), .inr (11, fX r 0 0)), ((r 3), .inl (c 4, 11, .inr (.inr (.inr (.inr (fun _ => none))))))] sz)) 0 0 (va_A [((r 0), .inr (11, fX r 0 0)), ((r 3), .inl (c 4, 11, .inr (.inr (.inr (.inr (fun _ => none))))))] sz) := by
  refine kz_met (Qc := QI (S := Unit) D c (fun q _ => q = -1) (fun _ => [])) (by decide) (Nat.le_of_ble_eq_true rfl) ?_
  intro p e s m below meth cd A ls H locs hx hb hr hml hts hown hlocks hin hN hO hK hP hD hS hA hl
  have hl : lv_has ls 6 [(0, .ref (r 0)), (1, .int p0), (2, .int a), (3, .int b), (4, .int t)] := hl
  have hown : s.vm.findClass RX11 = some m.cls := hown
  refine lv_aload_n hx hb dX11_night_0 rfl (lv_at hl 0 rfl) ?_
  refine lv_iload_n hx hb dX11_night_1 rfl (lv_at hl 1 rfl) ?_
  have hPc := hP.sub (ws' := [((r 0), .inr (11, fX r 0 0)), ((r 3), .inl (c 4, 11, .inr (.inr (.inr (.inr (fun _ => none))))))]) [0, 1] rfl
  have hDc := hD.sub (ws' := [((r 0), .inr (11, fX r 0 0)), ((r 3), .inl (c 4, 11, .inr (.inr (.inr (.inr (fun _ => none))))))]) [0, 1] (by decide) rfl
  refine cl_n (wr := []) (va_runV (As := [.int p0]) (rest := []) ⟨hx, hb, hml, hown, hts⟩ (c_X11_poolAt l D c H.size r 0 p0) (kw_V 1 hts wd_581 wd_583 wd_4 wd_83 wd_584 rfl rfl (by decide +kernel) ⟨Nat.le_of_ble_eq_true rfl, Nat.le_of_ble_eq_true rfl⟩) (pre_V hPc hK hDc hN hO (ci := 11) (q0 := 0) rfl rfl) rfl rfl hl.1 rfl (lv_room (Nat.le_of_ble_eq_true rfl)) dX11_night_2 ⟨Nat.le_of_ble_eq_true rfl, Nat.le_of_ble_eq_true rfl⟩) hP hD hS hA [0, 1] [] rfl rfl (by decide) (by decide) (fun u2 H locs hP hD hS => ?_)
  have hP : va_P D vwCl [((r 0), .inr (11, fX r 0 0)), ((r 3), .inl (c 4, 11, .inr (.inr (.inr (.inr (fun _ => none))))))] H := hP
  have hD : va_D A [((r 0), .inr (11, fX r 0 0)), ((r 3), .inl (c 4, 11, .inr (.inr (.inr (.inr (fun _ => none))))))] := hD
  refine lv_astoreN (lv' := [(5, .null), (0, .ref (r 0)), (1, .int p0), (2, .int a), (3, .int b), (4, .int t)]) hx hb dX11_night_5 hl (by decide) rfl (fun ls hl => ?_)
  refine lv_aload_n hx hb dX11_night_7 rfl (lv_at hl 1 rfl) ?_
  have hPc := hP.sub (ws' := [((r 0), .inr (11, fX r 0 0))]) [0] rfl
  have hDc := hD.sub (ws' := [((r 0), .inr (11, fX r 0 0))]) [0] (by decide) rfl
  refine cl_i (wr := [((r 3), .inl (c 4, 11, .inr (.inr (.inr (.inr (fun _ => none))))))]) (va_runV (As := []) (rest := []) ⟨hx, hb, hml, hown, hts⟩ (c_X11_atEnd l D c H.size r 0) (kw_V 0 hts wd_322 wd_324 wd_0 wd_83 wd_325 rfl rfl (by decide +kernel) ⟨Nat.le_of_ble_eq_true rfl, Nat.le_of_ble_eq_true rfl⟩) (pre_V hPc hK hDc hN hO (ci := 11) (q0 := 0) rfl rfl) rfl rfl hl.1 rfl (lv_room (Nat.le_of_ble_eq_true rfl)) dX11_night_8 ⟨Nat.le_of_ble_eq_true rfl, Nat.le_of_ble_eq_true rfl⟩) hP hD hS hA [0] [1] rfl rfl (by decide) (by decide) (fun r4 u5 H locs h6 hP hD hS => ?_)
  have hP : va_P D vwCl [((r 3), .inl (c 4, 11, .inr (.inr (.inr (.inr (fun _ => none)))))), ((r 0), .inr (11, fX r 0 0))] H := hP
  have hD : va_D A [((r 3), .inl (c 4, 11, .inr (.inr (.inr (.inr (fun _ => none)))))), ((r 0), .inr (11, fX r 0 0))] := hD
  obtain rfl : r4 = 0 := h6
  refine lv_if_ne (tgt := 34) hx hb dX11_night_11 (by decide) (fun c => False.elim (by revert c; decide)) (fun _ => ?_)
  refine lv_aloadN hx hb dX11_night_14 (lv_at hl 0 rfl) ?_
  refine lv_ifnullN (tgt := 34) hx hb dX11_night_16 (by decide) ?_
  refine lv_iconst (v := (-1)) hx hb dX11_night_34 (by decide) ?_
  exact rt_i hx hb hr hlocks hK hP hD hS rfl dX11_night_35 () [] rfl rfl rfl
set_option maxHeartbeats 4000000 in
set_option maxRecDepth 100000 in
/-- X11_suspect -/
theorem c_X11_suspect (l : Launch) (D : va_G) (c : Nat → ClassId) (sz : Nat) (r : Nat → Nat) (p0 : Int32) (d : Int32) (t : Int32) : Met l yX11_suspect (.code yX11_suspect cX11_suspect 5 (some .int) :: Wd) ({ frames := 1, cells := 0, slots := 0, locals := 21 }) (va_Pc [.ref (r 0), .int p0, .int d, .int t] (WB D c [((r 0), .inr (11, fX r 0 0)), ((r 3), .inl (c 4, 11, .inr (.inr (.inr (.inr (fun _ => none))))))] sz)) (QI (S := Unit) D c (fun q _ => q = -1) (fun _ => []) (va_A [((r 0), .inr (11, fX r 0 0)), ((r 3), .inl (c 4, 11, .inr (.inr (.inr (.inr (fun _ => none))))))] sz)) 0 0 (va_A [((r 0), .inr (11, fX r 0 0)), ((r 3), .inl (c 4, 11, .inr (.inr (.inr (.inr (fun _ => none))))))] sz) := by
  refine kz_met (Qc := QI (S := Unit) D c (fun q _ => q = -1) (fun _ => [])) (by decide) (Nat.le_of_ble_eq_true rfl) ?_
  intro p e s m below meth cd A ls H locs hx hb hr hml hts hown hlocks hin hN hO hK hP hD hS hA hl
  have hl : lv_has ls 5 [(0, .ref (r 0)), (1, .int p0), (2, .int d), (3, .int t)] := hl
  have hown : s.vm.findClass RX11 = some m.cls := hown
  refine lv_aload_n hx hb dX11_suspect_0 rfl (lv_at hl 0 rfl) ?_
  refine lv_iload_n hx hb dX11_suspect_1 rfl (lv_at hl 1 rfl) ?_
  have hPc := hP.sub (ws' := [((r 0), .inr (11, fX r 0 0)), ((r 3), .inl (c 4, 11, .inr (.inr (.inr (.inr (fun _ => none))))))]) [0, 1] rfl
  have hDc := hD.sub (ws' := [((r 0), .inr (11, fX r 0 0)), ((r 3), .inl (c 4, 11, .inr (.inr (.inr (.inr (fun _ => none))))))]) [0, 1] (by decide) rfl
  refine cl_n (wr := []) (va_runV (As := [.int p0]) (rest := []) ⟨hx, hb, hml, hown, hts⟩ (c_X11_poolAt l D c H.size r 0 p0) (kw_V 1 hts wd_581 wd_583 wd_4 wd_83 wd_584 rfl rfl (by decide +kernel) ⟨Nat.le_of_ble_eq_true rfl, Nat.le_of_ble_eq_true rfl⟩) (pre_V hPc hK hDc hN hO (ci := 11) (q0 := 0) rfl rfl) rfl rfl hl.1 rfl (lv_room (Nat.le_of_ble_eq_true rfl)) dX11_suspect_2 ⟨Nat.le_of_ble_eq_true rfl, Nat.le_of_ble_eq_true rfl⟩) hP hD hS hA [0, 1] [] rfl rfl (by decide) (by decide) (fun u2 H locs hP hD hS => ?_)
  have hP : va_P D vwCl [((r 0), .inr (11, fX r 0 0)), ((r 3), .inl (c 4, 11, .inr (.inr (.inr (.inr (fun _ => none))))))] H := hP
  have hD : va_D A [((r 0), .inr (11, fX r 0 0)), ((r 3), .inl (c 4, 11, .inr (.inr (.inr (.inr (fun _ => none))))))] := hD
  refine lv_astoreN (lv' := [(4, .null), (0, .ref (r 0)), (1, .int p0), (2, .int d), (3, .int t)]) hx hb dX11_suspect_5 hl (by decide) rfl (fun ls hl => ?_)
  refine lv_aload_n hx hb dX11_suspect_7 rfl (lv_at hl 1 rfl) ?_
  have hPc := hP.sub (ws' := [((r 0), .inr (11, fX r 0 0))]) [0] rfl
  have hDc := hD.sub (ws' := [((r 0), .inr (11, fX r 0 0))]) [0] (by decide) rfl
  refine cl_i (wr := [((r 3), .inl (c 4, 11, .inr (.inr (.inr (.inr (fun _ => none))))))]) (va_runV (As := []) (rest := []) ⟨hx, hb, hml, hown, hts⟩ (c_X11_atEnd l D c H.size r 0) (kw_V 0 hts wd_322 wd_324 wd_0 wd_83 wd_325 rfl rfl (by decide +kernel) ⟨Nat.le_of_ble_eq_true rfl, Nat.le_of_ble_eq_true rfl⟩) (pre_V hPc hK hDc hN hO (ci := 11) (q0 := 0) rfl rfl) rfl rfl hl.1 rfl (lv_room (Nat.le_of_ble_eq_true rfl)) dX11_suspect_8 ⟨Nat.le_of_ble_eq_true rfl, Nat.le_of_ble_eq_true rfl⟩) hP hD hS hA [0] [1] rfl rfl (by decide) (by decide) (fun r4 u5 H locs h6 hP hD hS => ?_)
  have hP : va_P D vwCl [((r 3), .inl (c 4, 11, .inr (.inr (.inr (.inr (fun _ => none)))))), ((r 0), .inr (11, fX r 0 0))] H := hP
  have hD : va_D A [((r 3), .inl (c 4, 11, .inr (.inr (.inr (.inr (fun _ => none)))))), ((r 0), .inr (11, fX r 0 0))] := hD
  obtain rfl : r4 = 0 := h6
  refine lv_if_ne (tgt := 32) hx hb dX11_suspect_11 (by decide) (fun c => False.elim (by revert c; decide)) (fun _ => ?_)
  refine lv_aloadN hx hb dX11_suspect_14 (lv_at hl 0 rfl) ?_
  refine lv_ifnullN (tgt := 32) hx hb dX11_suspect_16 (by decide) ?_
  refine lv_iconst (v := (-1)) hx hb dX11_suspect_32 (by decide) ?_
  exact rt_i hx hb hr hlocks hK hP hD hS rfl dX11_suspect_33 () [] rfl rfl rfl
set_option maxHeartbeats 4000000 in
set_option maxRecDepth 100000 in
/-- X11_cause -/
theorem c_X11_cause (l : Launch) (D : va_G) (c : Nat → ClassId) (sz : Nat) (r : Nat → Nat) (p0 : Int32) : Met l yX11_cause (.code yX11_cause cX11_cause 3 (some .int) :: Wd) ({ frames := 1, cells := 0, slots := 0, locals := 21 }) (va_Pc [.ref (r 0), .int p0] (WB D c [((r 0), .inr (11, fX r 0 0)), ((r 3), .inl (c 4, 11, .inr (.inr (.inr (.inr (fun _ => none))))))] sz)) (QI (S := Unit) D c (fun q _ => q = -1) (fun _ => []) (va_A [((r 0), .inr (11, fX r 0 0)), ((r 3), .inl (c 4, 11, .inr (.inr (.inr (.inr (fun _ => none))))))] sz)) 0 0 (va_A [((r 0), .inr (11, fX r 0 0)), ((r 3), .inl (c 4, 11, .inr (.inr (.inr (.inr (fun _ => none))))))] sz) := by
  refine kz_met (Qc := QI (S := Unit) D c (fun q _ => q = -1) (fun _ => [])) (by decide) (Nat.le_of_ble_eq_true rfl) ?_
  intro p e s m below meth cd A ls H locs hx hb hr hml hts hown hlocks hin hN hO hK hP hD hS hA hl
  have hl : lv_has ls 3 [(0, .ref (r 0)), (1, .int p0)] := hl
  have hown : s.vm.findClass RX11 = some m.cls := hown
  refine lv_aload_n hx hb dX11_cause_0 rfl (lv_at hl 0 rfl) ?_
  refine lv_iload_n hx hb dX11_cause_1 rfl (lv_at hl 1 rfl) ?_
  have hPc := hP.sub (ws' := [((r 0), .inr (11, fX r 0 0)), ((r 3), .inl (c 4, 11, .inr (.inr (.inr (.inr (fun _ => none))))))]) [0, 1] rfl
  have hDc := hD.sub (ws' := [((r 0), .inr (11, fX r 0 0)), ((r 3), .inl (c 4, 11, .inr (.inr (.inr (.inr (fun _ => none))))))]) [0, 1] (by decide) rfl
  refine cl_n (wr := []) (va_runV (As := [.int p0]) (rest := []) ⟨hx, hb, hml, hown, hts⟩ (c_X11_poolAt l D c H.size r 0 p0) (kw_V 1 hts wd_581 wd_583 wd_4 wd_83 wd_584 rfl rfl (by decide +kernel) ⟨Nat.le_of_ble_eq_true rfl, Nat.le_of_ble_eq_true rfl⟩) (pre_V hPc hK hDc hN hO (ci := 11) (q0 := 0) rfl rfl) rfl rfl hl.1 rfl (lv_room (Nat.le_of_ble_eq_true rfl)) dX11_cause_2 ⟨Nat.le_of_ble_eq_true rfl, Nat.le_of_ble_eq_true rfl⟩) hP hD hS hA [0, 1] [] rfl rfl (by decide) (by decide) (fun u2 H locs hP hD hS => ?_)
  have hP : va_P D vwCl [((r 0), .inr (11, fX r 0 0)), ((r 3), .inl (c 4, 11, .inr (.inr (.inr (.inr (fun _ => none))))))] H := hP
  have hD : va_D A [((r 0), .inr (11, fX r 0 0)), ((r 3), .inl (c 4, 11, .inr (.inr (.inr (.inr (fun _ => none))))))] := hD
  refine lv_astore_nN (lv' := [(2, .null), (0, .ref (r 0)), (1, .int p0)]) hx hb dX11_cause_5 rfl hl (by decide) rfl (fun ls hl => ?_)
  refine lv_aload_nN hx hb dX11_cause_6 rfl (lv_at hl 0 rfl) ?_
  refine lv_ifnonnullN hx hb dX11_cause_7 ?_
  refine lv_iconst (v := (-1)) hx hb dX11_cause_10 (by decide) ?_
  exact rt_i hx hb hr hlocks hK hP hD hS rfl dX11_cause_11 () [] rfl rfl rfl
set_option maxHeartbeats 4000000 in
set_option maxRecDepth 100000 in
/-- X11_causes -/
theorem c_X11_causes (l : Launch) (D : va_G) (c : Nat → ClassId) (sz : Nat) (r : Nat → Nat) (k : Int32) (i : Int32) : Met l yX11_causes (.code yX11_causes cX11_causes 3 (some .int) :: Wd) ({ frames := 0, cells := 0, slots := 0, locals := 0 }) (va_Pc [.ref (r 0), .int k, .int i] (WB D c [((r 0), .inr (11, fX r 0 0))] sz)) (QI (S := Unit) D c (fun q _ => q = -1) (fun _ => []) (va_A [((r 0), .inr (11, fX r 0 0))] sz)) 0 0 (va_A [((r 0), .inr (11, fX r 0 0))] sz) := by
  refine kz_met (Qc := QI (S := Unit) D c (fun q _ => q = -1) (fun _ => [])) (by decide) (Nat.le_of_ble_eq_true rfl) ?_
  intro p e s m below meth cd A ls H locs hx hb hr hml hts hown hlocks hin hN hO hK hP hD hS hA hl
  have hl : lv_has ls 3 [(0, .ref (r 0)), (1, .int k), (2, .int i)] := hl
  have hown : s.vm.findClass RX11 = some m.cls := hown
  refine lv_aload_n hx hb dX11_causes_0 rfl (lv_at hl 0 rfl) ?_
  refine va_get (D := D) (ci := 11) (v := .null) (C := RX11) (T := TX11) (N := 16) hx hb hts inW_11 hown hK hP 0 rfl rfl 9 (by decide) (hts _ wd_278) (fun _ h9 => h9) rfl dX11_causes_1 ?_
  refine lv_ifnonnullN hx hb dX11_causes_4 ?_
  refine lv_iconst (v := (-1)) hx hb dX11_causes_7 (by decide) ?_
  refine lv_goto (tgt := 20) hx hb dX11_causes_8 (by decide) ?_
  exact rt_i hx hb hr hlocks hK hP hD hS rfl dX11_causes_20 () [] rfl rfl rfl
set_option maxHeartbeats 4000000 in
set_option maxRecDepth 100000 in
/-- X11_look -/
theorem c_X11_look (l : Launch) (D : va_G) (c : Nat → ClassId) (sz : Nat) (r : Nat → Nat) : Met l yX11_look (.code yX11_look cX11_look 1 (some .int) :: Wd) ({ frames := 0, cells := 0, slots := 0, locals := 0 }) (va_Pc [.ref (r 0)] (WB D c [((r 0), .inr (11, fX r 0 0))] sz)) (QI (S := Unit) D c (fun q _ => q = -1) (fun _ => []) (va_A [((r 0), .inr (11, fX r 0 0))] sz)) 0 0 (va_A [((r 0), .inr (11, fX r 0 0))] sz) := by
  refine kz_met (Qc := QI (S := Unit) D c (fun q _ => q = -1) (fun _ => [])) (by decide) (Nat.le_of_ble_eq_true rfl) ?_
  intro p e s m below meth cd A ls H locs hx hb hr hml hts hown hlocks hin hN hO hK hP hD hS hA hl
  have hl : lv_has ls 1 [(0, .ref (r 0))] := hl
  have hown : s.vm.findClass RX11 = some m.cls := hown
  refine lv_aload_n hx hb dX11_look_0 rfl (lv_at hl 0 rfl) ?_
  refine va_get (D := D) (ci := 11) (v := .null) (C := RX11) (T := TX11) (N := 16) hx hb hts inW_11 hown hK hP 0 rfl rfl 9 (by decide) (hts _ wd_278) (fun _ h9 => h9) rfl dX11_look_1 ?_
  refine lv_ifnonnullN hx hb dX11_look_4 ?_
  refine lv_iconst (v := (-1)) hx hb dX11_look_7 (by decide) ?_
  refine lv_goto (tgt := 18) hx hb dX11_look_8 (by decide) ?_
  exact rt_i hx hb hr hlocks hK hP hD hS rfl dX11_look_18 () [] rfl rfl rfl
set_option maxHeartbeats 4000000 in
set_option maxRecDepth 100000 in
/-- X11_lease -/
theorem c_X11_lease (l : Launch) (D : va_G) (c : Nat → ClassId) (sz : Nat) (r : Nat → Nat) (p0 : Int32) (k : Int32) (f : Int32) (t : Int32) : Met l yX11_lease (.code yX11_lease cX11_lease 5 (some .int) :: Wd) ({ frames := 1, cells := 0, slots := 0, locals := 21 }) (va_Pc [.ref (r 0), .int p0, .int k, .int f, .int t] (WB D c [((r 0), .inr (11, fX r 0 0)), ((r 3), .inl (c 4, 11, .inr (.inr (.inr (.inr (fun _ => none)))))), ((r 7), .inl (c 6, 10, .inr (.inr (.inr (.inr (fun _ => none))))))] sz)) (QI (S := Unit) D c (fun q _ => q = -1) (fun _ => []) (va_A [((r 0), .inr (11, fX r 0 0)), ((r 3), .inl (c 4, 11, .inr (.inr (.inr (.inr (fun _ => none)))))), ((r 7), .inl (c 6, 10, .inr (.inr (.inr (.inr (fun _ => none))))))] sz)) 0 0 (va_A [((r 0), .inr (11, fX r 0 0)), ((r 3), .inl (c 4, 11, .inr (.inr (.inr (.inr (fun _ => none)))))), ((r 7), .inl (c 6, 10, .inr (.inr (.inr (.inr (fun _ => none))))))] sz) := by
  refine kz_met (Qc := QI (S := Unit) D c (fun q _ => q = -1) (fun _ => [])) (by decide) (Nat.le_of_ble_eq_true rfl) ?_
  intro p e s m below meth cd A ls H locs hx hb hr hml hts hown hlocks hin hN hO hK hP hD hS hA hl
  have hl : lv_has ls 5 [(0, .ref (r 0)), (1, .int p0), (2, .int k), (3, .int f), (4, .int t)] := hl
  have hown : s.vm.findClass RX11 = some m.cls := hown
  refine lv_aload_n hx hb dX11_lease_0 rfl (lv_at hl 0 rfl) ?_
  have hPc := hP.sub (ws' := [((r 0), .inr (11, fX r 0 0))]) [0] rfl
  have hDc := hD.sub (ws' := [((r 0), .inr (11, fX r 0 0))]) [0] (by decide) rfl
  refine cl_i (wr := [((r 3), .inl (c 4, 11, .inr (.inr (.inr (.inr (fun _ => none)))))), ((r 7), .inl (c 6, 10, .inr (.inr (.inr (.inr (fun _ => none))))))]) (va_runV (As := []) (rest := []) ⟨hx, hb, hml, hown, hts⟩ (c_X11_atEnd l D c H.size r 0) (kw_V 0 hts wd_322 wd_324 wd_0 wd_83 wd_325 rfl rfl (by decide +kernel) ⟨Nat.le_of_ble_eq_true rfl, Nat.le_of_ble_eq_true rfl⟩) (pre_V hPc hK hDc hN hO (ci := 11) (q0 := 0) rfl rfl) rfl rfl hl.1 rfl (lv_room (Nat.le_of_ble_eq_true rfl)) dX11_lease_1 ⟨Nat.le_of_ble_eq_true rfl, Nat.le_of_ble_eq_true rfl⟩) hP hD hS hA [0] [1, 2] rfl rfl (by decide) (by decide) (fun r1 u2 H locs h3 hP hD hS => ?_)
  have hP : va_P D vwCl [((r 3), .inl (c 4, 11, .inr (.inr (.inr (.inr (fun _ => none)))))), ((r 7), .inl (c 6, 10, .inr (.inr (.inr (.inr (fun _ => none)))))), ((r 0), .inr (11, fX r 0 0))] H := hP
  have hD : va_D A [((r 3), .inl (c 4, 11, .inr (.inr (.inr (.inr (fun _ => none)))))), ((r 7), .inl (c 6, 10, .inr (.inr (.inr (.inr (fun _ => none)))))), ((r 0), .inr (11, fX r 0 0))] := hD
  obtain rfl : r1 = 0 := h3
  refine lv_if_ne (tgt := 59) hx hb dX11_lease_4 (by decide) (fun c => False.elim (by revert c; decide)) (fun _ => ?_)
  refine lv_aload_n hx hb dX11_lease_7 rfl (lv_at hl 0 rfl) ?_
  refine va_get (D := D) (ci := 11) (v := .int 0) (C := RX11) (T := TX11) (N := 16) hx hb hts inW_11 hown hK hP 2 rfl rfl 12 (by decide) (hts _ wd_281) (fun _ h9 => h9) rfl dX11_lease_8 ?_
  refine lv_aload_n hx hb dX11_lease_11 rfl (lv_at hl 0 rfl) ?_
  refine va_get (D := D) (ci := 11) (v := .ref (r 7)) (C := RX11) (T := TX11) (N := 16) hx hb hts inW_11 hown hK hP 2 rfl rfl 6 (by decide) (hts _ wd_275) (fun _ h9 => h9) rfl dX11_lease_12 ?_
  refine va_alen (v := 10) hx hb hK hP 1 6 rfl rfl (by show Int32.ofNat 10 = 10; decide) dX11_lease_15 ?_
  refine lv_icmp_ge (tgt := 59) hx hb dX11_lease_16 (by decide) (fun c => False.elim (by revert c; decide)) (fun _ => ?_)
  refine lv_aload_n hx hb dX11_lease_19 rfl (lv_at hl 0 rfl) ?_
  refine lv_iload_n hx hb dX11_lease_20 rfl (lv_at hl 1 rfl) ?_
  have hPc := hP.sub (ws' := [((r 0), .inr (11, fX r 0 0)), ((r 3), .inl (c 4, 11, .inr (.inr (.inr (.inr (fun _ => none))))))]) [2, 0] rfl
  have hDc := hD.sub (ws' := [((r 0), .inr (11, fX r 0 0)), ((r 3), .inl (c 4, 11, .inr (.inr (.inr (.inr (fun _ => none))))))]) [2, 0] (by decide) rfl
  refine cl_n (wr := [((r 7), .inl (c 6, 10, .inr (.inr (.inr (.inr (fun _ => none))))))]) (va_runV (As := [.int p0]) (rest := []) ⟨hx, hb, hml, hown, hts⟩ (c_X11_poolAt l D c H.size r 0 p0) (kw_V 1 hts wd_581 wd_583 wd_4 wd_83 wd_584 rfl rfl (by decide +kernel) ⟨Nat.le_of_ble_eq_true rfl, Nat.le_of_ble_eq_true rfl⟩) (pre_V hPc hK hDc hN hO (ci := 11) (q0 := 0) rfl rfl) rfl rfl hl.1 rfl (lv_room (Nat.le_of_ble_eq_true rfl)) dX11_lease_21 ⟨Nat.le_of_ble_eq_true rfl, Nat.le_of_ble_eq_true rfl⟩) hP hD hS hA [2, 0] [1] rfl rfl (by decide) (by decide) (fun u5 H locs hP hD hS => ?_)
  have hP : va_P D vwCl [((r 7), .inl (c 6, 10, .inr (.inr (.inr (.inr (fun _ => none)))))), ((r 0), .inr (11, fX r 0 0)), ((r 3), .inl (c 4, 11, .inr (.inr (.inr (.inr (fun _ => none))))))] H := hP
  have hD : va_D A [((r 7), .inl (c 6, 10, .inr (.inr (.inr (.inr (fun _ => none)))))), ((r 0), .inr (11, fX r 0 0)), ((r 3), .inl (c 4, 11, .inr (.inr (.inr (.inr (fun _ => none))))))] := hD
  refine lv_ifnullN (tgt := 59) hx hb dX11_lease_24 (by decide) ?_
  refine lv_iconst (v := (-1)) hx hb dX11_lease_59 (by decide) ?_
  exact rt_i hx hb hr hlocks hK hP hD hS rfl dX11_lease_60 () [] rfl rfl rfl
set_option maxHeartbeats 4000000 in
set_option maxRecDepth 100000 in
/-- X11_due -/
theorem c_X11_due (l : Launch) (D : va_G) (c : Nat → ClassId) (sz : Nat) (r : Nat → Nat) (k : Int32) (t : Int32) : Met l yX11_due (.code yX11_due cX11_due 4 (some .int) :: Wd) ({ frames := 1, cells := 0, slots := 0, locals := 21 }) (va_Pc [.ref (r 0), .int k, .int t] (WB D c [((r 0), .inr (11, fX r 0 0)), ((r 7), .inl (c 6, 10, .inr (.inr (.inr (.inr (fun _ => none))))))] sz)) (QI (S := Unit) D c (fun q _ => q = -1) (fun _ => []) (va_A [((r 0), .inr (11, fX r 0 0)), ((r 7), .inl (c 6, 10, .inr (.inr (.inr (.inr (fun _ => none))))))] sz)) 0 0 (va_A [((r 0), .inr (11, fX r 0 0)), ((r 7), .inl (c 6, 10, .inr (.inr (.inr (.inr (fun _ => none))))))] sz) := by
  refine kz_met (Qc := QI (S := Unit) D c (fun q _ => q = -1) (fun _ => [])) (by decide) (Nat.le_of_ble_eq_true rfl) ?_
  intro p e s m below meth cd A ls H locs hx hb hr hml hts hown hlocks hin hN hO hK hP hD hS hA hl
  have hl : lv_has ls 4 [(0, .ref (r 0)), (1, .int k), (2, .int t)] := hl
  have hown : s.vm.findClass RX11 = some m.cls := hown
  refine lv_aload_n hx hb dX11_due_0 rfl (lv_at hl 0 rfl) ?_
  refine lv_iload_n hx hb dX11_due_1 rfl (lv_at hl 1 rfl) ?_
  have hPc := hP.sub (ws' := [((r 0), .inr (11, fX r 0 0)), ((r 7), .inl (c 6, 10, .inr (.inr (.inr (.inr (fun _ => none))))))]) [0, 1] rfl
  have hDc := hD.sub (ws' := [((r 0), .inr (11, fX r 0 0)), ((r 7), .inl (c 6, 10, .inr (.inr (.inr (.inr (fun _ => none))))))]) [0, 1] (by decide) rfl
  refine cl_n (wr := []) (va_runV (As := [.int k]) (rest := []) ⟨hx, hb, hml, hown, hts⟩ (c_X11_leaseAt l D c H.size r 0 k) (kw_V 1 hts wd_1093 wd_1095 wd_39 wd_83 wd_1096 rfl rfl (by decide +kernel) ⟨Nat.le_of_ble_eq_true rfl, Nat.le_of_ble_eq_true rfl⟩) (pre_V hPc hK hDc hN hO (ci := 11) (q0 := 0) rfl rfl) rfl rfl hl.1 rfl (lv_room (Nat.le_of_ble_eq_true rfl)) dX11_due_2 ⟨Nat.le_of_ble_eq_true rfl, Nat.le_of_ble_eq_true rfl⟩) hP hD hS hA [0, 1] [] rfl rfl (by decide) (by decide) (fun u2 H locs hP hD hS => ?_)
  have hP : va_P D vwCl [((r 0), .inr (11, fX r 0 0)), ((r 7), .inl (c 6, 10, .inr (.inr (.inr (.inr (fun _ => none))))))] H := hP
  have hD : va_D A [((r 0), .inr (11, fX r 0 0)), ((r 7), .inl (c 6, 10, .inr (.inr (.inr (.inr (fun _ => none))))))] := hD
  refine lv_astore_nN (lv' := [(3, .null), (0, .ref (r 0)), (1, .int k), (2, .int t)]) hx hb dX11_due_5 rfl hl (by decide) rfl (fun ls hl => ?_)
  refine lv_aload_nN hx hb dX11_due_6 rfl (lv_at hl 0 rfl) ?_
  refine lv_ifnullN (tgt := 24) hx hb dX11_due_7 (by decide) ?_
  refine lv_iconst (v := (-1)) hx hb dX11_due_24 (by decide) ?_
  refine lv_goto (tgt := 34) hx hb dX11_due_25 (by decide) ?_
  exact rt_i hx hb hr hlocks hK hP hD hS rfl dX11_due_34 () [] rfl rfl rfl
set_option maxHeartbeats 4000000 in
set_option maxRecDepth 100000 in
/-- X11_pay -/
theorem c_X11_pay (l : Launch) (D : va_G) (c : Nat → ClassId) (sz : Nat) (r : Nat → Nat) (k : Int32) : Met l yX11_pay (.code yX11_pay cX11_pay 4 (some .int) :: Wd) ({ frames := 1, cells := 0, slots := 0, locals := 21 }) (va_Pc [.ref (r 0), .int k] (WB D c [((r 0), .inr (11, fX r 0 0)), ((r 7), .inl (c 6, 10, .inr (.inr (.inr (.inr (fun _ => none))))))] sz)) (QI (S := Unit) D c (fun q _ => q = -1000000) (fun _ => []) (va_A [((r 0), .inr (11, fX r 0 0)), ((r 7), .inl (c 6, 10, .inr (.inr (.inr (.inr (fun _ => none))))))] sz)) 0 0 (va_A [((r 0), .inr (11, fX r 0 0)), ((r 7), .inl (c 6, 10, .inr (.inr (.inr (.inr (fun _ => none))))))] sz) := by
  refine kz_met (Qc := QI (S := Unit) D c (fun q _ => q = -1000000) (fun _ => [])) (by decide) (Nat.le_of_ble_eq_true rfl) ?_
  intro p e s m below meth cd A ls H locs hx hb hr hml hts hown hlocks hin hN hO hK hP hD hS hA hl
  have hl : lv_has ls 4 [(0, .ref (r 0)), (1, .int k)] := hl
  have hown : s.vm.findClass RX11 = some m.cls := hown
  refine lv_aload_n hx hb dX11_pay_0 rfl (lv_at hl 0 rfl) ?_
  refine lv_iload_n hx hb dX11_pay_1 rfl (lv_at hl 1 rfl) ?_
  have hPc := hP.sub (ws' := [((r 0), .inr (11, fX r 0 0)), ((r 7), .inl (c 6, 10, .inr (.inr (.inr (.inr (fun _ => none))))))]) [0, 1] rfl
  have hDc := hD.sub (ws' := [((r 0), .inr (11, fX r 0 0)), ((r 7), .inl (c 6, 10, .inr (.inr (.inr (.inr (fun _ => none))))))]) [0, 1] (by decide) rfl
  refine cl_n (wr := []) (va_runV (As := [.int k]) (rest := []) ⟨hx, hb, hml, hown, hts⟩ (c_X11_leaseAt l D c H.size r 0 k) (kw_V 1 hts wd_1093 wd_1095 wd_39 wd_83 wd_1096 rfl rfl (by decide +kernel) ⟨Nat.le_of_ble_eq_true rfl, Nat.le_of_ble_eq_true rfl⟩) (pre_V hPc hK hDc hN hO (ci := 11) (q0 := 0) rfl rfl) rfl rfl hl.1 rfl (lv_room (Nat.le_of_ble_eq_true rfl)) dX11_pay_2 ⟨Nat.le_of_ble_eq_true rfl, Nat.le_of_ble_eq_true rfl⟩) hP hD hS hA [0, 1] [] rfl rfl (by decide) (by decide) (fun u2 H locs hP hD hS => ?_)
  have hP : va_P D vwCl [((r 0), .inr (11, fX r 0 0)), ((r 7), .inl (c 6, 10, .inr (.inr (.inr (.inr (fun _ => none))))))] H := hP
  have hD : va_D A [((r 0), .inr (11, fX r 0 0)), ((r 7), .inl (c 6, 10, .inr (.inr (.inr (.inr (fun _ => none))))))] := hD
  refine lv_astore_nN (lv' := [(2, .null), (0, .ref (r 0)), (1, .int k)]) hx hb dX11_pay_5 rfl hl (by decide) rfl (fun ls hl => ?_)
  refine lv_aload_n hx hb dX11_pay_6 rfl (lv_at hl 1 rfl) ?_
  have hPc := hP.sub (ws' := [((r 0), .inr (11, fX r 0 0))]) [0] rfl
  have hDc := hD.sub (ws' := [((r 0), .inr (11, fX r 0 0))]) [0] (by decide) rfl
  refine cl_i (wr := [((r 7), .inl (c 6, 10, .inr (.inr (.inr (.inr (fun _ => none))))))]) (va_runV (As := []) (rest := []) ⟨hx, hb, hml, hown, hts⟩ (c_X11_atEnd l D c H.size r 0) (kw_V 0 hts wd_322 wd_324 wd_0 wd_83 wd_325 rfl rfl (by decide +kernel) ⟨Nat.le_of_ble_eq_true rfl, Nat.le_of_ble_eq_true rfl⟩) (pre_V hPc hK hDc hN hO (ci := 11) (q0 := 0) rfl rfl) rfl rfl hl.1 rfl (lv_room (Nat.le_of_ble_eq_true rfl)) dX11_pay_7 ⟨Nat.le_of_ble_eq_true rfl, Nat.le_of_ble_eq_true rfl⟩) hP hD hS hA [0] [1] rfl rfl (by decide) (by decide) (fun r4 u5 H locs h6 hP hD hS => ?_)
  have hP : va_P D vwCl [((r 7), .inl (c 6, 10, .inr (.inr (.inr (.inr (fun _ => none)))))), ((r 0), .inr (11, fX r 0 0))] H := hP
  have hD : va_D A [((r 7), .inl (c 6, 10, .inr (.inr (.inr (.inr (fun _ => none)))))), ((r 0), .inr (11, fX r 0 0))] := hD
  obtain rfl : r4 = 0 := h6
  refine lv_if_ne (tgt := 17) hx hb dX11_pay_10 (by decide) (fun c => False.elim (by revert c; decide)) (fun _ => ?_)
  refine lv_aload_nN hx hb dX11_pay_13 rfl (lv_at hl 0 rfl) ?_
  refine lv_ifnonnullN hx hb dX11_pay_14 ?_
  refine lv_ldcw (v := (-1000000)) hx hb hown (hts _ wd_1105) dX11_pay_17 ?_
  exact rt_i hx hb hr hlocks hK hP hD hS rfl dX11_pay_20 () [] rfl rfl rfl
set_option maxHeartbeats 4000000 in
set_option maxRecDepth 100000 in
/-- X11_count -/
theorem c_X11_count (l : Launch) (D : va_G) (c : Nat → ClassId) (sz : Nat) (r : Nat → Nat) (w : Int32) : Met l yX11_count (.code yX11_count cX11_count 2 (some .int) :: Wd) ({ frames := 2, cells := 0, slots := 0, locals := 43 }) (va_Pc [.ref (r 0), .int w] (WB D c [((r 0), .inr (11, fX r 0 0)), ((r 1), .inr (8, fTd r)), ((r 2), .inr (10, fWv r)), ((r 4), .inr (5, fRd r 0)), ((r 6), .inr (7, fSm r)), ((r 7), .inl (c 6, 10, .inr (.inr (.inr (.inr (fun _ => none))))))] sz)) (QI (S := Unit) D c (fun q _ => q = f_count w) (fun _ => []) (va_A [((r 0), .inr (11, fX r 0 0)), ((r 1), .inr (8, fTd r)), ((r 2), .inr (10, fWv r)), ((r 4), .inr (5, fRd r 0)), ((r 6), .inr (7, fSm r)), ((r 7), .inl (c 6, 10, .inr (.inr (.inr (.inr (fun _ => none))))))] sz)) 0 0 (va_A [((r 0), .inr (11, fX r 0 0)), ((r 1), .inr (8, fTd r)), ((r 2), .inr (10, fWv r)), ((r 4), .inr (5, fRd r 0)), ((r 6), .inr (7, fSm r)), ((r 7), .inl (c 6, 10, .inr (.inr (.inr (.inr (fun _ => none))))))] sz) := by
  refine kz_met (Qc := QI (S := Unit) D c (fun q _ => q = f_count w) (fun _ => [])) (by decide) (Nat.le_of_ble_eq_true rfl) ?_
  intro p e s m below meth cd A ls H locs hx hb hr hml hts hown hlocks hin hN hO hK hP hD hS hA hl
  have hl : lv_has ls 2 [(0, .ref (r 0)), (1, .int w)] := hl
  have hown : s.vm.findClass RX11 = some m.cls := hown
  refine lv_iload_n hx hb dX11_count_0 rfl (lv_at hl 1 rfl) ?_
  by_cases c1 : w = 0
  · subst c1
    refine lv_tableIn (tgt := 60) hx hb dX11_count_1 (by decide) (by decide) rfl (by decide) ?_
    refine lv_aload_n hx hb dX11_count_60 rfl (lv_at hl 0 rfl) ?_
    refine va_get (D := D) (ci := 11) (v := .int 0) (C := RX11) (T := TX11) (N := 16) hx hb hts inW_11 hown hK hP 0 rfl rfl 13 (by decide) (hts _ wd_282) (fun _ h9 => h9) rfl dX11_count_61 ?_
    exact rt_i hx hb hr hlocks hK hP hD hS rfl dX11_count_64 () [] rfl rfl (by decide)
  · by_cases c2 : w = 1
    · subst c2
      refine lv_tableIn (tgt := 65) hx hb dX11_count_1 (by decide) (by decide) rfl (by decide) ?_
      refine lv_aload_n hx hb dX11_count_65 rfl (lv_at hl 0 rfl) ?_
      refine va_get (D := D) (ci := 11) (v := .ref (r 1)) (C := RX11) (T := TX11) (N := 16) hx hb hts inW_11 hown hK hP 0 rfl rfl 0 (by decide) (hts _ wd_269) (fun _ h9 => h9) rfl dX11_count_66 ?_
      refine va_get (D := D) (ci := 8) (v := .int 0) (C := RX8) (T := TX8) (N := 3) hx hb hts inW_8 hown hK hP 1 rfl rfl 2 (by decide) (hts _ wd_121) (fun _ h9 => h9) rfl dX11_count_69 ?_
      exact rt_i hx hb hr hlocks hK hP hD hS rfl dX11_count_72 () [] rfl rfl (by decide)
    · by_cases c3 : w = 2
      · subst c3
        refine lv_tableIn (tgt := 73) hx hb dX11_count_1 (by decide) (by decide) rfl (by decide) ?_
        refine lv_aload_n hx hb dX11_count_73 rfl (lv_at hl 0 rfl) ?_
        refine va_get (D := D) (ci := 11) (v := .ref (r 2)) (C := RX11) (T := TX11) (N := 16) hx hb hts inW_11 hown hK hP 0 rfl rfl 1 (by decide) (hts _ wd_270) (fun _ h9 => h9) rfl dX11_count_74 ?_
        refine va_get (D := D) (ci := 10) (v := .int 0) (C := RX10) (T := TX10) (N := 7) hx hb hts inW_10 hown hK hP 2 rfl rfl 4 (by decide) (hts _ wd_141) (fun _ h9 => h9) rfl dX11_count_77 ?_
        exact rt_i hx hb hr hlocks hK hP hD hS rfl dX11_count_80 () [] rfl rfl (by decide)
      · by_cases c4 : w = 3
        · subst c4
          refine lv_tableIn (tgt := 81) hx hb dX11_count_1 (by decide) (by decide) rfl (by decide) ?_
          refine lv_aload_n hx hb dX11_count_81 rfl (lv_at hl 0 rfl) ?_
          refine va_get (D := D) (ci := 11) (v := .int 0) (C := RX11) (T := TX11) (N := 16) hx hb hts inW_11 hown hK hP 0 rfl rfl 10 (by decide) (hts _ wd_279) (fun _ h9 => h9) rfl dX11_count_82 ?_
          exact rt_i hx hb hr hlocks hK hP hD hS rfl dX11_count_85 () [] rfl rfl (by decide)
        · by_cases c5 : w = 4
          · subst c5
            refine lv_tableIn (tgt := 86) hx hb dX11_count_1 (by decide) (by decide) rfl (by decide) ?_
            refine lv_aload_n hx hb dX11_count_86 rfl (lv_at hl 0 rfl) ?_
            refine va_get (D := D) (ci := 11) (v := .int 0) (C := RX11) (T := TX11) (N := 16) hx hb hts inW_11 hown hK hP 0 rfl rfl 11 (by decide) (hts _ wd_280) (fun _ h9 => h9) rfl dX11_count_87 ?_
            exact rt_i hx hb hr hlocks hK hP hD hS rfl dX11_count_90 () [] rfl rfl (by decide)
          · by_cases c6 : w = 5
            · subst c6
              refine lv_tableIn (tgt := 91) hx hb dX11_count_1 (by decide) (by decide) rfl (by decide) ?_
              refine lv_aload_n hx hb dX11_count_91 rfl (lv_at hl 0 rfl) ?_
              refine va_get (D := D) (ci := 11) (v := .ref (r 6)) (C := RX11) (T := TX11) (N := 16) hx hb hts inW_11 hown hK hP 0 rfl rfl 5 (by decide) (hts _ wd_274) (fun _ h9 => h9) rfl dX11_count_92 ?_
              refine va_get (D := D) (ci := 7) (v := .int 0) (C := RX7) (T := TX7) (N := 5) hx hb hts inW_7 hown hK hP 4 rfl rfl 4 (by decide) (hts _ wd_214) (fun _ h9 => h9) rfl dX11_count_95 ?_
              exact rt_i hx hb hr hlocks hK hP hD hS rfl dX11_count_98 () [] rfl rfl (by decide)
            · by_cases c7 : w = 6
              · subst c7
                refine lv_tableIn (tgt := 99) hx hb dX11_count_1 (by decide) (by decide) rfl (by decide) ?_
                refine lv_aload_n hx hb dX11_count_99 rfl (lv_at hl 0 rfl) ?_
                refine va_get (D := D) (ci := 11) (v := .int 0) (C := RX11) (T := TX11) (N := 16) hx hb hts inW_11 hown hK hP 0 rfl rfl 12 (by decide) (hts _ wd_281) (fun _ h9 => h9) rfl dX11_count_100 ?_
                exact rt_i hx hb hr hlocks hK hP hD hS rfl dX11_count_103 () [] rfl rfl (by decide)
              · by_cases c8 : w = 7
                · subst c8
                  refine lv_tableIn (tgt := 104) hx hb dX11_count_1 (by decide) (by decide) rfl (by decide) ?_
                  refine lv_aload_n hx hb dX11_count_104 rfl (lv_at hl 0 rfl) ?_
                  refine va_get (D := D) (ci := 11) (v := .ref (r 4)) (C := RX11) (T := TX11) (N := 16) hx hb hts inW_11 hown hK hP 0 rfl rfl 3 (by decide) (hts _ wd_272) (fun _ h9 => h9) rfl dX11_count_105 ?_
                  refine va_get (D := D) (ci := 5) (v := .int 0) (C := RX5) (T := TX5) (N := 9) hx hb hts inW_5 hown hK hP 3 rfl rfl 1 (by decide) (hts _ wd_172) (fun _ h9 => h9) rfl dX11_count_108 ?_
                  exact rt_i hx hb hr hlocks hK hP hD hS rfl dX11_count_111 () [] rfl rfl (by decide)
                · by_cases c9 : w = 8
                  · subst c9
                    refine lv_tableIn (tgt := 112) hx hb dX11_count_1 (by decide) (by decide) rfl (by decide) ?_
                    refine lv_aload_n hx hb dX11_count_112 rfl (lv_at hl 0 rfl) ?_
                    refine lv_iload_n hx hb dX11_count_113 rfl (lv_at hl 1 rfl) ?_
                    refine lv_bipush (v := 8) hx hb dX11_count_114 (by decide) ?_
                    refine lv_isub hx hb dX11_count_116 ?_
                    refine lv_topi (fun v10 e11 => ?_)
                    obtain rfl : v10 = 0 := e11.trans (by decide)
                    have hPc := hP.sub (ws' := [((r 0), .inr (11, fX r 0 0)), ((r 2), .inr (10, fWv r))]) [0, 2] rfl
                    have hDc := hD.sub (ws' := [((r 0), .inr (11, fX r 0 0)), ((r 2), .inr (10, fWv r))]) [0, 2] (by decide) rfl
                    refine cl_i (wr := [((r 1), .inr (8, fTd r)), ((r 4), .inr (5, fRd r 0)), ((r 6), .inr (7, fSm r)), ((r 7), .inl (c 6, 10, .inr (.inr (.inr (.inr (fun _ => none))))))]) (va_runV (As := [.int 0]) (rest := []) ⟨hx, hb, hml, hown, hts⟩ (c_X11_settingOf l D c H.size r 0 0) (kw_V 1 hts wd_390 wd_392 wd_3 wd_83 wd_393 rfl rfl (by decide +kernel) ⟨Nat.le_of_ble_eq_true rfl, Nat.le_of_ble_eq_true rfl⟩) (pre_V hPc hK hDc hN hO (ci := 11) (q0 := 0) rfl rfl) rfl rfl hl.1 rfl (lv_room (Nat.le_of_ble_eq_true rfl)) dX11_count_117 ⟨Nat.le_of_ble_eq_true rfl, Nat.le_of_ble_eq_true rfl⟩) hP hD hS hA [0, 2] [1, 3, 4, 5] rfl rfl (by decide) (by decide) (fun r12 u13 H locs h14 hP hD hS => ?_)
                    have hP : va_P D vwCl [((r 1), .inr (8, fTd r)), ((r 4), .inr (5, fRd r 0)), ((r 6), .inr (7, fSm r)), ((r 7), .inl (c 6, 10, .inr (.inr (.inr (.inr (fun _ => none)))))), ((r 0), .inr (11, fX r 0 0)), ((r 2), .inr (10, fWv r))] H := hP
                    have hD : va_D A [((r 1), .inr (8, fTd r)), ((r 4), .inr (5, fRd r 0)), ((r 6), .inr (7, fSm r)), ((r 7), .inl (c 6, 10, .inr (.inr (.inr (.inr (fun _ => none)))))), ((r 0), .inr (11, fX r 0 0)), ((r 2), .inr (10, fWv r))] := hD
                    obtain rfl : r12 = 100 := h14.trans (by decide)
                    exact rt_i hx hb hr hlocks hK hP hD hS rfl dX11_count_120 () [] rfl rfl (by decide)
                  · by_cases c15 : w = 9
                    · subst c15
                      refine lv_tableIn (tgt := 112) hx hb dX11_count_1 (by decide) (by decide) rfl (by decide) ?_
                      refine lv_aload_n hx hb dX11_count_112 rfl (lv_at hl 0 rfl) ?_
                      refine lv_iload_n hx hb dX11_count_113 rfl (lv_at hl 1 rfl) ?_
                      refine lv_bipush (v := 8) hx hb dX11_count_114 (by decide) ?_
                      refine lv_isub hx hb dX11_count_116 ?_
                      refine lv_topi (fun v16 e17 => ?_)
                      obtain rfl : v16 = 1 := e17.trans (by decide)
                      have hPc := hP.sub (ws' := [((r 0), .inr (11, fX r 0 0)), ((r 2), .inr (10, fWv r))]) [0, 2] rfl
                      have hDc := hD.sub (ws' := [((r 0), .inr (11, fX r 0 0)), ((r 2), .inr (10, fWv r))]) [0, 2] (by decide) rfl
                      refine cl_i (wr := [((r 1), .inr (8, fTd r)), ((r 4), .inr (5, fRd r 0)), ((r 6), .inr (7, fSm r)), ((r 7), .inl (c 6, 10, .inr (.inr (.inr (.inr (fun _ => none))))))]) (va_runV (As := [.int 1]) (rest := []) ⟨hx, hb, hml, hown, hts⟩ (c_X11_settingOf l D c H.size r 0 1) (kw_V 1 hts wd_390 wd_392 wd_3 wd_83 wd_393 rfl rfl (by decide +kernel) ⟨Nat.le_of_ble_eq_true rfl, Nat.le_of_ble_eq_true rfl⟩) (pre_V hPc hK hDc hN hO (ci := 11) (q0 := 0) rfl rfl) rfl rfl hl.1 rfl (lv_room (Nat.le_of_ble_eq_true rfl)) dX11_count_117 ⟨Nat.le_of_ble_eq_true rfl, Nat.le_of_ble_eq_true rfl⟩) hP hD hS hA [0, 2] [1, 3, 4, 5] rfl rfl (by decide) (by decide) (fun r18 u19 H locs h20 hP hD hS => ?_)
                      have hP : va_P D vwCl [((r 1), .inr (8, fTd r)), ((r 4), .inr (5, fRd r 0)), ((r 6), .inr (7, fSm r)), ((r 7), .inl (c 6, 10, .inr (.inr (.inr (.inr (fun _ => none)))))), ((r 0), .inr (11, fX r 0 0)), ((r 2), .inr (10, fWv r))] H := hP
                      have hD : va_D A [((r 1), .inr (8, fTd r)), ((r 4), .inr (5, fRd r 0)), ((r 6), .inr (7, fSm r)), ((r 7), .inl (c 6, 10, .inr (.inr (.inr (.inr (fun _ => none)))))), ((r 0), .inr (11, fX r 0 0)), ((r 2), .inr (10, fWv r))] := hD
                      obtain rfl : r18 = 150 := h20.trans (by decide)
                      exact rt_i hx hb hr hlocks hK hP hD hS rfl dX11_count_120 () [] rfl rfl (by decide)
                    · by_cases c21 : w = 10
                      · subst c21
                        refine lv_tableIn (tgt := 112) hx hb dX11_count_1 (by decide) (by decide) rfl (by decide) ?_
                        refine lv_aload_n hx hb dX11_count_112 rfl (lv_at hl 0 rfl) ?_
                        refine lv_iload_n hx hb dX11_count_113 rfl (lv_at hl 1 rfl) ?_
                        refine lv_bipush (v := 8) hx hb dX11_count_114 (by decide) ?_
                        refine lv_isub hx hb dX11_count_116 ?_
                        refine lv_topi (fun v22 e23 => ?_)
                        obtain rfl : v22 = 2 := e23.trans (by decide)
                        have hPc := hP.sub (ws' := [((r 0), .inr (11, fX r 0 0)), ((r 2), .inr (10, fWv r))]) [0, 2] rfl
                        have hDc := hD.sub (ws' := [((r 0), .inr (11, fX r 0 0)), ((r 2), .inr (10, fWv r))]) [0, 2] (by decide) rfl
                        refine cl_i (wr := [((r 1), .inr (8, fTd r)), ((r 4), .inr (5, fRd r 0)), ((r 6), .inr (7, fSm r)), ((r 7), .inl (c 6, 10, .inr (.inr (.inr (.inr (fun _ => none))))))]) (va_runV (As := [.int 2]) (rest := []) ⟨hx, hb, hml, hown, hts⟩ (c_X11_settingOf l D c H.size r 0 2) (kw_V 1 hts wd_390 wd_392 wd_3 wd_83 wd_393 rfl rfl (by decide +kernel) ⟨Nat.le_of_ble_eq_true rfl, Nat.le_of_ble_eq_true rfl⟩) (pre_V hPc hK hDc hN hO (ci := 11) (q0 := 0) rfl rfl) rfl rfl hl.1 rfl (lv_room (Nat.le_of_ble_eq_true rfl)) dX11_count_117 ⟨Nat.le_of_ble_eq_true rfl, Nat.le_of_ble_eq_true rfl⟩) hP hD hS hA [0, 2] [1, 3, 4, 5] rfl rfl (by decide) (by decide) (fun r24 u25 H locs h26 hP hD hS => ?_)
                        have hP : va_P D vwCl [((r 1), .inr (8, fTd r)), ((r 4), .inr (5, fRd r 0)), ((r 6), .inr (7, fSm r)), ((r 7), .inl (c 6, 10, .inr (.inr (.inr (.inr (fun _ => none)))))), ((r 0), .inr (11, fX r 0 0)), ((r 2), .inr (10, fWv r))] H := hP
                        have hD : va_D A [((r 1), .inr (8, fTd r)), ((r 4), .inr (5, fRd r 0)), ((r 6), .inr (7, fSm r)), ((r 7), .inl (c 6, 10, .inr (.inr (.inr (.inr (fun _ => none)))))), ((r 0), .inr (11, fX r 0 0)), ((r 2), .inr (10, fWv r))] := hD
                        obtain rfl : r24 = 8 := h26.trans (by decide)
                        exact rt_i hx hb hr hlocks hK hP hD hS rfl dX11_count_120 () [] rfl rfl (by decide)
                      · refine lv_tableOut (tgt := 121) hx hb dX11_count_1 (by simp only [← Int32.toInt_inj, Int32.reduceToInt] at c1 c2 c3 c4 c5 c6 c7 c8 c9 c15 c21; omega) (by decide) ?_
                        refine lv_iload_n hx hb dX11_count_121 rfl (lv_at hl 1 rfl) ?_
                        refine lv_bipush (v := 20) hx hb dX11_count_122 (by decide) ?_
                        refine lv_icmp_ge (tgt := 131) hx hb dX11_count_124 (by decide) (fun c27 => ?_) (fun c27 => ?_)
                        · refine lv_aload_n hx hb dX11_count_131 rfl (lv_at hl 0 rfl) ?_
                          refine lv_iload_n hx hb dX11_count_132 rfl (lv_at hl 1 rfl) ?_
                          refine lv_bipush (v := 20) hx hb dX11_count_133 (by decide) ?_
                          refine lv_isub hx hb dX11_count_135 ?_
                          refine lv_topi (fun v28 e29 => ?_)
                          have hPc := hP.sub (ws' := [((r 0), .inr (11, fX r 0 0)), ((r 7), .inl (c 6, 10, .inr (.inr (.inr (.inr (fun _ => none))))))]) [0, 5] rfl
                          have hDc := hD.sub (ws' := [((r 0), .inr (11, fX r 0 0)), ((r 7), .inl (c 6, 10, .inr (.inr (.inr (.inr (fun _ => none))))))]) [0, 5] (by decide) rfl
                          refine cl_i (wr := [((r 1), .inr (8, fTd r)), ((r 2), .inr (10, fWv r)), ((r 4), .inr (5, fRd r 0)), ((r 6), .inr (7, fSm r))]) (va_runV (As := [.int v28]) (rest := []) ⟨hx, hb, hml, hown, hts⟩ (c_X11_paidOf l D c H.size r 0 v28) (kw_V 1 hts wd_1110 wd_1112 wd_41 wd_83 wd_1113 rfl rfl (by decide +kernel) ⟨Nat.le_of_ble_eq_true rfl, Nat.le_of_ble_eq_true rfl⟩) (pre_V hPc hK hDc hN hO (ci := 11) (q0 := 0) rfl rfl) rfl rfl hl.1 rfl (lv_room (Nat.le_of_ble_eq_true rfl)) dX11_count_136 ⟨Nat.le_of_ble_eq_true rfl, Nat.le_of_ble_eq_true rfl⟩) hP hD hS hA [0, 5] [1, 2, 3, 4] rfl rfl (by decide) (by decide) (fun r30 u31 H locs h32 hP hD hS => ?_)
                          have hP : va_P D vwCl [((r 1), .inr (8, fTd r)), ((r 2), .inr (10, fWv r)), ((r 4), .inr (5, fRd r 0)), ((r 6), .inr (7, fSm r)), ((r 0), .inr (11, fX r 0 0)), ((r 7), .inl (c 6, 10, .inr (.inr (.inr (.inr (fun _ => none))))))] H := hP
                          have hD : va_D A [((r 1), .inr (8, fTd r)), ((r 2), .inr (10, fWv r)), ((r 4), .inr (5, fRd r 0)), ((r 6), .inr (7, fSm r)), ((r 0), .inr (11, fX r 0 0)), ((r 7), .inl (c 6, 10, .inr (.inr (.inr (.inr (fun _ => none))))))] := hD
                          obtain rfl : r30 = (-1) := h32
                          exact rt_i hx hb hr hlocks hK hP hD hS rfl dX11_count_139 () [] rfl rfl (by show ((-1) : Int32) = _; unfold f_count; rw [if_neg c9, if_neg c15, if_neg c21]; (try simp only [Int32.le_iff_toInt_le, Int32.lt_iff_toInt_lt, ← Int32.toInt_inj, Int32.reduceToInt] at c1); (try simp only [Int32.le_iff_toInt_le, Int32.lt_iff_toInt_lt, ← Int32.toInt_inj, Int32.reduceToInt] at c2); (try simp only [Int32.le_iff_toInt_le, Int32.lt_iff_toInt_lt, ← Int32.toInt_inj, Int32.reduceToInt] at c3); (try simp only [Int32.le_iff_toInt_le, Int32.lt_iff_toInt_lt, ← Int32.toInt_inj, Int32.reduceToInt] at c4); (try simp only [Int32.le_iff_toInt_le, Int32.lt_iff_toInt_lt, ← Int32.toInt_inj, Int32.reduceToInt] at c5); (try simp only [Int32.le_iff_toInt_le, Int32.lt_iff_toInt_lt, ← Int32.toInt_inj, Int32.reduceToInt] at c6); (try simp only [Int32.le_iff_toInt_le, Int32.lt_iff_toInt_lt, ← Int32.toInt_inj, Int32.reduceToInt] at c7); (try simp only [Int32.le_iff_toInt_le, Int32.lt_iff_toInt_lt, ← Int32.toInt_inj, Int32.reduceToInt] at c8); (try simp only [Int32.le_iff_toInt_le, Int32.lt_iff_toInt_lt, ← Int32.toInt_inj, Int32.reduceToInt] at c9); (try simp only [Int32.le_iff_toInt_le, Int32.lt_iff_toInt_lt, ← Int32.toInt_inj, Int32.reduceToInt] at c15); (try simp only [Int32.le_iff_toInt_le, Int32.lt_iff_toInt_lt, ← Int32.toInt_inj, Int32.reduceToInt] at c21); (try simp only [Int32.le_iff_toInt_le, Int32.lt_iff_toInt_lt, ← Int32.toInt_inj, Int32.reduceToInt] at c27); rw [if_neg (by omega)])
                        · refine lv_iconst (v := (-1)) hx hb dX11_count_127 (by decide) ?_
                          refine lv_goto (tgt := 139) hx hb dX11_count_128 (by decide) ?_
                          exact rt_i hx hb hr hlocks hK hP hD hS rfl dX11_count_139 () [] rfl rfl (by show ((-1) : Int32) = _; unfold f_count; rw [if_neg c9, if_neg c15, if_neg c21]; (try simp only [Int32.le_iff_toInt_le, Int32.lt_iff_toInt_lt, ← Int32.toInt_inj, Int32.reduceToInt] at c1); (try simp only [Int32.le_iff_toInt_le, Int32.lt_iff_toInt_lt, ← Int32.toInt_inj, Int32.reduceToInt] at c2); (try simp only [Int32.le_iff_toInt_le, Int32.lt_iff_toInt_lt, ← Int32.toInt_inj, Int32.reduceToInt] at c3); (try simp only [Int32.le_iff_toInt_le, Int32.lt_iff_toInt_lt, ← Int32.toInt_inj, Int32.reduceToInt] at c4); (try simp only [Int32.le_iff_toInt_le, Int32.lt_iff_toInt_lt, ← Int32.toInt_inj, Int32.reduceToInt] at c5); (try simp only [Int32.le_iff_toInt_le, Int32.lt_iff_toInt_lt, ← Int32.toInt_inj, Int32.reduceToInt] at c6); (try simp only [Int32.le_iff_toInt_le, Int32.lt_iff_toInt_lt, ← Int32.toInt_inj, Int32.reduceToInt] at c7); (try simp only [Int32.le_iff_toInt_le, Int32.lt_iff_toInt_lt, ← Int32.toInt_inj, Int32.reduceToInt] at c8); (try simp only [Int32.le_iff_toInt_le, Int32.lt_iff_toInt_lt, ← Int32.toInt_inj, Int32.reduceToInt] at c9); (try simp only [Int32.le_iff_toInt_le, Int32.lt_iff_toInt_lt, ← Int32.toInt_inj, Int32.reduceToInt] at c15); (try simp only [Int32.le_iff_toInt_le, Int32.lt_iff_toInt_lt, ← Int32.toInt_inj, Int32.reduceToInt] at c21); (try simp only [Int32.le_iff_toInt_le, Int32.lt_iff_toInt_lt, ← Int32.toInt_inj, Int32.reduceToInt] at c27); rw [if_neg (by omega)])
set_option maxHeartbeats 4000000 in
set_option maxRecDepth 100000 in
/-- X11_pass -/
theorem c_X11_pass (l : Launch) (D : va_G) (c : Nat → ClassId) (sz : Nat) (r : Nat → Nat) (n : Int32) : Met l yX11_pass (.code yX11_pass cX11_pass 5 (some .int) :: Wd) ({ frames := 1, cells := 0, slots := 0, locals := 22 }) (va_Pc [.ref (r 0), .int n] (WB D c [((r 0), .inr (11, fX r 0 0)), ((r 3), .inl (c 4, 11, .inr (.inr (.inr (.inr (fun _ => none))))))] sz)) (QI (S := Unit) D c (fun q _ => q = f_pass n) (fun _ => []) (va_A [((r 0), .inr (11, fX r 0 0)), ((r 3), .inl (c 4, 11, .inr (.inr (.inr (.inr (fun _ => none))))))] sz)) 0 0 (va_A [((r 0), .inr (11, fX r 0 0)), ((r 3), .inl (c 4, 11, .inr (.inr (.inr (.inr (fun _ => none))))))] sz) := by
  refine kz_met (Qc := QI (S := Unit) D c (fun q _ => q = f_pass n) (fun _ => [])) (by decide) (Nat.le_of_ble_eq_true rfl) ?_
  intro p e s m below meth cd A ls H locs hx hb hr hml hts hown hlocks hin hN hO hK hP hD hS hA hl
  have hl : lv_has ls 5 [(0, .ref (r 0)), (1, .int n)] := hl
  have hown : s.vm.findClass RX11 = some m.cls := hown
  refine lv_iload_n hx hb dX11_pass_0 rfl (lv_at hl 1 rfl) ?_
  refine lv_iconst (v := 1) hx hb dX11_pass_1 (by decide) ?_
  refine lv_sipush (v := 288) hx hb dX11_pass_2 (by decide) ?_
  have hPc := hP.sub (ws' := []) [] rfl
  have hDc := hD.sub (ws' := []) [] (by decide) rfl
  refine cl_i (wr := [((r 0), .inr (11, fX r 0 0)), ((r 3), .inl (c 4, 11, .inr (.inr (.inr (.inr (fun _ => none))))))]) (va_runS (As := [.int n, .int 1, .int 288]) (rest := []) ⟨hx, hb, hml, hown, hts⟩ (c_X11_within l D c H.size n 1 288) (kw_S 3 hts wd_347 wd_331 wd_83 wd_332 rfl rfl (by decide +kernel) ⟨Nat.le_of_ble_eq_true rfl, Nat.le_of_ble_eq_true rfl⟩) (pre_S hPc hK hDc hN hO) rfl rfl hl.1 rfl (lv_room (Nat.le_of_ble_eq_true rfl)) dX11_pass_5 ⟨Nat.le_of_ble_eq_true rfl, Nat.le_of_ble_eq_true rfl⟩) hP hD hS hA [] [0, 1] rfl rfl (by decide) (by decide) (fun r1 u2 H locs h3 hP hD hS => ?_)
  have hP : va_P D vwCl [((r 0), .inr (11, fX r 0 0)), ((r 3), .inl (c 4, 11, .inr (.inr (.inr (.inr (fun _ => none))))))] H := hP
  have hD : va_D A [((r 0), .inr (11, fX r 0 0)), ((r 3), .inl (c 4, 11, .inr (.inr (.inr (.inr (fun _ => none))))))] := hD
  rcases inB_c h3 with ⟨h4, rfl⟩ | ⟨h4, rfl⟩
  · refine lv_if_eq (tgt := 23) hx hb dX11_pass_8 (by decide) (fun c => False.elim (by revert c; decide)) (fun _ => ?_)
    refine lv_iload_n hx hb dX11_pass_11 rfl (lv_at hl 1 rfl) ?_
    refine lv_sipush (v := 14400) hx hb dX11_pass_12 (by decide) ?_
    refine lv_aload_n hx hb dX11_pass_15 rfl (lv_at hl 0 rfl) ?_
    refine va_get (D := D) (ci := 11) (v := .int 0) (C := RX11) (T := TX11) (N := 16) hx hb hts inW_11 hown hK hP 0 rfl rfl 13 (by decide) (hts _ wd_282) (fun _ h9 => h9) rfl dX11_pass_16 ?_
    refine lv_isub hx hb dX11_pass_19 ?_
    refine lv_topi (fun v5 e6 => ?_)
    obtain rfl : v5 = 14400 := e6.trans (by decide)
    refine lv_icmp_le (tgt := 25) hx hb dX11_pass_20 (by decide) (fun c7 => ?_) (fun c7 => ?_)
    · refine lv_aload_n hx hb dX11_pass_25 rfl (lv_at hl 0 rfl) ?_
      refine lv_dup hx hb dX11_pass_26 rfl ?_
      refine va_get (D := D) (ci := 11) (v := .int 0) (C := RX11) (T := TX11) (N := 16) hx hb hts inW_11 hown hK hP 0 rfl rfl 15 (by decide) (hts _ wd_284) (fun _ h9 => h9) rfl dX11_pass_27 ?_
      refine lv_iconst (v := 1) hx hb dX11_pass_30 (by decide) ?_
      refine lv_iadd hx hb dX11_pass_31 ?_
      refine lv_topi (fun v8 e9 => ?_)
      obtain rfl : v8 = 1 := e9.trans (by decide)
      refine va_put (D := D) (ci := 11) (v := .int 1) (ty := .int) (C := RX11) (T := TX11) (N := 16) hx hb hts inW_11 tyX11 tyX11_ok nmX11 hown hK hP hD hS 0 rfl rfl 15 (by decide) (hts _ wd_284) (fun _ h9 => h9) rfl (by decide +kernel) rfl rfl (Nat.le_of_ble_eq_true rfl) dX11_pass_32 (fun H locs hP hD hS => ?_)
      have hP : va_P D vwCl [((r 0), .inr (11, (fX r 0 0).set 15 (.int 1))), ((r 3), .inl (c 4, 11, .inr (.inr (.inr (.inr (fun _ => none))))))] H := hP
      have hD : va_D A [((r 0), .inr (11, (fX r 0 0).set 15 (.int 1))), ((r 3), .inl (c 4, 11, .inr (.inr (.inr (.inr (fun _ => none))))))] := hD
      refine lv_iconst (v := 0) hx hb dX11_pass_35 (by decide) ?_
      refine lv_istore_n (lv' := [(2, .int 0), (0, .ref (r 0)), (1, .int n)]) hx hb dX11_pass_36 rfl hl (by decide) rfl (fun ls hl => ?_)
      have loop : ∀ (k : Nat) (i : Int32) (ls : Array Slot) (H : Heap) (locs : List Loc), (n.toInt - i.toInt).toNat < k → 0 ≤ i.toInt ∧ i.toInt ≤ n.toInt → va_P D vwCl [((r 0), .inr (11, fX r i 1)), ((r 3), .inl (c 4, 11, .inr (.inr (.inr (.inr (fun _ => none))))))] H → va_D A [((r 0), .inr (11, fX r i 1)), ((r 3), .inl (c 4, 11, .inr (.inr (.inr (.inr (fun _ => none))))))] → va_S A s.heap H locs → lv_has ls 5 [(0, .ref (r 0)), (1, .int n), (2, .int i)] → W p l e (headSpec (Cond.code yX11_pass cX11_pass 5 (some .int) :: Wd) ({ frames := 1, cells := 0, slots := 0, locals := 22 })).room s m ([.ref (r 0), .int n] : List Value).toArray below meth cd H locs 0 0 (MQ below (QI (S := Unit) D c (fun q _ => q = f_pass n) (fun _ => []) A) ([.ref (r 0), .int n] : List Value).toArray s 0 0 A) (F0 m 37 ls []) := by
        intro k
        induction k with
        | zero => exact fun _ _ _ _ h => absurd h (Nat.not_lt_zero _)
        | succ k ih =>
          intro i ls H locs hn hi hP hD hS hl
          refine lv_iload_n hx hb dX11_pass_37 rfl (lv_at hl 2 rfl) ?_
          refine lv_iload_n hx hb dX11_pass_38 rfl (lv_at hl 1 rfl) ?_
          refine lv_icmp_ge (tgt := 110) hx hb dX11_pass_39 (by decide) (fun c10 => ?_) (fun c10 => ?_)
          · refine lv_aload_n hx hb dX11_pass_110 rfl (lv_at hl 0 rfl) ?_
            refine va_get (D := D) (ci := 11) (v := .int i) (C := RX11) (T := TX11) (N := 16) hx hb hts inW_11 hown hK hP 0 rfl rfl 13 (by decide) (hts _ wd_282) (fun _ h9 => h9) rfl dX11_pass_111 ?_
            exact rt_i hx hb hr hlocks hK hP hD hS rfl dX11_pass_114 () [] rfl rfl (by show i = _; unfold f_pass; simp only [Int32.le_iff_toInt_le, Int32.reduceToInt] at h4 c10; rw [if_pos (by omega)]; exact Int32.toInt_inj.mp (by omega))
          · refine lv_iconst (v := 0) hx hb dX11_pass_42 (by decide) ?_
            refine lv_istore_n (lv' := [(3, .int 0), (0, .ref (r 0)), (1, .int n), (2, .int i)]) hx hb dX11_pass_43 rfl hl (by decide) rfl (fun ls hl => ?_)
            refine lv_iload_n hx hb dX11_pass_44 rfl (lv_at hl 0 rfl) ?_
            refine lv_aload_n hx hb dX11_pass_45 rfl (lv_at hl 1 rfl) ?_
            refine va_get (D := D) (ci := 11) (v := .ref (r 3)) (C := RX11) (T := TX11) (N := 16) hx hb hts inW_11 hown hK hP 0 rfl rfl 2 (by decide) (hts _ wd_271) (fun _ h9 => h9) rfl dX11_pass_46 ?_
            refine va_alen (v := 11) hx hb hK hP 1 4 rfl rfl (by show Int32.ofNat 11 = 11; decide) dX11_pass_49 ?_
            refine lv_icmp_ge (tgt := 94) hx hb dX11_pass_50 (by decide) (fun c => False.elim (by revert c; decide)) (fun _ => ?_)
            refine lv_aload_n hx hb dX11_pass_53 rfl (lv_at hl 1 rfl) ?_
            refine va_get (D := D) (ci := 11) (v := .ref (r 3)) (C := RX11) (T := TX11) (N := 16) hx hb hts inW_11 hown hK hP 0 rfl rfl 2 (by decide) (hts _ wd_271) (fun _ h9 => h9) rfl dX11_pass_54 ?_
            refine lv_iload_n hx hb dX11_pass_57 rfl (lv_at hl 0 rfl) ?_
            refine va_aldq hx hb hK hP 1 4 rfl rfl (vp_in_iff.mpr (by decide)) dX11_pass_58 ?_
            refine lv_astoreN (lv' := [(4, .null), (3, .int 0), (0, .ref (r 0)), (1, .int n), (2, .int i)]) hx hb dX11_pass_59 hl (by decide) rfl (fun ls hl => ?_)
            refine lv_aloadN hx hb dX11_pass_61 (lv_at hl 0 rfl) ?_
            refine lv_ifnullN (tgt := 88) hx hb dX11_pass_63 (by decide) ?_
            refine lv_iinc (v := 1) (lv' := [(3, .int 1), (4, .null), (0, .ref (r 0)), (1, .int n), (2, .int i)]) hx hb dX11_pass_88 hl (k := 1) rfl (by decide) (by decide) rfl (fun ls hl => ?_)
            refine lv_goto (tgt := 44) hx hb dX11_pass_91 (by decide) ?_
            refine lv_iload_n hx hb dX11_pass_44 rfl (lv_at hl 0 rfl) ?_
            refine lv_aload_n hx hb dX11_pass_45 rfl (lv_at hl 2 rfl) ?_
            refine va_get (D := D) (ci := 11) (v := .ref (r 3)) (C := RX11) (T := TX11) (N := 16) hx hb hts inW_11 hown hK hP 0 rfl rfl 2 (by decide) (hts _ wd_271) (fun _ h9 => h9) rfl dX11_pass_46 ?_
            refine va_alen (v := 11) hx hb hK hP 1 4 rfl rfl (by show Int32.ofNat 11 = 11; decide) dX11_pass_49 ?_
            refine lv_icmp_ge (tgt := 94) hx hb dX11_pass_50 (by decide) (fun c => False.elim (by revert c; decide)) (fun _ => ?_)
            refine lv_aload_n hx hb dX11_pass_53 rfl (lv_at hl 2 rfl) ?_
            refine va_get (D := D) (ci := 11) (v := .ref (r 3)) (C := RX11) (T := TX11) (N := 16) hx hb hts inW_11 hown hK hP 0 rfl rfl 2 (by decide) (hts _ wd_271) (fun _ h9 => h9) rfl dX11_pass_54 ?_
            refine lv_iload_n hx hb dX11_pass_57 rfl (lv_at hl 0 rfl) ?_
            refine va_aldq hx hb hK hP 1 4 rfl rfl (vp_in_iff.mpr (by decide)) dX11_pass_58 ?_
            refine lv_astoreN (lv' := [(4, .null), (3, .int 1), (0, .ref (r 0)), (1, .int n), (2, .int i)]) hx hb dX11_pass_59 hl (by decide) rfl (fun ls hl => ?_)
            refine lv_aloadN hx hb dX11_pass_61 (lv_at hl 0 rfl) ?_
            refine lv_ifnullN (tgt := 88) hx hb dX11_pass_63 (by decide) ?_
            refine lv_iinc (v := 2) (lv' := [(3, .int 2), (4, .null), (0, .ref (r 0)), (1, .int n), (2, .int i)]) hx hb dX11_pass_88 hl (k := 1) rfl (by decide) (by decide) rfl (fun ls hl => ?_)
            refine lv_goto (tgt := 44) hx hb dX11_pass_91 (by decide) ?_
            refine lv_iload_n hx hb dX11_pass_44 rfl (lv_at hl 0 rfl) ?_
            refine lv_aload_n hx hb dX11_pass_45 rfl (lv_at hl 2 rfl) ?_
            refine va_get (D := D) (ci := 11) (v := .ref (r 3)) (C := RX11) (T := TX11) (N := 16) hx hb hts inW_11 hown hK hP 0 rfl rfl 2 (by decide) (hts _ wd_271) (fun _ h9 => h9) rfl dX11_pass_46 ?_
            refine va_alen (v := 11) hx hb hK hP 1 4 rfl rfl (by show Int32.ofNat 11 = 11; decide) dX11_pass_49 ?_
            refine lv_icmp_ge (tgt := 94) hx hb dX11_pass_50 (by decide) (fun c => False.elim (by revert c; decide)) (fun _ => ?_)
            refine lv_aload_n hx hb dX11_pass_53 rfl (lv_at hl 2 rfl) ?_
            refine va_get (D := D) (ci := 11) (v := .ref (r 3)) (C := RX11) (T := TX11) (N := 16) hx hb hts inW_11 hown hK hP 0 rfl rfl 2 (by decide) (hts _ wd_271) (fun _ h9 => h9) rfl dX11_pass_54 ?_
            refine lv_iload_n hx hb dX11_pass_57 rfl (lv_at hl 0 rfl) ?_
            refine va_aldq hx hb hK hP 1 4 rfl rfl (vp_in_iff.mpr (by decide)) dX11_pass_58 ?_
            refine lv_astoreN (lv' := [(4, .null), (3, .int 2), (0, .ref (r 0)), (1, .int n), (2, .int i)]) hx hb dX11_pass_59 hl (by decide) rfl (fun ls hl => ?_)
            refine lv_aloadN hx hb dX11_pass_61 (lv_at hl 0 rfl) ?_
            refine lv_ifnullN (tgt := 88) hx hb dX11_pass_63 (by decide) ?_
            refine lv_iinc (v := 3) (lv' := [(3, .int 3), (4, .null), (0, .ref (r 0)), (1, .int n), (2, .int i)]) hx hb dX11_pass_88 hl (k := 1) rfl (by decide) (by decide) rfl (fun ls hl => ?_)
            refine lv_goto (tgt := 44) hx hb dX11_pass_91 (by decide) ?_
            refine lv_iload_n hx hb dX11_pass_44 rfl (lv_at hl 0 rfl) ?_
            refine lv_aload_n hx hb dX11_pass_45 rfl (lv_at hl 2 rfl) ?_
            refine va_get (D := D) (ci := 11) (v := .ref (r 3)) (C := RX11) (T := TX11) (N := 16) hx hb hts inW_11 hown hK hP 0 rfl rfl 2 (by decide) (hts _ wd_271) (fun _ h9 => h9) rfl dX11_pass_46 ?_
            refine va_alen (v := 11) hx hb hK hP 1 4 rfl rfl (by show Int32.ofNat 11 = 11; decide) dX11_pass_49 ?_
            refine lv_icmp_ge (tgt := 94) hx hb dX11_pass_50 (by decide) (fun c => False.elim (by revert c; decide)) (fun _ => ?_)
            refine lv_aload_n hx hb dX11_pass_53 rfl (lv_at hl 2 rfl) ?_
            refine va_get (D := D) (ci := 11) (v := .ref (r 3)) (C := RX11) (T := TX11) (N := 16) hx hb hts inW_11 hown hK hP 0 rfl rfl 2 (by decide) (hts _ wd_271) (fun _ h9 => h9) rfl dX11_pass_54 ?_
            refine lv_iload_n hx hb dX11_pass_57 rfl (lv_at hl 0 rfl) ?_
            refine va_aldq hx hb hK hP 1 4 rfl rfl (vp_in_iff.mpr (by decide)) dX11_pass_58 ?_
            refine lv_astoreN (lv' := [(4, .null), (3, .int 3), (0, .ref (r 0)), (1, .int n), (2, .int i)]) hx hb dX11_pass_59 hl (by decide) rfl (fun ls hl => ?_)
            refine lv_aloadN hx hb dX11_pass_61 (lv_at hl 0 rfl) ?_
            refine lv_ifnullN (tgt := 88) hx hb dX11_pass_63 (by decide) ?_
            refine lv_iinc (v := 4) (lv' := [(3, .int 4), (4, .null), (0, .ref (r 0)), (1, .int n), (2, .int i)]) hx hb dX11_pass_88 hl (k := 1) rfl (by decide) (by decide) rfl (fun ls hl => ?_)
            refine lv_goto (tgt := 44) hx hb dX11_pass_91 (by decide) ?_
            refine lv_iload_n hx hb dX11_pass_44 rfl (lv_at hl 0 rfl) ?_
            refine lv_aload_n hx hb dX11_pass_45 rfl (lv_at hl 2 rfl) ?_
            refine va_get (D := D) (ci := 11) (v := .ref (r 3)) (C := RX11) (T := TX11) (N := 16) hx hb hts inW_11 hown hK hP 0 rfl rfl 2 (by decide) (hts _ wd_271) (fun _ h9 => h9) rfl dX11_pass_46 ?_
            refine va_alen (v := 11) hx hb hK hP 1 4 rfl rfl (by show Int32.ofNat 11 = 11; decide) dX11_pass_49 ?_
            refine lv_icmp_ge (tgt := 94) hx hb dX11_pass_50 (by decide) (fun c => False.elim (by revert c; decide)) (fun _ => ?_)
            refine lv_aload_n hx hb dX11_pass_53 rfl (lv_at hl 2 rfl) ?_
            refine va_get (D := D) (ci := 11) (v := .ref (r 3)) (C := RX11) (T := TX11) (N := 16) hx hb hts inW_11 hown hK hP 0 rfl rfl 2 (by decide) (hts _ wd_271) (fun _ h9 => h9) rfl dX11_pass_54 ?_
            refine lv_iload_n hx hb dX11_pass_57 rfl (lv_at hl 0 rfl) ?_
            refine va_aldq hx hb hK hP 1 4 rfl rfl (vp_in_iff.mpr (by decide)) dX11_pass_58 ?_
            refine lv_astoreN (lv' := [(4, .null), (3, .int 4), (0, .ref (r 0)), (1, .int n), (2, .int i)]) hx hb dX11_pass_59 hl (by decide) rfl (fun ls hl => ?_)
            refine lv_aloadN hx hb dX11_pass_61 (lv_at hl 0 rfl) ?_
            refine lv_ifnullN (tgt := 88) hx hb dX11_pass_63 (by decide) ?_
            refine lv_iinc (v := 5) (lv' := [(3, .int 5), (4, .null), (0, .ref (r 0)), (1, .int n), (2, .int i)]) hx hb dX11_pass_88 hl (k := 1) rfl (by decide) (by decide) rfl (fun ls hl => ?_)
            refine lv_goto (tgt := 44) hx hb dX11_pass_91 (by decide) ?_
            refine lv_iload_n hx hb dX11_pass_44 rfl (lv_at hl 0 rfl) ?_
            refine lv_aload_n hx hb dX11_pass_45 rfl (lv_at hl 2 rfl) ?_
            refine va_get (D := D) (ci := 11) (v := .ref (r 3)) (C := RX11) (T := TX11) (N := 16) hx hb hts inW_11 hown hK hP 0 rfl rfl 2 (by decide) (hts _ wd_271) (fun _ h9 => h9) rfl dX11_pass_46 ?_
            refine va_alen (v := 11) hx hb hK hP 1 4 rfl rfl (by show Int32.ofNat 11 = 11; decide) dX11_pass_49 ?_
            refine lv_icmp_ge (tgt := 94) hx hb dX11_pass_50 (by decide) (fun c => False.elim (by revert c; decide)) (fun _ => ?_)
            refine lv_aload_n hx hb dX11_pass_53 rfl (lv_at hl 2 rfl) ?_
            refine va_get (D := D) (ci := 11) (v := .ref (r 3)) (C := RX11) (T := TX11) (N := 16) hx hb hts inW_11 hown hK hP 0 rfl rfl 2 (by decide) (hts _ wd_271) (fun _ h9 => h9) rfl dX11_pass_54 ?_
            refine lv_iload_n hx hb dX11_pass_57 rfl (lv_at hl 0 rfl) ?_
            refine va_aldq hx hb hK hP 1 4 rfl rfl (vp_in_iff.mpr (by decide)) dX11_pass_58 ?_
            refine lv_astoreN (lv' := [(4, .null), (3, .int 5), (0, .ref (r 0)), (1, .int n), (2, .int i)]) hx hb dX11_pass_59 hl (by decide) rfl (fun ls hl => ?_)
            refine lv_aloadN hx hb dX11_pass_61 (lv_at hl 0 rfl) ?_
            refine lv_ifnullN (tgt := 88) hx hb dX11_pass_63 (by decide) ?_
            refine lv_iinc (v := 6) (lv' := [(3, .int 6), (4, .null), (0, .ref (r 0)), (1, .int n), (2, .int i)]) hx hb dX11_pass_88 hl (k := 1) rfl (by decide) (by decide) rfl (fun ls hl => ?_)
            refine lv_goto (tgt := 44) hx hb dX11_pass_91 (by decide) ?_
            refine lv_iload_n hx hb dX11_pass_44 rfl (lv_at hl 0 rfl) ?_
            refine lv_aload_n hx hb dX11_pass_45 rfl (lv_at hl 2 rfl) ?_
            refine va_get (D := D) (ci := 11) (v := .ref (r 3)) (C := RX11) (T := TX11) (N := 16) hx hb hts inW_11 hown hK hP 0 rfl rfl 2 (by decide) (hts _ wd_271) (fun _ h9 => h9) rfl dX11_pass_46 ?_
            refine va_alen (v := 11) hx hb hK hP 1 4 rfl rfl (by show Int32.ofNat 11 = 11; decide) dX11_pass_49 ?_
            refine lv_icmp_ge (tgt := 94) hx hb dX11_pass_50 (by decide) (fun c => False.elim (by revert c; decide)) (fun _ => ?_)
            refine lv_aload_n hx hb dX11_pass_53 rfl (lv_at hl 2 rfl) ?_
            refine va_get (D := D) (ci := 11) (v := .ref (r 3)) (C := RX11) (T := TX11) (N := 16) hx hb hts inW_11 hown hK hP 0 rfl rfl 2 (by decide) (hts _ wd_271) (fun _ h9 => h9) rfl dX11_pass_54 ?_
            refine lv_iload_n hx hb dX11_pass_57 rfl (lv_at hl 0 rfl) ?_
            refine va_aldq hx hb hK hP 1 4 rfl rfl (vp_in_iff.mpr (by decide)) dX11_pass_58 ?_
            refine lv_astoreN (lv' := [(4, .null), (3, .int 6), (0, .ref (r 0)), (1, .int n), (2, .int i)]) hx hb dX11_pass_59 hl (by decide) rfl (fun ls hl => ?_)
            refine lv_aloadN hx hb dX11_pass_61 (lv_at hl 0 rfl) ?_
            refine lv_ifnullN (tgt := 88) hx hb dX11_pass_63 (by decide) ?_
            refine lv_iinc (v := 7) (lv' := [(3, .int 7), (4, .null), (0, .ref (r 0)), (1, .int n), (2, .int i)]) hx hb dX11_pass_88 hl (k := 1) rfl (by decide) (by decide) rfl (fun ls hl => ?_)
            refine lv_goto (tgt := 44) hx hb dX11_pass_91 (by decide) ?_
            refine lv_iload_n hx hb dX11_pass_44 rfl (lv_at hl 0 rfl) ?_
            refine lv_aload_n hx hb dX11_pass_45 rfl (lv_at hl 2 rfl) ?_
            refine va_get (D := D) (ci := 11) (v := .ref (r 3)) (C := RX11) (T := TX11) (N := 16) hx hb hts inW_11 hown hK hP 0 rfl rfl 2 (by decide) (hts _ wd_271) (fun _ h9 => h9) rfl dX11_pass_46 ?_
            refine va_alen (v := 11) hx hb hK hP 1 4 rfl rfl (by show Int32.ofNat 11 = 11; decide) dX11_pass_49 ?_
            refine lv_icmp_ge (tgt := 94) hx hb dX11_pass_50 (by decide) (fun c => False.elim (by revert c; decide)) (fun _ => ?_)
            refine lv_aload_n hx hb dX11_pass_53 rfl (lv_at hl 2 rfl) ?_
            refine va_get (D := D) (ci := 11) (v := .ref (r 3)) (C := RX11) (T := TX11) (N := 16) hx hb hts inW_11 hown hK hP 0 rfl rfl 2 (by decide) (hts _ wd_271) (fun _ h9 => h9) rfl dX11_pass_54 ?_
            refine lv_iload_n hx hb dX11_pass_57 rfl (lv_at hl 0 rfl) ?_
            refine va_aldq hx hb hK hP 1 4 rfl rfl (vp_in_iff.mpr (by decide)) dX11_pass_58 ?_
            refine lv_astoreN (lv' := [(4, .null), (3, .int 7), (0, .ref (r 0)), (1, .int n), (2, .int i)]) hx hb dX11_pass_59 hl (by decide) rfl (fun ls hl => ?_)
            refine lv_aloadN hx hb dX11_pass_61 (lv_at hl 0 rfl) ?_
            refine lv_ifnullN (tgt := 88) hx hb dX11_pass_63 (by decide) ?_
            refine lv_iinc (v := 8) (lv' := [(3, .int 8), (4, .null), (0, .ref (r 0)), (1, .int n), (2, .int i)]) hx hb dX11_pass_88 hl (k := 1) rfl (by decide) (by decide) rfl (fun ls hl => ?_)
            refine lv_goto (tgt := 44) hx hb dX11_pass_91 (by decide) ?_
            refine lv_iload_n hx hb dX11_pass_44 rfl (lv_at hl 0 rfl) ?_
            refine lv_aload_n hx hb dX11_pass_45 rfl (lv_at hl 2 rfl) ?_
            refine va_get (D := D) (ci := 11) (v := .ref (r 3)) (C := RX11) (T := TX11) (N := 16) hx hb hts inW_11 hown hK hP 0 rfl rfl 2 (by decide) (hts _ wd_271) (fun _ h9 => h9) rfl dX11_pass_46 ?_
            refine va_alen (v := 11) hx hb hK hP 1 4 rfl rfl (by show Int32.ofNat 11 = 11; decide) dX11_pass_49 ?_
            refine lv_icmp_ge (tgt := 94) hx hb dX11_pass_50 (by decide) (fun c => False.elim (by revert c; decide)) (fun _ => ?_)
            refine lv_aload_n hx hb dX11_pass_53 rfl (lv_at hl 2 rfl) ?_
            refine va_get (D := D) (ci := 11) (v := .ref (r 3)) (C := RX11) (T := TX11) (N := 16) hx hb hts inW_11 hown hK hP 0 rfl rfl 2 (by decide) (hts _ wd_271) (fun _ h9 => h9) rfl dX11_pass_54 ?_
            refine lv_iload_n hx hb dX11_pass_57 rfl (lv_at hl 0 rfl) ?_
            refine va_aldq hx hb hK hP 1 4 rfl rfl (vp_in_iff.mpr (by decide)) dX11_pass_58 ?_
            refine lv_astoreN (lv' := [(4, .null), (3, .int 8), (0, .ref (r 0)), (1, .int n), (2, .int i)]) hx hb dX11_pass_59 hl (by decide) rfl (fun ls hl => ?_)
            refine lv_aloadN hx hb dX11_pass_61 (lv_at hl 0 rfl) ?_
            refine lv_ifnullN (tgt := 88) hx hb dX11_pass_63 (by decide) ?_
            refine lv_iinc (v := 9) (lv' := [(3, .int 9), (4, .null), (0, .ref (r 0)), (1, .int n), (2, .int i)]) hx hb dX11_pass_88 hl (k := 1) rfl (by decide) (by decide) rfl (fun ls hl => ?_)
            refine lv_goto (tgt := 44) hx hb dX11_pass_91 (by decide) ?_
            refine lv_iload_n hx hb dX11_pass_44 rfl (lv_at hl 0 rfl) ?_
            refine lv_aload_n hx hb dX11_pass_45 rfl (lv_at hl 2 rfl) ?_
            refine va_get (D := D) (ci := 11) (v := .ref (r 3)) (C := RX11) (T := TX11) (N := 16) hx hb hts inW_11 hown hK hP 0 rfl rfl 2 (by decide) (hts _ wd_271) (fun _ h9 => h9) rfl dX11_pass_46 ?_
            refine va_alen (v := 11) hx hb hK hP 1 4 rfl rfl (by show Int32.ofNat 11 = 11; decide) dX11_pass_49 ?_
            refine lv_icmp_ge (tgt := 94) hx hb dX11_pass_50 (by decide) (fun c => False.elim (by revert c; decide)) (fun _ => ?_)
            refine lv_aload_n hx hb dX11_pass_53 rfl (lv_at hl 2 rfl) ?_
            refine va_get (D := D) (ci := 11) (v := .ref (r 3)) (C := RX11) (T := TX11) (N := 16) hx hb hts inW_11 hown hK hP 0 rfl rfl 2 (by decide) (hts _ wd_271) (fun _ h9 => h9) rfl dX11_pass_54 ?_
            refine lv_iload_n hx hb dX11_pass_57 rfl (lv_at hl 0 rfl) ?_
            refine va_aldq hx hb hK hP 1 4 rfl rfl (vp_in_iff.mpr (by decide)) dX11_pass_58 ?_
            refine lv_astoreN (lv' := [(4, .null), (3, .int 9), (0, .ref (r 0)), (1, .int n), (2, .int i)]) hx hb dX11_pass_59 hl (by decide) rfl (fun ls hl => ?_)
            refine lv_aloadN hx hb dX11_pass_61 (lv_at hl 0 rfl) ?_
            refine lv_ifnullN (tgt := 88) hx hb dX11_pass_63 (by decide) ?_
            refine lv_iinc (v := 10) (lv' := [(3, .int 10), (4, .null), (0, .ref (r 0)), (1, .int n), (2, .int i)]) hx hb dX11_pass_88 hl (k := 1) rfl (by decide) (by decide) rfl (fun ls hl => ?_)
            refine lv_goto (tgt := 44) hx hb dX11_pass_91 (by decide) ?_
            refine lv_iload_n hx hb dX11_pass_44 rfl (lv_at hl 0 rfl) ?_
            refine lv_aload_n hx hb dX11_pass_45 rfl (lv_at hl 2 rfl) ?_
            refine va_get (D := D) (ci := 11) (v := .ref (r 3)) (C := RX11) (T := TX11) (N := 16) hx hb hts inW_11 hown hK hP 0 rfl rfl 2 (by decide) (hts _ wd_271) (fun _ h9 => h9) rfl dX11_pass_46 ?_
            refine va_alen (v := 11) hx hb hK hP 1 4 rfl rfl (by show Int32.ofNat 11 = 11; decide) dX11_pass_49 ?_
            refine lv_icmp_ge (tgt := 94) hx hb dX11_pass_50 (by decide) (fun c => False.elim (by revert c; decide)) (fun _ => ?_)
            refine lv_aload_n hx hb dX11_pass_53 rfl (lv_at hl 2 rfl) ?_
            refine va_get (D := D) (ci := 11) (v := .ref (r 3)) (C := RX11) (T := TX11) (N := 16) hx hb hts inW_11 hown hK hP 0 rfl rfl 2 (by decide) (hts _ wd_271) (fun _ h9 => h9) rfl dX11_pass_54 ?_
            refine lv_iload_n hx hb dX11_pass_57 rfl (lv_at hl 0 rfl) ?_
            refine va_aldq hx hb hK hP 1 4 rfl rfl (vp_in_iff.mpr (by decide)) dX11_pass_58 ?_
            refine lv_astoreN (lv' := [(4, .null), (3, .int 10), (0, .ref (r 0)), (1, .int n), (2, .int i)]) hx hb dX11_pass_59 hl (by decide) rfl (fun ls hl => ?_)
            refine lv_aloadN hx hb dX11_pass_61 (lv_at hl 0 rfl) ?_
            refine lv_ifnullN (tgt := 88) hx hb dX11_pass_63 (by decide) ?_
            refine lv_iinc (v := 11) (lv' := [(3, .int 11), (4, .null), (0, .ref (r 0)), (1, .int n), (2, .int i)]) hx hb dX11_pass_88 hl (k := 1) rfl (by decide) (by decide) rfl (fun ls hl => ?_)
            refine lv_goto (tgt := 44) hx hb dX11_pass_91 (by decide) ?_
            refine lv_iload_n hx hb dX11_pass_44 rfl (lv_at hl 0 rfl) ?_
            refine lv_aload_n hx hb dX11_pass_45 rfl (lv_at hl 2 rfl) ?_
            refine va_get (D := D) (ci := 11) (v := .ref (r 3)) (C := RX11) (T := TX11) (N := 16) hx hb hts inW_11 hown hK hP 0 rfl rfl 2 (by decide) (hts _ wd_271) (fun _ h9 => h9) rfl dX11_pass_46 ?_
            refine va_alen (v := 11) hx hb hK hP 1 4 rfl rfl (by show Int32.ofNat 11 = 11; decide) dX11_pass_49 ?_
            refine lv_icmp_ge (tgt := 94) hx hb dX11_pass_50 (by decide) (fun _ => ?_) (fun c => False.elim (by revert c; decide))
            refine lv_aload_n hx hb dX11_pass_94 rfl (lv_at hl 2 rfl) ?_
            refine lv_dup hx hb dX11_pass_95 rfl ?_
            refine va_get (D := D) (ci := 11) (v := .int i) (C := RX11) (T := TX11) (N := 16) hx hb hts inW_11 hown hK hP 0 rfl rfl 13 (by decide) (hts _ wd_282) (fun _ h9 => h9) rfl dX11_pass_96 ?_
            refine lv_iconst (v := 1) hx hb dX11_pass_99 (by decide) ?_
            refine lv_iadd hx hb dX11_pass_100 ?_
            refine lv_topi (fun v11 e12 => ?_)
            refine va_put (D := D) (ci := 11) (v := .int v11) (ty := .int) (C := RX11) (T := TX11) (N := 16) hx hb hts inW_11 tyX11 tyX11_ok nmX11 hown hK hP hD hS 0 rfl rfl 13 (by decide) (hts _ wd_282) (fun _ h9 => h9) rfl (by decide +kernel) rfl rfl (Nat.le_of_ble_eq_true rfl) dX11_pass_101 (fun H locs hP hD hS => ?_)
            have hP : va_P D vwCl [((r 0), .inr (11, (fX r i 1).set 13 (.int v11))), ((r 3), .inl (c 4, 11, .inr (.inr (.inr (.inr (fun _ => none))))))] H := hP
            have hD : va_D A [((r 0), .inr (11, (fX r i 1).set 13 (.int v11))), ((r 3), .inl (c 4, 11, .inr (.inr (.inr (.inr (fun _ => none))))))] := hD
            obtain ⟨v13, e14⟩ : ∃ y : Int32, y = i + 1 := ⟨_, rfl⟩
            refine lv_iinc (v := v13) (lv' := [(2, .int v13), (3, .int 11), (4, .null), (0, .ref (r 0)), (1, .int n)]) hx hb dX11_pass_104 hl (k := 4) rfl (by rw [e14]; rfl) (by decide) rfl (fun ls hl => ?_)
            refine lv_goto (tgt := 37) hx hb dX11_pass_107 (by decide) ?_
            have st := i32_step c10 hn
            have sq : v11 = v13 := e12.trans e14.symm
            rw [sq] at hP hD
            have hP := hP.sub (ws' := [((r 0), .inr (11, fX r v13 1)), ((r 3), .inl (c 4, 11, .inr (.inr (.inr (.inr (fun _ => none))))))]) [0, 1] rfl
            have hD := hD.sub (ws' := [((r 0), .inr (11, fX r v13 1)), ((r 3), .inl (c 4, 11, .inr (.inr (.inr (.inr (fun _ => none))))))]) [0, 1] (by decide) rfl
            have c9 : ¬ n.toInt ≤ i.toInt := fun z => c10 (Int32.le_iff_toInt_le.mpr z)
            exact ih v13 ls H locs (by rw [e14]; exact st.2) (by rw [e14, st.1]; omega) hP hD hS (lv_sub hl [3, 4, 0] rfl)
      have hP : va_P D vwCl [((r 0), .inr (11, fX r 0 1)), ((r 3), .inl (c 4, 11, .inr (.inr (.inr (.inr (fun _ => none))))))] H := hP
      have hD : va_D A [((r 0), .inr (11, fX r 0 1)), ((r 3), .inl (c 4, 11, .inr (.inr (.inr (.inr (fun _ => none))))))] := hD
      exact loop _ 0 ls H locs (Nat.lt_succ_self _) (by simp only [Int32.le_iff_toInt_le, Int32.reduceToInt] at h4 ⊢; omega) hP hD hS (lv_sub hl [1, 2, 0] rfl)
    · refine lv_iconst (v := (-1)) hx hb dX11_pass_23 (by decide) ?_
      exact rt_i hx hb hr hlocks hK hP hD hS rfl dX11_pass_24 () [] rfl rfl (by show ((-1) : Int32) = _; unfold f_pass; (try simp only [Int32.reduceToInt, not_true_eq_false, false_or, not_false_eq_true, true_or, and_true, true_and]); (try simp only [Int32.le_iff_toInt_le, Int32.lt_iff_toInt_lt, ← Int32.toInt_inj, Int32.reduceToInt] at h4); (try simp only [Int32.le_iff_toInt_le, Int32.lt_iff_toInt_lt, ← Int32.toInt_inj, Int32.reduceToInt] at c7); first | (rw [if_pos (by omega)]; done) | (rw [if_neg (by omega)]; done) | (rw [if_pos (by omega)]; exact Int32.toInt_inj.mp (by (try simp only [Int32.reduceToInt]); omega)))
  · refine lv_if_eq (tgt := 23) hx hb dX11_pass_8 (by decide) (fun _ => ?_) (fun c => False.elim (by revert c; decide))
    refine lv_iconst (v := (-1)) hx hb dX11_pass_23 (by decide) ?_
    exact rt_i hx hb hr hlocks hK hP hD hS rfl dX11_pass_24 () [] rfl rfl (by show ((-1) : Int32) = _; unfold f_pass; (try simp only [Int32.reduceToInt, not_true_eq_false, false_or, not_false_eq_true, true_or, and_true, true_and]); (try simp only [Int32.le_iff_toInt_le, Int32.lt_iff_toInt_lt, ← Int32.toInt_inj, Int32.reduceToInt] at h4); first | (rw [if_pos (by omega)]; done) | (rw [if_neg (by omega)]; done) | (rw [if_pos (by omega)]; exact Int32.toInt_inj.mp (by (try simp only [Int32.reduceToInt]); omega)))
