set_option maxHeartbeats 4000000 in
set_option maxRecDepth 100000 in
/-- X11_atEnd -/
theorem c_X11_atEnd (l : Launch) (D : va_G) (c : Nat → ClassId) (sz : Nat) (r : Nat → Nat) (ch : Int32) : Met l yX11_atEnd (.code yX11_atEnd cX11_atEnd 1 (some .boolean) :: Wd) ({ frames := 0, cells := 0, slots := 0, locals := 0 }) (va_Pc [.ref (r 0)] (WB D c [((r 0), .inr (11, fX r 0 ch))] sz)) (QI (S := Unit) D c (fun q _ => q = 0) (fun _ => [((r 0), .inr (11, fX r 0 ch))]) (va_A [((r 0), .inr (11, fX r 0 ch))] sz)) 0 0 (va_A [((r 0), .inr (11, fX r 0 ch))] sz) := by
  refine kz_met (Qc := QI (S := Unit) D c (fun q _ => q = 0) (fun _ => [((r 0), .inr (11, fX r 0 ch))])) (by decide) (Nat.le_of_ble_eq_true rfl) ?_
  intro p e s m below meth cd A ls H locs hx hb hr hml hts hown hlocks hin hN hO hK hP hD hS hA hl
  have hl : lv_has ls 1 [(0, .ref (r 0))] := hl
  have hown : s.vm.findClass RX11 = some m.cls := hown
  refine lv_aload_n hx hb dX11_atEnd_0 rfl (lv_at hl 0 rfl) ?_
  refine va_get (D := D) (ci := 11) (v := .int 0) (C := RX11) (T := TX11) (N := 16) hx hb hts inW_11 hown hK hP 0 rfl rfl 13 (by decide) (hts _ wd_282) (fun _ h9 => h9) rfl dX11_atEnd_1 ?_
  refine lv_sipush (v := 14400) hx hb dX11_atEnd_4 (by decide) ?_
  refine lv_icmp_lt (tgt := 14) hx hb dX11_atEnd_7 (by decide) (fun _ => ?_) (fun c => False.elim (by revert c; decide))
  refine lv_iconst (v := 0) hx hb dX11_atEnd_14 (by decide) ?_
  exact rt_i hx hb hr hlocks hK hP hD hS rfl dX11_atEnd_15 () [0] rfl rfl rfl
set_option maxHeartbeats 4000000 in
set_option maxRecDepth 100000 in
/-- X11_hourNow -/
theorem c_X11_hourNow (l : Launch) (D : va_G) (c : Nat → ClassId) (sz : Nat) (r : Nat → Nat) (ch : Int32) : Met l yX11_hourNow (.code yX11_hourNow cX11_hourNow 1 (some .int) :: Wd) ({ frames := 0, cells := 0, slots := 0, locals := 0 }) (va_Pc [.ref (r 0)] (WB D c [((r 0), .inr (11, fX r 0 ch))] sz)) (QI (S := Unit) D c (fun q _ => q = 0) (fun _ => [((r 0), .inr (11, fX r 0 ch))]) (va_A [((r 0), .inr (11, fX r 0 ch))] sz)) 0 0 (va_A [((r 0), .inr (11, fX r 0 ch))] sz) := by
  refine kz_met (Qc := QI (S := Unit) D c (fun q _ => q = 0) (fun _ => [((r 0), .inr (11, fX r 0 ch))])) (by decide) (Nat.le_of_ble_eq_true rfl) ?_
  intro p e s m below meth cd A ls H locs hx hb hr hml hts hown hlocks hin hN hO hK hP hD hS hA hl
  have hl : lv_has ls 1 [(0, .ref (r 0))] := hl
  have hown : s.vm.findClass RX11 = some m.cls := hown
  refine lv_aload_n hx hb dX11_hourNow_0 rfl (lv_at hl 0 rfl) ?_
  refine va_get (D := D) (ci := 11) (v := .int 0) (C := RX11) (T := TX11) (N := 16) hx hb hts inW_11 hown hK hP 0 rfl rfl 13 (by decide) (hts _ wd_282) (fun _ h9 => h9) rfl dX11_hourNow_1 ?_
  refine lv_bipush (v := 6) hx hb dX11_hourNow_4 (by decide) ?_
  refine lv_idiv hx hb dX11_hourNow_6 (by decide) ?_
  refine lv_topi (fun v1 e2 => ?_)
  obtain rfl : v1 = 0 := e2.trans (by decide)
  exact rt_i hx hb hr hlocks hK hP hD hS rfl dX11_hourNow_7 () [0] rfl rfl rfl
set_option maxHeartbeats 4000000 in
set_option maxRecDepth 100000 in
/-- X11_dayNow -/
theorem c_X11_dayNow (l : Launch) (D : va_G) (c : Nat → ClassId) (sz : Nat) (r : Nat → Nat) (ch : Int32) : Met l yX11_dayNow (.code yX11_dayNow cX11_dayNow 1 (some .int) :: Wd) ({ frames := 0, cells := 0, slots := 0, locals := 0 }) (va_Pc [.ref (r 0)] (WB D c [((r 0), .inr (11, fX r 0 ch))] sz)) (QI (S := Unit) D c (fun q _ => q = 0) (fun _ => [((r 0), .inr (11, fX r 0 ch))]) (va_A [((r 0), .inr (11, fX r 0 ch))] sz)) 0 0 (va_A [((r 0), .inr (11, fX r 0 ch))] sz) := by
  refine kz_met (Qc := QI (S := Unit) D c (fun q _ => q = 0) (fun _ => [((r 0), .inr (11, fX r 0 ch))])) (by decide) (Nat.le_of_ble_eq_true rfl) ?_
  intro p e s m below meth cd A ls H locs hx hb hr hml hts hown hlocks hin hN hO hK hP hD hS hA hl
  have hl : lv_has ls 1 [(0, .ref (r 0))] := hl
  have hown : s.vm.findClass RX11 = some m.cls := hown
  refine lv_aload_n hx hb dX11_dayNow_0 rfl (lv_at hl 0 rfl) ?_
  refine va_get (D := D) (ci := 11) (v := .int 0) (C := RX11) (T := TX11) (N := 16) hx hb hts inW_11 hown hK hP 0 rfl rfl 13 (by decide) (hts _ wd_282) (fun _ h9 => h9) rfl dX11_dayNow_1 ?_
  refine lv_sipush (v := 144) hx hb dX11_dayNow_4 (by decide) ?_
  refine lv_idiv hx hb dX11_dayNow_7 (by decide) ?_
  refine lv_topi (fun v1 e2 => ?_)
  obtain rfl : v1 = 0 := e2.trans (by decide)
  exact rt_i hx hb hr hlocks hK hP hD hS rfl dX11_dayNow_8 () [0] rfl rfl rfl
set_option maxHeartbeats 4000000 in
set_option maxRecDepth 100000 in
/-- X11_poolAt -/
theorem c_X11_poolAt (l : Launch) (D : va_G) (c : Nat → ClassId) (sz : Nat) (r : Nat → Nat) (ch : Int32) (k : Int32) : Met l yX11_poolAt (.code yX11_poolAt cX11_poolAt 2 (some (.object "PoolCoast$Pool")) :: Wd) ({ frames := 0, cells := 0, slots := 0, locals := 0 }) (va_Pc [.ref (r 0), .int k] (WB D c [((r 0), .inr (11, fX r 0 ch)), ((r 3), .inl (c 4, 11, .inr (.inr (.inr (.inr (fun _ => none))))))] sz)) (QN (S := Unit) D c (fun _ => [((r 0), .inr (11, fX r 0 ch)), ((r 3), .inl (c 4, 11, .inr (.inr (.inr (.inr (fun _ => none))))))]) (va_A [((r 0), .inr (11, fX r 0 ch)), ((r 3), .inl (c 4, 11, .inr (.inr (.inr (.inr (fun _ => none))))))] sz)) 0 0 (va_A [((r 0), .inr (11, fX r 0 ch)), ((r 3), .inl (c 4, 11, .inr (.inr (.inr (.inr (fun _ => none))))))] sz) := by
  refine kz_met (Qc := QN (S := Unit) D c (fun _ => [((r 0), .inr (11, fX r 0 ch)), ((r 3), .inl (c 4, 11, .inr (.inr (.inr (.inr (fun _ => none))))))])) (by decide) (Nat.le_of_ble_eq_true rfl) ?_
  intro p e s m below meth cd A ls H locs hx hb hr hml hts hown hlocks hin hN hO hK hP hD hS hA hl
  have hl : lv_has ls 2 [(0, .ref (r 0)), (1, .int k)] := hl
  have hown : s.vm.findClass RX11 = some m.cls := hown
  refine lv_iload_n hx hb dX11_poolAt_0 rfl (lv_at hl 1 rfl) ?_
  refine lv_if_lt (tgt := 22) hx hb dX11_poolAt_1 (by decide) (fun c1 => ?_) (fun c1 => ?_)
  · refine lv_null hx hb dX11_poolAt_22 ?_
    exact rt_n hx hb hr (Or.inl ⟨_, rfl⟩) hlocks hK hP hD hS dX11_poolAt_23 () [0, 1] rfl rfl
  · refine lv_iload_n hx hb dX11_poolAt_4 rfl (lv_at hl 1 rfl) ?_
    refine lv_aload_n hx hb dX11_poolAt_5 rfl (lv_at hl 0 rfl) ?_
    refine va_get (D := D) (ci := 11) (v := .ref (r 3)) (C := RX11) (T := TX11) (N := 16) hx hb hts inW_11 hown hK hP 0 rfl rfl 2 (by decide) (hts _ wd_271) (fun _ h9 => h9) rfl dX11_poolAt_6 ?_
    refine va_alen (v := 11) hx hb hK hP 1 4 rfl rfl (by show Int32.ofNat 11 = 11; decide) dX11_poolAt_9 ?_
    refine lv_icmp_ge (tgt := 22) hx hb dX11_poolAt_10 (by decide) (fun c2 => ?_) (fun c2 => ?_)
    · refine lv_null hx hb dX11_poolAt_22 ?_
      exact rt_n hx hb hr (Or.inl ⟨_, rfl⟩) hlocks hK hP hD hS dX11_poolAt_23 () [0, 1] rfl rfl
    · refine lv_aload_n hx hb dX11_poolAt_13 rfl (lv_at hl 0 rfl) ?_
      refine va_get (D := D) (ci := 11) (v := .ref (r 3)) (C := RX11) (T := TX11) (N := 16) hx hb hts inW_11 hown hK hP 0 rfl rfl 2 (by decide) (hts _ wd_271) (fun _ h9 => h9) rfl dX11_poolAt_14 ?_
      refine lv_iload_n hx hb dX11_poolAt_17 rfl (lv_at hl 1 rfl) ?_
      refine va_aldq hx hb hK hP 1 4 rfl rfl (vin_2 (n := 11) (by decide) c1 c2) dX11_poolAt_18 ?_
      refine lv_goto (tgt := 23) hx hb dX11_poolAt_19 (by decide) ?_
      exact rt_n hx hb hr (Or.inl ⟨_, rfl⟩) hlocks hK hP hD hS dX11_poolAt_23 () [0, 1] rfl rfl
set_option maxHeartbeats 4000000 in
set_option maxRecDepth 100000 in
/-- X11_leaseAt -/
theorem c_X11_leaseAt (l : Launch) (D : va_G) (c : Nat → ClassId) (sz : Nat) (r : Nat → Nat) (ch : Int32) (k : Int32) : Met l yX11_leaseAt (.code yX11_leaseAt cX11_leaseAt 2 (some (.object "PoolCoast$Lease")) :: Wd) ({ frames := 0, cells := 0, slots := 0, locals := 0 }) (va_Pc [.ref (r 0), .int k] (WB D c [((r 0), .inr (11, fX r 0 ch)), ((r 7), .inl (c 6, 10, .inr (.inr (.inr (.inr (fun _ => none))))))] sz)) (QN (S := Unit) D c (fun _ => [((r 0), .inr (11, fX r 0 ch)), ((r 7), .inl (c 6, 10, .inr (.inr (.inr (.inr (fun _ => none))))))]) (va_A [((r 0), .inr (11, fX r 0 ch)), ((r 7), .inl (c 6, 10, .inr (.inr (.inr (.inr (fun _ => none))))))] sz)) 0 0 (va_A [((r 0), .inr (11, fX r 0 ch)), ((r 7), .inl (c 6, 10, .inr (.inr (.inr (.inr (fun _ => none))))))] sz) := by
  refine kz_met (Qc := QN (S := Unit) D c (fun _ => [((r 0), .inr (11, fX r 0 ch)), ((r 7), .inl (c 6, 10, .inr (.inr (.inr (.inr (fun _ => none))))))])) (by decide) (Nat.le_of_ble_eq_true rfl) ?_
  intro p e s m below meth cd A ls H locs hx hb hr hml hts hown hlocks hin hN hO hK hP hD hS hA hl
  have hl : lv_has ls 2 [(0, .ref (r 0)), (1, .int k)] := hl
  have hown : s.vm.findClass RX11 = some m.cls := hown
  refine lv_iload_n hx hb dX11_leaseAt_0 rfl (lv_at hl 1 rfl) ?_
  refine lv_if_lt (tgt := 22) hx hb dX11_leaseAt_1 (by decide) (fun c1 => ?_) (fun c1 => ?_)
  · refine lv_null hx hb dX11_leaseAt_22 ?_
    exact rt_n hx hb hr (Or.inl ⟨_, rfl⟩) hlocks hK hP hD hS dX11_leaseAt_23 () [0, 1] rfl rfl
  · refine lv_iload_n hx hb dX11_leaseAt_4 rfl (lv_at hl 1 rfl) ?_
    refine lv_aload_n hx hb dX11_leaseAt_5 rfl (lv_at hl 0 rfl) ?_
    refine va_get (D := D) (ci := 11) (v := .ref (r 7)) (C := RX11) (T := TX11) (N := 16) hx hb hts inW_11 hown hK hP 0 rfl rfl 6 (by decide) (hts _ wd_275) (fun _ h9 => h9) rfl dX11_leaseAt_6 ?_
    refine va_alen (v := 10) hx hb hK hP 1 6 rfl rfl (by show Int32.ofNat 10 = 10; decide) dX11_leaseAt_9 ?_
    refine lv_icmp_ge (tgt := 22) hx hb dX11_leaseAt_10 (by decide) (fun c2 => ?_) (fun c2 => ?_)
    · refine lv_null hx hb dX11_leaseAt_22 ?_
      exact rt_n hx hb hr (Or.inl ⟨_, rfl⟩) hlocks hK hP hD hS dX11_leaseAt_23 () [0, 1] rfl rfl
    · refine lv_aload_n hx hb dX11_leaseAt_13 rfl (lv_at hl 0 rfl) ?_
      refine va_get (D := D) (ci := 11) (v := .ref (r 7)) (C := RX11) (T := TX11) (N := 16) hx hb hts inW_11 hown hK hP 0 rfl rfl 6 (by decide) (hts _ wd_275) (fun _ h9 => h9) rfl dX11_leaseAt_14 ?_
      refine lv_iload_n hx hb dX11_leaseAt_17 rfl (lv_at hl 1 rfl) ?_
      refine va_aldq hx hb hK hP 1 6 rfl rfl (vin_2 (n := 10) (by decide) c1 c2) dX11_leaseAt_18 ?_
      refine lv_goto (tgt := 23) hx hb dX11_leaseAt_19 (by decide) ?_
      exact rt_n hx hb hr (Or.inl ⟨_, rfl⟩) hlocks hK hP hD hS dX11_leaseAt_23 () [0, 1] rfl rfl
set_option maxHeartbeats 4000000 in
set_option maxRecDepth 100000 in
/-- X11_settingOf -/
theorem c_X11_settingOf (l : Launch) (D : va_G) (c : Nat → ClassId) (sz : Nat) (r : Nat → Nat) (ch : Int32) (k : Int32) : Met l yX11_settingOf (.code yX11_settingOf cX11_settingOf 2 (some .int) :: Wd) ({ frames := 0, cells := 0, slots := 0, locals := 0 }) (va_Pc [.ref (r 0), .int k] (WB D c [((r 0), .inr (11, fX r 0 ch)), ((r 2), .inr (10, fWv r))] sz)) (QI (S := Unit) D c (fun q _ => q = f_so k) (fun _ => [((r 0), .inr (11, fX r 0 ch)), ((r 2), .inr (10, fWv r))]) (va_A [((r 0), .inr (11, fX r 0 ch)), ((r 2), .inr (10, fWv r))] sz)) 0 0 (va_A [((r 0), .inr (11, fX r 0 ch)), ((r 2), .inr (10, fWv r))] sz) := by
  refine kz_met (Qc := QI (S := Unit) D c (fun q _ => q = f_so k) (fun _ => [((r 0), .inr (11, fX r 0 ch)), ((r 2), .inr (10, fWv r))])) (by decide) (Nat.le_of_ble_eq_true rfl) ?_
  intro p e s m below meth cd A ls H locs hx hb hr hml hts hown hlocks hin hN hO hK hP hD hS hA hl
  have hl : lv_has ls 2 [(0, .ref (r 0)), (1, .int k)] := hl
  have hown : s.vm.findClass RX11 = some m.cls := hown
  refine lv_iload_n hx hb dX11_settingOf_0 rfl (lv_at hl 1 rfl) ?_
  by_cases c1 : k = 0
  · subst c1
    refine lv_lookup (off := 27) (tgt := 28) hx hb dX11_settingOf_1 (by decide) (by decide) (by decide) ?_
    refine lv_aload_n hx hb dX11_settingOf_28 rfl (lv_at hl 0 rfl) ?_
    refine va_get (D := D) (ci := 11) (v := .ref (r 2)) (C := RX11) (T := TX11) (N := 16) hx hb hts inW_11 hown hK hP 0 rfl rfl 1 (by decide) (hts _ wd_270) (fun _ h9 => h9) rfl dX11_settingOf_29 ?_
    refine va_get (D := D) (ci := 10) (v := .int 100) (C := RX10) (T := TX10) (N := 7) hx hb hts inW_10 hown hK hP 1 rfl rfl 5 (by decide) (hts _ wd_143) (fun _ h9 => h9) rfl dX11_settingOf_32 ?_
    exact rt_i hx hb hr hlocks hK hP hD hS rfl dX11_settingOf_35 () [0, 1] rfl rfl (by decide)
  · by_cases c2 : k = 1
    · subst c2
      refine lv_lookup (off := 35) (tgt := 36) hx hb dX11_settingOf_1 (by decide) (by decide) (by decide) ?_
      refine lv_aload_n hx hb dX11_settingOf_36 rfl (lv_at hl 0 rfl) ?_
      refine va_get (D := D) (ci := 11) (v := .ref (r 2)) (C := RX11) (T := TX11) (N := 16) hx hb hts inW_11 hown hK hP 0 rfl rfl 1 (by decide) (hts _ wd_270) (fun _ h9 => h9) rfl dX11_settingOf_37 ?_
      refine va_get (D := D) (ci := 10) (v := .int 150) (C := RX10) (T := TX10) (N := 7) hx hb hts inW_10 hown hK hP 1 rfl rfl 6 (by decide) (hts _ wd_145) (fun _ h9 => h9) rfl dX11_settingOf_40 ?_
      exact rt_i hx hb hr hlocks hK hP hD hS rfl dX11_settingOf_43 () [0, 1] rfl rfl (by first | decide | (show (150 : Int32) = _; unfold f_so; rw [if_neg c1]))
    · refine lv_lookup (off := 43) (tgt := 44) hx hb dX11_settingOf_1 (by decide) ((lv_osw c1 (by decide)).trans ((lv_osw c2 (by decide)).trans (rfl))) (by decide) ?_
      refine lv_aload_n hx hb dX11_settingOf_44 rfl (lv_at hl 0 rfl) ?_
      refine va_get (D := D) (ci := 11) (v := .int 8) (C := RX11) (T := TX11) (N := 16) hx hb hts inW_11 hown hK hP 0 rfl rfl 14 (by decide) (hts _ wd_283) (fun _ h9 => h9) rfl dX11_settingOf_45 ?_
      exact rt_i hx hb hr hlocks hK hP hD hS rfl dX11_settingOf_48 () [0, 1] rfl rfl (by first | decide | (show (8 : Int32) = _; unfold f_so; rw [if_neg c1, if_neg c2]))
set_option maxHeartbeats 4000000 in
set_option maxRecDepth 100000 in
/-- X11_paidOf -/
theorem c_X11_paidOf (l : Launch) (D : va_G) (c : Nat → ClassId) (sz : Nat) (r : Nat → Nat) (ch : Int32) (k : Int32) : Met l yX11_paidOf (.code yX11_paidOf cX11_paidOf 3 (some .int) :: Wd) ({ frames := 1, cells := 0, slots := 0, locals := 21 }) (va_Pc [.ref (r 0), .int k] (WB D c [((r 0), .inr (11, fX r 0 ch)), ((r 7), .inl (c 6, 10, .inr (.inr (.inr (.inr (fun _ => none))))))] sz)) (QI (S := Unit) D c (fun q _ => q = -1) (fun _ => [((r 0), .inr (11, fX r 0 ch)), ((r 7), .inl (c 6, 10, .inr (.inr (.inr (.inr (fun _ => none))))))]) (va_A [((r 0), .inr (11, fX r 0 ch)), ((r 7), .inl (c 6, 10, .inr (.inr (.inr (.inr (fun _ => none))))))] sz)) 0 0 (va_A [((r 0), .inr (11, fX r 0 ch)), ((r 7), .inl (c 6, 10, .inr (.inr (.inr (.inr (fun _ => none))))))] sz) := by
  refine kz_met (Qc := QI (S := Unit) D c (fun q _ => q = -1) (fun _ => [((r 0), .inr (11, fX r 0 ch)), ((r 7), .inl (c 6, 10, .inr (.inr (.inr (.inr (fun _ => none))))))])) (by decide) (Nat.le_of_ble_eq_true rfl) ?_
  intro p e s m below meth cd A ls H locs hx hb hr hml hts hown hlocks hin hN hO hK hP hD hS hA hl
  have hl : lv_has ls 3 [(0, .ref (r 0)), (1, .int k)] := hl
  have hown : s.vm.findClass RX11 = some m.cls := hown
  refine lv_aload_n hx hb dX11_paidOf_0 rfl (lv_at hl 0 rfl) ?_
  refine lv_iload_n hx hb dX11_paidOf_1 rfl (lv_at hl 1 rfl) ?_
  have hPc := hP.sub (ws' := [((r 0), .inr (11, fX r 0 ch)), ((r 7), .inl (c 6, 10, .inr (.inr (.inr (.inr (fun _ => none))))))]) [0, 1] rfl
  have hDc := hD.sub (ws' := [((r 0), .inr (11, fX r 0 ch)), ((r 7), .inl (c 6, 10, .inr (.inr (.inr (.inr (fun _ => none))))))]) [0, 1] (by decide) rfl
  refine cl_n (wr := []) (va_runV (As := [.int k]) (rest := []) ⟨hx, hb, hml, hown, hts⟩ (c_X11_leaseAt l D c H.size r ch k) (kw_V 1 hts wd_1093 wd_1095 wd_39 wd_83 wd_1096 rfl rfl (by decide +kernel) ⟨Nat.le_of_ble_eq_true rfl, Nat.le_of_ble_eq_true rfl⟩) (pre_V hPc hK hDc hN hO (ci := 11) (q0 := 0) rfl rfl) rfl rfl hl.1 rfl (lv_room (Nat.le_of_ble_eq_true rfl)) dX11_paidOf_2 ⟨Nat.le_of_ble_eq_true rfl, Nat.le_of_ble_eq_true rfl⟩) hP hD hS hA [0, 1] [] rfl rfl (by decide) (by decide) (fun u2 H locs hP hD hS => ?_)
  have hP : va_P D vwCl [((r 0), .inr (11, fX r 0 ch)), ((r 7), .inl (c 6, 10, .inr (.inr (.inr (.inr (fun _ => none))))))] H := hP
  have hD : va_D A [((r 0), .inr (11, fX r 0 ch)), ((r 7), .inl (c 6, 10, .inr (.inr (.inr (.inr (fun _ => none))))))] := hD
  refine lv_astore_nN (lv' := [(2, .null), (0, .ref (r 0)), (1, .int k)]) hx hb dX11_paidOf_5 rfl hl (by decide) rfl (fun ls hl => ?_)
  refine lv_aload_nN hx hb dX11_paidOf_6 rfl (lv_at hl 0 rfl) ?_
  refine lv_ifnonnullN hx hb dX11_paidOf_7 ?_
  refine lv_iconst (v := (-1)) hx hb dX11_paidOf_10 (by decide) ?_
  refine lv_goto (tgt := 18) hx hb dX11_paidOf_11 (by decide) ?_
  exact rt_i hx hb hr hlocks hK hP hD hS rfl dX11_paidOf_18 () [0, 1] rfl rfl rfl
set_option maxHeartbeats 4000000 in
set_option maxRecDepth 100000 in
/-- X8_takes -/
theorem c_X8_takes (l : Launch) (D : va_G) (c : Nat → ClassId) (sz : Nat) (r : Nat → Nat) (t : Int32) (v : Int32) : Met l yX8_takes (.code yX8_takes cX8_takes 3 (some .boolean) :: Wd) ({ frames := 1, cells := 0, slots := 0, locals := 22 }) (va_Pc [.ref (r 1), .int t, .int v] (WB D c [((r 1), .inr (8, fTd r))] sz)) (QI (S := Unit) D c (fun q _ => q = f_takes t v) (fun _ => [((r 1), .inr (8, fTd r))]) (va_A [((r 1), .inr (8, fTd r))] sz)) 0 0 (va_A [((r 1), .inr (8, fTd r))] sz) := by
  refine kz_met (Qc := QI (S := Unit) D c (fun q _ => q = f_takes t v) (fun _ => [((r 1), .inr (8, fTd r))])) (by decide) (Nat.le_of_ble_eq_true rfl) ?_
  intro p e s m below meth cd A ls H locs hx hb hr hml hts hown hlocks hin hN hO hK hP hD hS hA hl
  have hl : lv_has ls 3 [(0, .ref (r 1)), (1, .int t), (2, .int v)] := hl
  have hown : s.vm.findClass RX8 = some m.cls := hown
  refine lv_aload_n hx hb dX8_takes_0 rfl (lv_at hl 0 rfl) ?_
  refine va_get (D := D) (ci := 8) (v := .int 0) (C := RX8) (T := TX8) (N := 3) hx hb hts inW_8 hown hK hP 0 rfl rfl 2 (by decide) (hts _ wd_120) (fun _ h9 => h9) rfl dX8_takes_1 ?_
  refine lv_sipush (v := 500) hx hb dX8_takes_4 (by decide) ?_
  refine lv_icmp_ge (tgt := 34) hx hb dX8_takes_7 (by decide) (fun c => False.elim (by revert c; decide)) (fun _ => ?_)
  refine lv_iload_n hx hb dX8_takes_10 rfl (lv_at hl 1 rfl) ?_
  refine lv_iconst (v := 0) hx hb dX8_takes_11 (by decide) ?_
  refine lv_sipush (v := 14399) hx hb dX8_takes_12 (by decide) ?_
  have hPc := hP.sub (ws' := []) [] rfl
  have hDc := hD.sub (ws' := []) [] (by decide) rfl
  refine cl_i (wr := [((r 1), .inr (8, fTd r))]) (va_runSN (As := [.int t, .int 0, .int 14399]) (rest := []) ⟨hx, hb, hml, hown, hts⟩ (c_X11_within l D c H.size t 0 14399) (kw_SN 3 hts (hN (RX8, 22, yX11_within) (List.mem_of_getElem? (i := 4) rfl)) wd_331 wd_83 wd_332 rfl rfl (by decide +kernel) ⟨Nat.le_of_ble_eq_true rfl, Nat.le_of_ble_eq_true rfl⟩) (pre_S hPc hK hDc hN hO) rfl rfl hl.1 rfl (lv_room (Nat.le_of_ble_eq_true rfl)) dX8_takes_15 ⟨Nat.le_of_ble_eq_true rfl, Nat.le_of_ble_eq_true rfl⟩) hP hD hS hA [] [0] rfl rfl (by decide) (by decide) (fun r1 u2 H locs h3 hP hD hS => ?_)
  have hP : va_P D vwCl [((r 1), .inr (8, fTd r))] H := hP
  have hD : va_D A [((r 1), .inr (8, fTd r))] := hD
  rcases inB_c h3 with ⟨h4, rfl⟩ | ⟨h4, rfl⟩
  · refine lv_if_eq (tgt := 34) hx hb dX8_takes_18 (by decide) (fun c => False.elim (by revert c; decide)) (fun _ => ?_)
    refine lv_iload_n hx hb dX8_takes_21 rfl (lv_at hl 2 rfl) ?_
    refine lv_sipush (v := (-500)) hx hb dX8_takes_22 (by decide) ?_
    refine lv_sipush (v := 900) hx hb dX8_takes_25 (by decide) ?_
    have hPc := hP.sub (ws' := []) [] rfl
    have hDc := hD.sub (ws' := []) [] (by decide) rfl
    refine cl_i (wr := [((r 1), .inr (8, fTd r))]) (va_runSN (As := [.int v, .int (-500), .int 900]) (rest := []) ⟨hx, hb, hml, hown, hts⟩ (c_X11_within l D c H.size v ((-500)) 900) (kw_SN 3 hts (hN (RX8, 22, yX11_within) (List.mem_of_getElem? (i := 4) rfl)) wd_331 wd_83 wd_332 rfl rfl (by decide +kernel) ⟨Nat.le_of_ble_eq_true rfl, Nat.le_of_ble_eq_true rfl⟩) (pre_S hPc hK hDc hN hO) rfl rfl hl.1 rfl (lv_room (Nat.le_of_ble_eq_true rfl)) dX8_takes_28 ⟨Nat.le_of_ble_eq_true rfl, Nat.le_of_ble_eq_true rfl⟩) hP hD hS hA [] [0] rfl rfl (by decide) (by decide) (fun r5 u6 H locs h7 hP hD hS => ?_)
    have hP : va_P D vwCl [((r 1), .inr (8, fTd r))] H := hP
    have hD : va_D A [((r 1), .inr (8, fTd r))] := hD
    rcases inB_c h7 with ⟨h8, rfl⟩ | ⟨h8, rfl⟩
    · refine lv_if_ne (tgt := 36) hx hb dX8_takes_31 (by decide) (fun _ => ?_) (fun c => False.elim (by revert c; decide))
      refine lv_aload_n hx hb dX8_takes_36 rfl (lv_at hl 0 rfl) ?_
      refine va_get (D := D) (ci := 8) (v := .int 0) (C := RX8) (T := TX8) (N := 3) hx hb hts inW_8 hown hK hP 0 rfl rfl 2 (by decide) (hts _ wd_120) (fun _ h9 => h9) rfl dX8_takes_37 ?_
      refine lv_if_eq (tgt := 68) hx hb dX8_takes_40 (by decide) (fun _ => ?_) (fun c => False.elim (by revert c; decide))
      refine lv_iconst (v := 1) hx hb dX8_takes_68 (by decide) ?_
      refine lv_goto (tgt := 73) hx hb dX8_takes_69 (by decide) ?_
      exact rt_i hx hb hr hlocks hK hP hD hS rfl dX8_takes_73 () [0] rfl rfl (by show (1 : Int32) = _; unfold f_takes; (try simp only [Int32.reduceToInt, not_true_eq_false, false_or, not_false_eq_true, true_or, and_true, true_and]); (try simp only [Int32.le_iff_toInt_le, Int32.lt_iff_toInt_lt, ← Int32.toInt_inj, Int32.reduceToInt] at h4); (try simp only [Int32.le_iff_toInt_le, Int32.lt_iff_toInt_lt, ← Int32.toInt_inj, Int32.reduceToInt] at h8); first | (rw [if_pos (by omega)]; done) | (rw [if_neg (by omega)]; done) | (rw [if_pos (by omega)]; exact Int32.toInt_inj.mp (by (try simp only [Int32.reduceToInt]); omega)))
    · refine lv_if_ne (tgt := 36) hx hb dX8_takes_31 (by decide) (fun c => False.elim (by revert c; decide)) (fun _ => ?_)
      refine lv_iconst (v := 0) hx hb dX8_takes_34 (by decide) ?_
      exact rt_i hx hb hr hlocks hK hP hD hS rfl dX8_takes_35 () [0] rfl rfl (by show (0 : Int32) = _; unfold f_takes; (try simp only [Int32.reduceToInt, not_true_eq_false, false_or, not_false_eq_true, true_or, and_true, true_and]); (try simp only [Int32.le_iff_toInt_le, Int32.lt_iff_toInt_lt, ← Int32.toInt_inj, Int32.reduceToInt] at h4); (try simp only [Int32.le_iff_toInt_le, Int32.lt_iff_toInt_lt, ← Int32.toInt_inj, Int32.reduceToInt] at h8); first | (rw [if_pos (by omega)]; done) | (rw [if_neg (by omega)]; done) | (rw [if_pos (by omega)]; exact Int32.toInt_inj.mp (by (try simp only [Int32.reduceToInt]); omega)))
  · refine lv_if_eq (tgt := 34) hx hb dX8_takes_18 (by decide) (fun _ => ?_) (fun c => False.elim (by revert c; decide))
    refine lv_iconst (v := 0) hx hb dX8_takes_34 (by decide) ?_
    exact rt_i hx hb hr hlocks hK hP hD hS rfl dX8_takes_35 () [0] rfl rfl (by show (0 : Int32) = _; unfold f_takes; (try simp only [Int32.reduceToInt, not_true_eq_false, false_or, not_false_eq_true, true_or, and_true, true_and]); (try simp only [Int32.le_iff_toInt_le, Int32.lt_iff_toInt_lt, ← Int32.toInt_inj, Int32.reduceToInt] at h4); first | (rw [if_pos (by omega)]; done) | (rw [if_neg (by omega)]; done) | (rw [if_pos (by omega)]; exact Int32.toInt_inj.mp (by (try simp only [Int32.reduceToInt]); omega)))
set_option maxHeartbeats 4000000 in
set_option maxRecDepth 100000 in
/-- X8_add -/
theorem c_X8_add (l : Launch) (D : va_G) (c : Nat → ClassId) (sz : Nat) (r : Nat → Nat) (t : Int32) (v : Int32) : Met l yX8_add (.code yX8_add cX8_add 3 (some .int) :: Wd) ({ frames := 1, cells := 0, slots := 0, locals := 22 }) (va_Pc [.ref (r 1), .int t, .int v] (WB D c [((r 1), .inr (8, fTd r)), ((r 20), .inl (c 0, 500, .inl (fun _ => 0))), ((r 21), .inl (c 0, 500, .inl (fun _ => 0)))] sz)) (QI (S := Unit) D c (fun q _ => q = 1) (fun _ => []) (va_A [((r 1), .inr (8, fTd r)), ((r 20), .inl (c 0, 500, .inl (fun _ => 0))), ((r 21), .inl (c 0, 500, .inl (fun _ => 0)))] sz)) 0 0 (va_A [((r 1), .inr (8, fTd r)), ((r 20), .inl (c 0, 500, .inl (fun _ => 0))), ((r 21), .inl (c 0, 500, .inl (fun _ => 0)))] sz) := by
  refine kz_met (Qc := QI (S := Unit) D c (fun q _ => q = 1) (fun _ => [])) (by decide) (Nat.le_of_ble_eq_true rfl) ?_
  intro p e s m below meth cd A ls H locs hx hb hr hml hts hown hlocks hin hN hO hK hP hD hS hA hl
  have hl : lv_has ls 3 [(0, .ref (r 1)), (1, .int t), (2, .int v)] := hl
  have hown : s.vm.findClass RX8 = some m.cls := hown
  refine lv_aload_n hx hb dX8_add_0 rfl (lv_at hl 0 rfl) ?_
  refine va_get (D := D) (ci := 8) (v := .ref (r 20)) (C := RX8) (T := TX8) (N := 3) hx hb hts inW_8 hown hK hP 0 rfl rfl 0 (by decide) (hts _ wd_118) (fun _ h9 => h9) rfl dX8_add_1 ?_
  refine lv_aload_n hx hb dX8_add_4 rfl (lv_at hl 0 rfl) ?_
  refine va_get (D := D) (ci := 8) (v := .int 0) (C := RX8) (T := TX8) (N := 3) hx hb hts inW_8 hown hK hP 0 rfl rfl 2 (by decide) (hts _ wd_120) (fun _ h9 => h9) rfl dX8_add_5 ?_
  refine lv_iload_n hx hb dX8_add_8 rfl (lv_at hl 1 rfl) ?_
  have hPc := hP.sub (ws' := [((r 20), .inl (c 0, 500, .inl ((fun _ => 0))))]) [1] rfl
  have hDc := hD.sub (ws' := [((r 20), .inl (c 0, 500, .inl ((fun _ => 0))))]) [1] (by decide) rfl
  refine cl_v (wr := [((r 1), .inr (8, fTd r)), ((r 21), .inl (c 0, 500, .inl (fun _ => 0)))]) (va_runSN (As := [.ref (r 20), .int 0, .int t]) (rest := []) ⟨hx, hb, hml, hown, hts⟩ (c_X11_put l D c H.size ((r 20)) 500 ((by decide)) ((fun _ => 0)) 0 t) (kw_SN 3 hts (hN (RX8, 30, yX11_put) (List.mem_of_getElem? (i := 6) rfl)) wd_341 wd_83 wd_342 rfl rfl (by decide +kernel) ⟨Nat.le_of_ble_eq_true rfl, Nat.le_of_ble_eq_true rfl⟩) (pre_S hPc hK hDc hN hO) rfl rfl hl.1 rfl (lv_room (Nat.le_of_ble_eq_true rfl)) dX8_add_9 ⟨Nat.le_of_ble_eq_true rfl, Nat.le_of_ble_eq_true rfl⟩) hP hD hS hA [1] [0, 2] rfl rfl (by decide) (by decide) (fun u2 H locs h3 hP hD hS => ?_)
  have hP : va_P D vwCl [((r 1), .inr (8, fTd r)), ((r 21), .inl (c 0, 500, .inl (fun _ => 0))), ((r 20), .inl (c 0, 500, .inl (u2)))] H := hP
  have hD : va_D A [((r 1), .inr (8, fTd r)), ((r 21), .inl (c 0, 500, .inl (fun _ => 0))), ((r 20), .inl (c 0, 500, .inl (u2)))] := hD
  refine lv_aload_n hx hb dX8_add_12 rfl (lv_at hl 0 rfl) ?_
  refine va_get (D := D) (ci := 8) (v := .ref (r 21)) (C := RX8) (T := TX8) (N := 3) hx hb hts inW_8 hown hK hP 0 rfl rfl 1 (by decide) (hts _ wd_119) (fun _ h9 => h9) rfl dX8_add_13 ?_
  refine lv_aload_n hx hb dX8_add_16 rfl (lv_at hl 0 rfl) ?_
  refine va_get (D := D) (ci := 8) (v := .int 0) (C := RX8) (T := TX8) (N := 3) hx hb hts inW_8 hown hK hP 0 rfl rfl 2 (by decide) (hts _ wd_120) (fun _ h9 => h9) rfl dX8_add_17 ?_
  refine lv_iload_n hx hb dX8_add_20 rfl (lv_at hl 2 rfl) ?_
  have hPc := hP.sub (ws' := [((r 21), .inl (c 0, 500, .inl ((fun _ => 0))))]) [1] rfl
  have hDc := hD.sub (ws' := [((r 21), .inl (c 0, 500, .inl ((fun _ => 0))))]) [1] (by decide) rfl
  refine cl_v (wr := [((r 1), .inr (8, fTd r)), ((r 20), .inl (c 0, 500, .inl (u2)))]) (va_runSN (As := [.ref (r 21), .int 0, .int v]) (rest := []) ⟨hx, hb, hml, hown, hts⟩ (c_X11_put l D c H.size ((r 21)) 500 ((by decide)) ((fun _ => 0)) 0 v) (kw_SN 3 hts (hN (RX8, 30, yX11_put) (List.mem_of_getElem? (i := 6) rfl)) wd_341 wd_83 wd_342 rfl rfl (by decide +kernel) ⟨Nat.le_of_ble_eq_true rfl, Nat.le_of_ble_eq_true rfl⟩) (pre_S hPc hK hDc hN hO) rfl rfl hl.1 rfl (lv_room (Nat.le_of_ble_eq_true rfl)) dX8_add_21 ⟨Nat.le_of_ble_eq_true rfl, Nat.le_of_ble_eq_true rfl⟩) hP hD hS hA [1] [0, 2] rfl rfl (by decide) (by decide) (fun u5 H locs h6 hP hD hS => ?_)
  have hP : va_P D vwCl [((r 1), .inr (8, fTd r)), ((r 20), .inl (c 0, 500, .inl (u2))), ((r 21), .inl (c 0, 500, .inl (u5)))] H := hP
  have hD : va_D A [((r 1), .inr (8, fTd r)), ((r 20), .inl (c 0, 500, .inl (u2))), ((r 21), .inl (c 0, 500, .inl (u5)))] := hD
  refine lv_aload_n hx hb dX8_add_24 rfl (lv_at hl 0 rfl) ?_
  refine lv_dup hx hb dX8_add_25 rfl ?_
  refine va_get (D := D) (ci := 8) (v := .int 0) (C := RX8) (T := TX8) (N := 3) hx hb hts inW_8 hown hK hP 0 rfl rfl 2 (by decide) (hts _ wd_120) (fun _ h9 => h9) rfl dX8_add_26 ?_
  refine lv_iconst (v := 1) hx hb dX8_add_29 (by decide) ?_
  refine lv_iadd hx hb dX8_add_30 ?_
  refine lv_topi (fun v7 e8 => ?_)
  obtain rfl : v7 = 1 := e8.trans (by decide)
  refine va_put (D := D) (ci := 8) (v := .int 1) (ty := .int) (C := RX8) (T := TX8) (N := 3) hx hb hts inW_8 tyX8 tyX8_ok nmX8 hown hK hP hD hS 0 rfl rfl 2 (by decide) (hts _ wd_120) (fun _ h9 => h9) rfl (by decide +kernel) rfl rfl (Nat.le_of_ble_eq_true rfl) dX8_add_31 (fun H locs hP hD hS => ?_)
  have hP : va_P D vwCl [((r 1), .inr (8, (fTd r).set 2 (.int 1))), ((r 20), .inl (c 0, 500, .inl (u2))), ((r 21), .inl (c 0, 500, .inl (u5)))] H := hP
  have hD : va_D A [((r 1), .inr (8, (fTd r).set 2 (.int 1))), ((r 20), .inl (c 0, 500, .inl (u2))), ((r 21), .inl (c 0, 500, .inl (u5)))] := hD
  refine lv_aload_n hx hb dX8_add_34 rfl (lv_at hl 0 rfl) ?_
  refine va_get (D := D) (ci := 8) (v := .int 1) (C := RX8) (T := TX8) (N := 3) hx hb hts inW_8 hown hK hP 0 rfl rfl 2 (by decide) (hts _ wd_120) (fun _ h9 => h9) rfl dX8_add_35 ?_
  exact rt_i hx hb hr hlocks hK hP hD hS rfl dX8_add_38 () [] rfl rfl rfl
set_option maxHeartbeats 4000000 in
set_option maxRecDepth 100000 in
/-- X8_levelAt -/
theorem c_X8_levelAt (l : Launch) (D : va_G) (c : Nat → ClassId) (sz : Nat) (r : Nat → Nat) (t : Int32) : Met l yX8_levelAt (.code yX8_levelAt cX8_levelAt 5 (some .int) :: Wd) ({ frames := 0, cells := 0, slots := 0, locals := 0 }) (va_Pc [.ref (r 1), .int t] (WB D c [((r 1), .inr (8, fTd r))] sz)) (QI (S := Unit) D c (fun q _ => q = 0) (fun _ => []) (va_A [((r 1), .inr (8, fTd r))] sz)) 0 0 (va_A [((r 1), .inr (8, fTd r))] sz) := by
  refine kz_met (Qc := QI (S := Unit) D c (fun q _ => q = 0) (fun _ => [])) (by decide) (Nat.le_of_ble_eq_true rfl) ?_
  intro p e s m below meth cd A ls H locs hx hb hr hml hts hown hlocks hin hN hO hK hP hD hS hA hl
  have hl : lv_has ls 5 [(0, .ref (r 1)), (1, .int t)] := hl
  have hown : s.vm.findClass RX8 = some m.cls := hown
  refine lv_aload_n hx hb dX8_levelAt_0 rfl (lv_at hl 0 rfl) ?_
  refine va_get (D := D) (ci := 8) (v := .int 0) (C := RX8) (T := TX8) (N := 3) hx hb hts inW_8 hown hK hP 0 rfl rfl 2 (by decide) (hts _ wd_120) (fun _ h9 => h9) rfl dX8_levelAt_1 ?_
  refine lv_if_ne (tgt := 9) hx hb dX8_levelAt_4 (by decide) (fun c => False.elim (by revert c; decide)) (fun _ => ?_)
  refine lv_iconst (v := 0) hx hb dX8_levelAt_7 (by decide) ?_
  exact rt_i hx hb hr hlocks hK hP hD hS rfl dX8_levelAt_8 () [] rfl rfl rfl
set_option maxHeartbeats 4000000 in
set_option maxRecDepth 100000 in
/-- X10_add -/
theorem c_X10_add (l : Launch) (D : va_G) (c : Nat → ClassId) (sz : Nat) (r : Nat → Nat) (h : Int32) (x : Int32) (k : Int32) : Met l yX10_add (.code yX10_add cX10_add 4 (some .int) :: Wd) ({ frames := 1, cells := 0, slots := 0, locals := 22 }) (va_Pc [.ref (r 2), .int h, .int x, .int k] (WB D c [((r 2), .inr (10, fWv r)), ((r 22), .inl (c 0, 2400, .inl (fun _ => 0))), ((r 23), .inl (c 0, 1500, .inl (fun _ => 0))), ((r 24), .inl (c 0, 1500, .inl (fun _ => 0))), ((r 25), .inl (c 0, 1500, .inl (fun _ => 0)))] sz)) (QI (S := Unit) D c (fun q _ => q = 1) (fun _ => []) (va_A [((r 2), .inr (10, fWv r)), ((r 22), .inl (c 0, 2400, .inl (fun _ => 0))), ((r 23), .inl (c 0, 1500, .inl (fun _ => 0))), ((r 24), .inl (c 0, 1500, .inl (fun _ => 0))), ((r 25), .inl (c 0, 1500, .inl (fun _ => 0)))] sz)) 0 0 (va_A [((r 2), .inr (10, fWv r)), ((r 22), .inl (c 0, 2400, .inl (fun _ => 0))), ((r 23), .inl (c 0, 1500, .inl (fun _ => 0))), ((r 24), .inl (c 0, 1500, .inl (fun _ => 0))), ((r 25), .inl (c 0, 1500, .inl (fun _ => 0)))] sz) := by
  refine kz_met (Qc := QI (S := Unit) D c (fun q _ => q = 1) (fun _ => [])) (by decide) (Nat.le_of_ble_eq_true rfl) ?_
  intro p e s m below meth cd A ls H locs hx hb hr hml hts hown hlocks hin hN hO hK hP hD hS hA hl
  have hl : lv_has ls 4 [(0, .ref (r 2)), (1, .int h), (2, .int x), (3, .int k)] := hl
  have hown : s.vm.findClass RX10 = some m.cls := hown
  refine lv_aload_n hx hb dX10_add_0 rfl (lv_at hl 0 rfl) ?_
  refine va_get (D := D) (ci := 10) (v := .ref (r 23)) (C := RX10) (T := TX10) (N := 7) hx hb hts inW_10 hown hK hP 0 rfl rfl 1 (by decide) (hts _ wd_137) (fun _ h9 => h9) rfl dX10_add_1 ?_
  refine lv_aload_n hx hb dX10_add_4 rfl (lv_at hl 0 rfl) ?_
  refine va_get (D := D) (ci := 10) (v := .int 0) (C := RX10) (T := TX10) (N := 7) hx hb hts inW_10 hown hK hP 0 rfl rfl 4 (by decide) (hts _ wd_140) (fun _ h9 => h9) rfl dX10_add_5 ?_
  refine lv_aload_n hx hb dX10_add_8 rfl (lv_at hl 0 rfl) ?_
  refine va_get (D := D) (ci := 10) (v := .ref (r 22)) (C := RX10) (T := TX10) (N := 7) hx hb hts inW_10 hown hK hP 0 rfl rfl 0 (by decide) (hts _ wd_136) (fun _ h9 => h9) rfl dX10_add_9 ?_
  refine lv_iload_n hx hb dX10_add_12 rfl (lv_at hl 1 rfl) ?_
  have hPc := hP.sub (ws' := [((r 22), .inl (c 0, 2400, .inl (fun _ => 0)))]) [1] rfl
  have hDc := hD.sub (ws' := [((r 22), .inl (c 0, 2400, .inl (fun _ => 0)))]) [1] (by decide) rfl
  refine cl_i (wr := [((r 2), .inr (10, fWv r)), ((r 23), .inl (c 0, 1500, .inl (fun _ => 0))), ((r 24), .inl (c 0, 1500, .inl (fun _ => 0))), ((r 25), .inl (c 0, 1500, .inl (fun _ => 0)))]) (va_runSN (As := [.ref (r 22), .int h]) (rest := [.int 0, .ref (r 23)]) ⟨hx, hb, hml, hown, hts⟩ (c_X11_at l D c H.size ((r 22)) 2400 ((by decide)) h) (kw_SN 2 hts (hN (RX10, 34, yX11_at) (List.mem_of_getElem? (i := 7) rfl)) wd_334 wd_83 wd_335 rfl rfl (by decide +kernel) ⟨Nat.le_of_ble_eq_true rfl, Nat.le_of_ble_eq_true rfl⟩) (pre_S hPc hK hDc hN hO) rfl rfl hl.1 rfl (lv_room (Nat.le_of_ble_eq_true rfl)) dX10_add_13 ⟨Nat.le_of_ble_eq_true rfl, Nat.le_of_ble_eq_true rfl⟩) hP hD hS hA [1] [0, 2, 3, 4] rfl rfl (by decide) (by decide) (fun r1 u2 H locs h3 hP hD hS => ?_)
  have hP : va_P D vwCl [((r 2), .inr (10, fWv r)), ((r 23), .inl (c 0, 1500, .inl (fun _ => 0))), ((r 24), .inl (c 0, 1500, .inl (fun _ => 0))), ((r 25), .inl (c 0, 1500, .inl (fun _ => 0))), ((r 22), .inl (c 0, 2400, .inl (fun _ => 0)))] H := hP
  have hD : va_D A [((r 2), .inr (10, fWv r)), ((r 23), .inl (c 0, 1500, .inl (fun _ => 0))), ((r 24), .inl (c 0, 1500, .inl (fun _ => 0))), ((r 25), .inl (c 0, 1500, .inl (fun _ => 0))), ((r 22), .inl (c 0, 2400, .inl (fun _ => 0)))] := hD
  obtain rfl : r1 = 0 := h3
  have hPc := hP.sub (ws' := [((r 23), .inl (c 0, 1500, .inl ((fun _ => 0))))]) [1] rfl
  have hDc := hD.sub (ws' := [((r 23), .inl (c 0, 1500, .inl ((fun _ => 0))))]) [1] (by decide) rfl
  refine cl_v (wr := [((r 2), .inr (10, fWv r)), ((r 24), .inl (c 0, 1500, .inl (fun _ => 0))), ((r 25), .inl (c 0, 1500, .inl (fun _ => 0))), ((r 22), .inl (c 0, 2400, .inl (fun _ => 0)))]) (va_runSN (As := [.ref (r 23), .int 0, .int 0]) (rest := []) ⟨hx, hb, hml, hown, hts⟩ (c_X11_put l D c H.size ((r 23)) 1500 ((by decide)) ((fun _ => 0)) 0 0) (kw_SN 3 hts (hN (RX10, 38, yX11_put) (List.mem_of_getElem? (i := 8) rfl)) wd_341 wd_83 wd_342 rfl rfl (by decide +kernel) ⟨Nat.le_of_ble_eq_true rfl, Nat.le_of_ble_eq_true rfl⟩) (pre_S hPc hK hDc hN hO) rfl rfl hl.1 rfl (lv_room (Nat.le_of_ble_eq_true rfl)) dX10_add_16 ⟨Nat.le_of_ble_eq_true rfl, Nat.le_of_ble_eq_true rfl⟩) hP hD hS hA [1] [0, 2, 3, 4] rfl rfl (by decide) (by decide) (fun u5 H locs h6 hP hD hS => ?_)
  have hP : va_P D vwCl [((r 2), .inr (10, fWv r)), ((r 24), .inl (c 0, 1500, .inl (fun _ => 0))), ((r 25), .inl (c 0, 1500, .inl (fun _ => 0))), ((r 22), .inl (c 0, 2400, .inl (fun _ => 0))), ((r 23), .inl (c 0, 1500, .inl (u5)))] H := hP
  have hD : va_D A [((r 2), .inr (10, fWv r)), ((r 24), .inl (c 0, 1500, .inl (fun _ => 0))), ((r 25), .inl (c 0, 1500, .inl (fun _ => 0))), ((r 22), .inl (c 0, 2400, .inl (fun _ => 0))), ((r 23), .inl (c 0, 1500, .inl (u5)))] := hD
  refine lv_aload_n hx hb dX10_add_19 rfl (lv_at hl 0 rfl) ?_
  refine va_get (D := D) (ci := 10) (v := .ref (r 24)) (C := RX10) (T := TX10) (N := 7) hx hb hts inW_10 hown hK hP 0 rfl rfl 2 (by decide) (hts _ wd_138) (fun _ h9 => h9) rfl dX10_add_20 ?_
  refine lv_aload_n hx hb dX10_add_23 rfl (lv_at hl 0 rfl) ?_
  refine va_get (D := D) (ci := 10) (v := .int 0) (C := RX10) (T := TX10) (N := 7) hx hb hts inW_10 hown hK hP 0 rfl rfl 4 (by decide) (hts _ wd_140) (fun _ h9 => h9) rfl dX10_add_24 ?_
  refine lv_iload_n hx hb dX10_add_27 rfl (lv_at hl 3 rfl) ?_
  have hPc := hP.sub (ws' := [((r 24), .inl (c 0, 1500, .inl ((fun _ => 0))))]) [1] rfl
  have hDc := hD.sub (ws' := [((r 24), .inl (c 0, 1500, .inl ((fun _ => 0))))]) [1] (by decide) rfl
  refine cl_v (wr := [((r 2), .inr (10, fWv r)), ((r 25), .inl (c 0, 1500, .inl (fun _ => 0))), ((r 22), .inl (c 0, 2400, .inl (fun _ => 0))), ((r 23), .inl (c 0, 1500, .inl (u5)))]) (va_runSN (As := [.ref (r 24), .int 0, .int k]) (rest := []) ⟨hx, hb, hml, hown, hts⟩ (c_X11_put l D c H.size ((r 24)) 1500 ((by decide)) ((fun _ => 0)) 0 k) (kw_SN 3 hts (hN (RX10, 38, yX11_put) (List.mem_of_getElem? (i := 8) rfl)) wd_341 wd_83 wd_342 rfl rfl (by decide +kernel) ⟨Nat.le_of_ble_eq_true rfl, Nat.le_of_ble_eq_true rfl⟩) (pre_S hPc hK hDc hN hO) rfl rfl hl.1 rfl (lv_room (Nat.le_of_ble_eq_true rfl)) dX10_add_28 ⟨Nat.le_of_ble_eq_true rfl, Nat.le_of_ble_eq_true rfl⟩) hP hD hS hA [1] [0, 2, 3, 4] rfl rfl (by decide) (by decide) (fun u8 H locs h9 hP hD hS => ?_)
  have hP : va_P D vwCl [((r 2), .inr (10, fWv r)), ((r 25), .inl (c 0, 1500, .inl (fun _ => 0))), ((r 22), .inl (c 0, 2400, .inl (fun _ => 0))), ((r 23), .inl (c 0, 1500, .inl (u5))), ((r 24), .inl (c 0, 1500, .inl (u8)))] H := hP
  have hD : va_D A [((r 2), .inr (10, fWv r)), ((r 25), .inl (c 0, 1500, .inl (fun _ => 0))), ((r 22), .inl (c 0, 2400, .inl (fun _ => 0))), ((r 23), .inl (c 0, 1500, .inl (u5))), ((r 24), .inl (c 0, 1500, .inl (u8)))] := hD
  refine lv_aload_n hx hb dX10_add_31 rfl (lv_at hl 0 rfl) ?_
  refine va_get (D := D) (ci := 10) (v := .ref (r 25)) (C := RX10) (T := TX10) (N := 7) hx hb hts inW_10 hown hK hP 0 rfl rfl 3 (by decide) (hts _ wd_139) (fun _ h9 => h9) rfl dX10_add_32 ?_
  refine lv_aload_n hx hb dX10_add_35 rfl (lv_at hl 0 rfl) ?_
  refine va_get (D := D) (ci := 10) (v := .int 0) (C := RX10) (T := TX10) (N := 7) hx hb hts inW_10 hown hK hP 0 rfl rfl 4 (by decide) (hts _ wd_140) (fun _ h9 => h9) rfl dX10_add_36 ?_
  refine lv_iload_n hx hb dX10_add_39 rfl (lv_at hl 2 rfl) ?_
  have hPc := hP.sub (ws' := [((r 25), .inl (c 0, 1500, .inl ((fun _ => 0))))]) [1] rfl
  have hDc := hD.sub (ws' := [((r 25), .inl (c 0, 1500, .inl ((fun _ => 0))))]) [1] (by decide) rfl
  refine cl_v (wr := [((r 2), .inr (10, fWv r)), ((r 22), .inl (c 0, 2400, .inl (fun _ => 0))), ((r 23), .inl (c 0, 1500, .inl (u5))), ((r 24), .inl (c 0, 1500, .inl (u8)))]) (va_runSN (As := [.ref (r 25), .int 0, .int x]) (rest := []) ⟨hx, hb, hml, hown, hts⟩ (c_X11_put l D c H.size ((r 25)) 1500 ((by decide)) ((fun _ => 0)) 0 x) (kw_SN 3 hts (hN (RX10, 38, yX11_put) (List.mem_of_getElem? (i := 8) rfl)) wd_341 wd_83 wd_342 rfl rfl (by decide +kernel) ⟨Nat.le_of_ble_eq_true rfl, Nat.le_of_ble_eq_true rfl⟩) (pre_S hPc hK hDc hN hO) rfl rfl hl.1 rfl (lv_room (Nat.le_of_ble_eq_true rfl)) dX10_add_40 ⟨Nat.le_of_ble_eq_true rfl, Nat.le_of_ble_eq_true rfl⟩) hP hD hS hA [1] [0, 2, 3, 4] rfl rfl (by decide) (by decide) (fun u11 H locs h12 hP hD hS => ?_)
  have hP : va_P D vwCl [((r 2), .inr (10, fWv r)), ((r 22), .inl (c 0, 2400, .inl (fun _ => 0))), ((r 23), .inl (c 0, 1500, .inl (u5))), ((r 24), .inl (c 0, 1500, .inl (u8))), ((r 25), .inl (c 0, 1500, .inl (u11)))] H := hP
  have hD : va_D A [((r 2), .inr (10, fWv r)), ((r 22), .inl (c 0, 2400, .inl (fun _ => 0))), ((r 23), .inl (c 0, 1500, .inl (u5))), ((r 24), .inl (c 0, 1500, .inl (u8))), ((r 25), .inl (c 0, 1500, .inl (u11)))] := hD
  refine lv_aload_n hx hb dX10_add_43 rfl (lv_at hl 0 rfl) ?_
  refine lv_dup hx hb dX10_add_44 rfl ?_
  refine va_get (D := D) (ci := 10) (v := .int 0) (C := RX10) (T := TX10) (N := 7) hx hb hts inW_10 hown hK hP 0 rfl rfl 4 (by decide) (hts _ wd_140) (fun _ h9 => h9) rfl dX10_add_45 ?_
  refine lv_iconst (v := 1) hx hb dX10_add_48 (by decide) ?_
  refine lv_iadd hx hb dX10_add_49 ?_
  refine lv_topi (fun v13 e14 => ?_)
  obtain rfl : v13 = 1 := e14.trans (by decide)
  refine va_put (D := D) (ci := 10) (v := .int 1) (ty := .int) (C := RX10) (T := TX10) (N := 7) hx hb hts inW_10 tyX10 tyX10_ok nmX10 hown hK hP hD hS 0 rfl rfl 4 (by decide) (hts _ wd_140) (fun _ h9 => h9) rfl (by decide +kernel) rfl rfl (Nat.le_of_ble_eq_true rfl) dX10_add_50 (fun H locs hP hD hS => ?_)
  have hP : va_P D vwCl [((r 2), .inr (10, (fWv r).set 4 (.int 1))), ((r 22), .inl (c 0, 2400, .inl (fun _ => 0))), ((r 23), .inl (c 0, 1500, .inl (u5))), ((r 24), .inl (c 0, 1500, .inl (u8))), ((r 25), .inl (c 0, 1500, .inl (u11)))] H := hP
  have hD : va_D A [((r 2), .inr (10, (fWv r).set 4 (.int 1))), ((r 22), .inl (c 0, 2400, .inl (fun _ => 0))), ((r 23), .inl (c 0, 1500, .inl (u5))), ((r 24), .inl (c 0, 1500, .inl (u8))), ((r 25), .inl (c 0, 1500, .inl (u11)))] := hD
  refine lv_aload_n hx hb dX10_add_53 rfl (lv_at hl 0 rfl) ?_
  refine va_get (D := D) (ci := 10) (v := .ref (r 22)) (C := RX10) (T := TX10) (N := 7) hx hb hts inW_10 hown hK hP 0 rfl rfl 0 (by decide) (hts _ wd_136) (fun _ h9 => h9) rfl dX10_add_54 ?_
  refine lv_iload_n hx hb dX10_add_57 rfl (lv_at hl 1 rfl) ?_
  refine lv_aload_n hx hb dX10_add_58 rfl (lv_at hl 0 rfl) ?_
  refine va_get (D := D) (ci := 10) (v := .int 1) (C := RX10) (T := TX10) (N := 7) hx hb hts inW_10 hown hK hP 0 rfl rfl 4 (by decide) (hts _ wd_140) (fun _ h9 => h9) rfl dX10_add_59 ?_
  have hPc := hP.sub (ws' := [((r 22), .inl (c 0, 2400, .inl ((fun _ => 0))))]) [1] rfl
  have hDc := hD.sub (ws' := [((r 22), .inl (c 0, 2400, .inl ((fun _ => 0))))]) [1] (by decide) rfl
  refine cl_v (wr := [((r 2), .inr (10, (fWv r).set 4 (.int 1))), ((r 23), .inl (c 0, 1500, .inl (u5))), ((r 24), .inl (c 0, 1500, .inl (u8))), ((r 25), .inl (c 0, 1500, .inl (u11)))]) (va_runSN (As := [.ref (r 22), .int h, .int 1]) (rest := []) ⟨hx, hb, hml, hown, hts⟩ (c_X11_put l D c H.size ((r 22)) 2400 ((by decide)) ((fun _ => 0)) h 1) (kw_SN 3 hts (hN (RX10, 38, yX11_put) (List.mem_of_getElem? (i := 8) rfl)) wd_341 wd_83 wd_342 rfl rfl (by decide +kernel) ⟨Nat.le_of_ble_eq_true rfl, Nat.le_of_ble_eq_true rfl⟩) (pre_S hPc hK hDc hN hO) rfl rfl hl.1 rfl (lv_room (Nat.le_of_ble_eq_true rfl)) dX10_add_62 ⟨Nat.le_of_ble_eq_true rfl, Nat.le_of_ble_eq_true rfl⟩) hP hD hS hA [1] [0, 2, 3, 4] rfl rfl (by decide) (by decide) (fun u16 H locs h17 hP hD hS => ?_)
  have hP : va_P D vwCl [((r 2), .inr (10, (fWv r).set 4 (.int 1))), ((r 23), .inl (c 0, 1500, .inl (u5))), ((r 24), .inl (c 0, 1500, .inl (u8))), ((r 25), .inl (c 0, 1500, .inl (u11))), ((r 22), .inl (c 0, 2400, .inl (u16)))] H := hP
  have hD : va_D A [((r 2), .inr (10, (fWv r).set 4 (.int 1))), ((r 23), .inl (c 0, 1500, .inl (u5))), ((r 24), .inl (c 0, 1500, .inl (u8))), ((r 25), .inl (c 0, 1500, .inl (u11))), ((r 22), .inl (c 0, 2400, .inl (u16)))] := hD
  refine lv_aload_n hx hb dX10_add_65 rfl (lv_at hl 0 rfl) ?_
  refine va_get (D := D) (ci := 10) (v := .int 1) (C := RX10) (T := TX10) (N := 7) hx hb hts inW_10 hown hK hP 0 rfl rfl 4 (by decide) (hts _ wd_140) (fun _ h9 => h9) rfl dX10_add_66 ?_
  exact rt_i hx hb hr hlocks hK hP hD hS rfl dX10_add_69 () [] rfl rfl rfl
set_option maxHeartbeats 4000000 in
set_option maxRecDepth 100000 in
/-- X10_heightOf -/
theorem c_X10_heightOf (l : Launch) (D : va_G) (c : Nat → ClassId) (sz : Nat) (r : Nat → Nat) (h : Int32) (k : Int32) : Met l yX10_heightOf (.code yX10_heightOf cX10_heightOf 5 (some .int) :: Wd) ({ frames := 1, cells := 0, slots := 0, locals := 21 }) (va_Pc [.ref (r 2), .int h, .int k] (WB D c [((r 2), .inr (10, fWv r)), ((r 22), .inl (c 0, 2400, .inl (fun _ => 0)))] sz)) (QI (S := Unit) D c (fun q _ => q = 100) (fun _ => []) (va_A [((r 2), .inr (10, fWv r)), ((r 22), .inl (c 0, 2400, .inl (fun _ => 0)))] sz)) 0 0 (va_A [((r 2), .inr (10, fWv r)), ((r 22), .inl (c 0, 2400, .inl (fun _ => 0)))] sz) := by
  refine kz_met (Qc := QI (S := Unit) D c (fun q _ => q = 100) (fun _ => [])) (by decide) (Nat.le_of_ble_eq_true rfl) ?_
  intro p e s m below meth cd A ls H locs hx hb hr hml hts hown hlocks hin hN hO hK hP hD hS hA hl
  have hl : lv_has ls 5 [(0, .ref (r 2)), (1, .int h), (2, .int k)] := hl
  have hown : s.vm.findClass RX10 = some m.cls := hown
  refine lv_aload_n hx hb dX10_heightOf_0 rfl (lv_at hl 0 rfl) ?_
  refine va_get (D := D) (ci := 10) (v := .ref (r 22)) (C := RX10) (T := TX10) (N := 7) hx hb hts inW_10 hown hK hP 0 rfl rfl 0 (by decide) (hts _ wd_136) (fun _ h9 => h9) rfl dX10_heightOf_1 ?_
  refine lv_iload_n hx hb dX10_heightOf_4 rfl (lv_at hl 1 rfl) ?_
  have hPc := hP.sub (ws' := [((r 22), .inl (c 0, 2400, .inl (fun _ => 0)))]) [1] rfl
  have hDc := hD.sub (ws' := [((r 22), .inl (c 0, 2400, .inl (fun _ => 0)))]) [1] (by decide) rfl
  refine cl_i (wr := [((r 2), .inr (10, fWv r))]) (va_runSN (As := [.ref (r 22), .int h]) (rest := []) ⟨hx, hb, hml, hown, hts⟩ (c_X11_at l D c H.size ((r 22)) 2400 ((by decide)) h) (kw_SN 2 hts (hN (RX10, 34, yX11_at) (List.mem_of_getElem? (i := 7) rfl)) wd_334 wd_83 wd_335 rfl rfl (by decide +kernel) ⟨Nat.le_of_ble_eq_true rfl, Nat.le_of_ble_eq_true rfl⟩) (pre_S hPc hK hDc hN hO) rfl rfl hl.1 rfl (lv_room (Nat.le_of_ble_eq_true rfl)) dX10_heightOf_5 ⟨Nat.le_of_ble_eq_true rfl, Nat.le_of_ble_eq_true rfl⟩) hP hD hS hA [1] [0] rfl rfl (by decide) (by decide) (fun r1 u2 H locs h3 hP hD hS => ?_)
  have hP : va_P D vwCl [((r 2), .inr (10, fWv r)), ((r 22), .inl (c 0, 2400, .inl (fun _ => 0)))] H := hP
  have hD : va_D A [((r 2), .inr (10, fWv r)), ((r 22), .inl (c 0, 2400, .inl (fun _ => 0)))] := hD
  obtain rfl : r1 = 0 := h3
  refine lv_istore_n (lv' := [(3, .int 0), (0, .ref (r 2)), (1, .int h), (2, .int k)]) hx hb dX10_heightOf_8 rfl hl (by decide) rfl (fun ls hl => ?_)
  refine lv_iconst (v := 0) hx hb dX10_heightOf_9 (by decide) ?_
  refine lv_istore (lv' := [(4, .int 0), (3, .int 0), (0, .ref (r 2)), (1, .int h), (2, .int k)]) hx hb dX10_heightOf_10 hl (by decide) rfl (fun ls hl => ?_)
  refine lv_iload_n hx hb dX10_heightOf_12 rfl (lv_at hl 1 rfl) ?_
  refine lv_if_le (tgt := 66) hx hb dX10_heightOf_13 (by decide) (fun _ => ?_) (fun c => False.elim (by revert c; decide))
  refine lv_aload_n hx hb dX10_heightOf_66 rfl (lv_at hl 2 rfl) ?_
  refine va_get (D := D) (ci := 10) (v := .int 100) (C := RX10) (T := TX10) (N := 7) hx hb hts inW_10 hown hK hP 0 rfl rfl 5 (by decide) (hts _ wd_142) (fun _ h9 => h9) rfl dX10_heightOf_67 ?_
  exact rt_i hx hb hr hlocks hK hP hD hS rfl dX10_heightOf_70 () [] rfl rfl rfl
set_option maxHeartbeats 4000000 in
set_option maxRecDepth 100000 in
/-- X5_append -/
theorem c_X5_append (l : Launch) (D : va_G) (c : Nat → ClassId) (sz : Nat) (r : Nat → Nat) (len : Int32) (f : Nat → Int32) (v : Int32) : Met l yX5_append (.code yX5_append cX5_append 3 none :: Wd) ({ frames := 1, cells := 0, slots := 0, locals := 22 }) (va_Pc [.ref (r 4), .int v] (WB D c [((r 4), .inr (5, fRd r len)), ((r 27), .inl (c 0, 300, .inl (f)))] sz)) (QV (S := Int32 × (Nat → Int32)) D c (fun u => u.1 = len + 1 + 1 + 1 + 1) (fun u => [((r 4), .inr (5, fRd r u.1)), ((r 27), .inl (c 0, 300, .inl u.2))]) (va_A [((r 4), .inr (5, fRd r len)), ((r 27), .inl (c 0, 300, .inl (f)))] sz)) 0 0 (va_A [((r 4), .inr (5, fRd r len)), ((r 27), .inl (c 0, 300, .inl (f)))] sz) := by
  refine kz_met (Qc := QV (S := Int32 × (Nat → Int32)) D c (fun u => u.1 = len + 1 + 1 + 1 + 1) (fun u => [((r 4), .inr (5, fRd r u.1)), ((r 27), .inl (c 0, 300, .inl u.2))])) (by decide) (Nat.le_of_ble_eq_true rfl) ?_
  intro p e s m below meth cd A ls H locs hx hb hr hml hts hown hlocks hin hN hO hK hP hD hS hA hl
  have hl : lv_has ls 3 [(0, .ref (r 4)), (1, .int v)] := hl
  have hown : s.vm.findClass RX5 = some m.cls := hown
  refine lv_bipush (v := 24) hx hb dX5_append_0 (by decide) ?_
  refine lv_istore_n (lv' := [(2, .int 24), (0, .ref (r 4)), (1, .int v)]) hx hb dX5_append_2 rfl hl (by decide) rfl (fun ls hl => ?_)
  refine lv_iload_n hx hb dX5_append_3 rfl (lv_at hl 0 rfl) ?_
  refine lv_if_lt (tgt := 41) hx hb dX5_append_4 (by decide) (fun c => False.elim (by revert c; decide)) (fun _ => ?_)
  refine lv_aload_n hx hb dX5_append_7 rfl (lv_at hl 1 rfl) ?_
  refine va_get (D := D) (ci := 5) (v := .ref (r 27)) (C := RX5) (T := TX5) (N := 9) hx hb hts inW_5 hown hK hP 0 rfl rfl 4 (by decide) (hts _ wd_177) (fun _ h9 => h9) rfl dX5_append_8 ?_
  refine lv_aload_n hx hb dX5_append_11 rfl (lv_at hl 1 rfl) ?_
  refine va_get (D := D) (ci := 5) (v := .int len) (C := RX5) (T := TX5) (N := 9) hx hb hts inW_5 hown hK hP 0 rfl rfl 1 (by decide) (hts _ wd_171) (fun _ h9 => h9) rfl dX5_append_12 ?_
  refine lv_iload_n hx hb dX5_append_15 rfl (lv_at hl 2 rfl) ?_
  refine lv_iload_n hx hb dX5_append_16 rfl (lv_at hl 0 rfl) ?_
  refine lv_ishr hx hb dX5_append_17 ?_
  refine lv_topi (fun v1 e2 => ?_)
  refine lv_sipush (v := 255) hx hb dX5_append_18 (by decide) ?_
  refine lv_iand hx hb dX5_append_21 ?_
  refine lv_topi (fun v3 e4 => ?_)
  have hPc := hP.sub (ws' := [((r 27), .inl (c 0, 300, .inl ((f))))]) [1] rfl
  have hDc := hD.sub (ws' := [((r 27), .inl (c 0, 300, .inl ((f))))]) [1] (by decide) rfl
  refine cl_v (wr := [((r 4), .inr (5, fRd r len))]) (va_runSN (As := [.ref (r 27), .int len, .int v3]) (rest := []) ⟨hx, hb, hml, hown, hts⟩ (c_X11_put l D c H.size ((r 27)) 300 ((by decide)) ((f)) len v3) (kw_SN 3 hts (hN (RX5, 22, yX11_put) (List.mem_of_getElem? (i := 10) rfl)) wd_341 wd_83 wd_342 rfl rfl (by decide +kernel) ⟨Nat.le_of_ble_eq_true rfl, Nat.le_of_ble_eq_true rfl⟩) (pre_S hPc hK hDc hN hO) rfl rfl hl.1 rfl (lv_room (Nat.le_of_ble_eq_true rfl)) dX5_append_22 ⟨Nat.le_of_ble_eq_true rfl, Nat.le_of_ble_eq_true rfl⟩) hP hD hS hA [1] [0] rfl rfl (by decide) (by decide) (fun u6 H locs h7 hP hD hS => ?_)
  have hP : va_P D vwCl [((r 4), .inr (5, fRd r len)), ((r 27), .inl (c 0, 300, .inl (u6)))] H := hP
  have hD : va_D A [((r 4), .inr (5, fRd r len)), ((r 27), .inl (c 0, 300, .inl (u6)))] := hD
  refine lv_aload_n hx hb dX5_append_25 rfl (lv_at hl 1 rfl) ?_
  refine lv_dup hx hb dX5_append_26 rfl ?_
  refine va_get (D := D) (ci := 5) (v := .int len) (C := RX5) (T := TX5) (N := 9) hx hb hts inW_5 hown hK hP 0 rfl rfl 1 (by decide) (hts _ wd_171) (fun _ h9 => h9) rfl dX5_append_27 ?_
  refine lv_iconst (v := 1) hx hb dX5_append_30 (by decide) ?_
  refine lv_iadd hx hb dX5_append_31 ?_
  refine lv_topi (fun v8 e9 => ?_)
  refine va_put (D := D) (ci := 5) (v := .int v8) (ty := .int) (C := RX5) (T := TX5) (N := 9) hx hb hts inW_5 tyX5 tyX5_ok nmX5 hown hK hP hD hS 0 rfl rfl 1 (by decide) (hts _ wd_171) (fun _ h9 => h9) rfl (by decide +kernel) rfl rfl (Nat.le_of_ble_eq_true rfl) dX5_append_32 (fun H locs hP hD hS => ?_)
  have hP : va_P D vwCl [((r 4), .inr (5, (fRd r len).set 1 (.int v8))), ((r 27), .inl (c 0, 300, .inl (u6)))] H := hP
  have hD : va_D A [((r 4), .inr (5, (fRd r len).set 1 (.int v8))), ((r 27), .inl (c 0, 300, .inl (u6)))] := hD
  refine lv_iinc (v := 16) (lv' := [(2, .int 16), (0, .ref (r 4)), (1, .int v)]) hx hb dX5_append_35 hl (k := 0) rfl (by decide) (by decide) rfl (fun ls hl => ?_)
  refine lv_goto (tgt := 3) hx hb dX5_append_38 (by decide) ?_
  refine lv_iload_n hx hb dX5_append_3 rfl (lv_at hl 0 rfl) ?_
  refine lv_if_lt (tgt := 41) hx hb dX5_append_4 (by decide) (fun c => False.elim (by revert c; decide)) (fun _ => ?_)
  refine lv_aload_n hx hb dX5_append_7 rfl (lv_at hl 1 rfl) ?_
  refine va_get (D := D) (ci := 5) (v := .ref (r 27)) (C := RX5) (T := TX5) (N := 9) hx hb hts inW_5 hown hK hP 0 rfl rfl 4 (by decide) (hts _ wd_177) (fun _ h9 => h9) rfl dX5_append_8 ?_
  refine lv_aload_n hx hb dX5_append_11 rfl (lv_at hl 1 rfl) ?_
  refine va_get (D := D) (ci := 5) (v := .int v8) (C := RX5) (T := TX5) (N := 9) hx hb hts inW_5 hown hK hP 0 rfl rfl 1 (by decide) (hts _ wd_171) (fun _ h9 => h9) rfl dX5_append_12 ?_
  refine lv_iload_n hx hb dX5_append_15 rfl (lv_at hl 2 rfl) ?_
  refine lv_iload_n hx hb dX5_append_16 rfl (lv_at hl 0 rfl) ?_
  refine lv_ishr hx hb dX5_append_17 ?_
  refine lv_topi (fun v10 e11 => ?_)
  refine lv_sipush (v := 255) hx hb dX5_append_18 (by decide) ?_
  refine lv_iand hx hb dX5_append_21 ?_
  refine lv_topi (fun v12 e13 => ?_)
  have hPc := hP.sub (ws' := [((r 27), .inl (c 0, 300, .inl ((u6))))]) [1] rfl
  have hDc := hD.sub (ws' := [((r 27), .inl (c 0, 300, .inl ((u6))))]) [1] (by decide) rfl
  refine cl_v (wr := [((r 4), .inr (5, (fRd r len).set 1 (.int v8)))]) (va_runSN (As := [.ref (r 27), .int v8, .int v12]) (rest := []) ⟨hx, hb, hml, hown, hts⟩ (c_X11_put l D c H.size ((r 27)) 300 ((by decide)) ((u6)) v8 v12) (kw_SN 3 hts (hN (RX5, 22, yX11_put) (List.mem_of_getElem? (i := 10) rfl)) wd_341 wd_83 wd_342 rfl rfl (by decide +kernel) ⟨Nat.le_of_ble_eq_true rfl, Nat.le_of_ble_eq_true rfl⟩) (pre_S hPc hK hDc hN hO) rfl rfl hl.1 rfl (lv_room (Nat.le_of_ble_eq_true rfl)) dX5_append_22 ⟨Nat.le_of_ble_eq_true rfl, Nat.le_of_ble_eq_true rfl⟩) hP hD hS hA [1] [0] rfl rfl (by decide) (by decide) (fun u15 H locs h16 hP hD hS => ?_)
  have hP : va_P D vwCl [((r 4), .inr (5, (fRd r len).set 1 (.int v8))), ((r 27), .inl (c 0, 300, .inl (u15)))] H := hP
  have hD : va_D A [((r 4), .inr (5, (fRd r len).set 1 (.int v8))), ((r 27), .inl (c 0, 300, .inl (u15)))] := hD
  refine lv_aload_n hx hb dX5_append_25 rfl (lv_at hl 1 rfl) ?_
  refine lv_dup hx hb dX5_append_26 rfl ?_
  refine va_get (D := D) (ci := 5) (v := .int v8) (C := RX5) (T := TX5) (N := 9) hx hb hts inW_5 hown hK hP 0 rfl rfl 1 (by decide) (hts _ wd_171) (fun _ h9 => h9) rfl dX5_append_27 ?_
  refine lv_iconst (v := 1) hx hb dX5_append_30 (by decide) ?_
  refine lv_iadd hx hb dX5_append_31 ?_
  refine lv_topi (fun v17 e18 => ?_)
  refine va_put (D := D) (ci := 5) (v := .int v17) (ty := .int) (C := RX5) (T := TX5) (N := 9) hx hb hts inW_5 tyX5 tyX5_ok nmX5 hown hK hP hD hS 0 rfl rfl 1 (by decide) (hts _ wd_171) (fun _ h9 => h9) rfl (by decide +kernel) rfl rfl (Nat.le_of_ble_eq_true rfl) dX5_append_32 (fun H locs hP hD hS => ?_)
  have hP : va_P D vwCl [((r 4), .inr (5, ((fRd r len).set 1 (.int v8)).set 1 (.int v17))), ((r 27), .inl (c 0, 300, .inl (u15)))] H := hP
  have hD : va_D A [((r 4), .inr (5, ((fRd r len).set 1 (.int v8)).set 1 (.int v17))), ((r 27), .inl (c 0, 300, .inl (u15)))] := hD
  refine lv_iinc (v := 8) (lv' := [(2, .int 8), (0, .ref (r 4)), (1, .int v)]) hx hb dX5_append_35 hl (k := 0) rfl (by decide) (by decide) rfl (fun ls hl => ?_)
  refine lv_goto (tgt := 3) hx hb dX5_append_38 (by decide) ?_
  refine lv_iload_n hx hb dX5_append_3 rfl (lv_at hl 0 rfl) ?_
  refine lv_if_lt (tgt := 41) hx hb dX5_append_4 (by decide) (fun c => False.elim (by revert c; decide)) (fun _ => ?_)
  refine lv_aload_n hx hb dX5_append_7 rfl (lv_at hl 1 rfl) ?_
  refine va_get (D := D) (ci := 5) (v := .ref (r 27)) (C := RX5) (T := TX5) (N := 9) hx hb hts inW_5 hown hK hP 0 rfl rfl 4 (by decide) (hts _ wd_177) (fun _ h9 => h9) rfl dX5_append_8 ?_
  refine lv_aload_n hx hb dX5_append_11 rfl (lv_at hl 1 rfl) ?_
  refine va_get (D := D) (ci := 5) (v := .int v17) (C := RX5) (T := TX5) (N := 9) hx hb hts inW_5 hown hK hP 0 rfl rfl 1 (by decide) (hts _ wd_171) (fun _ h9 => h9) rfl dX5_append_12 ?_
  refine lv_iload_n hx hb dX5_append_15 rfl (lv_at hl 2 rfl) ?_
  refine lv_iload_n hx hb dX5_append_16 rfl (lv_at hl 0 rfl) ?_
  refine lv_ishr hx hb dX5_append_17 ?_
  refine lv_topi (fun v19 e20 => ?_)
  refine lv_sipush (v := 255) hx hb dX5_append_18 (by decide) ?_
  refine lv_iand hx hb dX5_append_21 ?_
  refine lv_topi (fun v21 e22 => ?_)
  have hPc := hP.sub (ws' := [((r 27), .inl (c 0, 300, .inl ((u15))))]) [1] rfl
  have hDc := hD.sub (ws' := [((r 27), .inl (c 0, 300, .inl ((u15))))]) [1] (by decide) rfl
  refine cl_v (wr := [((r 4), .inr (5, ((fRd r len).set 1 (.int v8)).set 1 (.int v17)))]) (va_runSN (As := [.ref (r 27), .int v17, .int v21]) (rest := []) ⟨hx, hb, hml, hown, hts⟩ (c_X11_put l D c H.size ((r 27)) 300 ((by decide)) ((u15)) v17 v21) (kw_SN 3 hts (hN (RX5, 22, yX11_put) (List.mem_of_getElem? (i := 10) rfl)) wd_341 wd_83 wd_342 rfl rfl (by decide +kernel) ⟨Nat.le_of_ble_eq_true rfl, Nat.le_of_ble_eq_true rfl⟩) (pre_S hPc hK hDc hN hO) rfl rfl hl.1 rfl (lv_room (Nat.le_of_ble_eq_true rfl)) dX5_append_22 ⟨Nat.le_of_ble_eq_true rfl, Nat.le_of_ble_eq_true rfl⟩) hP hD hS hA [1] [0] rfl rfl (by decide) (by decide) (fun u24 H locs h25 hP hD hS => ?_)
  have hP : va_P D vwCl [((r 4), .inr (5, ((fRd r len).set 1 (.int v8)).set 1 (.int v17))), ((r 27), .inl (c 0, 300, .inl (u24)))] H := hP
  have hD : va_D A [((r 4), .inr (5, ((fRd r len).set 1 (.int v8)).set 1 (.int v17))), ((r 27), .inl (c 0, 300, .inl (u24)))] := hD
  refine lv_aload_n hx hb dX5_append_25 rfl (lv_at hl 1 rfl) ?_
  refine lv_dup hx hb dX5_append_26 rfl ?_
  refine va_get (D := D) (ci := 5) (v := .int v17) (C := RX5) (T := TX5) (N := 9) hx hb hts inW_5 hown hK hP 0 rfl rfl 1 (by decide) (hts _ wd_171) (fun _ h9 => h9) rfl dX5_append_27 ?_
  refine lv_iconst (v := 1) hx hb dX5_append_30 (by decide) ?_
  refine lv_iadd hx hb dX5_append_31 ?_
  refine lv_topi (fun v26 e27 => ?_)
  refine va_put (D := D) (ci := 5) (v := .int v26) (ty := .int) (C := RX5) (T := TX5) (N := 9) hx hb hts inW_5 tyX5 tyX5_ok nmX5 hown hK hP hD hS 0 rfl rfl 1 (by decide) (hts _ wd_171) (fun _ h9 => h9) rfl (by decide +kernel) rfl rfl (Nat.le_of_ble_eq_true rfl) dX5_append_32 (fun H locs hP hD hS => ?_)
  have hP : va_P D vwCl [((r 4), .inr (5, (((fRd r len).set 1 (.int v8)).set 1 (.int v17)).set 1 (.int v26))), ((r 27), .inl (c 0, 300, .inl (u24)))] H := hP
  have hD : va_D A [((r 4), .inr (5, (((fRd r len).set 1 (.int v8)).set 1 (.int v17)).set 1 (.int v26))), ((r 27), .inl (c 0, 300, .inl (u24)))] := hD
  refine lv_iinc (v := 0) (lv' := [(2, .int 0), (0, .ref (r 4)), (1, .int v)]) hx hb dX5_append_35 hl (k := 0) rfl (by decide) (by decide) rfl (fun ls hl => ?_)
  refine lv_goto (tgt := 3) hx hb dX5_append_38 (by decide) ?_
  refine lv_iload_n hx hb dX5_append_3 rfl (lv_at hl 0 rfl) ?_
  refine lv_if_lt (tgt := 41) hx hb dX5_append_4 (by decide) (fun c => False.elim (by revert c; decide)) (fun _ => ?_)
  refine lv_aload_n hx hb dX5_append_7 rfl (lv_at hl 1 rfl) ?_
  refine va_get (D := D) (ci := 5) (v := .ref (r 27)) (C := RX5) (T := TX5) (N := 9) hx hb hts inW_5 hown hK hP 0 rfl rfl 4 (by decide) (hts _ wd_177) (fun _ h9 => h9) rfl dX5_append_8 ?_
  refine lv_aload_n hx hb dX5_append_11 rfl (lv_at hl 1 rfl) ?_
  refine va_get (D := D) (ci := 5) (v := .int v26) (C := RX5) (T := TX5) (N := 9) hx hb hts inW_5 hown hK hP 0 rfl rfl 1 (by decide) (hts _ wd_171) (fun _ h9 => h9) rfl dX5_append_12 ?_
  refine lv_iload_n hx hb dX5_append_15 rfl (lv_at hl 2 rfl) ?_
  refine lv_iload_n hx hb dX5_append_16 rfl (lv_at hl 0 rfl) ?_
  refine lv_ishr hx hb dX5_append_17 ?_
  refine lv_topi (fun v28 e29 => ?_)
  refine lv_sipush (v := 255) hx hb dX5_append_18 (by decide) ?_
  refine lv_iand hx hb dX5_append_21 ?_
  refine lv_topi (fun v30 e31 => ?_)
  have hPc := hP.sub (ws' := [((r 27), .inl (c 0, 300, .inl ((u24))))]) [1] rfl
  have hDc := hD.sub (ws' := [((r 27), .inl (c 0, 300, .inl ((u24))))]) [1] (by decide) rfl
  refine cl_v (wr := [((r 4), .inr (5, (((fRd r len).set 1 (.int v8)).set 1 (.int v17)).set 1 (.int v26)))]) (va_runSN (As := [.ref (r 27), .int v26, .int v30]) (rest := []) ⟨hx, hb, hml, hown, hts⟩ (c_X11_put l D c H.size ((r 27)) 300 ((by decide)) ((u24)) v26 v30) (kw_SN 3 hts (hN (RX5, 22, yX11_put) (List.mem_of_getElem? (i := 10) rfl)) wd_341 wd_83 wd_342 rfl rfl (by decide +kernel) ⟨Nat.le_of_ble_eq_true rfl, Nat.le_of_ble_eq_true rfl⟩) (pre_S hPc hK hDc hN hO) rfl rfl hl.1 rfl (lv_room (Nat.le_of_ble_eq_true rfl)) dX5_append_22 ⟨Nat.le_of_ble_eq_true rfl, Nat.le_of_ble_eq_true rfl⟩) hP hD hS hA [1] [0] rfl rfl (by decide) (by decide) (fun u33 H locs h34 hP hD hS => ?_)
  have hP : va_P D vwCl [((r 4), .inr (5, (((fRd r len).set 1 (.int v8)).set 1 (.int v17)).set 1 (.int v26))), ((r 27), .inl (c 0, 300, .inl (u33)))] H := hP
  have hD : va_D A [((r 4), .inr (5, (((fRd r len).set 1 (.int v8)).set 1 (.int v17)).set 1 (.int v26))), ((r 27), .inl (c 0, 300, .inl (u33)))] := hD
  refine lv_aload_n hx hb dX5_append_25 rfl (lv_at hl 1 rfl) ?_
  refine lv_dup hx hb dX5_append_26 rfl ?_
  refine va_get (D := D) (ci := 5) (v := .int v26) (C := RX5) (T := TX5) (N := 9) hx hb hts inW_5 hown hK hP 0 rfl rfl 1 (by decide) (hts _ wd_171) (fun _ h9 => h9) rfl dX5_append_27 ?_
  refine lv_iconst (v := 1) hx hb dX5_append_30 (by decide) ?_
  refine lv_iadd hx hb dX5_append_31 ?_
  refine lv_topi (fun v35 e36 => ?_)
  refine va_put (D := D) (ci := 5) (v := .int v35) (ty := .int) (C := RX5) (T := TX5) (N := 9) hx hb hts inW_5 tyX5 tyX5_ok nmX5 hown hK hP hD hS 0 rfl rfl 1 (by decide) (hts _ wd_171) (fun _ h9 => h9) rfl (by decide +kernel) rfl rfl (Nat.le_of_ble_eq_true rfl) dX5_append_32 (fun H locs hP hD hS => ?_)
  have hP : va_P D vwCl [((r 4), .inr (5, ((((fRd r len).set 1 (.int v8)).set 1 (.int v17)).set 1 (.int v26)).set 1 (.int v35))), ((r 27), .inl (c 0, 300, .inl (u33)))] H := hP
  have hD : va_D A [((r 4), .inr (5, ((((fRd r len).set 1 (.int v8)).set 1 (.int v17)).set 1 (.int v26)).set 1 (.int v35))), ((r 27), .inl (c 0, 300, .inl (u33)))] := hD
  refine lv_iinc (v := (-8)) (lv' := [(2, .int (-8)), (0, .ref (r 4)), (1, .int v)]) hx hb dX5_append_35 hl (k := 0) rfl (by decide) (by decide) rfl (fun ls hl => ?_)
  refine lv_goto (tgt := 3) hx hb dX5_append_38 (by decide) ?_
  refine lv_iload_n hx hb dX5_append_3 rfl (lv_at hl 0 rfl) ?_
  refine lv_if_lt (tgt := 41) hx hb dX5_append_4 (by decide) (fun _ => ?_) (fun c => False.elim (by revert c; decide))
  exact rt_v hx hb hr hlocks hK hP hD hS dX5_append_41 (v35, u33) [0, 1] rfl rfl (by show v35 = _; rw [e36, e27, e18, e9])
set_option maxHeartbeats 4000000 in
set_option maxRecDepth 100000 in
/-- X5_skipBlanks -/
theorem c_X5_skipBlanks (l : Launch) (D : va_G) (c : Nat → ClassId) (sz : Nat) (r : Nat → Nat) : Met l yX5_skipBlanks (.code yX5_skipBlanks cX5_skipBlanks 1 none :: Wd) ({ frames := 0, cells := 0, slots := 0, locals := 0 }) (va_Pc [.ref (r 4)] (WB D c [((r 4), .inr (5, fRd r 0))] sz)) (QV (S := Unit) D c (fun _ => True) (fun _ => [((r 4), .inr (5, fRd r 0))]) (va_A [((r 4), .inr (5, fRd r 0))] sz)) 0 0 (va_A [((r 4), .inr (5, fRd r 0))] sz) := by
  refine kz_met (Qc := QV (S := Unit) D c (fun _ => True) (fun _ => [((r 4), .inr (5, fRd r 0))])) (by decide) (Nat.le_of_ble_eq_true rfl) ?_
  intro p e s m below meth cd A ls H locs hx hb hr hml hts hown hlocks hin hN hO hK hP hD hS hA hl
  have hl : lv_has ls 1 [(0, .ref (r 4))] := hl
  have hown : s.vm.findClass RX5 = some m.cls := hown
  refine lv_aload_n hx hb dX5_skipBlanks_0 rfl (lv_at hl 0 rfl) ?_
  refine va_get (D := D) (ci := 5) (v := .int 0) (C := RX5) (T := TX5) (N := 9) hx hb hts inW_5 hown hK hP 0 rfl rfl 5 (by decide) (hts _ wd_178) (fun _ h9 => h9) rfl dX5_skipBlanks_1 ?_
  refine lv_aload_n hx hb dX5_skipBlanks_4 rfl (lv_at hl 0 rfl) ?_
  refine va_get (D := D) (ci := 5) (v := .int 0) (C := RX5) (T := TX5) (N := 9) hx hb hts inW_5 hown hK hP 0 rfl rfl 1 (by decide) (hts _ wd_171) (fun _ h9 => h9) rfl dX5_skipBlanks_5 ?_
  refine lv_icmp_ge (tgt := 33) hx hb dX5_skipBlanks_8 (by decide) (fun _ => ?_) (fun c => False.elim (by revert c; decide))
  exact rt_v hx hb hr hlocks hK hP hD hS dX5_skipBlanks_33 () [0] rfl rfl trivial
set_option maxHeartbeats 4000000 in
set_option maxRecDepth 100000 in
/-- X5_read -/
theorem c_X5_read (l : Launch) (D : va_G) (c : Nat → ClassId) (sz : Nat) (r : Nat → Nat) : Met l yX5_read (.code yX5_read cX5_read 3 (some .int) :: Wd) ({ frames := 1, cells := 0, slots := 0, locals := 20 }) (va_Pc [.ref (r 4)] (WB D c [((r 4), .inr (5, fRd r 0))] sz)) (QI (S := Unit) D c (fun q _ => q = 0) (fun _ => [((r 4), .inr (5, fRd r 0))]) (va_A [((r 4), .inr (5, fRd r 0))] sz)) 0 0 (va_A [((r 4), .inr (5, fRd r 0))] sz) := by
  refine kz_met (Qc := QI (S := Unit) D c (fun q _ => q = 0) (fun _ => [((r 4), .inr (5, fRd r 0))])) (by decide) (Nat.le_of_ble_eq_true rfl) ?_
  intro p e s m below meth cd A ls H locs hx hb hr hml hts hown hlocks hin hN hO hK hP hD hS hA hl
  have hl : lv_has ls 3 [(0, .ref (r 4))] := hl
  have hown : s.vm.findClass RX5 = some m.cls := hown
  refine lv_aload_n hx hb dX5_read_0 rfl (lv_at hl 0 rfl) ?_
  refine lv_iconst (v := 0) hx hb dX5_read_1 (by decide) ?_
  refine va_put (D := D) (ci := 5) (v := .int 0) (ty := .int) (C := RX5) (T := TX5) (N := 9) hx hb hts inW_5 tyX5 tyX5_ok nmX5 hown hK hP hD hS 0 rfl rfl 5 (by decide) (hts _ wd_178) (fun _ h9 => h9) rfl (by decide +kernel) rfl rfl (Nat.le_of_ble_eq_true rfl) dX5_read_2 (fun H locs hP hD hS => ?_)
  have hP : va_P D vwCl [((r 4), .inr (5, (fRd r 0).set 5 (.int 0)))] H := hP
  have hD : va_D A [((r 4), .inr (5, (fRd r 0).set 5 (.int 0)))] := hD
  refine lv_aload_n hx hb dX5_read_5 rfl (lv_at hl 0 rfl) ?_
  refine lv_iconst (v := 0) hx hb dX5_read_6 (by decide) ?_
  refine va_put (D := D) (ci := 5) (v := .int 0) (ty := .int) (C := RX5) (T := TX5) (N := 9) hx hb hts inW_5 tyX5 tyX5_ok nmX5 hown hK hP hD hS 0 rfl rfl 2 (by decide) (hts _ wd_173) (fun _ h9 => h9) rfl (by decide +kernel) rfl rfl (Nat.le_of_ble_eq_true rfl) dX5_read_7 (fun H locs hP hD hS => ?_)
  have hP : va_P D vwCl [((r 4), .inr (5, ((fRd r 0).set 5 (.int 0)).set 2 (.int 0)))] H := hP
  have hD : va_D A [((r 4), .inr (5, ((fRd r 0).set 5 (.int 0)).set 2 (.int 0)))] := hD
  refine lv_aload_n hx hb dX5_read_10 rfl (lv_at hl 0 rfl) ?_
  refine lv_iconst (v := 0) hx hb dX5_read_11 (by decide) ?_
  refine va_put (D := D) (ci := 5) (v := .int 0) (ty := .int) (C := RX5) (T := TX5) (N := 9) hx hb hts inW_5 tyX5 tyX5_ok nmX5 hown hK hP hD hS 0 rfl rfl 3 (by decide) (hts _ wd_175) (fun _ h9 => h9) rfl (by decide +kernel) rfl rfl (Nat.le_of_ble_eq_true rfl) dX5_read_12 (fun H locs hP hD hS => ?_)
  have hP : va_P D vwCl [((r 4), .inr (5, (((fRd r 0).set 5 (.int 0)).set 2 (.int 0)).set 3 (.int 0)))] H := hP
  have hD : va_D A [((r 4), .inr (5, (((fRd r 0).set 5 (.int 0)).set 2 (.int 0)).set 3 (.int 0)))] := hD
  refine lv_aload_n hx hb dX5_read_15 rfl (lv_at hl 0 rfl) ?_
  refine lv_iconst (v := 0) hx hb dX5_read_16 (by decide) ?_
  refine va_put (D := D) (ci := 5) (v := .int 0) (ty := .int) (C := RX5) (T := TX5) (N := 9) hx hb hts inW_5 tyX5 tyX5_ok nmX5 hown hK hP hD hS 0 rfl rfl 7 (by decide) (hts _ wd_180) (fun _ h9 => h9) rfl (by decide +kernel) rfl rfl (Nat.le_of_ble_eq_true rfl) dX5_read_17 (fun H locs hP hD hS => ?_)
  have hP : va_P D vwCl [((r 4), .inr (5, ((((fRd r 0).set 5 (.int 0)).set 2 (.int 0)).set 3 (.int 0)).set 7 (.int 0)))] H := hP
  have hD : va_D A [((r 4), .inr (5, ((((fRd r 0).set 5 (.int 0)).set 2 (.int 0)).set 3 (.int 0)).set 7 (.int 0)))] := hD
  refine lv_aload_n hx hb dX5_read_20 rfl (lv_at hl 0 rfl) ?_
  refine lv_iconst (v := 0) hx hb dX5_read_21 (by decide) ?_
  refine va_put (D := D) (ci := 5) (v := .int 0) (ty := .int) (C := RX5) (T := TX5) (N := 9) hx hb hts inW_5 tyX5 tyX5_ok nmX5 hown hK hP hD hS 0 rfl rfl 8 (by decide) (hts _ wd_181) (fun _ h9 => h9) rfl (by decide +kernel) rfl rfl (Nat.le_of_ble_eq_true rfl) dX5_read_22 (fun H locs hP hD hS => ?_)
  have hP : va_P D vwCl [((r 4), .inr (5, (((((fRd r 0).set 5 (.int 0)).set 2 (.int 0)).set 3 (.int 0)).set 7 (.int 0)).set 8 (.int 0)))] H := hP
  have hD : va_D A [((r 4), .inr (5, (((((fRd r 0).set 5 (.int 0)).set 2 (.int 0)).set 3 (.int 0)).set 7 (.int 0)).set 8 (.int 0)))] := hD
  refine lv_aload_n hx hb dX5_read_25 rfl (lv_at hl 0 rfl) ?_
  have hPc := hP.sub (ws' := [((r 4), .inr (5, fRd r 0))]) [0] rfl
  have hDc := hD.sub (ws' := [((r 4), .inr (5, fRd r 0))]) [0] (by decide) rfl
  refine cl_v (wr := []) (va_runV (As := []) (rest := []) ⟨hx, hb, hml, hown, hts⟩ (c_X5_skipBlanks l D c H.size r) (kw_V 0 hts wd_722 wd_724 wd_12 wd_86 wd_725 rfl rfl (by decide +kernel) ⟨Nat.le_of_ble_eq_true rfl, Nat.le_of_ble_eq_true rfl⟩) (pre_V hPc hK hDc hN hO (ci := 5) (q0 := 0) rfl rfl) rfl rfl hl.1 rfl (lv_room (Nat.le_of_ble_eq_true rfl)) dX5_read_26 ⟨Nat.le_of_ble_eq_true rfl, Nat.le_of_ble_eq_true rfl⟩) hP hD hS hA [0] [] rfl rfl (by decide) (by decide) (fun u2 H locs h3 hP hD hS => ?_)
  have hP : va_P D vwCl [((r 4), .inr (5, fRd r 0))] H := hP
  have hD : va_D A [((r 4), .inr (5, fRd r 0))] := hD
  refine lv_aload_n hx hb dX5_read_29 rfl (lv_at hl 0 rfl) ?_
  refine va_get (D := D) (ci := 5) (v := .int 0) (C := RX5) (T := TX5) (N := 9) hx hb hts inW_5 hown hK hP 0 rfl rfl 5 (by decide) (hts _ wd_178) (fun _ h9 => h9) rfl dX5_read_30 ?_
  refine lv_aload_n hx hb dX5_read_33 rfl (lv_at hl 0 rfl) ?_
  refine va_get (D := D) (ci := 5) (v := .int 0) (C := RX5) (T := TX5) (N := 9) hx hb hts inW_5 hown hK hP 0 rfl rfl 1 (by decide) (hts _ wd_171) (fun _ h9 => h9) rfl dX5_read_34 ?_
  refine lv_icmp_ge (tgt := 44) hx hb dX5_read_37 (by decide) (fun _ => ?_) (fun c => False.elim (by revert c; decide))
  refine lv_iconst (v := 0) hx hb dX5_read_44 (by decide) ?_
  refine lv_istore_n (lv' := [(1, .int 0), (0, .ref (r 4))]) hx hb dX5_read_45 rfl hl (by decide) rfl (fun ls hl => ?_)
  refine lv_iconst (v := 0) hx hb dX5_read_46 (by decide) ?_
  refine lv_istore_n (lv' := [(2, .int 0), (1, .int 0), (0, .ref (r 4))]) hx hb dX5_read_47 rfl hl (by decide) rfl (fun ls hl => ?_)
  refine lv_iload_n hx hb dX5_read_48 rfl (lv_at hl 1 rfl) ?_
  refine lv_if_eq (tgt := 161) hx hb dX5_read_49 (by decide) (fun _ => ?_) (fun c => False.elim (by revert c; decide))
  refine lv_aload_n hx hb dX5_read_161 rfl (lv_at hl 2 rfl) ?_
  refine va_get (D := D) (ci := 5) (v := .int 0) (C := RX5) (T := TX5) (N := 9) hx hb hts inW_5 hown hK hP 0 rfl rfl 8 (by decide) (hts _ wd_181) (fun _ h9 => h9) rfl dX5_read_162 ?_
  exact rt_i hx hb hr hlocks hK hP hD hS rfl dX5_read_165 () [0] rfl rfl rfl
set_option maxHeartbeats 4000000 in
set_option maxRecDepth 100000 in
/-- X8_init -/
theorem c_X8_init (l : Launch) (D : va_G) (c : Nat → ClassId) (sz : Nat) (h0 : Nat) : Met l yX8_init (.code yX8_init cX8_init 1 none :: Wd) ({ frames := 1, cells := 2, slots := 1000, locals := 32 }) (va_Pc [.ref h0] (WB D c [(h0, .inr (8, nwX8))] sz)) (QV (S := Nat × Nat) D c (fun _ => True) (fun u => [(h0, .inr (8, [.ref (u.1), .ref (u.2), .int 0])), (u.1, .inl (c 0, 500, .inl (fun _ => 0))), (u.2, .inl (c 0, 500, .inl (fun _ => 0)))]) (va_A [(h0, .inr (8, nwX8))] sz)) 2 1000 (va_A [(h0, .inr (8, nwX8))] sz) := by
  refine kz_met (Qc := QV (S := Nat × Nat) D c (fun _ => True) (fun u => [(h0, .inr (8, [.ref (u.1), .ref (u.2), .int 0])), (u.1, .inl (c 0, 500, .inl (fun _ => 0))), (u.2, .inl (c 0, 500, .inl (fun _ => 0)))])) (by decide) (Nat.le_of_ble_eq_true rfl) ?_
  intro p e s m below meth cd A ls H locs hx hb hr hml hts hown hlocks hin hN hO hK hP hD hS hA hl
  have hl : lv_has ls 1 [(0, .ref h0)] := hl
  have hown : s.vm.findClass RX8 = some m.cls := hown
  refine lv_aload_n hx hb dX8_init_0 rfl (lv_at hl 0 rfl) ?_
  refine W.objInit hx hb hown (hts _ wd_117) (hts _ wd_110) (hts _ wd_111) rfl (by rw [hml]; exact hl.1) rfl dX8_init_1 (Nat.le_of_ble_eq_true rfl) (Nat.le_of_ble_eq_true rfl) ?_
  refine W.eq (g2 := F0 m 4 ls []) rfl ?_
  refine lv_aload_n hx hb dX8_init_4 rfl (lv_at hl 0 rfl) ?_
  refine lv_sipush (v := 500) hx hb dX8_init_5 (by decide) ?_
  refine kz_newa (c := c) (atype := .int) (a0 := (500, .inl (fun _ => 0))) hx hb 0 rfl (hts _ wd_129) rfl hK hP hD hS hA (fun _ => rfl) (by decide) (by decide) (Nat.le_of_ble_eq_true rfl) (Nat.le_of_ble_eq_true rfl) (Nat.le_of_ble_eq_true rfl) dX8_init_8 (fun q1 H hP hD hS => ?_)
  have hP : va_P D vwCl [(h0, .inr (8, nwX8)), (q1, .inl (c 0, 500, .inl (fun _ => 0)))] H := hP
  have hD : va_D A [(h0, .inr (8, nwX8)), (q1, .inl (c 0, 500, .inl (fun _ => 0)))] := hD
  refine W.widen (k := 1) (n := 500) (Nat.le_of_ble_eq_true rfl) (Nat.le_of_ble_eq_true rfl) ?_
  refine va_putF (D := D) (ci := 8) (v := .ref q1) (ty := (.array .int)) (C := RX8) (T := TX8) (N := 3) hx hb hts inW_8 tyX8 tyX8_ok nmX8 hown hK hP hD hS 0 rfl rfl 0 (by decide) (hts _ wd_118) (fun _ h9 => h9) rfl hin rfl (by decide +kernel) rfl rfl (Nat.le_of_ble_eq_true rfl) dX8_init_10 (fun H locs hP hD hS => ?_)
  have hP : va_P D vwCl [(h0, .inr (8, [.ref q1, .null, .int 0])), (q1, .inl (c 0, 500, .inl (fun _ => 0)))] H := hP
  have hD : va_D A [(h0, .inr (8, [.ref q1, .null, .int 0])), (q1, .inl (c 0, 500, .inl (fun _ => 0)))] := hD
  refine lv_aload_n hx hb dX8_init_13 rfl (lv_at hl 0 rfl) ?_
  refine lv_sipush (v := 500) hx hb dX8_init_14 (by decide) ?_
  refine kz_newa (c := c) (atype := .int) (a0 := (500, .inl (fun _ => 0))) hx hb 0 rfl (hts _ wd_129) rfl hK hP hD hS hA (fun _ => rfl) (by decide) (by decide) (Nat.le_of_ble_eq_true rfl) (Nat.le_of_ble_eq_true rfl) (Nat.le_of_ble_eq_true rfl) dX8_init_17 (fun q2 H hP hD hS => ?_)
  have hP : va_P D vwCl [(h0, .inr (8, [.ref q1, .null, .int 0])), (q1, .inl (c 0, 500, .inl (fun _ => 0))), (q2, .inl (c 0, 500, .inl (fun _ => 0)))] H := hP
  have hD : va_D A [(h0, .inr (8, [.ref q1, .null, .int 0])), (q1, .inl (c 0, 500, .inl (fun _ => 0))), (q2, .inl (c 0, 500, .inl (fun _ => 0)))] := hD
  refine W.widen (k := 2) (n := 1000) (Nat.le_of_ble_eq_true rfl) (Nat.le_of_ble_eq_true rfl) ?_
  refine va_putF (D := D) (ci := 8) (v := .ref q2) (ty := (.array .int)) (C := RX8) (T := TX8) (N := 3) hx hb hts inW_8 tyX8 tyX8_ok nmX8 hown hK hP hD hS 0 rfl rfl 1 (by decide) (hts _ wd_119) (fun _ h9 => h9) rfl hin rfl (by decide +kernel) rfl rfl (Nat.le_of_ble_eq_true rfl) dX8_init_19 (fun H locs hP hD hS => ?_)
  have hP : va_P D vwCl [(h0, .inr (8, [.ref q1, .ref q2, .int 0])), (q1, .inl (c 0, 500, .inl (fun _ => 0))), (q2, .inl (c 0, 500, .inl (fun _ => 0)))] H := hP
  have hD : va_D A [(h0, .inr (8, [.ref q1, .ref q2, .int 0])), (q1, .inl (c 0, 500, .inl (fun _ => 0))), (q2, .inl (c 0, 500, .inl (fun _ => 0)))] := hD
  exact rt_v hx hb hr hlocks hK hP hD hS dX8_init_22 (q1, q2) [0, 1, 2] rfl rfl trivial
set_option maxHeartbeats 4000000 in
set_option maxRecDepth 100000 in
/-- X10_init -/
theorem c_X10_init (l : Launch) (D : va_G) (c : Nat → ClassId) (sz : Nat) (h0 : Nat) : Met l yX10_init (.code yX10_init cX10_init 1 none :: Wd) ({ frames := 1, cells := 4, slots := 6900, locals := 32 }) (va_Pc [.ref h0] (WB D c [(h0, .inr (10, nwX10))] sz)) (QV (S := Nat × Nat × Nat × Nat) D c (fun _ => True) (fun u => [(h0, .inr (10, [.ref (u.1), .ref (u.2.1), .ref (u.2.2.1), .ref (u.2.2.2), .int 0, .int 100, .int 150])), (u.1, .inl (c 0, 2400, .inl (fun _ => 0))), (u.2.1, .inl (c 0, 1500, .inl (fun _ => 0))), (u.2.2.1, .inl (c 0, 1500, .inl (fun _ => 0))), (u.2.2.2, .inl (c 0, 1500, .inl (fun _ => 0)))]) (va_A [(h0, .inr (10, nwX10))] sz)) 4 6900 (va_A [(h0, .inr (10, nwX10))] sz) := by
  refine kz_met (Qc := QV (S := Nat × Nat × Nat × Nat) D c (fun _ => True) (fun u => [(h0, .inr (10, [.ref (u.1), .ref (u.2.1), .ref (u.2.2.1), .ref (u.2.2.2), .int 0, .int 100, .int 150])), (u.1, .inl (c 0, 2400, .inl (fun _ => 0))), (u.2.1, .inl (c 0, 1500, .inl (fun _ => 0))), (u.2.2.1, .inl (c 0, 1500, .inl (fun _ => 0))), (u.2.2.2, .inl (c 0, 1500, .inl (fun _ => 0)))])) (by decide) (Nat.le_of_ble_eq_true rfl) ?_
  intro p e s m below meth cd A ls H locs hx hb hr hml hts hown hlocks hin hN hO hK hP hD hS hA hl
  have hl : lv_has ls 1 [(0, .ref h0)] := hl
  have hown : s.vm.findClass RX10 = some m.cls := hown
  refine lv_aload_n hx hb dX10_init_0 rfl (lv_at hl 0 rfl) ?_
  refine W.objInit hx hb hown (hts _ wd_135) (hts _ wd_110) (hts _ wd_111) rfl (by rw [hml]; exact hl.1) rfl dX10_init_1 (Nat.le_of_ble_eq_true rfl) (Nat.le_of_ble_eq_true rfl) ?_
  refine W.eq (g2 := F0 m 4 ls []) rfl ?_
  refine lv_aload_n hx hb dX10_init_4 rfl (lv_at hl 0 rfl) ?_
  refine lv_sipush (v := 2400) hx hb dX10_init_5 (by decide) ?_
  refine kz_newa (c := c) (atype := .int) (a0 := (2400, .inl (fun _ => 0))) hx hb 0 rfl (hts _ wd_129) rfl hK hP hD hS hA (fun _ => rfl) (by decide) (by decide) (Nat.le_of_ble_eq_true rfl) (Nat.le_of_ble_eq_true rfl) (Nat.le_of_ble_eq_true rfl) dX10_init_8 (fun q1 H hP hD hS => ?_)
  have hP : va_P D vwCl [(h0, .inr (10, nwX10)), (q1, .inl (c 0, 2400, .inl (fun _ => 0)))] H := hP
  have hD : va_D A [(h0, .inr (10, nwX10)), (q1, .inl (c 0, 2400, .inl (fun _ => 0)))] := hD
  refine W.widen (k := 1) (n := 2400) (Nat.le_of_ble_eq_true rfl) (Nat.le_of_ble_eq_true rfl) ?_
  refine va_putF (D := D) (ci := 10) (v := .ref q1) (ty := (.array .int)) (C := RX10) (T := TX10) (N := 7) hx hb hts inW_10 tyX10 tyX10_ok nmX10 hown hK hP hD hS 0 rfl rfl 0 (by decide) (hts _ wd_136) (fun _ h9 => h9) rfl hin rfl (by decide +kernel) rfl rfl (Nat.le_of_ble_eq_true rfl) dX10_init_10 (fun H locs hP hD hS => ?_)
  have hP : va_P D vwCl [(h0, .inr (10, [.ref q1, .null, .null, .null, .int 0, .int 0, .int 0])), (q1, .inl (c 0, 2400, .inl (fun _ => 0)))] H := hP
  have hD : va_D A [(h0, .inr (10, [.ref q1, .null, .null, .null, .int 0, .int 0, .int 0])), (q1, .inl (c 0, 2400, .inl (fun _ => 0)))] := hD
  refine lv_aload_n hx hb dX10_init_13 rfl (lv_at hl 0 rfl) ?_
  refine lv_sipush (v := 1500) hx hb dX10_init_14 (by decide) ?_
  refine kz_newa (c := c) (atype := .int) (a0 := (1500, .inl (fun _ => 0))) hx hb 0 rfl (hts _ wd_129) rfl hK hP hD hS hA (fun _ => rfl) (by decide) (by decide) (Nat.le_of_ble_eq_true rfl) (Nat.le_of_ble_eq_true rfl) (Nat.le_of_ble_eq_true rfl) dX10_init_17 (fun q2 H hP hD hS => ?_)
  have hP : va_P D vwCl [(h0, .inr (10, [.ref q1, .null, .null, .null, .int 0, .int 0, .int 0])), (q1, .inl (c 0, 2400, .inl (fun _ => 0))), (q2, .inl (c 0, 1500, .inl (fun _ => 0)))] H := hP
  have hD : va_D A [(h0, .inr (10, [.ref q1, .null, .null, .null, .int 0, .int 0, .int 0])), (q1, .inl (c 0, 2400, .inl (fun _ => 0))), (q2, .inl (c 0, 1500, .inl (fun _ => 0)))] := hD
  refine W.widen (k := 2) (n := 3900) (Nat.le_of_ble_eq_true rfl) (Nat.le_of_ble_eq_true rfl) ?_
  refine va_putF (D := D) (ci := 10) (v := .ref q2) (ty := (.array .int)) (C := RX10) (T := TX10) (N := 7) hx hb hts inW_10 tyX10 tyX10_ok nmX10 hown hK hP hD hS 0 rfl rfl 1 (by decide) (hts _ wd_137) (fun _ h9 => h9) rfl hin rfl (by decide +kernel) rfl rfl (Nat.le_of_ble_eq_true rfl) dX10_init_19 (fun H locs hP hD hS => ?_)
  have hP : va_P D vwCl [(h0, .inr (10, [.ref q1, .ref q2, .null, .null, .int 0, .int 0, .int 0])), (q1, .inl (c 0, 2400, .inl (fun _ => 0))), (q2, .inl (c 0, 1500, .inl (fun _ => 0)))] H := hP
  have hD : va_D A [(h0, .inr (10, [.ref q1, .ref q2, .null, .null, .int 0, .int 0, .int 0])), (q1, .inl (c 0, 2400, .inl (fun _ => 0))), (q2, .inl (c 0, 1500, .inl (fun _ => 0)))] := hD
  refine lv_aload_n hx hb dX10_init_22 rfl (lv_at hl 0 rfl) ?_
  refine lv_sipush (v := 1500) hx hb dX10_init_23 (by decide) ?_
  refine kz_newa (c := c) (atype := .int) (a0 := (1500, .inl (fun _ => 0))) hx hb 0 rfl (hts _ wd_129) rfl hK hP hD hS hA (fun _ => rfl) (by decide) (by decide) (Nat.le_of_ble_eq_true rfl) (Nat.le_of_ble_eq_true rfl) (Nat.le_of_ble_eq_true rfl) dX10_init_26 (fun q3 H hP hD hS => ?_)
  have hP : va_P D vwCl [(h0, .inr (10, [.ref q1, .ref q2, .null, .null, .int 0, .int 0, .int 0])), (q1, .inl (c 0, 2400, .inl (fun _ => 0))), (q2, .inl (c 0, 1500, .inl (fun _ => 0))), (q3, .inl (c 0, 1500, .inl (fun _ => 0)))] H := hP
  have hD : va_D A [(h0, .inr (10, [.ref q1, .ref q2, .null, .null, .int 0, .int 0, .int 0])), (q1, .inl (c 0, 2400, .inl (fun _ => 0))), (q2, .inl (c 0, 1500, .inl (fun _ => 0))), (q3, .inl (c 0, 1500, .inl (fun _ => 0)))] := hD
  refine W.widen (k := 3) (n := 5400) (Nat.le_of_ble_eq_true rfl) (Nat.le_of_ble_eq_true rfl) ?_
  refine va_putF (D := D) (ci := 10) (v := .ref q3) (ty := (.array .int)) (C := RX10) (T := TX10) (N := 7) hx hb hts inW_10 tyX10 tyX10_ok nmX10 hown hK hP hD hS 0 rfl rfl 2 (by decide) (hts _ wd_138) (fun _ h9 => h9) rfl hin rfl (by decide +kernel) rfl rfl (Nat.le_of_ble_eq_true rfl) dX10_init_28 (fun H locs hP hD hS => ?_)
  have hP : va_P D vwCl [(h0, .inr (10, [.ref q1, .ref q2, .ref q3, .null, .int 0, .int 0, .int 0])), (q1, .inl (c 0, 2400, .inl (fun _ => 0))), (q2, .inl (c 0, 1500, .inl (fun _ => 0))), (q3, .inl (c 0, 1500, .inl (fun _ => 0)))] H := hP
  have hD : va_D A [(h0, .inr (10, [.ref q1, .ref q2, .ref q3, .null, .int 0, .int 0, .int 0])), (q1, .inl (c 0, 2400, .inl (fun _ => 0))), (q2, .inl (c 0, 1500, .inl (fun _ => 0))), (q3, .inl (c 0, 1500, .inl (fun _ => 0)))] := hD
  refine lv_aload_n hx hb dX10_init_31 rfl (lv_at hl 0 rfl) ?_
  refine lv_sipush (v := 1500) hx hb dX10_init_32 (by decide) ?_
  refine kz_newa (c := c) (atype := .int) (a0 := (1500, .inl (fun _ => 0))) hx hb 0 rfl (hts _ wd_129) rfl hK hP hD hS hA (fun _ => rfl) (by decide) (by decide) (Nat.le_of_ble_eq_true rfl) (Nat.le_of_ble_eq_true rfl) (Nat.le_of_ble_eq_true rfl) dX10_init_35 (fun q4 H hP hD hS => ?_)
  have hP : va_P D vwCl [(h0, .inr (10, [.ref q1, .ref q2, .ref q3, .null, .int 0, .int 0, .int 0])), (q1, .inl (c 0, 2400, .inl (fun _ => 0))), (q2, .inl (c 0, 1500, .inl (fun _ => 0))), (q3, .inl (c 0, 1500, .inl (fun _ => 0))), (q4, .inl (c 0, 1500, .inl (fun _ => 0)))] H := hP
  have hD : va_D A [(h0, .inr (10, [.ref q1, .ref q2, .ref q3, .null, .int 0, .int 0, .int 0])), (q1, .inl (c 0, 2400, .inl (fun _ => 0))), (q2, .inl (c 0, 1500, .inl (fun _ => 0))), (q3, .inl (c 0, 1500, .inl (fun _ => 0))), (q4, .inl (c 0, 1500, .inl (fun _ => 0)))] := hD
  refine W.widen (k := 4) (n := 6900) (Nat.le_of_ble_eq_true rfl) (Nat.le_of_ble_eq_true rfl) ?_
  refine va_putF (D := D) (ci := 10) (v := .ref q4) (ty := (.array .int)) (C := RX10) (T := TX10) (N := 7) hx hb hts inW_10 tyX10 tyX10_ok nmX10 hown hK hP hD hS 0 rfl rfl 3 (by decide) (hts _ wd_139) (fun _ h9 => h9) rfl hin rfl (by decide +kernel) rfl rfl (Nat.le_of_ble_eq_true rfl) dX10_init_37 (fun H locs hP hD hS => ?_)
  have hP : va_P D vwCl [(h0, .inr (10, [.ref q1, .ref q2, .ref q3, .ref q4, .int 0, .int 0, .int 0])), (q1, .inl (c 0, 2400, .inl (fun _ => 0))), (q2, .inl (c 0, 1500, .inl (fun _ => 0))), (q3, .inl (c 0, 1500, .inl (fun _ => 0))), (q4, .inl (c 0, 1500, .inl (fun _ => 0)))] H := hP
  have hD : va_D A [(h0, .inr (10, [.ref q1, .ref q2, .ref q3, .ref q4, .int 0, .int 0, .int 0])), (q1, .inl (c 0, 2400, .inl (fun _ => 0))), (q2, .inl (c 0, 1500, .inl (fun _ => 0))), (q3, .inl (c 0, 1500, .inl (fun _ => 0))), (q4, .inl (c 0, 1500, .inl (fun _ => 0)))] := hD
  refine lv_aload_n hx hb dX10_init_40 rfl (lv_at hl 0 rfl) ?_
  refine lv_bipush (v := 100) hx hb dX10_init_41 (by decide) ?_
  refine va_put (D := D) (ci := 10) (v := .int 100) (ty := .int) (C := RX10) (T := TX10) (N := 7) hx hb hts inW_10 tyX10 tyX10_ok nmX10 hown hK hP hD hS 0 rfl rfl 5 (by decide) (hts _ wd_142) (fun _ h9 => h9) rfl (by decide +kernel) rfl rfl (Nat.le_of_ble_eq_true rfl) dX10_init_43 (fun H locs hP hD hS => ?_)
  have hP : va_P D vwCl [(h0, .inr (10, [.ref q1, .ref q2, .ref q3, .ref q4, .int 0, .int 100, .int 0])), (q1, .inl (c 0, 2400, .inl (fun _ => 0))), (q2, .inl (c 0, 1500, .inl (fun _ => 0))), (q3, .inl (c 0, 1500, .inl (fun _ => 0))), (q4, .inl (c 0, 1500, .inl (fun _ => 0)))] H := hP
  have hD : va_D A [(h0, .inr (10, [.ref q1, .ref q2, .ref q3, .ref q4, .int 0, .int 100, .int 0])), (q1, .inl (c 0, 2400, .inl (fun _ => 0))), (q2, .inl (c 0, 1500, .inl (fun _ => 0))), (q3, .inl (c 0, 1500, .inl (fun _ => 0))), (q4, .inl (c 0, 1500, .inl (fun _ => 0)))] := hD
  refine lv_aload_n hx hb dX10_init_46 rfl (lv_at hl 0 rfl) ?_
  refine lv_sipush (v := 150) hx hb dX10_init_47 (by decide) ?_
  refine va_put (D := D) (ci := 10) (v := .int 150) (ty := .int) (C := RX10) (T := TX10) (N := 7) hx hb hts inW_10 tyX10 tyX10_ok nmX10 hown hK hP hD hS 0 rfl rfl 6 (by decide) (hts _ wd_144) (fun _ h9 => h9) rfl (by decide +kernel) rfl rfl (Nat.le_of_ble_eq_true rfl) dX10_init_50 (fun H locs hP hD hS => ?_)
  have hP : va_P D vwCl [(h0, .inr (10, [.ref q1, .ref q2, .ref q3, .ref q4, .int 0, .int 100, .int 150])), (q1, .inl (c 0, 2400, .inl (fun _ => 0))), (q2, .inl (c 0, 1500, .inl (fun _ => 0))), (q3, .inl (c 0, 1500, .inl (fun _ => 0))), (q4, .inl (c 0, 1500, .inl (fun _ => 0)))] H := hP
  have hD : va_D A [(h0, .inr (10, [.ref q1, .ref q2, .ref q3, .ref q4, .int 0, .int 100, .int 150])), (q1, .inl (c 0, 2400, .inl (fun _ => 0))), (q2, .inl (c 0, 1500, .inl (fun _ => 0))), (q3, .inl (c 0, 1500, .inl (fun _ => 0))), (q4, .inl (c 0, 1500, .inl (fun _ => 0)))] := hD
  exact rt_v hx hb hr hlocks hK hP hD hS dX10_init_53 (q1, q2, q3, q4) [0, 1, 2, 3, 4] rfl rfl trivial
set_option maxHeartbeats 4000000 in
set_option maxRecDepth 100000 in
/-- X5_init -/
theorem c_X5_init (l : Launch) (D : va_G) (c : Nat → ClassId) (sz : Nat) (h0 : Nat) : Met l yX5_init (.code yX5_init cX5_init 1 none :: Wd) ({ frames := 1, cells := 2, slots := 620, locals := 32 }) (va_Pc [.ref h0] (WB D c [(h0, .inr (5, nwX5))] sz)) (QV (S := Nat × Nat) D c (fun _ => True) (fun u => [(h0, .inr (5, [.ref (u.1), .int 0, .int 0, .int 0, .ref (u.2), .int 0, .int 0, .int 0, .int 0])), (u.1, .inl (c 0, 320, .inl (fun _ => 0))), (u.2, .inl (c 0, 300, .inl (fun _ => 0)))]) (va_A [(h0, .inr (5, nwX5))] sz)) 2 620 (va_A [(h0, .inr (5, nwX5))] sz) := by
  refine kz_met (Qc := QV (S := Nat × Nat) D c (fun _ => True) (fun u => [(h0, .inr (5, [.ref (u.1), .int 0, .int 0, .int 0, .ref (u.2), .int 0, .int 0, .int 0, .int 0])), (u.1, .inl (c 0, 320, .inl (fun _ => 0))), (u.2, .inl (c 0, 300, .inl (fun _ => 0)))])) (by decide) (Nat.le_of_ble_eq_true rfl) ?_
  intro p e s m below meth cd A ls H locs hx hb hr hml hts hown hlocks hin hN hO hK hP hD hS hA hl
  have hl : lv_has ls 1 [(0, .ref h0)] := hl
  have hown : s.vm.findClass RX5 = some m.cls := hown
  refine lv_aload_n hx hb dX5_init_0 rfl (lv_at hl 0 rfl) ?_
  refine W.objInit hx hb hown (hts _ wd_168) (hts _ wd_110) (hts _ wd_111) rfl (by rw [hml]; exact hl.1) rfl dX5_init_1 (Nat.le_of_ble_eq_true rfl) (Nat.le_of_ble_eq_true rfl) ?_
  refine W.eq (g2 := F0 m 4 ls []) rfl ?_
  refine lv_aload_n hx hb dX5_init_4 rfl (lv_at hl 0 rfl) ?_
  refine lv_sipush (v := 320) hx hb dX5_init_5 (by decide) ?_
  refine kz_newa (c := c) (atype := .int) (a0 := (320, .inl (fun _ => 0))) hx hb 0 rfl (hts _ wd_129) rfl hK hP hD hS hA (fun _ => rfl) (by decide) (by decide) (Nat.le_of_ble_eq_true rfl) (Nat.le_of_ble_eq_true rfl) (Nat.le_of_ble_eq_true rfl) dX5_init_8 (fun q1 H hP hD hS => ?_)
  have hP : va_P D vwCl [(h0, .inr (5, nwX5)), (q1, .inl (c 0, 320, .inl (fun _ => 0)))] H := hP
  have hD : va_D A [(h0, .inr (5, nwX5)), (q1, .inl (c 0, 320, .inl (fun _ => 0)))] := hD
  refine W.widen (k := 1) (n := 320) (Nat.le_of_ble_eq_true rfl) (Nat.le_of_ble_eq_true rfl) ?_
  refine va_putF (D := D) (ci := 5) (v := .ref q1) (ty := (.array .int)) (C := RX5) (T := TX5) (N := 9) hx hb hts inW_5 tyX5 tyX5_ok nmX5 hown hK hP hD hS 0 rfl rfl 0 (by decide) (hts _ wd_169) (fun _ h9 => h9) rfl hin rfl (by decide +kernel) rfl rfl (Nat.le_of_ble_eq_true rfl) dX5_init_10 (fun H locs hP hD hS => ?_)
  have hP : va_P D vwCl [(h0, .inr (5, [.ref q1, .int 0, .int 0, .int 0, .null, .int 0, .int 0, .int 0, .int 0])), (q1, .inl (c 0, 320, .inl (fun _ => 0)))] H := hP
  have hD : va_D A [(h0, .inr (5, [.ref q1, .int 0, .int 0, .int 0, .null, .int 0, .int 0, .int 0, .int 0])), (q1, .inl (c 0, 320, .inl (fun _ => 0)))] := hD
  refine lv_aload_n hx hb dX5_init_13 rfl (lv_at hl 0 rfl) ?_
  refine lv_sipush (v := 300) hx hb dX5_init_14 (by decide) ?_
  refine kz_newa (c := c) (atype := .int) (a0 := (300, .inl (fun _ => 0))) hx hb 0 rfl (hts _ wd_129) rfl hK hP hD hS hA (fun _ => rfl) (by decide) (by decide) (Nat.le_of_ble_eq_true rfl) (Nat.le_of_ble_eq_true rfl) (Nat.le_of_ble_eq_true rfl) dX5_init_17 (fun q2 H hP hD hS => ?_)
  have hP : va_P D vwCl [(h0, .inr (5, [.ref q1, .int 0, .int 0, .int 0, .null, .int 0, .int 0, .int 0, .int 0])), (q1, .inl (c 0, 320, .inl (fun _ => 0))), (q2, .inl (c 0, 300, .inl (fun _ => 0)))] H := hP
  have hD : va_D A [(h0, .inr (5, [.ref q1, .int 0, .int 0, .int 0, .null, .int 0, .int 0, .int 0, .int 0])), (q1, .inl (c 0, 320, .inl (fun _ => 0))), (q2, .inl (c 0, 300, .inl (fun _ => 0)))] := hD
  refine W.widen (k := 2) (n := 620) (Nat.le_of_ble_eq_true rfl) (Nat.le_of_ble_eq_true rfl) ?_
  refine va_putF (D := D) (ci := 5) (v := .ref q2) (ty := (.array .int)) (C := RX5) (T := TX5) (N := 9) hx hb hts inW_5 tyX5 tyX5_ok nmX5 hown hK hP hD hS 0 rfl rfl 4 (by decide) (hts _ wd_177) (fun _ h9 => h9) rfl hin rfl (by decide +kernel) rfl rfl (Nat.le_of_ble_eq_true rfl) dX5_init_19 (fun H locs hP hD hS => ?_)
  have hP : va_P D vwCl [(h0, .inr (5, [.ref q1, .int 0, .int 0, .int 0, .ref q2, .int 0, .int 0, .int 0, .int 0])), (q1, .inl (c 0, 320, .inl (fun _ => 0))), (q2, .inl (c 0, 300, .inl (fun _ => 0)))] H := hP
  have hD : va_D A [(h0, .inr (5, [.ref q1, .int 0, .int 0, .int 0, .ref q2, .int 0, .int 0, .int 0, .int 0])), (q1, .inl (c 0, 320, .inl (fun _ => 0))), (q2, .inl (c 0, 300, .inl (fun _ => 0)))] := hD
  exact rt_v hx hb hr hlocks hK hP hD hS dX5_init_22 (q1, q2) [0, 1, 2] rfl rfl trivial
set_option maxHeartbeats 4000000 in
set_option maxRecDepth 100000 in
/-- X7_init -/
theorem c_X7_init (l : Launch) (D : va_G) (c : Nat → ClassId) (sz : Nat) (h0 : Nat) : Met l yX7_init (.code yX7_init cX7_init 1 none :: Wd) ({ frames := 1, cells := 4, slots := 2000, locals := 32 }) (va_Pc [.ref h0] (WB D c [(h0, .inr (7, nwX7))] sz)) (QV (S := Nat × Nat × Nat × Nat) D c (fun _ => True) (fun u => [(h0, .inr (7, [.ref (u.1), .ref (u.2.1), .ref (u.2.2.1), .ref (u.2.2.2), .int 0])), (u.1, .inl (c 0, 500, .inl (fun _ => 0))), (u.2.1, .inl (c 0, 500, .inl (fun _ => 0))), (u.2.2.1, .inl (c 0, 500, .inl (fun _ => 0))), (u.2.2.2, .inl (c 0, 500, .inl (fun _ => 0)))]) (va_A [(h0, .inr (7, nwX7))] sz)) 4 2000 (va_A [(h0, .inr (7, nwX7))] sz) := by
  refine kz_met (Qc := QV (S := Nat × Nat × Nat × Nat) D c (fun _ => True) (fun u => [(h0, .inr (7, [.ref (u.1), .ref (u.2.1), .ref (u.2.2.1), .ref (u.2.2.2), .int 0])), (u.1, .inl (c 0, 500, .inl (fun _ => 0))), (u.2.1, .inl (c 0, 500, .inl (fun _ => 0))), (u.2.2.1, .inl (c 0, 500, .inl (fun _ => 0))), (u.2.2.2, .inl (c 0, 500, .inl (fun _ => 0)))])) (by decide) (Nat.le_of_ble_eq_true rfl) ?_
  intro p e s m below meth cd A ls H locs hx hb hr hml hts hown hlocks hin hN hO hK hP hD hS hA hl
  have hl : lv_has ls 1 [(0, .ref h0)] := hl
  have hown : s.vm.findClass RX7 = some m.cls := hown
  refine lv_aload_n hx hb dX7_init_0 rfl (lv_at hl 0 rfl) ?_
  refine W.objInit hx hb hown (hts _ wd_208) (hts _ wd_110) (hts _ wd_111) rfl (by rw [hml]; exact hl.1) rfl dX7_init_1 (Nat.le_of_ble_eq_true rfl) (Nat.le_of_ble_eq_true rfl) ?_
  refine W.eq (g2 := F0 m 4 ls []) rfl ?_
  refine lv_aload_n hx hb dX7_init_4 rfl (lv_at hl 0 rfl) ?_
  refine lv_sipush (v := 500) hx hb dX7_init_5 (by decide) ?_
  refine kz_newa (c := c) (atype := .int) (a0 := (500, .inl (fun _ => 0))) hx hb 0 rfl (hts _ wd_129) rfl hK hP hD hS hA (fun _ => rfl) (by decide) (by decide) (Nat.le_of_ble_eq_true rfl) (Nat.le_of_ble_eq_true rfl) (Nat.le_of_ble_eq_true rfl) dX7_init_8 (fun q1 H hP hD hS => ?_)
  have hP : va_P D vwCl [(h0, .inr (7, nwX7)), (q1, .inl (c 0, 500, .inl (fun _ => 0)))] H := hP
  have hD : va_D A [(h0, .inr (7, nwX7)), (q1, .inl (c 0, 500, .inl (fun _ => 0)))] := hD
  refine W.widen (k := 1) (n := 500) (Nat.le_of_ble_eq_true rfl) (Nat.le_of_ble_eq_true rfl) ?_
  refine va_putF (D := D) (ci := 7) (v := .ref q1) (ty := (.array .int)) (C := RX7) (T := TX7) (N := 5) hx hb hts inW_7 tyX7 tyX7_ok nmX7 hown hK hP hD hS 0 rfl rfl 0 (by decide) (hts _ wd_209) (fun _ h9 => h9) rfl hin rfl (by decide +kernel) rfl rfl (Nat.le_of_ble_eq_true rfl) dX7_init_10 (fun H locs hP hD hS => ?_)
  have hP : va_P D vwCl [(h0, .inr (7, [.ref q1, .null, .null, .null, .int 0])), (q1, .inl (c 0, 500, .inl (fun _ => 0)))] H := hP
  have hD : va_D A [(h0, .inr (7, [.ref q1, .null, .null, .null, .int 0])), (q1, .inl (c 0, 500, .inl (fun _ => 0)))] := hD
  refine lv_aload_n hx hb dX7_init_13 rfl (lv_at hl 0 rfl) ?_
  refine lv_sipush (v := 500) hx hb dX7_init_14 (by decide) ?_
  refine kz_newa (c := c) (atype := .int) (a0 := (500, .inl (fun _ => 0))) hx hb 0 rfl (hts _ wd_129) rfl hK hP hD hS hA (fun _ => rfl) (by decide) (by decide) (Nat.le_of_ble_eq_true rfl) (Nat.le_of_ble_eq_true rfl) (Nat.le_of_ble_eq_true rfl) dX7_init_17 (fun q2 H hP hD hS => ?_)
  have hP : va_P D vwCl [(h0, .inr (7, [.ref q1, .null, .null, .null, .int 0])), (q1, .inl (c 0, 500, .inl (fun _ => 0))), (q2, .inl (c 0, 500, .inl (fun _ => 0)))] H := hP
  have hD : va_D A [(h0, .inr (7, [.ref q1, .null, .null, .null, .int 0])), (q1, .inl (c 0, 500, .inl (fun _ => 0))), (q2, .inl (c 0, 500, .inl (fun _ => 0)))] := hD
  refine W.widen (k := 2) (n := 1000) (Nat.le_of_ble_eq_true rfl) (Nat.le_of_ble_eq_true rfl) ?_
  refine va_putF (D := D) (ci := 7) (v := .ref q2) (ty := (.array .int)) (C := RX7) (T := TX7) (N := 5) hx hb hts inW_7 tyX7 tyX7_ok nmX7 hown hK hP hD hS 0 rfl rfl 1 (by decide) (hts _ wd_210) (fun _ h9 => h9) rfl hin rfl (by decide +kernel) rfl rfl (Nat.le_of_ble_eq_true rfl) dX7_init_19 (fun H locs hP hD hS => ?_)
  have hP : va_P D vwCl [(h0, .inr (7, [.ref q1, .ref q2, .null, .null, .int 0])), (q1, .inl (c 0, 500, .inl (fun _ => 0))), (q2, .inl (c 0, 500, .inl (fun _ => 0)))] H := hP
  have hD : va_D A [(h0, .inr (7, [.ref q1, .ref q2, .null, .null, .int 0])), (q1, .inl (c 0, 500, .inl (fun _ => 0))), (q2, .inl (c 0, 500, .inl (fun _ => 0)))] := hD
  refine lv_aload_n hx hb dX7_init_22 rfl (lv_at hl 0 rfl) ?_
  refine lv_sipush (v := 500) hx hb dX7_init_23 (by decide) ?_
  refine kz_newa (c := c) (atype := .int) (a0 := (500, .inl (fun _ => 0))) hx hb 0 rfl (hts _ wd_129) rfl hK hP hD hS hA (fun _ => rfl) (by decide) (by decide) (Nat.le_of_ble_eq_true rfl) (Nat.le_of_ble_eq_true rfl) (Nat.le_of_ble_eq_true rfl) dX7_init_26 (fun q3 H hP hD hS => ?_)
  have hP : va_P D vwCl [(h0, .inr (7, [.ref q1, .ref q2, .null, .null, .int 0])), (q1, .inl (c 0, 500, .inl (fun _ => 0))), (q2, .inl (c 0, 500, .inl (fun _ => 0))), (q3, .inl (c 0, 500, .inl (fun _ => 0)))] H := hP
  have hD : va_D A [(h0, .inr (7, [.ref q1, .ref q2, .null, .null, .int 0])), (q1, .inl (c 0, 500, .inl (fun _ => 0))), (q2, .inl (c 0, 500, .inl (fun _ => 0))), (q3, .inl (c 0, 500, .inl (fun _ => 0)))] := hD
  refine W.widen (k := 3) (n := 1500) (Nat.le_of_ble_eq_true rfl) (Nat.le_of_ble_eq_true rfl) ?_
  refine va_putF (D := D) (ci := 7) (v := .ref q3) (ty := (.array .int)) (C := RX7) (T := TX7) (N := 5) hx hb hts inW_7 tyX7 tyX7_ok nmX7 hown hK hP hD hS 0 rfl rfl 2 (by decide) (hts _ wd_211) (fun _ h9 => h9) rfl hin rfl (by decide +kernel) rfl rfl (Nat.le_of_ble_eq_true rfl) dX7_init_28 (fun H locs hP hD hS => ?_)
  have hP : va_P D vwCl [(h0, .inr (7, [.ref q1, .ref q2, .ref q3, .null, .int 0])), (q1, .inl (c 0, 500, .inl (fun _ => 0))), (q2, .inl (c 0, 500, .inl (fun _ => 0))), (q3, .inl (c 0, 500, .inl (fun _ => 0)))] H := hP
  have hD : va_D A [(h0, .inr (7, [.ref q1, .ref q2, .ref q3, .null, .int 0])), (q1, .inl (c 0, 500, .inl (fun _ => 0))), (q2, .inl (c 0, 500, .inl (fun _ => 0))), (q3, .inl (c 0, 500, .inl (fun _ => 0)))] := hD
  refine lv_aload_n hx hb dX7_init_31 rfl (lv_at hl 0 rfl) ?_
  refine lv_sipush (v := 500) hx hb dX7_init_32 (by decide) ?_
  refine kz_newa (c := c) (atype := .int) (a0 := (500, .inl (fun _ => 0))) hx hb 0 rfl (hts _ wd_129) rfl hK hP hD hS hA (fun _ => rfl) (by decide) (by decide) (Nat.le_of_ble_eq_true rfl) (Nat.le_of_ble_eq_true rfl) (Nat.le_of_ble_eq_true rfl) dX7_init_35 (fun q4 H hP hD hS => ?_)
  have hP : va_P D vwCl [(h0, .inr (7, [.ref q1, .ref q2, .ref q3, .null, .int 0])), (q1, .inl (c 0, 500, .inl (fun _ => 0))), (q2, .inl (c 0, 500, .inl (fun _ => 0))), (q3, .inl (c 0, 500, .inl (fun _ => 0))), (q4, .inl (c 0, 500, .inl (fun _ => 0)))] H := hP
  have hD : va_D A [(h0, .inr (7, [.ref q1, .ref q2, .ref q3, .null, .int 0])), (q1, .inl (c 0, 500, .inl (fun _ => 0))), (q2, .inl (c 0, 500, .inl (fun _ => 0))), (q3, .inl (c 0, 500, .inl (fun _ => 0))), (q4, .inl (c 0, 500, .inl (fun _ => 0)))] := hD
  refine W.widen (k := 4) (n := 2000) (Nat.le_of_ble_eq_true rfl) (Nat.le_of_ble_eq_true rfl) ?_
  refine va_putF (D := D) (ci := 7) (v := .ref q4) (ty := (.array .int)) (C := RX7) (T := TX7) (N := 5) hx hb hts inW_7 tyX7 tyX7_ok nmX7 hown hK hP hD hS 0 rfl rfl 3 (by decide) (hts _ wd_212) (fun _ h9 => h9) rfl hin rfl (by decide +kernel) rfl rfl (Nat.le_of_ble_eq_true rfl) dX7_init_37 (fun H locs hP hD hS => ?_)
  have hP : va_P D vwCl [(h0, .inr (7, [.ref q1, .ref q2, .ref q3, .ref q4, .int 0])), (q1, .inl (c 0, 500, .inl (fun _ => 0))), (q2, .inl (c 0, 500, .inl (fun _ => 0))), (q3, .inl (c 0, 500, .inl (fun _ => 0))), (q4, .inl (c 0, 500, .inl (fun _ => 0)))] H := hP
  have hD : va_D A [(h0, .inr (7, [.ref q1, .ref q2, .ref q3, .ref q4, .int 0])), (q1, .inl (c 0, 500, .inl (fun _ => 0))), (q2, .inl (c 0, 500, .inl (fun _ => 0))), (q3, .inl (c 0, 500, .inl (fun _ => 0))), (q4, .inl (c 0, 500, .inl (fun _ => 0)))] := hD
  exact rt_v hx hb hr hlocks hK hP hD hS dX7_init_40 (q1, q2, q3, q4) [0, 1, 2, 3, 4] rfl rfl trivial
set_option maxHeartbeats 4000000 in
set_option maxRecDepth 100000 in
/-- J7_fill_53178 -/
theorem c_J7_fill_53178 (l : Launch) (D : va_G) (c : Nat → ClassId) (sz : Nat) (q : Nat) (f : Nat → Int32) (x : Int32) : Met l yJ7_fill_53178 (.code yJ7_fill_53178 cJ7_fill_53178 4 none :: Wd) ({ frames := 0, cells := 0, slots := 0, locals := 0 }) (va_Pc [.ref q, .int x] (WB D c [(q, .inl (c 0, 11, .inl (f)))] sz)) (QV (S := Nat → Int32) D c (fun _ => True) (fun u => [(q, .inl (c 0, 11, .inl u))]) (va_A [(q, .inl (c 0, 11, .inl (f)))] sz)) 0 0 (va_A [(q, .inl (c 0, 11, .inl (f)))] sz) := by
  refine kz_met (Qc := QV (S := Nat → Int32) D c (fun _ => True) (fun u => [(q, .inl (c 0, 11, .inl u))])) (by decide) (Nat.le_of_ble_eq_true rfl) ?_
  intro p e s m below meth cd A ls H locs hx hb hr hml hts hown hlocks hin hN hO hK hP hD hS hA hl
  have hl : lv_has ls 4 [(0, .ref q), (1, .int x)] := hl
  refine lv_iconst (v := 0) hx hb dJ7_fill_53178_0 (by decide) ?_
  refine lv_istore_n (lv' := [(2, .int 0), (0, .ref q), (1, .int x)]) hx hb dJ7_fill_53178_1 rfl hl (by decide) rfl (fun ls hl => ?_)
  refine lv_aload_n hx hb dJ7_fill_53178_2 rfl (lv_at hl 1 rfl) ?_
  refine va_alen (v := 11) hx hb hK hP 0 0 rfl rfl (by show Int32.ofNat 11 = 11; decide) dJ7_fill_53178_3 ?_
  refine lv_istore_n (lv' := [(3, .int 11), (2, .int 0), (0, .ref q), (1, .int x)]) hx hb dJ7_fill_53178_4 rfl hl (by decide) rfl (fun ls hl => ?_)
  refine lv_iload_n hx hb dJ7_fill_53178_5 rfl (lv_at hl 1 rfl) ?_
  refine lv_iload_n hx hb dJ7_fill_53178_6 rfl (lv_at hl 0 rfl) ?_
  refine lv_icmp_ge (tgt := 20) hx hb dJ7_fill_53178_7 (by decide) (fun c => False.elim (by revert c; decide)) (fun _ => ?_)
  refine lv_aload_n hx hb dJ7_fill_53178_10 rfl (lv_at hl 2 rfl) ?_
  refine lv_iload_n hx hb dJ7_fill_53178_11 rfl (lv_at hl 1 rfl) ?_
  refine lv_iload_n hx hb dJ7_fill_53178_12 rfl (lv_at hl 3 rfl) ?_
  refine va_iast hx hb hK hP hD hS 0 0 rfl rfl (vp_in_iff.mpr (by decide)) dJ7_fill_53178_13 (fun H locs hP hD hS => ?_)
  have hP : va_P D vwCl [(q, .inl (c 0, 11, .inl (upd (f) (Int32.toNatClampNeg 0) x)))] H := hP
  have hD : va_D A [(q, .inl (c 0, 11, .inl (upd (f) (Int32.toNatClampNeg 0) x)))] := hD
  refine lv_iinc (v := 1) (lv' := [(2, .int 1), (3, .int 11), (0, .ref q), (1, .int x)]) hx hb dJ7_fill_53178_14 hl (k := 1) rfl (by decide) (by decide) rfl (fun ls hl => ?_)
  refine lv_goto (tgt := 5) hx hb dJ7_fill_53178_17 (by decide) ?_
  refine lv_iload_n hx hb dJ7_fill_53178_5 rfl (lv_at hl 0 rfl) ?_
  refine lv_iload_n hx hb dJ7_fill_53178_6 rfl (lv_at hl 1 rfl) ?_
  refine lv_icmp_ge (tgt := 20) hx hb dJ7_fill_53178_7 (by decide) (fun c => False.elim (by revert c; decide)) (fun _ => ?_)
  refine lv_aload_n hx hb dJ7_fill_53178_10 rfl (lv_at hl 2 rfl) ?_
  refine lv_iload_n hx hb dJ7_fill_53178_11 rfl (lv_at hl 0 rfl) ?_
  refine lv_iload_n hx hb dJ7_fill_53178_12 rfl (lv_at hl 3 rfl) ?_
  refine va_iast hx hb hK hP hD hS 0 0 rfl rfl (vp_in_iff.mpr (by decide)) dJ7_fill_53178_13 (fun H locs hP hD hS => ?_)
  have hP : va_P D vwCl [(q, .inl (c 0, 11, .inl (upd (upd (f) (Int32.toNatClampNeg 0) x) (Int32.toNatClampNeg 1) x)))] H := hP
  have hD : va_D A [(q, .inl (c 0, 11, .inl (upd (upd (f) (Int32.toNatClampNeg 0) x) (Int32.toNatClampNeg 1) x)))] := hD
  refine lv_iinc (v := 2) (lv' := [(2, .int 2), (3, .int 11), (0, .ref q), (1, .int x)]) hx hb dJ7_fill_53178_14 hl (k := 0) rfl (by decide) (by decide) rfl (fun ls hl => ?_)
  refine lv_goto (tgt := 5) hx hb dJ7_fill_53178_17 (by decide) ?_
  refine lv_iload_n hx hb dJ7_fill_53178_5 rfl (lv_at hl 0 rfl) ?_
  refine lv_iload_n hx hb dJ7_fill_53178_6 rfl (lv_at hl 1 rfl) ?_
  refine lv_icmp_ge (tgt := 20) hx hb dJ7_fill_53178_7 (by decide) (fun c => False.elim (by revert c; decide)) (fun _ => ?_)
  refine lv_aload_n hx hb dJ7_fill_53178_10 rfl (lv_at hl 2 rfl) ?_
  refine lv_iload_n hx hb dJ7_fill_53178_11 rfl (lv_at hl 0 rfl) ?_
  refine lv_iload_n hx hb dJ7_fill_53178_12 rfl (lv_at hl 3 rfl) ?_
  refine va_iast hx hb hK hP hD hS 0 0 rfl rfl (vp_in_iff.mpr (by decide)) dJ7_fill_53178_13 (fun H locs hP hD hS => ?_)
  have hP : va_P D vwCl [(q, .inl (c 0, 11, .inl (upd (upd (upd (f) (Int32.toNatClampNeg 0) x) (Int32.toNatClampNeg 1) x) (Int32.toNatClampNeg 2) x)))] H := hP
  have hD : va_D A [(q, .inl (c 0, 11, .inl (upd (upd (upd (f) (Int32.toNatClampNeg 0) x) (Int32.toNatClampNeg 1) x) (Int32.toNatClampNeg 2) x)))] := hD
  refine lv_iinc (v := 3) (lv' := [(2, .int 3), (3, .int 11), (0, .ref q), (1, .int x)]) hx hb dJ7_fill_53178_14 hl (k := 0) rfl (by decide) (by decide) rfl (fun ls hl => ?_)
  refine lv_goto (tgt := 5) hx hb dJ7_fill_53178_17 (by decide) ?_
  refine lv_iload_n hx hb dJ7_fill_53178_5 rfl (lv_at hl 0 rfl) ?_
  refine lv_iload_n hx hb dJ7_fill_53178_6 rfl (lv_at hl 1 rfl) ?_
  refine lv_icmp_ge (tgt := 20) hx hb dJ7_fill_53178_7 (by decide) (fun c => False.elim (by revert c; decide)) (fun _ => ?_)
  refine lv_aload_n hx hb dJ7_fill_53178_10 rfl (lv_at hl 2 rfl) ?_
  refine lv_iload_n hx hb dJ7_fill_53178_11 rfl (lv_at hl 0 rfl) ?_
  refine lv_iload_n hx hb dJ7_fill_53178_12 rfl (lv_at hl 3 rfl) ?_
  refine va_iast hx hb hK hP hD hS 0 0 rfl rfl (vp_in_iff.mpr (by decide)) dJ7_fill_53178_13 (fun H locs hP hD hS => ?_)
  have hP : va_P D vwCl [(q, .inl (c 0, 11, .inl (upd (upd (upd (upd (f) (Int32.toNatClampNeg 0) x) (Int32.toNatClampNeg 1) x) (Int32.toNatClampNeg 2) x) (Int32.toNatClampNeg 3) x)))] H := hP
  have hD : va_D A [(q, .inl (c 0, 11, .inl (upd (upd (upd (upd (f) (Int32.toNatClampNeg 0) x) (Int32.toNatClampNeg 1) x) (Int32.toNatClampNeg 2) x) (Int32.toNatClampNeg 3) x)))] := hD
  refine lv_iinc (v := 4) (lv' := [(2, .int 4), (3, .int 11), (0, .ref q), (1, .int x)]) hx hb dJ7_fill_53178_14 hl (k := 0) rfl (by decide) (by decide) rfl (fun ls hl => ?_)
  refine lv_goto (tgt := 5) hx hb dJ7_fill_53178_17 (by decide) ?_
  refine lv_iload_n hx hb dJ7_fill_53178_5 rfl (lv_at hl 0 rfl) ?_
  refine lv_iload_n hx hb dJ7_fill_53178_6 rfl (lv_at hl 1 rfl) ?_
  refine lv_icmp_ge (tgt := 20) hx hb dJ7_fill_53178_7 (by decide) (fun c => False.elim (by revert c; decide)) (fun _ => ?_)
  refine lv_aload_n hx hb dJ7_fill_53178_10 rfl (lv_at hl 2 rfl) ?_
  refine lv_iload_n hx hb dJ7_fill_53178_11 rfl (lv_at hl 0 rfl) ?_
  refine lv_iload_n hx hb dJ7_fill_53178_12 rfl (lv_at hl 3 rfl) ?_
  refine va_iast hx hb hK hP hD hS 0 0 rfl rfl (vp_in_iff.mpr (by decide)) dJ7_fill_53178_13 (fun H locs hP hD hS => ?_)
  have hP : va_P D vwCl [(q, .inl (c 0, 11, .inl (upd (upd (upd (upd (upd (f) (Int32.toNatClampNeg 0) x) (Int32.toNatClampNeg 1) x) (Int32.toNatClampNeg 2) x) (Int32.toNatClampNeg 3) x) (Int32.toNatClampNeg 4) x)))] H := hP
  have hD : va_D A [(q, .inl (c 0, 11, .inl (upd (upd (upd (upd (upd (f) (Int32.toNatClampNeg 0) x) (Int32.toNatClampNeg 1) x) (Int32.toNatClampNeg 2) x) (Int32.toNatClampNeg 3) x) (Int32.toNatClampNeg 4) x)))] := hD
  refine lv_iinc (v := 5) (lv' := [(2, .int 5), (3, .int 11), (0, .ref q), (1, .int x)]) hx hb dJ7_fill_53178_14 hl (k := 0) rfl (by decide) (by decide) rfl (fun ls hl => ?_)
  refine lv_goto (tgt := 5) hx hb dJ7_fill_53178_17 (by decide) ?_
  refine lv_iload_n hx hb dJ7_fill_53178_5 rfl (lv_at hl 0 rfl) ?_
  refine lv_iload_n hx hb dJ7_fill_53178_6 rfl (lv_at hl 1 rfl) ?_
  refine lv_icmp_ge (tgt := 20) hx hb dJ7_fill_53178_7 (by decide) (fun c => False.elim (by revert c; decide)) (fun _ => ?_)
  refine lv_aload_n hx hb dJ7_fill_53178_10 rfl (lv_at hl 2 rfl) ?_
  refine lv_iload_n hx hb dJ7_fill_53178_11 rfl (lv_at hl 0 rfl) ?_
  refine lv_iload_n hx hb dJ7_fill_53178_12 rfl (lv_at hl 3 rfl) ?_
  refine va_iast hx hb hK hP hD hS 0 0 rfl rfl (vp_in_iff.mpr (by decide)) dJ7_fill_53178_13 (fun H locs hP hD hS => ?_)
  have hP : va_P D vwCl [(q, .inl (c 0, 11, .inl (upd (upd (upd (upd (upd (upd (f) (Int32.toNatClampNeg 0) x) (Int32.toNatClampNeg 1) x) (Int32.toNatClampNeg 2) x) (Int32.toNatClampNeg 3) x) (Int32.toNatClampNeg 4) x) (Int32.toNatClampNeg 5) x)))] H := hP
  have hD : va_D A [(q, .inl (c 0, 11, .inl (upd (upd (upd (upd (upd (upd (f) (Int32.toNatClampNeg 0) x) (Int32.toNatClampNeg 1) x) (Int32.toNatClampNeg 2) x) (Int32.toNatClampNeg 3) x) (Int32.toNatClampNeg 4) x) (Int32.toNatClampNeg 5) x)))] := hD
  refine lv_iinc (v := 6) (lv' := [(2, .int 6), (3, .int 11), (0, .ref q), (1, .int x)]) hx hb dJ7_fill_53178_14 hl (k := 0) rfl (by decide) (by decide) rfl (fun ls hl => ?_)
  refine lv_goto (tgt := 5) hx hb dJ7_fill_53178_17 (by decide) ?_
  refine lv_iload_n hx hb dJ7_fill_53178_5 rfl (lv_at hl 0 rfl) ?_
  refine lv_iload_n hx hb dJ7_fill_53178_6 rfl (lv_at hl 1 rfl) ?_
  refine lv_icmp_ge (tgt := 20) hx hb dJ7_fill_53178_7 (by decide) (fun c => False.elim (by revert c; decide)) (fun _ => ?_)
  refine lv_aload_n hx hb dJ7_fill_53178_10 rfl (lv_at hl 2 rfl) ?_
  refine lv_iload_n hx hb dJ7_fill_53178_11 rfl (lv_at hl 0 rfl) ?_
  refine lv_iload_n hx hb dJ7_fill_53178_12 rfl (lv_at hl 3 rfl) ?_
  refine va_iast hx hb hK hP hD hS 0 0 rfl rfl (vp_in_iff.mpr (by decide)) dJ7_fill_53178_13 (fun H locs hP hD hS => ?_)
  have hP : va_P D vwCl [(q, .inl (c 0, 11, .inl (upd (upd (upd (upd (upd (upd (upd (f) (Int32.toNatClampNeg 0) x) (Int32.toNatClampNeg 1) x) (Int32.toNatClampNeg 2) x) (Int32.toNatClampNeg 3) x) (Int32.toNatClampNeg 4) x) (Int32.toNatClampNeg 5) x) (Int32.toNatClampNeg 6) x)))] H := hP
  have hD : va_D A [(q, .inl (c 0, 11, .inl (upd (upd (upd (upd (upd (upd (upd (f) (Int32.toNatClampNeg 0) x) (Int32.toNatClampNeg 1) x) (Int32.toNatClampNeg 2) x) (Int32.toNatClampNeg 3) x) (Int32.toNatClampNeg 4) x) (Int32.toNatClampNeg 5) x) (Int32.toNatClampNeg 6) x)))] := hD
  refine lv_iinc (v := 7) (lv' := [(2, .int 7), (3, .int 11), (0, .ref q), (1, .int x)]) hx hb dJ7_fill_53178_14 hl (k := 0) rfl (by decide) (by decide) rfl (fun ls hl => ?_)
  refine lv_goto (tgt := 5) hx hb dJ7_fill_53178_17 (by decide) ?_
  refine lv_iload_n hx hb dJ7_fill_53178_5 rfl (lv_at hl 0 rfl) ?_
  refine lv_iload_n hx hb dJ7_fill_53178_6 rfl (lv_at hl 1 rfl) ?_
  refine lv_icmp_ge (tgt := 20) hx hb dJ7_fill_53178_7 (by decide) (fun c => False.elim (by revert c; decide)) (fun _ => ?_)
  refine lv_aload_n hx hb dJ7_fill_53178_10 rfl (lv_at hl 2 rfl) ?_
  refine lv_iload_n hx hb dJ7_fill_53178_11 rfl (lv_at hl 0 rfl) ?_
  refine lv_iload_n hx hb dJ7_fill_53178_12 rfl (lv_at hl 3 rfl) ?_
  refine va_iast hx hb hK hP hD hS 0 0 rfl rfl (vp_in_iff.mpr (by decide)) dJ7_fill_53178_13 (fun H locs hP hD hS => ?_)
  have hP : va_P D vwCl [(q, .inl (c 0, 11, .inl (upd (upd (upd (upd (upd (upd (upd (upd (f) (Int32.toNatClampNeg 0) x) (Int32.toNatClampNeg 1) x) (Int32.toNatClampNeg 2) x) (Int32.toNatClampNeg 3) x) (Int32.toNatClampNeg 4) x) (Int32.toNatClampNeg 5) x) (Int32.toNatClampNeg 6) x) (Int32.toNatClampNeg 7) x)))] H := hP
  have hD : va_D A [(q, .inl (c 0, 11, .inl (upd (upd (upd (upd (upd (upd (upd (upd (f) (Int32.toNatClampNeg 0) x) (Int32.toNatClampNeg 1) x) (Int32.toNatClampNeg 2) x) (Int32.toNatClampNeg 3) x) (Int32.toNatClampNeg 4) x) (Int32.toNatClampNeg 5) x) (Int32.toNatClampNeg 6) x) (Int32.toNatClampNeg 7) x)))] := hD
  refine lv_iinc (v := 8) (lv' := [(2, .int 8), (3, .int 11), (0, .ref q), (1, .int x)]) hx hb dJ7_fill_53178_14 hl (k := 0) rfl (by decide) (by decide) rfl (fun ls hl => ?_)
  refine lv_goto (tgt := 5) hx hb dJ7_fill_53178_17 (by decide) ?_
  refine lv_iload_n hx hb dJ7_fill_53178_5 rfl (lv_at hl 0 rfl) ?_
  refine lv_iload_n hx hb dJ7_fill_53178_6 rfl (lv_at hl 1 rfl) ?_
  refine lv_icmp_ge (tgt := 20) hx hb dJ7_fill_53178_7 (by decide) (fun c => False.elim (by revert c; decide)) (fun _ => ?_)
  refine lv_aload_n hx hb dJ7_fill_53178_10 rfl (lv_at hl 2 rfl) ?_
  refine lv_iload_n hx hb dJ7_fill_53178_11 rfl (lv_at hl 0 rfl) ?_
  refine lv_iload_n hx hb dJ7_fill_53178_12 rfl (lv_at hl 3 rfl) ?_
  refine va_iast hx hb hK hP hD hS 0 0 rfl rfl (vp_in_iff.mpr (by decide)) dJ7_fill_53178_13 (fun H locs hP hD hS => ?_)
  have hP : va_P D vwCl [(q, .inl (c 0, 11, .inl (upd (upd (upd (upd (upd (upd (upd (upd (upd (f) (Int32.toNatClampNeg 0) x) (Int32.toNatClampNeg 1) x) (Int32.toNatClampNeg 2) x) (Int32.toNatClampNeg 3) x) (Int32.toNatClampNeg 4) x) (Int32.toNatClampNeg 5) x) (Int32.toNatClampNeg 6) x) (Int32.toNatClampNeg 7) x) (Int32.toNatClampNeg 8) x)))] H := hP
  have hD : va_D A [(q, .inl (c 0, 11, .inl (upd (upd (upd (upd (upd (upd (upd (upd (upd (f) (Int32.toNatClampNeg 0) x) (Int32.toNatClampNeg 1) x) (Int32.toNatClampNeg 2) x) (Int32.toNatClampNeg 3) x) (Int32.toNatClampNeg 4) x) (Int32.toNatClampNeg 5) x) (Int32.toNatClampNeg 6) x) (Int32.toNatClampNeg 7) x) (Int32.toNatClampNeg 8) x)))] := hD
  refine lv_iinc (v := 9) (lv' := [(2, .int 9), (3, .int 11), (0, .ref q), (1, .int x)]) hx hb dJ7_fill_53178_14 hl (k := 0) rfl (by decide) (by decide) rfl (fun ls hl => ?_)
  refine lv_goto (tgt := 5) hx hb dJ7_fill_53178_17 (by decide) ?_
  refine lv_iload_n hx hb dJ7_fill_53178_5 rfl (lv_at hl 0 rfl) ?_
  refine lv_iload_n hx hb dJ7_fill_53178_6 rfl (lv_at hl 1 rfl) ?_
  refine lv_icmp_ge (tgt := 20) hx hb dJ7_fill_53178_7 (by decide) (fun c => False.elim (by revert c; decide)) (fun _ => ?_)
  refine lv_aload_n hx hb dJ7_fill_53178_10 rfl (lv_at hl 2 rfl) ?_
  refine lv_iload_n hx hb dJ7_fill_53178_11 rfl (lv_at hl 0 rfl) ?_
  refine lv_iload_n hx hb dJ7_fill_53178_12 rfl (lv_at hl 3 rfl) ?_
  refine va_iast hx hb hK hP hD hS 0 0 rfl rfl (vp_in_iff.mpr (by decide)) dJ7_fill_53178_13 (fun H locs hP hD hS => ?_)
  have hP : va_P D vwCl [(q, .inl (c 0, 11, .inl (upd (upd (upd (upd (upd (upd (upd (upd (upd (upd (f) (Int32.toNatClampNeg 0) x) (Int32.toNatClampNeg 1) x) (Int32.toNatClampNeg 2) x) (Int32.toNatClampNeg 3) x) (Int32.toNatClampNeg 4) x) (Int32.toNatClampNeg 5) x) (Int32.toNatClampNeg 6) x) (Int32.toNatClampNeg 7) x) (Int32.toNatClampNeg 8) x) (Int32.toNatClampNeg 9) x)))] H := hP
  have hD : va_D A [(q, .inl (c 0, 11, .inl (upd (upd (upd (upd (upd (upd (upd (upd (upd (upd (f) (Int32.toNatClampNeg 0) x) (Int32.toNatClampNeg 1) x) (Int32.toNatClampNeg 2) x) (Int32.toNatClampNeg 3) x) (Int32.toNatClampNeg 4) x) (Int32.toNatClampNeg 5) x) (Int32.toNatClampNeg 6) x) (Int32.toNatClampNeg 7) x) (Int32.toNatClampNeg 8) x) (Int32.toNatClampNeg 9) x)))] := hD
  refine lv_iinc (v := 10) (lv' := [(2, .int 10), (3, .int 11), (0, .ref q), (1, .int x)]) hx hb dJ7_fill_53178_14 hl (k := 0) rfl (by decide) (by decide) rfl (fun ls hl => ?_)
  refine lv_goto (tgt := 5) hx hb dJ7_fill_53178_17 (by decide) ?_
  refine lv_iload_n hx hb dJ7_fill_53178_5 rfl (lv_at hl 0 rfl) ?_
  refine lv_iload_n hx hb dJ7_fill_53178_6 rfl (lv_at hl 1 rfl) ?_
  refine lv_icmp_ge (tgt := 20) hx hb dJ7_fill_53178_7 (by decide) (fun c => False.elim (by revert c; decide)) (fun _ => ?_)
  refine lv_aload_n hx hb dJ7_fill_53178_10 rfl (lv_at hl 2 rfl) ?_
  refine lv_iload_n hx hb dJ7_fill_53178_11 rfl (lv_at hl 0 rfl) ?_
  refine lv_iload_n hx hb dJ7_fill_53178_12 rfl (lv_at hl 3 rfl) ?_
  refine va_iast hx hb hK hP hD hS 0 0 rfl rfl (vp_in_iff.mpr (by decide)) dJ7_fill_53178_13 (fun H locs hP hD hS => ?_)
  have hP : va_P D vwCl [(q, .inl (c 0, 11, .inl (upd (upd (upd (upd (upd (upd (upd (upd (upd (upd (upd (f) (Int32.toNatClampNeg 0) x) (Int32.toNatClampNeg 1) x) (Int32.toNatClampNeg 2) x) (Int32.toNatClampNeg 3) x) (Int32.toNatClampNeg 4) x) (Int32.toNatClampNeg 5) x) (Int32.toNatClampNeg 6) x) (Int32.toNatClampNeg 7) x) (Int32.toNatClampNeg 8) x) (Int32.toNatClampNeg 9) x) (Int32.toNatClampNeg 10) x)))] H := hP
  have hD : va_D A [(q, .inl (c 0, 11, .inl (upd (upd (upd (upd (upd (upd (upd (upd (upd (upd (upd (f) (Int32.toNatClampNeg 0) x) (Int32.toNatClampNeg 1) x) (Int32.toNatClampNeg 2) x) (Int32.toNatClampNeg 3) x) (Int32.toNatClampNeg 4) x) (Int32.toNatClampNeg 5) x) (Int32.toNatClampNeg 6) x) (Int32.toNatClampNeg 7) x) (Int32.toNatClampNeg 8) x) (Int32.toNatClampNeg 9) x) (Int32.toNatClampNeg 10) x)))] := hD
  refine lv_iinc (v := 11) (lv' := [(2, .int 11), (3, .int 11), (0, .ref q), (1, .int x)]) hx hb dJ7_fill_53178_14 hl (k := 0) rfl (by decide) (by decide) rfl (fun ls hl => ?_)
  refine lv_goto (tgt := 5) hx hb dJ7_fill_53178_17 (by decide) ?_
  refine lv_iload_n hx hb dJ7_fill_53178_5 rfl (lv_at hl 0 rfl) ?_
  refine lv_iload_n hx hb dJ7_fill_53178_6 rfl (lv_at hl 1 rfl) ?_
  refine lv_icmp_ge (tgt := 20) hx hb dJ7_fill_53178_7 (by decide) (fun _ => ?_) (fun c => False.elim (by revert c; decide))
  exact rt_v hx hb hr hlocks hK hP hD hS dJ7_fill_53178_20 (upd (upd (upd (upd (upd (upd (upd (upd (upd (upd (upd (f) (Int32.toNatClampNeg 0) x) (Int32.toNatClampNeg 1) x) (Int32.toNatClampNeg 2) x) (Int32.toNatClampNeg 3) x) (Int32.toNatClampNeg 4) x) (Int32.toNatClampNeg 5) x) (Int32.toNatClampNeg 6) x) (Int32.toNatClampNeg 7) x) (Int32.toNatClampNeg 8) x) (Int32.toNatClampNeg 9) x) (Int32.toNatClampNeg 10) x) [0] rfl rfl trivial
set_option maxHeartbeats 4000000 in
set_option maxRecDepth 100000 in
/-- X3_init -/
theorem c_X3_init (l : Launch) (D : va_G) (c : Nat → ClassId) (sz : Nat) (h0 : Nat) : Met l yX3_init (.code yX3_init cX3_init 1 none :: Wd) ({ frames := 1, cells := 6, slots := 58, locals := 32 }) (va_Pc [.ref h0] (WB D c [(h0, .inr (3, nwX3))] sz)) (QV (S := Unit) D c (fun _ => True) (fun _ => []) (va_A [(h0, .inr (3, nwX3))] sz)) 6 58 (va_A [(h0, .inr (3, nwX3))] sz) := by
  refine kz_met (Qc := QV (S := Unit) D c (fun _ => True) (fun _ => [])) (by decide) (Nat.le_of_ble_eq_true rfl) ?_
  intro p e s m below meth cd A ls H locs hx hb hr hml hts hown hlocks hin hN hO hK hP hD hS hA hl
  have hl : lv_has ls 1 [(0, .ref h0)] := hl
  have hown : s.vm.findClass RX3 = some m.cls := hown
  refine lv_aload_n hx hb dX3_init_0 rfl (lv_at hl 0 rfl) ?_
  refine W.objInit hx hb hown (hts _ wd_233) (hts _ wd_110) (hts _ wd_111) rfl (by rw [hml]; exact hl.1) rfl dX3_init_1 (Nat.le_of_ble_eq_true rfl) (Nat.le_of_ble_eq_true rfl) ?_
  refine W.eq (g2 := F0 m 4 ls []) rfl ?_
  refine lv_aload_n hx hb dX3_init_4 rfl (lv_at hl 0 rfl) ?_
  refine lv_bipush (v := 11) hx hb dX3_init_5 (by decide) ?_
  refine kz_newa (c := c) (atype := .int) (a0 := (11, .inl (fun _ => 0))) hx hb 0 rfl (hts _ wd_129) rfl hK hP hD hS hA (fun _ => rfl) (by decide) (by decide) (Nat.le_of_ble_eq_true rfl) (Nat.le_of_ble_eq_true rfl) (Nat.le_of_ble_eq_true rfl) dX3_init_7 (fun q1 H hP hD hS => ?_)
  have hP : va_P D vwCl [(h0, .inr (3, nwX3)), (q1, .inl (c 0, 11, .inl (fun _ => 0)))] H := hP
  have hD : va_D A [(h0, .inr (3, nwX3)), (q1, .inl (c 0, 11, .inl (fun _ => 0)))] := hD
  refine W.widen (k := 1) (n := 11) (Nat.le_of_ble_eq_true rfl) (Nat.le_of_ble_eq_true rfl) ?_
  refine va_putF (D := D) (ci := 3) (v := .ref q1) (ty := (.array .int)) (C := RX3) (T := TX3) (N := 10) hx hb hts inW_3 tyX3 tyX3_ok nmX3 hown hK hP hD hS 0 rfl rfl 0 (by decide) (hts _ wd_237) (fun _ h9 => h9) rfl hin rfl (by decide +kernel) rfl rfl (Nat.le_of_ble_eq_true rfl) dX3_init_9 (fun H locs hP hD hS => ?_)
  have hP : va_P D vwCl [(h0, .inr (3, [.ref q1, .null, .null, .null, .null, .null, .int 0, .int 0, .int 0, .int 0])), (q1, .inl (c 0, 11, .inl (fun _ => 0)))] H := hP
  have hD : va_D A [(h0, .inr (3, [.ref q1, .null, .null, .null, .null, .null, .int 0, .int 0, .int 0, .int 0])), (q1, .inl (c 0, 11, .inl (fun _ => 0)))] := hD
  refine lv_aload_n hx hb dX3_init_12 rfl (lv_at hl 0 rfl) ?_
  refine lv_iconst (v := 4) hx hb dX3_init_13 (by decide) ?_
  refine kz_newa (c := c) (atype := .int) (a0 := (4, .inl (fun _ => 0))) hx hb 0 rfl (hts _ wd_129) rfl hK hP hD hS hA (fun _ => rfl) (by decide) (by decide) (Nat.le_of_ble_eq_true rfl) (Nat.le_of_ble_eq_true rfl) (Nat.le_of_ble_eq_true rfl) dX3_init_14 (fun q2 H hP hD hS => ?_)
  have hP : va_P D vwCl [(h0, .inr (3, [.ref q1, .null, .null, .null, .null, .null, .int 0, .int 0, .int 0, .int 0])), (q1, .inl (c 0, 11, .inl (fun _ => 0))), (q2, .inl (c 0, 4, .inl (fun _ => 0)))] H := hP
  have hD : va_D A [(h0, .inr (3, [.ref q1, .null, .null, .null, .null, .null, .int 0, .int 0, .int 0, .int 0])), (q1, .inl (c 0, 11, .inl (fun _ => 0))), (q2, .inl (c 0, 4, .inl (fun _ => 0)))] := hD
  refine W.widen (k := 2) (n := 15) (Nat.le_of_ble_eq_true rfl) (Nat.le_of_ble_eq_true rfl) ?_
  refine va_putF (D := D) (ci := 3) (v := .ref q2) (ty := (.array .int)) (C := RX3) (T := TX3) (N := 10) hx hb hts inW_3 tyX3 tyX3_ok nmX3 hown hK hP hD hS 0 rfl rfl 1 (by decide) (hts _ wd_239) (fun _ h9 => h9) rfl hin rfl (by decide +kernel) rfl rfl (Nat.le_of_ble_eq_true rfl) dX3_init_16 (fun H locs hP hD hS => ?_)
  have hP : va_P D vwCl [(h0, .inr (3, [.ref q1, .ref q2, .null, .null, .null, .null, .int 0, .int 0, .int 0, .int 0])), (q1, .inl (c 0, 11, .inl (fun _ => 0))), (q2, .inl (c 0, 4, .inl (fun _ => 0)))] H := hP
  have hD : va_D A [(h0, .inr (3, [.ref q1, .ref q2, .null, .null, .null, .null, .int 0, .int 0, .int 0, .int 0])), (q1, .inl (c 0, 11, .inl (fun _ => 0))), (q2, .inl (c 0, 4, .inl (fun _ => 0)))] := hD
  refine lv_aload_n hx hb dX3_init_19 rfl (lv_at hl 0 rfl) ?_
  refine lv_bipush (v := 28) hx hb dX3_init_20 (by decide) ?_
  refine kz_newa (c := c) (atype := .int) (a0 := (28, .inl (fun _ => 0))) hx hb 0 rfl (hts _ wd_129) rfl hK hP hD hS hA (fun _ => rfl) (by decide) (by decide) (Nat.le_of_ble_eq_true rfl) (Nat.le_of_ble_eq_true rfl) (Nat.le_of_ble_eq_true rfl) dX3_init_22 (fun q3 H hP hD hS => ?_)
  have hP : va_P D vwCl [(h0, .inr (3, [.ref q1, .ref q2, .null, .null, .null, .null, .int 0, .int 0, .int 0, .int 0])), (q1, .inl (c 0, 11, .inl (fun _ => 0))), (q2, .inl (c 0, 4, .inl (fun _ => 0))), (q3, .inl (c 0, 28, .inl (fun _ => 0)))] H := hP
  have hD : va_D A [(h0, .inr (3, [.ref q1, .ref q2, .null, .null, .null, .null, .int 0, .int 0, .int 0, .int 0])), (q1, .inl (c 0, 11, .inl (fun _ => 0))), (q2, .inl (c 0, 4, .inl (fun _ => 0))), (q3, .inl (c 0, 28, .inl (fun _ => 0)))] := hD
  refine W.widen (k := 3) (n := 43) (Nat.le_of_ble_eq_true rfl) (Nat.le_of_ble_eq_true rfl) ?_
  refine va_putF (D := D) (ci := 3) (v := .ref q3) (ty := (.array .int)) (C := RX3) (T := TX3) (N := 10) hx hb hts inW_3 tyX3 tyX3_ok nmX3 hown hK hP hD hS 0 rfl rfl 2 (by decide) (hts _ wd_240) (fun _ h9 => h9) rfl hin rfl (by decide +kernel) rfl rfl (Nat.le_of_ble_eq_true rfl) dX3_init_24 (fun H locs hP hD hS => ?_)
  have hP : va_P D vwCl [(h0, .inr (3, [.ref q1, .ref q2, .ref q3, .null, .null, .null, .int 0, .int 0, .int 0, .int 0])), (q1, .inl (c 0, 11, .inl (fun _ => 0))), (q2, .inl (c 0, 4, .inl (fun _ => 0))), (q3, .inl (c 0, 28, .inl (fun _ => 0)))] H := hP
  have hD : va_D A [(h0, .inr (3, [.ref q1, .ref q2, .ref q3, .null, .null, .null, .int 0, .int 0, .int 0, .int 0])), (q1, .inl (c 0, 11, .inl (fun _ => 0))), (q2, .inl (c 0, 4, .inl (fun _ => 0))), (q3, .inl (c 0, 28, .inl (fun _ => 0)))] := hD
  refine lv_aload_n hx hb dX3_init_27 rfl (lv_at hl 0 rfl) ?_
  refine lv_iconst (v := 4) hx hb dX3_init_28 (by decide) ?_
  refine kz_newa (c := c) (atype := .int) (a0 := (4, .inl (fun _ => 0))) hx hb 0 rfl (hts _ wd_129) rfl hK hP hD hS hA (fun _ => rfl) (by decide) (by decide) (Nat.le_of_ble_eq_true rfl) (Nat.le_of_ble_eq_true rfl) (Nat.le_of_ble_eq_true rfl) dX3_init_29 (fun q4 H hP hD hS => ?_)
  have hP : va_P D vwCl [(h0, .inr (3, [.ref q1, .ref q2, .ref q3, .null, .null, .null, .int 0, .int 0, .int 0, .int 0])), (q1, .inl (c 0, 11, .inl (fun _ => 0))), (q2, .inl (c 0, 4, .inl (fun _ => 0))), (q3, .inl (c 0, 28, .inl (fun _ => 0))), (q4, .inl (c 0, 4, .inl (fun _ => 0)))] H := hP
  have hD : va_D A [(h0, .inr (3, [.ref q1, .ref q2, .ref q3, .null, .null, .null, .int 0, .int 0, .int 0, .int 0])), (q1, .inl (c 0, 11, .inl (fun _ => 0))), (q2, .inl (c 0, 4, .inl (fun _ => 0))), (q3, .inl (c 0, 28, .inl (fun _ => 0))), (q4, .inl (c 0, 4, .inl (fun _ => 0)))] := hD
  refine W.widen (k := 4) (n := 47) (Nat.le_of_ble_eq_true rfl) (Nat.le_of_ble_eq_true rfl) ?_
  refine va_putF (D := D) (ci := 3) (v := .ref q4) (ty := (.array .int)) (C := RX3) (T := TX3) (N := 10) hx hb hts inW_3 tyX3 tyX3_ok nmX3 hown hK hP hD hS 0 rfl rfl 3 (by decide) (hts _ wd_241) (fun _ h9 => h9) rfl hin rfl (by decide +kernel) rfl rfl (Nat.le_of_ble_eq_true rfl) dX3_init_31 (fun H locs hP hD hS => ?_)
  have hP : va_P D vwCl [(h0, .inr (3, [.ref q1, .ref q2, .ref q3, .ref q4, .null, .null, .int 0, .int 0, .int 0, .int 0])), (q1, .inl (c 0, 11, .inl (fun _ => 0))), (q2, .inl (c 0, 4, .inl (fun _ => 0))), (q3, .inl (c 0, 28, .inl (fun _ => 0))), (q4, .inl (c 0, 4, .inl (fun _ => 0)))] H := hP
  have hD : va_D A [(h0, .inr (3, [.ref q1, .ref q2, .ref q3, .ref q4, .null, .null, .int 0, .int 0, .int 0, .int 0])), (q1, .inl (c 0, 11, .inl (fun _ => 0))), (q2, .inl (c 0, 4, .inl (fun _ => 0))), (q3, .inl (c 0, 28, .inl (fun _ => 0))), (q4, .inl (c 0, 4, .inl (fun _ => 0)))] := hD
  refine lv_aload_n hx hb dX3_init_34 rfl (lv_at hl 0 rfl) ?_
  refine lv_iconst (v := 4) hx hb dX3_init_35 (by decide) ?_
  refine kz_newa (c := c) (atype := .int) (a0 := (4, .inl (fun _ => 0))) hx hb 0 rfl (hts _ wd_129) rfl hK hP hD hS hA (fun _ => rfl) (by decide) (by decide) (Nat.le_of_ble_eq_true rfl) (Nat.le_of_ble_eq_true rfl) (Nat.le_of_ble_eq_true rfl) dX3_init_36 (fun q5 H hP hD hS => ?_)
  have hP : va_P D vwCl [(h0, .inr (3, [.ref q1, .ref q2, .ref q3, .ref q4, .null, .null, .int 0, .int 0, .int 0, .int 0])), (q1, .inl (c 0, 11, .inl (fun _ => 0))), (q2, .inl (c 0, 4, .inl (fun _ => 0))), (q3, .inl (c 0, 28, .inl (fun _ => 0))), (q4, .inl (c 0, 4, .inl (fun _ => 0))), (q5, .inl (c 0, 4, .inl (fun _ => 0)))] H := hP
  have hD : va_D A [(h0, .inr (3, [.ref q1, .ref q2, .ref q3, .ref q4, .null, .null, .int 0, .int 0, .int 0, .int 0])), (q1, .inl (c 0, 11, .inl (fun _ => 0))), (q2, .inl (c 0, 4, .inl (fun _ => 0))), (q3, .inl (c 0, 28, .inl (fun _ => 0))), (q4, .inl (c 0, 4, .inl (fun _ => 0))), (q5, .inl (c 0, 4, .inl (fun _ => 0)))] := hD
  refine W.widen (k := 5) (n := 51) (Nat.le_of_ble_eq_true rfl) (Nat.le_of_ble_eq_true rfl) ?_
  refine va_putF (D := D) (ci := 3) (v := .ref q5) (ty := (.array .int)) (C := RX3) (T := TX3) (N := 10) hx hb hts inW_3 tyX3 tyX3_ok nmX3 hown hK hP hD hS 0 rfl rfl 4 (by decide) (hts _ wd_242) (fun _ h9 => h9) rfl hin rfl (by decide +kernel) rfl rfl (Nat.le_of_ble_eq_true rfl) dX3_init_38 (fun H locs hP hD hS => ?_)
  have hP : va_P D vwCl [(h0, .inr (3, [.ref q1, .ref q2, .ref q3, .ref q4, .ref q5, .null, .int 0, .int 0, .int 0, .int 0])), (q1, .inl (c 0, 11, .inl (fun _ => 0))), (q2, .inl (c 0, 4, .inl (fun _ => 0))), (q3, .inl (c 0, 28, .inl (fun _ => 0))), (q4, .inl (c 0, 4, .inl (fun _ => 0))), (q5, .inl (c 0, 4, .inl (fun _ => 0)))] H := hP
  have hD : va_D A [(h0, .inr (3, [.ref q1, .ref q2, .ref q3, .ref q4, .ref q5, .null, .int 0, .int 0, .int 0, .int 0])), (q1, .inl (c 0, 11, .inl (fun _ => 0))), (q2, .inl (c 0, 4, .inl (fun _ => 0))), (q3, .inl (c 0, 28, .inl (fun _ => 0))), (q4, .inl (c 0, 4, .inl (fun _ => 0))), (q5, .inl (c 0, 4, .inl (fun _ => 0)))] := hD
  refine lv_aload_n hx hb dX3_init_41 rfl (lv_at hl 0 rfl) ?_
  refine lv_bipush (v := 7) hx hb dX3_init_42 (by decide) ?_
  refine kz_newa (c := c) (atype := .int) (a0 := (7, .inl (fun _ => 0))) hx hb 0 rfl (hts _ wd_129) rfl hK hP hD hS hA (fun _ => rfl) (by decide) (by decide) (Nat.le_of_ble_eq_true rfl) (Nat.le_of_ble_eq_true rfl) (Nat.le_of_ble_eq_true rfl) dX3_init_44 (fun q6 H hP hD hS => ?_)
  have hP : va_P D vwCl [(h0, .inr (3, [.ref q1, .ref q2, .ref q3, .ref q4, .ref q5, .null, .int 0, .int 0, .int 0, .int 0])), (q1, .inl (c 0, 11, .inl (fun _ => 0))), (q2, .inl (c 0, 4, .inl (fun _ => 0))), (q3, .inl (c 0, 28, .inl (fun _ => 0))), (q4, .inl (c 0, 4, .inl (fun _ => 0))), (q5, .inl (c 0, 4, .inl (fun _ => 0))), (q6, .inl (c 0, 7, .inl (fun _ => 0)))] H := hP
  have hD : va_D A [(h0, .inr (3, [.ref q1, .ref q2, .ref q3, .ref q4, .ref q5, .null, .int 0, .int 0, .int 0, .int 0])), (q1, .inl (c 0, 11, .inl (fun _ => 0))), (q2, .inl (c 0, 4, .inl (fun _ => 0))), (q3, .inl (c 0, 28, .inl (fun _ => 0))), (q4, .inl (c 0, 4, .inl (fun _ => 0))), (q5, .inl (c 0, 4, .inl (fun _ => 0))), (q6, .inl (c 0, 7, .inl (fun _ => 0)))] := hD
  refine W.widen (k := 6) (n := 58) (Nat.le_of_ble_eq_true rfl) (Nat.le_of_ble_eq_true rfl) ?_
  refine va_putF (D := D) (ci := 3) (v := .ref q6) (ty := (.array .int)) (C := RX3) (T := TX3) (N := 10) hx hb hts inW_3 tyX3 tyX3_ok nmX3 hown hK hP hD hS 0 rfl rfl 5 (by decide) (hts _ wd_243) (fun _ h9 => h9) rfl hin rfl (by decide +kernel) rfl rfl (Nat.le_of_ble_eq_true rfl) dX3_init_46 (fun H locs hP hD hS => ?_)
  have hP : va_P D vwCl [(h0, .inr (3, [.ref q1, .ref q2, .ref q3, .ref q4, .ref q5, .ref q6, .int 0, .int 0, .int 0, .int 0])), (q1, .inl (c 0, 11, .inl (fun _ => 0))), (q2, .inl (c 0, 4, .inl (fun _ => 0))), (q3, .inl (c 0, 28, .inl (fun _ => 0))), (q4, .inl (c 0, 4, .inl (fun _ => 0))), (q5, .inl (c 0, 4, .inl (fun _ => 0))), (q6, .inl (c 0, 7, .inl (fun _ => 0)))] H := hP
  have hD : va_D A [(h0, .inr (3, [.ref q1, .ref q2, .ref q3, .ref q4, .ref q5, .ref q6, .int 0, .int 0, .int 0, .int 0])), (q1, .inl (c 0, 11, .inl (fun _ => 0))), (q2, .inl (c 0, 4, .inl (fun _ => 0))), (q3, .inl (c 0, 28, .inl (fun _ => 0))), (q4, .inl (c 0, 4, .inl (fun _ => 0))), (q5, .inl (c 0, 4, .inl (fun _ => 0))), (q6, .inl (c 0, 7, .inl (fun _ => 0)))] := hD
  refine lv_aload_n hx hb dX3_init_49 rfl (lv_at hl 0 rfl) ?_
  refine va_get (D := D) (ci := 3) (v := .ref q1) (C := RX3) (T := TX3) (N := 10) hx hb hts inW_3 hown hK hP 0 rfl rfl 0 (by decide) (hts _ wd_237) (fun _ h9 => h9) rfl dX3_init_50 ?_
  refine lv_iconst (v := (-1)) hx hb dX3_init_53 (by decide) ?_
  have hPc := hP.sub (ws' := [(q1, .inl (c 0, 11, .inl ((fun _ => 0))))]) [1] rfl
  have hDc := hD.sub (ws' := [(q1, .inl (c 0, 11, .inl ((fun _ => 0))))]) [1] (by decide) rfl
  refine cl_v (wr := [(h0, .inr (3, [.ref q1, .ref q2, .ref q3, .ref q4, .ref q5, .ref q6, .int 0, .int 0, .int 0, .int 0])), (q2, .inl (c 0, 4, .inl (fun _ => 0))), (q3, .inl (c 0, 28, .inl (fun _ => 0))), (q4, .inl (c 0, 4, .inl (fun _ => 0))), (q5, .inl (c 0, 4, .inl (fun _ => 0))), (q6, .inl (c 0, 7, .inl (fun _ => 0)))]) (va_runS (As := [.ref q1, .int (-1)]) (rest := []) ⟨hx, hb, hml, hown, hts⟩ (c_J7_fill_53178 l D c H.size q1 ((fun _ => 0)) ((-1))) (kw_S 2 hts wd_234 wd_235 wd_89 wd_236 rfl rfl (by decide +kernel) ⟨Nat.le_of_ble_eq_true rfl, Nat.le_of_ble_eq_true rfl⟩) (pre_S hPc hK hDc hN hO) rfl rfl hl.1 rfl (lv_room (Nat.le_of_ble_eq_true rfl)) dX3_init_54 ⟨Nat.le_of_ble_eq_true rfl, Nat.le_of_ble_eq_true rfl⟩) hP hD hS hA [1] [0, 2, 3, 4, 5, 6] rfl rfl (by decide) (by decide) (fun u8 H locs h9 hP hD hS => ?_)
  have hP : va_P D vwCl [(h0, .inr (3, [.ref q1, .ref q2, .ref q3, .ref q4, .ref q5, .ref q6, .int 0, .int 0, .int 0, .int 0])), (q2, .inl (c 0, 4, .inl (fun _ => 0))), (q3, .inl (c 0, 28, .inl (fun _ => 0))), (q4, .inl (c 0, 4, .inl (fun _ => 0))), (q5, .inl (c 0, 4, .inl (fun _ => 0))), (q6, .inl (c 0, 7, .inl (fun _ => 0))), (q1, .inl (c 0, 11, .inl (u8)))] H := hP
  have hD : va_D A [(h0, .inr (3, [.ref q1, .ref q2, .ref q3, .ref q4, .ref q5, .ref q6, .int 0, .int 0, .int 0, .int 0])), (q2, .inl (c 0, 4, .inl (fun _ => 0))), (q3, .inl (c 0, 28, .inl (fun _ => 0))), (q4, .inl (c 0, 4, .inl (fun _ => 0))), (q5, .inl (c 0, 4, .inl (fun _ => 0))), (q6, .inl (c 0, 7, .inl (fun _ => 0))), (q1, .inl (c 0, 11, .inl (u8)))] := hD
  exact rt_v hx hb hr hlocks hK hP hD hS dX3_init_57 () [] rfl rfl trivial
set_option maxHeartbeats 4000000 in
set_option maxRecDepth 100000 in
/-- X9_init -/
theorem c_X9_init (l : Launch) (D : va_G) (c : Nat → ClassId) (sz : Nat) (h0 : Nat) : Met l yX9_init (.code yX9_init cX9_init 1 none :: Wd) ({ frames := 1, cells := 0, slots := 0, locals := 32 }) (va_Pc [.ref h0] (WB D c [(h0, .inr (9, nwX9))] sz)) (QV (S := Unit) D c (fun _ => True) (fun _ => [(h0, .inr (9, nwX9))]) (va_A [(h0, .inr (9, nwX9))] sz)) 0 0 (va_A [(h0, .inr (9, nwX9))] sz) := by
  refine kz_met (Qc := QV (S := Unit) D c (fun _ => True) (fun _ => [(h0, .inr (9, nwX9))])) (by decide) (Nat.le_of_ble_eq_true rfl) ?_
  intro p e s m below meth cd A ls H locs hx hb hr hml hts hown hlocks hin hN hO hK hP hD hS hA hl
  have hl : lv_has ls 1 [(0, .ref h0)] := hl
  have hown : s.vm.findClass RX9 = some m.cls := hown
  refine lv_aload_n hx hb dX9_init_0 rfl (lv_at hl 0 rfl) ?_
  refine W.objInit hx hb hown (hts _ wd_472) (hts _ wd_110) (hts _ wd_111) rfl (by rw [hml]; exact hl.1) rfl dX9_init_1 (Nat.le_of_ble_eq_true rfl) (Nat.le_of_ble_eq_true rfl) ?_
  refine W.eq (g2 := F0 m 4 ls []) rfl ?_
  exact rt_v hx hb hr hlocks hK hP hD hS dX9_init_4 () [0] rfl rfl trivial
set_option maxHeartbeats 4000000 in
set_option maxRecDepth 100000 in
/-- X1_init -/
theorem c_X1_init (l : Launch) (D : va_G) (c : Nat → ClassId) (sz : Nat) (h0 : Nat) (area : Int32) : Met l yX1_init (.code yX1_init cX1_init 2 none :: Wd) ({ frames := 1, cells := 7, slots := 148, locals := 32 }) (va_Pc [.ref h0, .int area] (WB D c [(h0, .inr (1, nwX1))] sz)) (QV (S := Unit) D c (fun _ => True) (fun _ => []) (va_A [(h0, .inr (1, nwX1))] sz)) 7 148 (va_A [(h0, .inr (1, nwX1))] sz) := by
  refine kz_met (Qc := QV (S := Unit) D c (fun _ => True) (fun _ => [])) (by decide) (Nat.le_of_ble_eq_true rfl) ?_
  intro p e s m below meth cd A ls H locs hx hb hr hml hts hown hlocks hin hN hO hK hP hD hS hA hl
  have hl : lv_has ls 2 [(0, .ref h0), (1, .int area)] := hl
  have hown : s.vm.findClass RX1 = some m.cls := hown
  refine lv_aload_n hx hb dX1_init_0 rfl (lv_at hl 0 rfl) ?_
  refine W.objInit hx hb hown (hts _ wd_496) (hts _ wd_110) (hts _ wd_111) rfl (by rw [hml]; exact hl.1) rfl dX1_init_1 (Nat.le_of_ble_eq_true rfl) (Nat.le_of_ble_eq_true rfl) ?_
  refine W.eq (g2 := F0 m 4 ls []) rfl ?_
  refine lv_aload_n hx hb dX1_init_4 rfl (lv_at hl 0 rfl) ?_
  refine lv_bipush (v := 20) hx hb dX1_init_5 (by decide) ?_
  refine kz_newa (c := c) (atype := .int) (a0 := (20, .inl (fun _ => 0))) hx hb 0 rfl (hts _ wd_129) rfl hK hP hD hS hA (fun _ => rfl) (by decide) (by decide) (Nat.le_of_ble_eq_true rfl) (Nat.le_of_ble_eq_true rfl) (Nat.le_of_ble_eq_true rfl) dX1_init_7 (fun q1 H hP hD hS => ?_)
  have hP : va_P D vwCl [(h0, .inr (1, nwX1)), (q1, .inl (c 0, 20, .inl (fun _ => 0)))] H := hP
  have hD : va_D A [(h0, .inr (1, nwX1)), (q1, .inl (c 0, 20, .inl (fun _ => 0)))] := hD
  refine W.widen (k := 1) (n := 20) (Nat.le_of_ble_eq_true rfl) (Nat.le_of_ble_eq_true rfl) ?_
  refine va_putF (D := D) (ci := 1) (v := .ref q1) (ty := (.array .int)) (C := RX1) (T := TX1) (N := 11) hx hb hts inW_1 tyX1 tyX1_ok nmX1 hown hK hP hD hS 0 rfl rfl 1 (by decide) (hts _ wd_498) (fun _ h9 => h9) rfl hin rfl (by decide +kernel) rfl rfl (Nat.le_of_ble_eq_true rfl) dX1_init_9 (fun H locs hP hD hS => ?_)
  have hP : va_P D vwCl [(h0, .inr (1, [.int 0, .ref q1, .null, .null, .null, .null, .null, .null, .int 0, .int 0, .int 0])), (q1, .inl (c 0, 20, .inl (fun _ => 0)))] H := hP
  have hD : va_D A [(h0, .inr (1, [.int 0, .ref q1, .null, .null, .null, .null, .null, .null, .int 0, .int 0, .int 0])), (q1, .inl (c 0, 20, .inl (fun _ => 0)))] := hD
  refine lv_aload_n hx hb dX1_init_12 rfl (lv_at hl 0 rfl) ?_
  refine lv_bipush (v := 20) hx hb dX1_init_13 (by decide) ?_
  refine kz_newa (c := c) (atype := .int) (a0 := (20, .inl (fun _ => 0))) hx hb 0 rfl (hts _ wd_129) rfl hK hP hD hS hA (fun _ => rfl) (by decide) (by decide) (Nat.le_of_ble_eq_true rfl) (Nat.le_of_ble_eq_true rfl) (Nat.le_of_ble_eq_true rfl) dX1_init_15 (fun q2 H hP hD hS => ?_)
  have hP : va_P D vwCl [(h0, .inr (1, [.int 0, .ref q1, .null, .null, .null, .null, .null, .null, .int 0, .int 0, .int 0])), (q1, .inl (c 0, 20, .inl (fun _ => 0))), (q2, .inl (c 0, 20, .inl (fun _ => 0)))] H := hP
  have hD : va_D A [(h0, .inr (1, [.int 0, .ref q1, .null, .null, .null, .null, .null, .null, .int 0, .int 0, .int 0])), (q1, .inl (c 0, 20, .inl (fun _ => 0))), (q2, .inl (c 0, 20, .inl (fun _ => 0)))] := hD
  refine W.widen (k := 2) (n := 40) (Nat.le_of_ble_eq_true rfl) (Nat.le_of_ble_eq_true rfl) ?_
  refine va_putF (D := D) (ci := 1) (v := .ref q2) (ty := (.array .int)) (C := RX1) (T := TX1) (N := 11) hx hb hts inW_1 tyX1 tyX1_ok nmX1 hown hK hP hD hS 0 rfl rfl 2 (by decide) (hts _ wd_499) (fun _ h9 => h9) rfl hin rfl (by decide +kernel) rfl rfl (Nat.le_of_ble_eq_true rfl) dX1_init_17 (fun H locs hP hD hS => ?_)
  have hP : va_P D vwCl [(h0, .inr (1, [.int 0, .ref q1, .ref q2, .null, .null, .null, .null, .null, .int 0, .int 0, .int 0])), (q1, .inl (c 0, 20, .inl (fun _ => 0))), (q2, .inl (c 0, 20, .inl (fun _ => 0)))] H := hP
  have hD : va_D A [(h0, .inr (1, [.int 0, .ref q1, .ref q2, .null, .null, .null, .null, .null, .int 0, .int 0, .int 0])), (q1, .inl (c 0, 20, .inl (fun _ => 0))), (q2, .inl (c 0, 20, .inl (fun _ => 0)))] := hD
  refine lv_aload_n hx hb dX1_init_20 rfl (lv_at hl 0 rfl) ?_
  refine lv_bipush (v := 20) hx hb dX1_init_21 (by decide) ?_
  refine kz_newa (c := c) (atype := .int) (a0 := (20, .inl (fun _ => 0))) hx hb 0 rfl (hts _ wd_129) rfl hK hP hD hS hA (fun _ => rfl) (by decide) (by decide) (Nat.le_of_ble_eq_true rfl) (Nat.le_of_ble_eq_true rfl) (Nat.le_of_ble_eq_true rfl) dX1_init_23 (fun q3 H hP hD hS => ?_)
  have hP : va_P D vwCl [(h0, .inr (1, [.int 0, .ref q1, .ref q2, .null, .null, .null, .null, .null, .int 0, .int 0, .int 0])), (q1, .inl (c 0, 20, .inl (fun _ => 0))), (q2, .inl (c 0, 20, .inl (fun _ => 0))), (q3, .inl (c 0, 20, .inl (fun _ => 0)))] H := hP
  have hD : va_D A [(h0, .inr (1, [.int 0, .ref q1, .ref q2, .null, .null, .null, .null, .null, .int 0, .int 0, .int 0])), (q1, .inl (c 0, 20, .inl (fun _ => 0))), (q2, .inl (c 0, 20, .inl (fun _ => 0))), (q3, .inl (c 0, 20, .inl (fun _ => 0)))] := hD
  refine W.widen (k := 3) (n := 60) (Nat.le_of_ble_eq_true rfl) (Nat.le_of_ble_eq_true rfl) ?_
  refine va_putF (D := D) (ci := 1) (v := .ref q3) (ty := (.array .int)) (C := RX1) (T := TX1) (N := 11) hx hb hts inW_1 tyX1 tyX1_ok nmX1 hown hK hP hD hS 0 rfl rfl 3 (by decide) (hts _ wd_500) (fun _ h9 => h9) rfl hin rfl (by decide +kernel) rfl rfl (Nat.le_of_ble_eq_true rfl) dX1_init_25 (fun H locs hP hD hS => ?_)
  have hP : va_P D vwCl [(h0, .inr (1, [.int 0, .ref q1, .ref q2, .ref q3, .null, .null, .null, .null, .int 0, .int 0, .int 0])), (q1, .inl (c 0, 20, .inl (fun _ => 0))), (q2, .inl (c 0, 20, .inl (fun _ => 0))), (q3, .inl (c 0, 20, .inl (fun _ => 0)))] H := hP
  have hD : va_D A [(h0, .inr (1, [.int 0, .ref q1, .ref q2, .ref q3, .null, .null, .null, .null, .int 0, .int 0, .int 0])), (q1, .inl (c 0, 20, .inl (fun _ => 0))), (q2, .inl (c 0, 20, .inl (fun _ => 0))), (q3, .inl (c 0, 20, .inl (fun _ => 0)))] := hD
  refine lv_aload_n hx hb dX1_init_28 rfl (lv_at hl 0 rfl) ?_
  refine lv_bipush (v := 8) hx hb dX1_init_29 (by decide) ?_
  refine kz_newa (c := c) (atype := .int) (a0 := (8, .inl (fun _ => 0))) hx hb 0 rfl (hts _ wd_129) rfl hK hP hD hS hA (fun _ => rfl) (by decide) (by decide) (Nat.le_of_ble_eq_true rfl) (Nat.le_of_ble_eq_true rfl) (Nat.le_of_ble_eq_true rfl) dX1_init_31 (fun q4 H hP hD hS => ?_)
  have hP : va_P D vwCl [(h0, .inr (1, [.int 0, .ref q1, .ref q2, .ref q3, .null, .null, .null, .null, .int 0, .int 0, .int 0])), (q1, .inl (c 0, 20, .inl (fun _ => 0))), (q2, .inl (c 0, 20, .inl (fun _ => 0))), (q3, .inl (c 0, 20, .inl (fun _ => 0))), (q4, .inl (c 0, 8, .inl (fun _ => 0)))] H := hP
  have hD : va_D A [(h0, .inr (1, [.int 0, .ref q1, .ref q2, .ref q3, .null, .null, .null, .null, .int 0, .int 0, .int 0])), (q1, .inl (c 0, 20, .inl (fun _ => 0))), (q2, .inl (c 0, 20, .inl (fun _ => 0))), (q3, .inl (c 0, 20, .inl (fun _ => 0))), (q4, .inl (c 0, 8, .inl (fun _ => 0)))] := hD
  refine W.widen (k := 4) (n := 68) (Nat.le_of_ble_eq_true rfl) (Nat.le_of_ble_eq_true rfl) ?_
  refine va_putF (D := D) (ci := 1) (v := .ref q4) (ty := (.array .int)) (C := RX1) (T := TX1) (N := 11) hx hb hts inW_1 tyX1 tyX1_ok nmX1 hown hK hP hD hS 0 rfl rfl 4 (by decide) (hts _ wd_501) (fun _ h9 => h9) rfl hin rfl (by decide +kernel) rfl rfl (Nat.le_of_ble_eq_true rfl) dX1_init_33 (fun H locs hP hD hS => ?_)
  have hP : va_P D vwCl [(h0, .inr (1, [.int 0, .ref q1, .ref q2, .ref q3, .ref q4, .null, .null, .null, .int 0, .int 0, .int 0])), (q1, .inl (c 0, 20, .inl (fun _ => 0))), (q2, .inl (c 0, 20, .inl (fun _ => 0))), (q3, .inl (c 0, 20, .inl (fun _ => 0))), (q4, .inl (c 0, 8, .inl (fun _ => 0)))] H := hP
  have hD : va_D A [(h0, .inr (1, [.int 0, .ref q1, .ref q2, .ref q3, .ref q4, .null, .null, .null, .int 0, .int 0, .int 0])), (q1, .inl (c 0, 20, .inl (fun _ => 0))), (q2, .inl (c 0, 20, .inl (fun _ => 0))), (q3, .inl (c 0, 20, .inl (fun _ => 0))), (q4, .inl (c 0, 8, .inl (fun _ => 0)))] := hD
  refine lv_aload_n hx hb dX1_init_36 rfl (lv_at hl 0 rfl) ?_
  refine lv_bipush (v := 8) hx hb dX1_init_37 (by decide) ?_
  refine kz_newa (c := c) (atype := .int) (a0 := (8, .inl (fun _ => 0))) hx hb 0 rfl (hts _ wd_129) rfl hK hP hD hS hA (fun _ => rfl) (by decide) (by decide) (Nat.le_of_ble_eq_true rfl) (Nat.le_of_ble_eq_true rfl) (Nat.le_of_ble_eq_true rfl) dX1_init_39 (fun q5 H hP hD hS => ?_)
  have hP : va_P D vwCl [(h0, .inr (1, [.int 0, .ref q1, .ref q2, .ref q3, .ref q4, .null, .null, .null, .int 0, .int 0, .int 0])), (q1, .inl (c 0, 20, .inl (fun _ => 0))), (q2, .inl (c 0, 20, .inl (fun _ => 0))), (q3, .inl (c 0, 20, .inl (fun _ => 0))), (q4, .inl (c 0, 8, .inl (fun _ => 0))), (q5, .inl (c 0, 8, .inl (fun _ => 0)))] H := hP
  have hD : va_D A [(h0, .inr (1, [.int 0, .ref q1, .ref q2, .ref q3, .ref q4, .null, .null, .null, .int 0, .int 0, .int 0])), (q1, .inl (c 0, 20, .inl (fun _ => 0))), (q2, .inl (c 0, 20, .inl (fun _ => 0))), (q3, .inl (c 0, 20, .inl (fun _ => 0))), (q4, .inl (c 0, 8, .inl (fun _ => 0))), (q5, .inl (c 0, 8, .inl (fun _ => 0)))] := hD
  refine W.widen (k := 5) (n := 76) (Nat.le_of_ble_eq_true rfl) (Nat.le_of_ble_eq_true rfl) ?_
  refine va_putF (D := D) (ci := 1) (v := .ref q5) (ty := (.array .int)) (C := RX1) (T := TX1) (N := 11) hx hb hts inW_1 tyX1 tyX1_ok nmX1 hown hK hP hD hS 0 rfl rfl 5 (by decide) (hts _ wd_502) (fun _ h9 => h9) rfl hin rfl (by decide +kernel) rfl rfl (Nat.le_of_ble_eq_true rfl) dX1_init_41 (fun H locs hP hD hS => ?_)
  have hP : va_P D vwCl [(h0, .inr (1, [.int 0, .ref q1, .ref q2, .ref q3, .ref q4, .ref q5, .null, .null, .int 0, .int 0, .int 0])), (q1, .inl (c 0, 20, .inl (fun _ => 0))), (q2, .inl (c 0, 20, .inl (fun _ => 0))), (q3, .inl (c 0, 20, .inl (fun _ => 0))), (q4, .inl (c 0, 8, .inl (fun _ => 0))), (q5, .inl (c 0, 8, .inl (fun _ => 0)))] H := hP
  have hD : va_D A [(h0, .inr (1, [.int 0, .ref q1, .ref q2, .ref q3, .ref q4, .ref q5, .null, .null, .int 0, .int 0, .int 0])), (q1, .inl (c 0, 20, .inl (fun _ => 0))), (q2, .inl (c 0, 20, .inl (fun _ => 0))), (q3, .inl (c 0, 20, .inl (fun _ => 0))), (q4, .inl (c 0, 8, .inl (fun _ => 0))), (q5, .inl (c 0, 8, .inl (fun _ => 0)))] := hD
  refine lv_aload_n hx hb dX1_init_44 rfl (lv_at hl 0 rfl) ?_
  refine lv_bipush (v := 36) hx hb dX1_init_45 (by decide) ?_
  refine kz_newa (c := c) (atype := .int) (a0 := (36, .inl (fun _ => 0))) hx hb 0 rfl (hts _ wd_129) rfl hK hP hD hS hA (fun _ => rfl) (by decide) (by decide) (Nat.le_of_ble_eq_true rfl) (Nat.le_of_ble_eq_true rfl) (Nat.le_of_ble_eq_true rfl) dX1_init_47 (fun q6 H hP hD hS => ?_)
  have hP : va_P D vwCl [(h0, .inr (1, [.int 0, .ref q1, .ref q2, .ref q3, .ref q4, .ref q5, .null, .null, .int 0, .int 0, .int 0])), (q1, .inl (c 0, 20, .inl (fun _ => 0))), (q2, .inl (c 0, 20, .inl (fun _ => 0))), (q3, .inl (c 0, 20, .inl (fun _ => 0))), (q4, .inl (c 0, 8, .inl (fun _ => 0))), (q5, .inl (c 0, 8, .inl (fun _ => 0))), (q6, .inl (c 0, 36, .inl (fun _ => 0)))] H := hP
  have hD : va_D A [(h0, .inr (1, [.int 0, .ref q1, .ref q2, .ref q3, .ref q4, .ref q5, .null, .null, .int 0, .int 0, .int 0])), (q1, .inl (c 0, 20, .inl (fun _ => 0))), (q2, .inl (c 0, 20, .inl (fun _ => 0))), (q3, .inl (c 0, 20, .inl (fun _ => 0))), (q4, .inl (c 0, 8, .inl (fun _ => 0))), (q5, .inl (c 0, 8, .inl (fun _ => 0))), (q6, .inl (c 0, 36, .inl (fun _ => 0)))] := hD
  refine W.widen (k := 6) (n := 112) (Nat.le_of_ble_eq_true rfl) (Nat.le_of_ble_eq_true rfl) ?_
  refine va_putF (D := D) (ci := 1) (v := .ref q6) (ty := (.array .int)) (C := RX1) (T := TX1) (N := 11) hx hb hts inW_1 tyX1 tyX1_ok nmX1 hown hK hP hD hS 0 rfl rfl 6 (by decide) (hts _ wd_503) (fun _ h9 => h9) rfl hin rfl (by decide +kernel) rfl rfl (Nat.le_of_ble_eq_true rfl) dX1_init_49 (fun H locs hP hD hS => ?_)
  have hP : va_P D vwCl [(h0, .inr (1, [.int 0, .ref q1, .ref q2, .ref q3, .ref q4, .ref q5, .ref q6, .null, .int 0, .int 0, .int 0])), (q1, .inl (c 0, 20, .inl (fun _ => 0))), (q2, .inl (c 0, 20, .inl (fun _ => 0))), (q3, .inl (c 0, 20, .inl (fun _ => 0))), (q4, .inl (c 0, 8, .inl (fun _ => 0))), (q5, .inl (c 0, 8, .inl (fun _ => 0))), (q6, .inl (c 0, 36, .inl (fun _ => 0)))] H := hP
  have hD : va_D A [(h0, .inr (1, [.int 0, .ref q1, .ref q2, .ref q3, .ref q4, .ref q5, .ref q6, .null, .int 0, .int 0, .int 0])), (q1, .inl (c 0, 20, .inl (fun _ => 0))), (q2, .inl (c 0, 20, .inl (fun _ => 0))), (q3, .inl (c 0, 20, .inl (fun _ => 0))), (q4, .inl (c 0, 8, .inl (fun _ => 0))), (q5, .inl (c 0, 8, .inl (fun _ => 0))), (q6, .inl (c 0, 36, .inl (fun _ => 0)))] := hD
  refine lv_aload_n hx hb dX1_init_52 rfl (lv_at hl 0 rfl) ?_
  refine lv_bipush (v := 36) hx hb dX1_init_53 (by decide) ?_
  refine kz_newa (c := c) (atype := .int) (a0 := (36, .inl (fun _ => 0))) hx hb 0 rfl (hts _ wd_129) rfl hK hP hD hS hA (fun _ => rfl) (by decide) (by decide) (Nat.le_of_ble_eq_true rfl) (Nat.le_of_ble_eq_true rfl) (Nat.le_of_ble_eq_true rfl) dX1_init_55 (fun q7 H hP hD hS => ?_)
  have hP : va_P D vwCl [(h0, .inr (1, [.int 0, .ref q1, .ref q2, .ref q3, .ref q4, .ref q5, .ref q6, .null, .int 0, .int 0, .int 0])), (q1, .inl (c 0, 20, .inl (fun _ => 0))), (q2, .inl (c 0, 20, .inl (fun _ => 0))), (q3, .inl (c 0, 20, .inl (fun _ => 0))), (q4, .inl (c 0, 8, .inl (fun _ => 0))), (q5, .inl (c 0, 8, .inl (fun _ => 0))), (q6, .inl (c 0, 36, .inl (fun _ => 0))), (q7, .inl (c 0, 36, .inl (fun _ => 0)))] H := hP
  have hD : va_D A [(h0, .inr (1, [.int 0, .ref q1, .ref q2, .ref q3, .ref q4, .ref q5, .ref q6, .null, .int 0, .int 0, .int 0])), (q1, .inl (c 0, 20, .inl (fun _ => 0))), (q2, .inl (c 0, 20, .inl (fun _ => 0))), (q3, .inl (c 0, 20, .inl (fun _ => 0))), (q4, .inl (c 0, 8, .inl (fun _ => 0))), (q5, .inl (c 0, 8, .inl (fun _ => 0))), (q6, .inl (c 0, 36, .inl (fun _ => 0))), (q7, .inl (c 0, 36, .inl (fun _ => 0)))] := hD
  refine W.widen (k := 7) (n := 148) (Nat.le_of_ble_eq_true rfl) (Nat.le_of_ble_eq_true rfl) ?_
  refine va_putF (D := D) (ci := 1) (v := .ref q7) (ty := (.array .int)) (C := RX1) (T := TX1) (N := 11) hx hb hts inW_1 tyX1 tyX1_ok nmX1 hown hK hP hD hS 0 rfl rfl 7 (by decide) (hts _ wd_504) (fun _ h9 => h9) rfl hin rfl (by decide +kernel) rfl rfl (Nat.le_of_ble_eq_true rfl) dX1_init_57 (fun H locs hP hD hS => ?_)
  have hP : va_P D vwCl [(h0, .inr (1, [.int 0, .ref q1, .ref q2, .ref q3, .ref q4, .ref q5, .ref q6, .ref q7, .int 0, .int 0, .int 0])), (q1, .inl (c 0, 20, .inl (fun _ => 0))), (q2, .inl (c 0, 20, .inl (fun _ => 0))), (q3, .inl (c 0, 20, .inl (fun _ => 0))), (q4, .inl (c 0, 8, .inl (fun _ => 0))), (q5, .inl (c 0, 8, .inl (fun _ => 0))), (q6, .inl (c 0, 36, .inl (fun _ => 0))), (q7, .inl (c 0, 36, .inl (fun _ => 0)))] H := hP
  have hD : va_D A [(h0, .inr (1, [.int 0, .ref q1, .ref q2, .ref q3, .ref q4, .ref q5, .ref q6, .ref q7, .int 0, .int 0, .int 0])), (q1, .inl (c 0, 20, .inl (fun _ => 0))), (q2, .inl (c 0, 20, .inl (fun _ => 0))), (q3, .inl (c 0, 20, .inl (fun _ => 0))), (q4, .inl (c 0, 8, .inl (fun _ => 0))), (q5, .inl (c 0, 8, .inl (fun _ => 0))), (q6, .inl (c 0, 36, .inl (fun _ => 0))), (q7, .inl (c 0, 36, .inl (fun _ => 0)))] := hD
  refine lv_aload_n hx hb dX1_init_60 rfl (lv_at hl 0 rfl) ?_
  refine lv_iload_n hx hb dX1_init_61 rfl (lv_at hl 1 rfl) ?_
  refine va_putF (D := D) (ci := 1) (v := .int area) (ty := .int) (C := RX1) (T := TX1) (N := 11) hx hb hts inW_1 tyX1 tyX1_ok nmX1 hown hK hP hD hS 0 rfl rfl 0 (by decide) (hts _ wd_497) (fun _ h9 => h9) rfl hin rfl (by decide +kernel) rfl rfl (Nat.le_of_ble_eq_true rfl) dX1_init_62 (fun H locs hP hD hS => ?_)
  have hP : va_P D vwCl [(h0, .inr (1, [.int area, .ref q1, .ref q2, .ref q3, .ref q4, .ref q5, .ref q6, .ref q7, .int 0, .int 0, .int 0])), (q1, .inl (c 0, 20, .inl (fun _ => 0))), (q2, .inl (c 0, 20, .inl (fun _ => 0))), (q3, .inl (c 0, 20, .inl (fun _ => 0))), (q4, .inl (c 0, 8, .inl (fun _ => 0))), (q5, .inl (c 0, 8, .inl (fun _ => 0))), (q6, .inl (c 0, 36, .inl (fun _ => 0))), (q7, .inl (c 0, 36, .inl (fun _ => 0)))] H := hP
  have hD : va_D A [(h0, .inr (1, [.int area, .ref q1, .ref q2, .ref q3, .ref q4, .ref q5, .ref q6, .ref q7, .int 0, .int 0, .int 0])), (q1, .inl (c 0, 20, .inl (fun _ => 0))), (q2, .inl (c 0, 20, .inl (fun _ => 0))), (q3, .inl (c 0, 20, .inl (fun _ => 0))), (q4, .inl (c 0, 8, .inl (fun _ => 0))), (q5, .inl (c 0, 8, .inl (fun _ => 0))), (q6, .inl (c 0, 36, .inl (fun _ => 0))), (q7, .inl (c 0, 36, .inl (fun _ => 0)))] := hD
  exact rt_v hx hb hr hlocks hK hP hD hS dX1_init_65 () [] rfl rfl trivial
set_option maxHeartbeats 4000000 in
set_option maxRecDepth 100000 in
/-- X0_init -/
theorem c_X0_init (l : Launch) (D : va_G) (c : Nat → ClassId) (sz : Nat) (h0 : Nat) (ar : Int32) (fl : Int32) (wa : Int32) (si : Int32) (sl : Int32) (ov : Int32) : Met l yX0_init (.code yX0_init cX0_init 7 none :: Wd) ({ frames := 1, cells := 2, slots := 8, locals := 32 }) (va_Pc [.ref h0, .int ar, .int fl, .int wa, .int si, .int sl, .int ov] (WB D c [(h0, .inr (0, nwX0))] sz)) (QV (S := Nat × Nat) D c (fun _ => True) (fun u => [(h0, .inr (0, [.int ar, .int fl, .int wa, .int si, .int sl, .int ov, .ref u.1, .ref u.2, .int 0, .int 0, .int 0, .int 0, .int 0]))]) (va_A [(h0, .inr (0, nwX0))] sz)) 2 8 (va_A [(h0, .inr (0, nwX0))] sz) := by
  refine kz_met (Qc := QV (S := Nat × Nat) D c (fun _ => True) (fun u => [(h0, .inr (0, [.int ar, .int fl, .int wa, .int si, .int sl, .int ov, .ref u.1, .ref u.2, .int 0, .int 0, .int 0, .int 0, .int 0]))])) (by decide) (Nat.le_of_ble_eq_true rfl) ?_
  intro p e s m below meth cd A ls H locs hx hb hr hml hts hown hlocks hin hN hO hK hP hD hS hA hl
  have hl : lv_has ls 7 [(0, .ref h0), (1, .int ar), (2, .int fl), (3, .int wa), (4, .int si), (5, .int sl), (6, .int ov)] := hl
  have hown : s.vm.findClass RX0 = some m.cls := hown
  refine lv_aload_n hx hb dX0_init_0 rfl (lv_at hl 0 rfl) ?_
  refine W.objInit hx hb hown (hts _ wd_403) (hts _ wd_110) (hts _ wd_111) rfl (by rw [hml]; exact hl.1) rfl dX0_init_1 (Nat.le_of_ble_eq_true rfl) (Nat.le_of_ble_eq_true rfl) ?_
  refine W.eq (g2 := F0 m 4 ls []) rfl ?_
  refine lv_aload_n hx hb dX0_init_4 rfl (lv_at hl 0 rfl) ?_
  refine lv_iconst (v := 4) hx hb dX0_init_5 (by decide) ?_
  refine kz_newa (c := c) (atype := .int) (a0 := (4, .inl (fun _ => 0))) hx hb 0 rfl (hts _ wd_129) rfl hK hP hD hS hA (fun _ => rfl) (by decide) (by decide) (Nat.le_of_ble_eq_true rfl) (Nat.le_of_ble_eq_true rfl) (Nat.le_of_ble_eq_true rfl) dX0_init_6 (fun q1 H hP hD hS => ?_)
  have hP : va_P D vwCl [(h0, .inr (0, nwX0)), (q1, .inl (c 0, 4, .inl (fun _ => 0)))] H := hP
  have hD : va_D A [(h0, .inr (0, nwX0)), (q1, .inl (c 0, 4, .inl (fun _ => 0)))] := hD
  refine W.widen (k := 1) (n := 4) (Nat.le_of_ble_eq_true rfl) (Nat.le_of_ble_eq_true rfl) ?_
  refine va_putF (D := D) (ci := 0) (v := .ref q1) (ty := (.array .int)) (C := RX0) (T := TX0) (N := 13) hx hb hts inW_0 tyX0 tyX0_ok nmX0 hown hK hP hD hS 0 rfl rfl 6 (by decide) (hts _ wd_420) (fun _ h9 => h9) rfl hin rfl (by decide +kernel) rfl rfl (Nat.le_of_ble_eq_true rfl) dX0_init_8 (fun H locs hP hD hS => ?_)
  have hP : va_P D vwCl [(h0, .inr (0, [.int 0, .int 0, .int 0, .int 0, .int 0, .int 0, .ref q1, .null, .int 0, .int 0, .int 0, .int 0, .int 0])), (q1, .inl (c 0, 4, .inl (fun _ => 0)))] H := hP
  have hD : va_D A [(h0, .inr (0, [.int 0, .int 0, .int 0, .int 0, .int 0, .int 0, .ref q1, .null, .int 0, .int 0, .int 0, .int 0, .int 0])), (q1, .inl (c 0, 4, .inl (fun _ => 0)))] := hD
  refine lv_aload_n hx hb dX0_init_11 rfl (lv_at hl 0 rfl) ?_
  refine lv_iconst (v := 4) hx hb dX0_init_12 (by decide) ?_
  refine kz_newa (c := c) (atype := .int) (a0 := (4, .inl (fun _ => 0))) hx hb 0 rfl (hts _ wd_129) rfl hK hP hD hS hA (fun _ => rfl) (by decide) (by decide) (Nat.le_of_ble_eq_true rfl) (Nat.le_of_ble_eq_true rfl) (Nat.le_of_ble_eq_true rfl) dX0_init_13 (fun q2 H hP hD hS => ?_)
  have hP : va_P D vwCl [(h0, .inr (0, [.int 0, .int 0, .int 0, .int 0, .int 0, .int 0, .ref q1, .null, .int 0, .int 0, .int 0, .int 0, .int 0])), (q1, .inl (c 0, 4, .inl (fun _ => 0))), (q2, .inl (c 0, 4, .inl (fun _ => 0)))] H := hP
  have hD : va_D A [(h0, .inr (0, [.int 0, .int 0, .int 0, .int 0, .int 0, .int 0, .ref q1, .null, .int 0, .int 0, .int 0, .int 0, .int 0])), (q1, .inl (c 0, 4, .inl (fun _ => 0))), (q2, .inl (c 0, 4, .inl (fun _ => 0)))] := hD
  refine W.widen (k := 2) (n := 8) (Nat.le_of_ble_eq_true rfl) (Nat.le_of_ble_eq_true rfl) ?_
  refine va_putF (D := D) (ci := 0) (v := .ref q2) (ty := (.array .int)) (C := RX0) (T := TX0) (N := 13) hx hb hts inW_0 tyX0 tyX0_ok nmX0 hown hK hP hD hS 0 rfl rfl 7 (by decide) (hts _ wd_422) (fun _ h9 => h9) rfl hin rfl (by decide +kernel) rfl rfl (Nat.le_of_ble_eq_true rfl) dX0_init_15 (fun H locs hP hD hS => ?_)
  have hP : va_P D vwCl [(h0, .inr (0, [.int 0, .int 0, .int 0, .int 0, .int 0, .int 0, .ref q1, .ref q2, .int 0, .int 0, .int 0, .int 0, .int 0])), (q1, .inl (c 0, 4, .inl (fun _ => 0))), (q2, .inl (c 0, 4, .inl (fun _ => 0)))] H := hP
  have hD : va_D A [(h0, .inr (0, [.int 0, .int 0, .int 0, .int 0, .int 0, .int 0, .ref q1, .ref q2, .int 0, .int 0, .int 0, .int 0, .int 0])), (q1, .inl (c 0, 4, .inl (fun _ => 0))), (q2, .inl (c 0, 4, .inl (fun _ => 0)))] := hD
  refine lv_aload_n hx hb dX0_init_18 rfl (lv_at hl 0 rfl) ?_
  refine lv_iload_n hx hb dX0_init_19 rfl (lv_at hl 1 rfl) ?_
  refine va_putF (D := D) (ci := 0) (v := .int ar) (ty := .int) (C := RX0) (T := TX0) (N := 13) hx hb hts inW_0 tyX0 tyX0_ok nmX0 hown hK hP hD hS 0 rfl rfl 0 (by decide) (hts _ wd_404) (fun _ h9 => h9) rfl hin rfl (by decide +kernel) rfl rfl (Nat.le_of_ble_eq_true rfl) dX0_init_20 (fun H locs hP hD hS => ?_)
  have hP : va_P D vwCl [(h0, .inr (0, [.int ar, .int 0, .int 0, .int 0, .int 0, .int 0, .ref q1, .ref q2, .int 0, .int 0, .int 0, .int 0, .int 0])), (q1, .inl (c 0, 4, .inl (fun _ => 0))), (q2, .inl (c 0, 4, .inl (fun _ => 0)))] H := hP
  have hD : va_D A [(h0, .inr (0, [.int ar, .int 0, .int 0, .int 0, .int 0, .int 0, .ref q1, .ref q2, .int 0, .int 0, .int 0, .int 0, .int 0])), (q1, .inl (c 0, 4, .inl (fun _ => 0))), (q2, .inl (c 0, 4, .inl (fun _ => 0)))] := hD
  refine lv_aload_n hx hb dX0_init_23 rfl (lv_at hl 0 rfl) ?_
  refine lv_iload_n hx hb dX0_init_24 rfl (lv_at hl 2 rfl) ?_
  refine va_putF (D := D) (ci := 0) (v := .int fl) (ty := .int) (C := RX0) (T := TX0) (N := 13) hx hb hts inW_0 tyX0 tyX0_ok nmX0 hown hK hP hD hS 0 rfl rfl 1 (by decide) (hts _ wd_408) (fun _ h9 => h9) rfl hin rfl (by decide +kernel) rfl rfl (Nat.le_of_ble_eq_true rfl) dX0_init_25 (fun H locs hP hD hS => ?_)
  have hP : va_P D vwCl [(h0, .inr (0, [.int ar, .int fl, .int 0, .int 0, .int 0, .int 0, .ref q1, .ref q2, .int 0, .int 0, .int 0, .int 0, .int 0])), (q1, .inl (c 0, 4, .inl (fun _ => 0))), (q2, .inl (c 0, 4, .inl (fun _ => 0)))] H := hP
  have hD : va_D A [(h0, .inr (0, [.int ar, .int fl, .int 0, .int 0, .int 0, .int 0, .ref q1, .ref q2, .int 0, .int 0, .int 0, .int 0, .int 0])), (q1, .inl (c 0, 4, .inl (fun _ => 0))), (q2, .inl (c 0, 4, .inl (fun _ => 0)))] := hD
  refine lv_aload_n hx hb dX0_init_28 rfl (lv_at hl 0 rfl) ?_
  refine lv_iload_n hx hb dX0_init_29 rfl (lv_at hl 3 rfl) ?_
  refine va_putF (D := D) (ci := 0) (v := .int wa) (ty := .int) (C := RX0) (T := TX0) (N := 13) hx hb hts inW_0 tyX0 tyX0_ok nmX0 hown hK hP hD hS 0 rfl rfl 2 (by decide) (hts _ wd_412) (fun _ h9 => h9) rfl hin rfl (by decide +kernel) rfl rfl (Nat.le_of_ble_eq_true rfl) dX0_init_30 (fun H locs hP hD hS => ?_)
  have hP : va_P D vwCl [(h0, .inr (0, [.int ar, .int fl, .int wa, .int 0, .int 0, .int 0, .ref q1, .ref q2, .int 0, .int 0, .int 0, .int 0, .int 0])), (q1, .inl (c 0, 4, .inl (fun _ => 0))), (q2, .inl (c 0, 4, .inl (fun _ => 0)))] H := hP
  have hD : va_D A [(h0, .inr (0, [.int ar, .int fl, .int wa, .int 0, .int 0, .int 0, .ref q1, .ref q2, .int 0, .int 0, .int 0, .int 0, .int 0])), (q1, .inl (c 0, 4, .inl (fun _ => 0))), (q2, .inl (c 0, 4, .inl (fun _ => 0)))] := hD
  refine lv_aload_n hx hb dX0_init_33 rfl (lv_at hl 0 rfl) ?_
  refine lv_iload hx hb dX0_init_34 (lv_at hl 4 rfl) ?_
  refine va_putF (D := D) (ci := 0) (v := .int si) (ty := .int) (C := RX0) (T := TX0) (N := 13) hx hb hts inW_0 tyX0 tyX0_ok nmX0 hown hK hP hD hS 0 rfl rfl 3 (by decide) (hts _ wd_414) (fun _ h9 => h9) rfl hin rfl (by decide +kernel) rfl rfl (Nat.le_of_ble_eq_true rfl) dX0_init_36 (fun H locs hP hD hS => ?_)
  have hP : va_P D vwCl [(h0, .inr (0, [.int ar, .int fl, .int wa, .int si, .int 0, .int 0, .ref q1, .ref q2, .int 0, .int 0, .int 0, .int 0, .int 0])), (q1, .inl (c 0, 4, .inl (fun _ => 0))), (q2, .inl (c 0, 4, .inl (fun _ => 0)))] H := hP
  have hD : va_D A [(h0, .inr (0, [.int ar, .int fl, .int wa, .int si, .int 0, .int 0, .ref q1, .ref q2, .int 0, .int 0, .int 0, .int 0, .int 0])), (q1, .inl (c 0, 4, .inl (fun _ => 0))), (q2, .inl (c 0, 4, .inl (fun _ => 0)))] := hD
  refine lv_aload_n hx hb dX0_init_39 rfl (lv_at hl 0 rfl) ?_
  refine lv_iload hx hb dX0_init_40 (lv_at hl 5 rfl) ?_
  refine va_putF (D := D) (ci := 0) (v := .int sl) (ty := .int) (C := RX0) (T := TX0) (N := 13) hx hb hts inW_0 tyX0 tyX0_ok nmX0 hown hK hP hD hS 0 rfl rfl 4 (by decide) (hts _ wd_416) (fun _ h9 => h9) rfl hin rfl (by decide +kernel) rfl rfl (Nat.le_of_ble_eq_true rfl) dX0_init_42 (fun H locs hP hD hS => ?_)
  have hP : va_P D vwCl [(h0, .inr (0, [.int ar, .int fl, .int wa, .int si, .int sl, .int 0, .ref q1, .ref q2, .int 0, .int 0, .int 0, .int 0, .int 0])), (q1, .inl (c 0, 4, .inl (fun _ => 0))), (q2, .inl (c 0, 4, .inl (fun _ => 0)))] H := hP
  have hD : va_D A [(h0, .inr (0, [.int ar, .int fl, .int wa, .int si, .int sl, .int 0, .ref q1, .ref q2, .int 0, .int 0, .int 0, .int 0, .int 0])), (q1, .inl (c 0, 4, .inl (fun _ => 0))), (q2, .inl (c 0, 4, .inl (fun _ => 0)))] := hD
  refine lv_aload_n hx hb dX0_init_45 rfl (lv_at hl 0 rfl) ?_
  refine lv_iload hx hb dX0_init_46 (lv_at hl 6 rfl) ?_
  refine va_putF (D := D) (ci := 0) (v := .int ov) (ty := .int) (C := RX0) (T := TX0) (N := 13) hx hb hts inW_0 tyX0 tyX0_ok nmX0 hown hK hP hD hS 0 rfl rfl 5 (by decide) (hts _ wd_418) (fun _ h9 => h9) rfl hin rfl (by decide +kernel) rfl rfl (Nat.le_of_ble_eq_true rfl) dX0_init_48 (fun H locs hP hD hS => ?_)
  have hP : va_P D vwCl [(h0, .inr (0, [.int ar, .int fl, .int wa, .int si, .int sl, .int ov, .ref q1, .ref q2, .int 0, .int 0, .int 0, .int 0, .int 0])), (q1, .inl (c 0, 4, .inl (fun _ => 0))), (q2, .inl (c 0, 4, .inl (fun _ => 0)))] H := hP
  have hD : va_D A [(h0, .inr (0, [.int ar, .int fl, .int wa, .int si, .int sl, .int ov, .ref q1, .ref q2, .int 0, .int 0, .int 0, .int 0, .int 0])), (q1, .inl (c 0, 4, .inl (fun _ => 0))), (q2, .inl (c 0, 4, .inl (fun _ => 0)))] := hD
  exact rt_v hx hb hr hlocks hK hP hD hS dX0_init_51 (q1, q2) [0] rfl rfl trivial
set_option maxHeartbeats 4000000 in
set_option maxRecDepth 100000 in
/-- X4_init -/
theorem c_X4_init (l : Launch) (D : va_G) (c : Nat → ClassId) (sz : Nat) (h0 : Nat) (b : Nat) (ar : Int32) (fl : Int32) (wa : Int32) (si : Int32) (sl : Int32) (ov : Int32) (b1 : Nat) (b2 : Nat) (nu : Int32) (de : Int32) (ca : Int32) : Met l yX4_init (.code yX4_init cX4_init 5 none :: Wd) ({ frames := 2, cells := 14, slots := 7467, locals := 53 }) (va_Pc [.ref h0, .ref b, .int nu, .int de, .int ca] (WB D c [(h0, .inr (4, nwX4)), (b, .inr (0, [.int ar, .int fl, .int wa, .int si, .int sl, .int ov, .ref b1, .ref b2, .int 0, .int 0, .int 0, .int 0, .int 0]))] sz)) (QV (S := List Value) D c (fun _ => True) (fun u => [(h0, .inr (4, u))]) (va_A [(h0, .inr (4, nwX4)), (b, .inr (0, [.int ar, .int fl, .int wa, .int si, .int sl, .int ov, .ref b1, .ref b2, .int 0, .int 0, .int 0, .int 0, .int 0]))] sz)) 14 7467 (va_A [(h0, .inr (4, nwX4)), (b, .inr (0, [.int ar, .int fl, .int wa, .int si, .int sl, .int ov, .ref b1, .ref b2, .int 0, .int 0, .int 0, .int 0, .int 0]))] sz) := by
  refine kz_met (Qc := QV (S := List Value) D c (fun _ => True) (fun u => [(h0, .inr (4, u))])) (by decide) (Nat.le_of_ble_eq_true rfl) ?_
  intro p e s m below meth cd A ls H locs hx hb hr hml hts hown hlocks hin hN hO hK hP hD hS hA hl
  have hl : lv_has ls 5 [(0, .ref h0), (1, .ref b), (2, .int nu), (3, .int de), (4, .int ca)] := hl
  have hown : s.vm.findClass RX4 = some m.cls := hown
  refine lv_aload_n hx hb dX4_init_0 rfl (lv_at hl 0 rfl) ?_
  refine W.objInit hx hb hown (hts _ wd_466) (hts _ wd_110) (hts _ wd_111) rfl (by rw [hml]; exact hl.1) rfl dX4_init_1 (Nat.le_of_ble_eq_true rfl) (Nat.le_of_ble_eq_true rfl) ?_
  refine W.eq (g2 := F0 m 4 ls []) rfl ?_
  refine lv_aload_n hx hb dX4_init_4 rfl (lv_at hl 0 rfl) ?_
  refine va_new (ci := 9) (fs := nwX9) (C := RX9) (T := TX9) (N := 4) hx hb hts inW_9 tyX9 tyX9_ok hown (hts _ wd_467) (hts _ wd_468) (hts _ wd_93) hK hP hD hS hA rfl nwX9_ok (Nat.le_of_ble_eq_true rfl) (Nat.le_of_ble_eq_true rfl) dX4_init_5 (fun q1 H hP hD hS => ?_)
  have hP : va_P D vwCl [(h0, .inr (4, nwX4)), (b, .inr (0, [.int ar, .int fl, .int wa, .int si, .int sl, .int ov, .ref b1, .ref b2, .int 0, .int 0, .int 0, .int 0, .int 0])), (q1, .inr (9, nwX9))] H := hP
  have hD : va_D A [(h0, .inr (4, nwX4)), (b, .inr (0, [.int ar, .int fl, .int wa, .int si, .int sl, .int ov, .ref b1, .ref b2, .int 0, .int 0, .int 0, .int 0, .int 0])), (q1, .inr (9, nwX9))] := hD
  refine W.widen (k := 1) (n := 4) (Nat.le_of_ble_eq_true rfl) (Nat.le_of_ble_eq_true rfl) ?_
  refine lv_dup hx hb dX4_init_8 rfl ?_
  have hPc := hP.sub (ws' := [(q1, .inr (9, nwX9))]) [2] rfl
  have hDc := hD.sub (ws' := [(q1, .inr (9, nwX9))]) [2] (by decide) rfl
  refine cl_v (wr := [(h0, .inr (4, nwX4)), (b, .inr (0, [.int ar, .int fl, .int wa, .int si, .int sl, .int ov, .ref b1, .ref b2, .int 0, .int 0, .int 0, .int 0, .int 0]))]) (va_runIN (As := []) (rest := [.ref q1, .ref h0]) ⟨hx, hb, hml, hown, hts⟩ (c_X9_init l D c H.size q1) (kw_IN 0 hts (hN (RX4, 11, yX9_init) (List.mem_of_getElem? (i := 9) rfl)) wd_470 wd_93 wd_471 rfl rfl rfl (by decide +kernel) ⟨Nat.le_of_ble_eq_true rfl, Nat.le_of_ble_eq_true rfl⟩) (pre_S hPc hK hDc hN hO) rfl rfl hl.1 rfl (lv_room (Nat.le_of_ble_eq_true rfl)) dX4_init_9 ⟨Nat.le_of_ble_eq_true rfl, Nat.le_of_ble_eq_true rfl⟩) hP hD hS hA [2] [0, 1] rfl rfl (by decide) (by decide) (fun u3 H locs h4 hP hD hS => ?_)
  have hP : va_P D vwCl [(h0, .inr (4, nwX4)), (b, .inr (0, [.int ar, .int fl, .int wa, .int si, .int sl, .int ov, .ref b1, .ref b2, .int 0, .int 0, .int 0, .int 0, .int 0])), (q1, .inr (9, nwX9))] H := hP
  have hD : va_D A [(h0, .inr (4, nwX4)), (b, .inr (0, [.int ar, .int fl, .int wa, .int si, .int sl, .int ov, .ref b1, .ref b2, .int 0, .int 0, .int 0, .int 0, .int 0])), (q1, .inr (9, nwX9))] := hD
  refine va_putF (D := D) (ci := 4) (v := .ref q1) (ty := (.object "PoolCoast$Water")) (C := RX4) (T := TX4) (N := 12) hx hb hts inW_4 tyX4 tyX4_ok nmX4 hown hK hP hD hS 0 rfl rfl 3 (by decide) (hts _ wd_537) (fun _ h9 => h9) rfl hin rfl (by decide +kernel) rfl rfl (Nat.le_of_ble_eq_true rfl) dX4_init_12 (fun H locs hP hD hS => ?_)
  have hP : va_P D vwCl [(h0, .inr (4, [.null, .int 0, .int 0, .ref q1, .null, .null, .null, .null, .null, .null, .int 0, .int 0])), (b, .inr (0, [.int ar, .int fl, .int wa, .int si, .int sl, .int ov, .ref b1, .ref b2, .int 0, .int 0, .int 0, .int 0, .int 0])), (q1, .inr (9, nwX9))] H := hP
  have hD : va_D A [(h0, .inr (4, [.null, .int 0, .int 0, .ref q1, .null, .null, .null, .null, .null, .null, .int 0, .int 0])), (b, .inr (0, [.int ar, .int fl, .int wa, .int si, .int sl, .int ov, .ref b1, .ref b2, .int 0, .int 0, .int 0, .int 0, .int 0])), (q1, .inr (9, nwX9))] := hD
  refine lv_aload_n hx hb dX4_init_15 rfl (lv_at hl 0 rfl) ?_
  refine lv_sipush (v := 2400) hx hb dX4_init_16 (by decide) ?_
  refine kz_newa (c := c) (atype := .int) (a0 := (2400, .inl (fun _ => 0))) hx hb 0 rfl (hts _ wd_129) rfl hK hP hD hS hA (fun _ => rfl) (by decide) (by decide) (Nat.le_of_ble_eq_true rfl) (Nat.le_of_ble_eq_true rfl) (Nat.le_of_ble_eq_true rfl) dX4_init_19 (fun q5 H hP hD hS => ?_)
  have hP : va_P D vwCl [(h0, .inr (4, [.null, .int 0, .int 0, .ref q1, .null, .null, .null, .null, .null, .null, .int 0, .int 0])), (b, .inr (0, [.int ar, .int fl, .int wa, .int si, .int sl, .int ov, .ref b1, .ref b2, .int 0, .int 0, .int 0, .int 0, .int 0])), (q1, .inr (9, nwX9)), (q5, .inl (c 0, 2400, .inl (fun _ => 0)))] H := hP
  have hD : va_D A [(h0, .inr (4, [.null, .int 0, .int 0, .ref q1, .null, .null, .null, .null, .null, .null, .int 0, .int 0])), (b, .inr (0, [.int ar, .int fl, .int wa, .int si, .int sl, .int ov, .ref b1, .ref b2, .int 0, .int 0, .int 0, .int 0, .int 0])), (q1, .inr (9, nwX9)), (q5, .inl (c 0, 2400, .inl (fun _ => 0)))] := hD
  refine W.widen (k := 2) (n := 2404) (Nat.le_of_ble_eq_true rfl) (Nat.le_of_ble_eq_true rfl) ?_
  refine va_putF (D := D) (ci := 4) (v := .ref q5) (ty := (.array .int)) (C := RX4) (T := TX4) (N := 12) hx hb hts inW_4 tyX4 tyX4_ok nmX4 hown hK hP hD hS 0 rfl rfl 5 (by decide) (hts _ wd_541) (fun _ h9 => h9) rfl hin rfl (by decide +kernel) rfl rfl (Nat.le_of_ble_eq_true rfl) dX4_init_21 (fun H locs hP hD hS => ?_)
  have hP : va_P D vwCl [(h0, .inr (4, [.null, .int 0, .int 0, .ref q1, .null, .ref q5, .null, .null, .null, .null, .int 0, .int 0])), (b, .inr (0, [.int ar, .int fl, .int wa, .int si, .int sl, .int ov, .ref b1, .ref b2, .int 0, .int 0, .int 0, .int 0, .int 0])), (q1, .inr (9, nwX9)), (q5, .inl (c 0, 2400, .inl (fun _ => 0)))] H := hP
  have hD : va_D A [(h0, .inr (4, [.null, .int 0, .int 0, .ref q1, .null, .ref q5, .null, .null, .null, .null, .int 0, .int 0])), (b, .inr (0, [.int ar, .int fl, .int wa, .int si, .int sl, .int ov, .ref b1, .ref b2, .int 0, .int 0, .int 0, .int 0, .int 0])), (q1, .inr (9, nwX9)), (q5, .inl (c 0, 2400, .inl (fun _ => 0)))] := hD
  refine lv_aload_n hx hb dX4_init_24 rfl (lv_at hl 0 rfl) ?_
  refine lv_sipush (v := 2400) hx hb dX4_init_25 (by decide) ?_
  refine kz_newa (c := c) (atype := .int) (a0 := (2400, .inl (fun _ => 0))) hx hb 0 rfl (hts _ wd_129) rfl hK hP hD hS hA (fun _ => rfl) (by decide) (by decide) (Nat.le_of_ble_eq_true rfl) (Nat.le_of_ble_eq_true rfl) (Nat.le_of_ble_eq_true rfl) dX4_init_28 (fun q6 H hP hD hS => ?_)
  have hP : va_P D vwCl [(h0, .inr (4, [.null, .int 0, .int 0, .ref q1, .null, .ref q5, .null, .null, .null, .null, .int 0, .int 0])), (b, .inr (0, [.int ar, .int fl, .int wa, .int si, .int sl, .int ov, .ref b1, .ref b2, .int 0, .int 0, .int 0, .int 0, .int 0])), (q1, .inr (9, nwX9)), (q5, .inl (c 0, 2400, .inl (fun _ => 0))), (q6, .inl (c 0, 2400, .inl (fun _ => 0)))] H := hP
  have hD : va_D A [(h0, .inr (4, [.null, .int 0, .int 0, .ref q1, .null, .ref q5, .null, .null, .null, .null, .int 0, .int 0])), (b, .inr (0, [.int ar, .int fl, .int wa, .int si, .int sl, .int ov, .ref b1, .ref b2, .int 0, .int 0, .int 0, .int 0, .int 0])), (q1, .inr (9, nwX9)), (q5, .inl (c 0, 2400, .inl (fun _ => 0))), (q6, .inl (c 0, 2400, .inl (fun _ => 0)))] := hD
  refine W.widen (k := 3) (n := 4804) (Nat.le_of_ble_eq_true rfl) (Nat.le_of_ble_eq_true rfl) ?_
  refine va_putF (D := D) (ci := 4) (v := .ref q6) (ty := (.array .int)) (C := RX4) (T := TX4) (N := 12) hx hb hts inW_4 tyX4 tyX4_ok nmX4 hown hK hP hD hS 0 rfl rfl 6 (by decide) (hts _ wd_543) (fun _ h9 => h9) rfl hin rfl (by decide +kernel) rfl rfl (Nat.le_of_ble_eq_true rfl) dX4_init_30 (fun H locs hP hD hS => ?_)
  have hP : va_P D vwCl [(h0, .inr (4, [.null, .int 0, .int 0, .ref q1, .null, .ref q5, .ref q6, .null, .null, .null, .int 0, .int 0])), (b, .inr (0, [.int ar, .int fl, .int wa, .int si, .int sl, .int ov, .ref b1, .ref b2, .int 0, .int 0, .int 0, .int 0, .int 0])), (q1, .inr (9, nwX9)), (q5, .inl (c 0, 2400, .inl (fun _ => 0))), (q6, .inl (c 0, 2400, .inl (fun _ => 0)))] H := hP
  have hD : va_D A [(h0, .inr (4, [.null, .int 0, .int 0, .ref q1, .null, .ref q5, .ref q6, .null, .null, .null, .int 0, .int 0])), (b, .inr (0, [.int ar, .int fl, .int wa, .int si, .int sl, .int ov, .ref b1, .ref b2, .int 0, .int 0, .int 0, .int 0, .int 0])), (q1, .inr (9, nwX9)), (q5, .inl (c 0, 2400, .inl (fun _ => 0))), (q6, .inl (c 0, 2400, .inl (fun _ => 0)))] := hD
  refine lv_aload_n hx hb dX4_init_33 rfl (lv_at hl 0 rfl) ?_
  refine lv_sipush (v := 2400) hx hb dX4_init_34 (by decide) ?_
  refine kz_newa (c := c) (atype := .int) (a0 := (2400, .inl (fun _ => 0))) hx hb 0 rfl (hts _ wd_129) rfl hK hP hD hS hA (fun _ => rfl) (by decide) (by decide) (Nat.le_of_ble_eq_true rfl) (Nat.le_of_ble_eq_true rfl) (Nat.le_of_ble_eq_true rfl) dX4_init_37 (fun q7 H hP hD hS => ?_)
  have hP : va_P D vwCl [(h0, .inr (4, [.null, .int 0, .int 0, .ref q1, .null, .ref q5, .ref q6, .null, .null, .null, .int 0, .int 0])), (b, .inr (0, [.int ar, .int fl, .int wa, .int si, .int sl, .int ov, .ref b1, .ref b2, .int 0, .int 0, .int 0, .int 0, .int 0])), (q1, .inr (9, nwX9)), (q5, .inl (c 0, 2400, .inl (fun _ => 0))), (q6, .inl (c 0, 2400, .inl (fun _ => 0))), (q7, .inl (c 0, 2400, .inl (fun _ => 0)))] H := hP
  have hD : va_D A [(h0, .inr (4, [.null, .int 0, .int 0, .ref q1, .null, .ref q5, .ref q6, .null, .null, .null, .int 0, .int 0])), (b, .inr (0, [.int ar, .int fl, .int wa, .int si, .int sl, .int ov, .ref b1, .ref b2, .int 0, .int 0, .int 0, .int 0, .int 0])), (q1, .inr (9, nwX9)), (q5, .inl (c 0, 2400, .inl (fun _ => 0))), (q6, .inl (c 0, 2400, .inl (fun _ => 0))), (q7, .inl (c 0, 2400, .inl (fun _ => 0)))] := hD
  refine W.widen (k := 4) (n := 7204) (Nat.le_of_ble_eq_true rfl) (Nat.le_of_ble_eq_true rfl) ?_
  refine va_putF (D := D) (ci := 4) (v := .ref q7) (ty := (.array .int)) (C := RX4) (T := TX4) (N := 12) hx hb hts inW_4 tyX4 tyX4_ok nmX4 hown hK hP hD hS 0 rfl rfl 7 (by decide) (hts _ wd_545) (fun _ h9 => h9) rfl hin rfl (by decide +kernel) rfl rfl (Nat.le_of_ble_eq_true rfl) dX4_init_39 (fun H locs hP hD hS => ?_)
  have hP : va_P D vwCl [(h0, .inr (4, [.null, .int 0, .int 0, .ref q1, .null, .ref q5, .ref q6, .ref q7, .null, .null, .int 0, .int 0])), (b, .inr (0, [.int ar, .int fl, .int wa, .int si, .int sl, .int ov, .ref b1, .ref b2, .int 0, .int 0, .int 0, .int 0, .int 0])), (q1, .inr (9, nwX9)), (q5, .inl (c 0, 2400, .inl (fun _ => 0))), (q6, .inl (c 0, 2400, .inl (fun _ => 0))), (q7, .inl (c 0, 2400, .inl (fun _ => 0)))] H := hP
  have hD : va_D A [(h0, .inr (4, [.null, .int 0, .int 0, .ref q1, .null, .ref q5, .ref q6, .ref q7, .null, .null, .int 0, .int 0])), (b, .inr (0, [.int ar, .int fl, .int wa, .int si, .int sl, .int ov, .ref b1, .ref b2, .int 0, .int 0, .int 0, .int 0, .int 0])), (q1, .inr (9, nwX9)), (q5, .inl (c 0, 2400, .inl (fun _ => 0))), (q6, .inl (c 0, 2400, .inl (fun _ => 0))), (q7, .inl (c 0, 2400, .inl (fun _ => 0)))] := hD
  refine lv_aload_n hx hb dX4_init_42 rfl (lv_at hl 0 rfl) ?_
  refine lv_bipush (v := 100) hx hb dX4_init_43 (by decide) ?_
  refine kz_newa (c := c) (atype := .int) (a0 := (100, .inl (fun _ => 0))) hx hb 0 rfl (hts _ wd_129) rfl hK hP hD hS hA (fun _ => rfl) (by decide) (by decide) (Nat.le_of_ble_eq_true rfl) (Nat.le_of_ble_eq_true rfl) (Nat.le_of_ble_eq_true rfl) dX4_init_45 (fun q8 H hP hD hS => ?_)
  have hP : va_P D vwCl [(h0, .inr (4, [.null, .int 0, .int 0, .ref q1, .null, .ref q5, .ref q6, .ref q7, .null, .null, .int 0, .int 0])), (b, .inr (0, [.int ar, .int fl, .int wa, .int si, .int sl, .int ov, .ref b1, .ref b2, .int 0, .int 0, .int 0, .int 0, .int 0])), (q1, .inr (9, nwX9)), (q5, .inl (c 0, 2400, .inl (fun _ => 0))), (q6, .inl (c 0, 2400, .inl (fun _ => 0))), (q7, .inl (c 0, 2400, .inl (fun _ => 0))), (q8, .inl (c 0, 100, .inl (fun _ => 0)))] H := hP
  have hD : va_D A [(h0, .inr (4, [.null, .int 0, .int 0, .ref q1, .null, .ref q5, .ref q6, .ref q7, .null, .null, .int 0, .int 0])), (b, .inr (0, [.int ar, .int fl, .int wa, .int si, .int sl, .int ov, .ref b1, .ref b2, .int 0, .int 0, .int 0, .int 0, .int 0])), (q1, .inr (9, nwX9)), (q5, .inl (c 0, 2400, .inl (fun _ => 0))), (q6, .inl (c 0, 2400, .inl (fun _ => 0))), (q7, .inl (c 0, 2400, .inl (fun _ => 0))), (q8, .inl (c 0, 100, .inl (fun _ => 0)))] := hD
  refine W.widen (k := 5) (n := 7304) (Nat.le_of_ble_eq_true rfl) (Nat.le_of_ble_eq_true rfl) ?_
  refine va_putF (D := D) (ci := 4) (v := .ref q8) (ty := (.array .int)) (C := RX4) (T := TX4) (N := 12) hx hb hts inW_4 tyX4 tyX4_ok nmX4 hown hK hP hD hS 0 rfl rfl 8 (by decide) (hts _ wd_547) (fun _ h9 => h9) rfl hin rfl (by decide +kernel) rfl rfl (Nat.le_of_ble_eq_true rfl) dX4_init_47 (fun H locs hP hD hS => ?_)
  have hP : va_P D vwCl [(h0, .inr (4, [.null, .int 0, .int 0, .ref q1, .null, .ref q5, .ref q6, .ref q7, .ref q8, .null, .int 0, .int 0])), (b, .inr (0, [.int ar, .int fl, .int wa, .int si, .int sl, .int ov, .ref b1, .ref b2, .int 0, .int 0, .int 0, .int 0, .int 0])), (q1, .inr (9, nwX9)), (q5, .inl (c 0, 2400, .inl (fun _ => 0))), (q6, .inl (c 0, 2400, .inl (fun _ => 0))), (q7, .inl (c 0, 2400, .inl (fun _ => 0))), (q8, .inl (c 0, 100, .inl (fun _ => 0)))] H := hP
  have hD : va_D A [(h0, .inr (4, [.null, .int 0, .int 0, .ref q1, .null, .ref q5, .ref q6, .ref q7, .ref q8, .null, .int 0, .int 0])), (b, .inr (0, [.int ar, .int fl, .int wa, .int si, .int sl, .int ov, .ref b1, .ref b2, .int 0, .int 0, .int 0, .int 0, .int 0])), (q1, .inr (9, nwX9)), (q5, .inl (c 0, 2400, .inl (fun _ => 0))), (q6, .inl (c 0, 2400, .inl (fun _ => 0))), (q7, .inl (c 0, 2400, .inl (fun _ => 0))), (q8, .inl (c 0, 100, .inl (fun _ => 0)))] := hD
  refine lv_aload_n hx hb dX4_init_50 rfl (lv_at hl 0 rfl) ?_
  refine va_new (ci := 9) (fs := nwX9) (C := RX9) (T := TX9) (N := 4) hx hb hts inW_9 tyX9 tyX9_ok hown (hts _ wd_467) (hts _ wd_468) (hts _ wd_93) hK hP hD hS hA rfl nwX9_ok (Nat.le_of_ble_eq_true rfl) (Nat.le_of_ble_eq_true rfl) dX4_init_51 (fun q9 H hP hD hS => ?_)
  have hP : va_P D vwCl [(h0, .inr (4, [.null, .int 0, .int 0, .ref q1, .null, .ref q5, .ref q6, .ref q7, .ref q8, .null, .int 0, .int 0])), (b, .inr (0, [.int ar, .int fl, .int wa, .int si, .int sl, .int ov, .ref b1, .ref b2, .int 0, .int 0, .int 0, .int 0, .int 0])), (q1, .inr (9, nwX9)), (q5, .inl (c 0, 2400, .inl (fun _ => 0))), (q6, .inl (c 0, 2400, .inl (fun _ => 0))), (q7, .inl (c 0, 2400, .inl (fun _ => 0))), (q8, .inl (c 0, 100, .inl (fun _ => 0))), (q9, .inr (9, nwX9))] H := hP
  have hD : va_D A [(h0, .inr (4, [.null, .int 0, .int 0, .ref q1, .null, .ref q5, .ref q6, .ref q7, .ref q8, .null, .int 0, .int 0])), (b, .inr (0, [.int ar, .int fl, .int wa, .int si, .int sl, .int ov, .ref b1, .ref b2, .int 0, .int 0, .int 0, .int 0, .int 0])), (q1, .inr (9, nwX9)), (q5, .inl (c 0, 2400, .inl (fun _ => 0))), (q6, .inl (c 0, 2400, .inl (fun _ => 0))), (q7, .inl (c 0, 2400, .inl (fun _ => 0))), (q8, .inl (c 0, 100, .inl (fun _ => 0))), (q9, .inr (9, nwX9))] := hD
  refine W.widen (k := 6) (n := 7308) (Nat.le_of_ble_eq_true rfl) (Nat.le_of_ble_eq_true rfl) ?_
  refine lv_dup hx hb dX4_init_54 rfl ?_
  have hPc := hP.sub (ws' := [(q9, .inr (9, nwX9))]) [7] rfl
  have hDc := hD.sub (ws' := [(q9, .inr (9, nwX9))]) [7] (by decide) rfl
  refine cl_v (wr := [(h0, .inr (4, [.null, .int 0, .int 0, .ref q1, .null, .ref q5, .ref q6, .ref q7, .ref q8, .null, .int 0, .int 0])), (b, .inr (0, [.int ar, .int fl, .int wa, .int si, .int sl, .int ov, .ref b1, .ref b2, .int 0, .int 0, .int 0, .int 0, .int 0])), (q1, .inr (9, nwX9)), (q5, .inl (c 0, 2400, .inl (fun _ => 0))), (q6, .inl (c 0, 2400, .inl (fun _ => 0))), (q7, .inl (c 0, 2400, .inl (fun _ => 0))), (q8, .inl (c 0, 100, .inl (fun _ => 0)))]) (va_runIN (As := []) (rest := [.ref q9, .ref h0]) ⟨hx, hb, hml, hown, hts⟩ (c_X9_init l D c H.size q9) (kw_IN 0 hts (hN (RX4, 11, yX9_init) (List.mem_of_getElem? (i := 9) rfl)) wd_470 wd_93 wd_471 rfl rfl rfl (by decide +kernel) ⟨Nat.le_of_ble_eq_true rfl, Nat.le_of_ble_eq_true rfl⟩) (pre_S hPc hK hDc hN hO) rfl rfl hl.1 rfl (lv_room (Nat.le_of_ble_eq_true rfl)) dX4_init_55 ⟨Nat.le_of_ble_eq_true rfl, Nat.le_of_ble_eq_true rfl⟩) hP hD hS hA [7] [0, 1, 2, 3, 4, 5, 6] rfl rfl (by decide) (by decide) (fun u11 H locs h12 hP hD hS => ?_)
  have hP : va_P D vwCl [(h0, .inr (4, [.null, .int 0, .int 0, .ref q1, .null, .ref q5, .ref q6, .ref q7, .ref q8, .null, .int 0, .int 0])), (b, .inr (0, [.int ar, .int fl, .int wa, .int si, .int sl, .int ov, .ref b1, .ref b2, .int 0, .int 0, .int 0, .int 0, .int 0])), (q1, .inr (9, nwX9)), (q5, .inl (c 0, 2400, .inl (fun _ => 0))), (q6, .inl (c 0, 2400, .inl (fun _ => 0))), (q7, .inl (c 0, 2400, .inl (fun _ => 0))), (q8, .inl (c 0, 100, .inl (fun _ => 0))), (q9, .inr (9, nwX9))] H := hP
  have hD : va_D A [(h0, .inr (4, [.null, .int 0, .int 0, .ref q1, .null, .ref q5, .ref q6, .ref q7, .ref q8, .null, .int 0, .int 0])), (b, .inr (0, [.int ar, .int fl, .int wa, .int si, .int sl, .int ov, .ref b1, .ref b2, .int 0, .int 0, .int 0, .int 0, .int 0])), (q1, .inr (9, nwX9)), (q5, .inl (c 0, 2400, .inl (fun _ => 0))), (q6, .inl (c 0, 2400, .inl (fun _ => 0))), (q7, .inl (c 0, 2400, .inl (fun _ => 0))), (q8, .inl (c 0, 100, .inl (fun _ => 0))), (q9, .inr (9, nwX9))] := hD
  refine va_putF (D := D) (ci := 4) (v := .ref q9) (ty := (.object "PoolCoast$Water")) (C := RX4) (T := TX4) (N := 12) hx hb hts inW_4 tyX4 tyX4_ok nmX4 hown hK hP hD hS 0 rfl rfl 9 (by decide) (hts _ wd_549) (fun _ h9 => h9) rfl hin rfl (by decide +kernel) rfl rfl (Nat.le_of_ble_eq_true rfl) dX4_init_58 (fun H locs hP hD hS => ?_)
  have hP : va_P D vwCl [(h0, .inr (4, [.null, .int 0, .int 0, .ref q1, .null, .ref q5, .ref q6, .ref q7, .ref q8, .ref q9, .int 0, .int 0])), (b, .inr (0, [.int ar, .int fl, .int wa, .int si, .int sl, .int ov, .ref b1, .ref b2, .int 0, .int 0, .int 0, .int 0, .int 0])), (q1, .inr (9, nwX9)), (q5, .inl (c 0, 2400, .inl (fun _ => 0))), (q6, .inl (c 0, 2400, .inl (fun _ => 0))), (q7, .inl (c 0, 2400, .inl (fun _ => 0))), (q8, .inl (c 0, 100, .inl (fun _ => 0))), (q9, .inr (9, nwX9))] H := hP
  have hD : va_D A [(h0, .inr (4, [.null, .int 0, .int 0, .ref q1, .null, .ref q5, .ref q6, .ref q7, .ref q8, .ref q9, .int 0, .int 0])), (b, .inr (0, [.int ar, .int fl, .int wa, .int si, .int sl, .int ov, .ref b1, .ref b2, .int 0, .int 0, .int 0, .int 0, .int 0])), (q1, .inr (9, nwX9)), (q5, .inl (c 0, 2400, .inl (fun _ => 0))), (q6, .inl (c 0, 2400, .inl (fun _ => 0))), (q7, .inl (c 0, 2400, .inl (fun _ => 0))), (q8, .inl (c 0, 100, .inl (fun _ => 0))), (q9, .inr (9, nwX9))] := hD
  refine lv_aload_n hx hb dX4_init_61 rfl (lv_at hl 0 rfl) ?_
  refine lv_iconst (v := (-1)) hx hb dX4_init_62 (by decide) ?_
  refine va_put (D := D) (ci := 4) (v := .int (-1)) (ty := .int) (C := RX4) (T := TX4) (N := 12) hx hb hts inW_4 tyX4 tyX4_ok nmX4 hown hK hP hD hS 0 rfl rfl 11 (by decide) (hts _ wd_551) (fun _ h9 => h9) rfl (by decide +kernel) rfl rfl (Nat.le_of_ble_eq_true rfl) dX4_init_63 (fun H locs hP hD hS => ?_)
  have hP : va_P D vwCl [(h0, .inr (4, [.null, .int 0, .int 0, .ref q1, .null, .ref q5, .ref q6, .ref q7, .ref q8, .ref q9, .int 0, .int (-1)])), (b, .inr (0, [.int ar, .int fl, .int wa, .int si, .int sl, .int ov, .ref b1, .ref b2, .int 0, .int 0, .int 0, .int 0, .int 0])), (q1, .inr (9, nwX9)), (q5, .inl (c 0, 2400, .inl (fun _ => 0))), (q6, .inl (c 0, 2400, .inl (fun _ => 0))), (q7, .inl (c 0, 2400, .inl (fun _ => 0))), (q8, .inl (c 0, 100, .inl (fun _ => 0))), (q9, .inr (9, nwX9))] H := hP
  have hD : va_D A [(h0, .inr (4, [.null, .int 0, .int 0, .ref q1, .null, .ref q5, .ref q6, .ref q7, .ref q8, .ref q9, .int 0, .int (-1)])), (b, .inr (0, [.int ar, .int fl, .int wa, .int si, .int sl, .int ov, .ref b1, .ref b2, .int 0, .int 0, .int 0, .int 0, .int 0])), (q1, .inr (9, nwX9)), (q5, .inl (c 0, 2400, .inl (fun _ => 0))), (q6, .inl (c 0, 2400, .inl (fun _ => 0))), (q7, .inl (c 0, 2400, .inl (fun _ => 0))), (q8, .inl (c 0, 100, .inl (fun _ => 0))), (q9, .inr (9, nwX9))] := hD
  refine lv_aload_n hx hb dX4_init_66 rfl (lv_at hl 0 rfl) ?_
  refine lv_aload_n hx hb dX4_init_67 rfl (lv_at hl 1 rfl) ?_
  refine va_putF (D := D) (ci := 4) (v := .ref b) (ty := (.object "PoolCoast$Basin")) (C := RX4) (T := TX4) (N := 12) hx hb hts inW_4 tyX4 tyX4_ok nmX4 hown hK hP hD hS 0 rfl rfl 0 (by decide) (hts _ wd_531) (fun _ h9 => h9) rfl hin rfl (by decide +kernel) rfl rfl (Nat.le_of_ble_eq_true rfl) dX4_init_68 (fun H locs hP hD hS => ?_)
  have hP : va_P D vwCl [(h0, .inr (4, [.ref b, .int 0, .int 0, .ref q1, .null, .ref q5, .ref q6, .ref q7, .ref q8, .ref q9, .int 0, .int (-1)])), (b, .inr (0, [.int ar, .int fl, .int wa, .int si, .int sl, .int ov, .ref b1, .ref b2, .int 0, .int 0, .int 0, .int 0, .int 0])), (q1, .inr (9, nwX9)), (q5, .inl (c 0, 2400, .inl (fun _ => 0))), (q6, .inl (c 0, 2400, .inl (fun _ => 0))), (q7, .inl (c 0, 2400, .inl (fun _ => 0))), (q8, .inl (c 0, 100, .inl (fun _ => 0))), (q9, .inr (9, nwX9))] H := hP
  have hD : va_D A [(h0, .inr (4, [.ref b, .int 0, .int 0, .ref q1, .null, .ref q5, .ref q6, .ref q7, .ref q8, .ref q9, .int 0, .int (-1)])), (b, .inr (0, [.int ar, .int fl, .int wa, .int si, .int sl, .int ov, .ref b1, .ref b2, .int 0, .int 0, .int 0, .int 0, .int 0])), (q1, .inr (9, nwX9)), (q5, .inl (c 0, 2400, .inl (fun _ => 0))), (q6, .inl (c 0, 2400, .inl (fun _ => 0))), (q7, .inl (c 0, 2400, .inl (fun _ => 0))), (q8, .inl (c 0, 100, .inl (fun _ => 0))), (q9, .inr (9, nwX9))] := hD
  refine lv_aload_n hx hb dX4_init_71 rfl (lv_at hl 0 rfl) ?_
  refine lv_iload_n hx hb dX4_init_72 rfl (lv_at hl 2 rfl) ?_
  refine va_putF (D := D) (ci := 4) (v := .int nu) (ty := .int) (C := RX4) (T := TX4) (N := 12) hx hb hts inW_4 tyX4 tyX4_ok nmX4 hown hK hP hD hS 0 rfl rfl 1 (by decide) (hts _ wd_533) (fun _ h9 => h9) rfl hin rfl (by decide +kernel) rfl rfl (Nat.le_of_ble_eq_true rfl) dX4_init_73 (fun H locs hP hD hS => ?_)
  have hP : va_P D vwCl [(h0, .inr (4, [.ref b, .int nu, .int 0, .ref q1, .null, .ref q5, .ref q6, .ref q7, .ref q8, .ref q9, .int 0, .int (-1)])), (b, .inr (0, [.int ar, .int fl, .int wa, .int si, .int sl, .int ov, .ref b1, .ref b2, .int 0, .int 0, .int 0, .int 0, .int 0])), (q1, .inr (9, nwX9)), (q5, .inl (c 0, 2400, .inl (fun _ => 0))), (q6, .inl (c 0, 2400, .inl (fun _ => 0))), (q7, .inl (c 0, 2400, .inl (fun _ => 0))), (q8, .inl (c 0, 100, .inl (fun _ => 0))), (q9, .inr (9, nwX9))] H := hP
  have hD : va_D A [(h0, .inr (4, [.ref b, .int nu, .int 0, .ref q1, .null, .ref q5, .ref q6, .ref q7, .ref q8, .ref q9, .int 0, .int (-1)])), (b, .inr (0, [.int ar, .int fl, .int wa, .int si, .int sl, .int ov, .ref b1, .ref b2, .int 0, .int 0, .int 0, .int 0, .int 0])), (q1, .inr (9, nwX9)), (q5, .inl (c 0, 2400, .inl (fun _ => 0))), (q6, .inl (c 0, 2400, .inl (fun _ => 0))), (q7, .inl (c 0, 2400, .inl (fun _ => 0))), (q8, .inl (c 0, 100, .inl (fun _ => 0))), (q9, .inr (9, nwX9))] := hD
  refine lv_aload_n hx hb dX4_init_76 rfl (lv_at hl 0 rfl) ?_
  refine lv_iload hx hb dX4_init_77 (lv_at hl 4 rfl) ?_
  refine va_putF (D := D) (ci := 4) (v := .int ca) (ty := .int) (C := RX4) (T := TX4) (N := 12) hx hb hts inW_4 tyX4 tyX4_ok nmX4 hown hK hP hD hS 0 rfl rfl 2 (by decide) (hts _ wd_535) (fun _ h9 => h9) rfl hin rfl (by decide +kernel) rfl rfl (Nat.le_of_ble_eq_true rfl) dX4_init_79 (fun H locs hP hD hS => ?_)
  have hP : va_P D vwCl [(h0, .inr (4, [.ref b, .int nu, .int ca, .ref q1, .null, .ref q5, .ref q6, .ref q7, .ref q8, .ref q9, .int 0, .int (-1)])), (b, .inr (0, [.int ar, .int fl, .int wa, .int si, .int sl, .int ov, .ref b1, .ref b2, .int 0, .int 0, .int 0, .int 0, .int 0])), (q1, .inr (9, nwX9)), (q5, .inl (c 0, 2400, .inl (fun _ => 0))), (q6, .inl (c 0, 2400, .inl (fun _ => 0))), (q7, .inl (c 0, 2400, .inl (fun _ => 0))), (q8, .inl (c 0, 100, .inl (fun _ => 0))), (q9, .inr (9, nwX9))] H := hP
  have hD : va_D A [(h0, .inr (4, [.ref b, .int nu, .int ca, .ref q1, .null, .ref q5, .ref q6, .ref q7, .ref q8, .ref q9, .int 0, .int (-1)])), (b, .inr (0, [.int ar, .int fl, .int wa, .int si, .int sl, .int ov, .ref b1, .ref b2, .int 0, .int 0, .int 0, .int 0, .int 0])), (q1, .inr (9, nwX9)), (q5, .inl (c 0, 2400, .inl (fun _ => 0))), (q6, .inl (c 0, 2400, .inl (fun _ => 0))), (q7, .inl (c 0, 2400, .inl (fun _ => 0))), (q8, .inl (c 0, 100, .inl (fun _ => 0))), (q9, .inr (9, nwX9))] := hD
  refine lv_aload_n hx hb dX4_init_82 rfl (lv_at hl 0 rfl) ?_
  refine va_new (ci := 1) (fs := nwX1) (C := RX1) (T := TX1) (N := 11) hx hb hts inW_1 tyX1 tyX1_ok hown (hts _ wd_491) (hts _ wd_492) (hts _ wd_94) hK hP hD hS hA rfl nwX1_ok (Nat.le_of_ble_eq_true rfl) (Nat.le_of_ble_eq_true rfl) dX4_init_83 (fun q13 H hP hD hS => ?_)
  have hP : va_P D vwCl [(h0, .inr (4, [.ref b, .int nu, .int ca, .ref q1, .null, .ref q5, .ref q6, .ref q7, .ref q8, .ref q9, .int 0, .int (-1)])), (b, .inr (0, [.int ar, .int fl, .int wa, .int si, .int sl, .int ov, .ref b1, .ref b2, .int 0, .int 0, .int 0, .int 0, .int 0])), (q1, .inr (9, nwX9)), (q5, .inl (c 0, 2400, .inl (fun _ => 0))), (q6, .inl (c 0, 2400, .inl (fun _ => 0))), (q7, .inl (c 0, 2400, .inl (fun _ => 0))), (q8, .inl (c 0, 100, .inl (fun _ => 0))), (q9, .inr (9, nwX9)), (q13, .inr (1, nwX1))] H := hP
  have hD : va_D A [(h0, .inr (4, [.ref b, .int nu, .int ca, .ref q1, .null, .ref q5, .ref q6, .ref q7, .ref q8, .ref q9, .int 0, .int (-1)])), (b, .inr (0, [.int ar, .int fl, .int wa, .int si, .int sl, .int ov, .ref b1, .ref b2, .int 0, .int 0, .int 0, .int 0, .int 0])), (q1, .inr (9, nwX9)), (q5, .inl (c 0, 2400, .inl (fun _ => 0))), (q6, .inl (c 0, 2400, .inl (fun _ => 0))), (q7, .inl (c 0, 2400, .inl (fun _ => 0))), (q8, .inl (c 0, 100, .inl (fun _ => 0))), (q9, .inr (9, nwX9)), (q13, .inr (1, nwX1))] := hD
  refine W.widen (k := 7) (n := 7319) (Nat.le_of_ble_eq_true rfl) (Nat.le_of_ble_eq_true rfl) ?_
  refine lv_dup hx hb dX4_init_86 rfl ?_
  refine lv_aload_n hx hb dX4_init_87 rfl (lv_at hl 1 rfl) ?_
  refine va_get (D := D) (ci := 0) (v := .int ar) (C := RX0) (T := TX0) (N := 13) hx hb hts inW_0 hown hK hP 1 rfl rfl 0 (by decide) (hts _ wd_405) (fun _ h9 => h9) rfl dX4_init_88 ?_
  have hPc := hP.sub (ws' := [(q13, .inr (1, nwX1))]) [8] rfl
  have hDc := hD.sub (ws' := [(q13, .inr (1, nwX1))]) [8] (by decide) rfl
  refine cl_v (wr := [(h0, .inr (4, [.ref b, .int nu, .int ca, .ref q1, .null, .ref q5, .ref q6, .ref q7, .ref q8, .ref q9, .int 0, .int (-1)])), (b, .inr (0, [.int ar, .int fl, .int wa, .int si, .int sl, .int ov, .ref b1, .ref b2, .int 0, .int 0, .int 0, .int 0, .int 0])), (q1, .inr (9, nwX9)), (q5, .inl (c 0, 2400, .inl (fun _ => 0))), (q6, .inl (c 0, 2400, .inl (fun _ => 0))), (q7, .inl (c 0, 2400, .inl (fun _ => 0))), (q8, .inl (c 0, 100, .inl (fun _ => 0))), (q9, .inr (9, nwX9))]) (va_runI (As := [.int ar]) (rest := [.ref q13, .ref h0]) ⟨hx, hb, hml, hown, hts⟩ (c_X1_init l D c H.size q13 ar) (kw_I 1 hts wd_493 wd_494 wd_94 wd_495 rfl rfl rfl (by decide +kernel) ⟨Nat.le_of_ble_eq_true rfl, Nat.le_of_ble_eq_true rfl⟩) (pre_S hPc hK hDc hN hO) rfl rfl hl.1 rfl (lv_room (Nat.le_of_ble_eq_true rfl)) dX4_init_91 ⟨Nat.le_of_ble_eq_true rfl, Nat.le_of_ble_eq_true rfl⟩) hP hD hS hA [8] [0, 1, 2, 3, 4, 5, 6, 7] rfl rfl (by decide) (by decide) (fun u15 H locs h16 hP hD hS => ?_)
  refine W.widen (k := 14) (n := 7467) (Nat.le_of_ble_eq_true rfl) (Nat.le_of_ble_eq_true rfl) ?_
  have hP : va_P D vwCl [(h0, .inr (4, [.ref b, .int nu, .int ca, .ref q1, .null, .ref q5, .ref q6, .ref q7, .ref q8, .ref q9, .int 0, .int (-1)])), (b, .inr (0, [.int ar, .int fl, .int wa, .int si, .int sl, .int ov, .ref b1, .ref b2, .int 0, .int 0, .int 0, .int 0, .int 0])), (q1, .inr (9, nwX9)), (q5, .inl (c 0, 2400, .inl (fun _ => 0))), (q6, .inl (c 0, 2400, .inl (fun _ => 0))), (q7, .inl (c 0, 2400, .inl (fun _ => 0))), (q8, .inl (c 0, 100, .inl (fun _ => 0))), (q9, .inr (9, nwX9))] H := hP
  have hD : va_D A [(h0, .inr (4, [.ref b, .int nu, .int ca, .ref q1, .null, .ref q5, .ref q6, .ref q7, .ref q8, .ref q9, .int 0, .int (-1)])), (b, .inr (0, [.int ar, .int fl, .int wa, .int si, .int sl, .int ov, .ref b1, .ref b2, .int 0, .int 0, .int 0, .int 0, .int 0])), (q1, .inr (9, nwX9)), (q5, .inl (c 0, 2400, .inl (fun _ => 0))), (q6, .inl (c 0, 2400, .inl (fun _ => 0))), (q7, .inl (c 0, 2400, .inl (fun _ => 0))), (q8, .inl (c 0, 100, .inl (fun _ => 0))), (q9, .inr (9, nwX9))] := hD
  refine va_putF (D := D) (ci := 4) (v := .ref q13) (ty := (.object "PoolCoast$Evidence")) (C := RX4) (T := TX4) (N := 12) hx hb hts inW_4 tyX4 tyX4_ok nmX4 hown hK hP hD hS 0 rfl rfl 4 (by decide) (hts _ wd_539) (fun _ h9 => h9) rfl hin rfl (by decide +kernel) rfl rfl (Nat.le_of_ble_eq_true rfl) dX4_init_94 (fun H locs hP hD hS => ?_)
  have hP : va_P D vwCl [(h0, .inr (4, [.ref b, .int nu, .int ca, .ref q1, .ref q13, .ref q5, .ref q6, .ref q7, .ref q8, .ref q9, .int 0, .int (-1)])), (b, .inr (0, [.int ar, .int fl, .int wa, .int si, .int sl, .int ov, .ref b1, .ref b2, .int 0, .int 0, .int 0, .int 0, .int 0])), (q1, .inr (9, nwX9)), (q5, .inl (c 0, 2400, .inl (fun _ => 0))), (q6, .inl (c 0, 2400, .inl (fun _ => 0))), (q7, .inl (c 0, 2400, .inl (fun _ => 0))), (q8, .inl (c 0, 100, .inl (fun _ => 0))), (q9, .inr (9, nwX9))] H := hP
  have hD : va_D A [(h0, .inr (4, [.ref b, .int nu, .int ca, .ref q1, .ref q13, .ref q5, .ref q6, .ref q7, .ref q8, .ref q9, .int 0, .int (-1)])), (b, .inr (0, [.int ar, .int fl, .int wa, .int si, .int sl, .int ov, .ref b1, .ref b2, .int 0, .int 0, .int 0, .int 0, .int 0])), (q1, .inr (9, nwX9)), (q5, .inl (c 0, 2400, .inl (fun _ => 0))), (q6, .inl (c 0, 2400, .inl (fun _ => 0))), (q7, .inl (c 0, 2400, .inl (fun _ => 0))), (q8, .inl (c 0, 100, .inl (fun _ => 0))), (q9, .inr (9, nwX9))] := hD
  refine lv_aload_n hx hb dX4_init_97 rfl (lv_at hl 0 rfl) ?_
  refine va_get (D := D) (ci := 4) (v := .ref q1) (C := RX4) (T := TX4) (N := 12) hx hb hts inW_4 hown hK hP 0 rfl rfl 3 (by decide) (hts _ wd_537) (fun _ h9 => h9) rfl dX4_init_98 ?_
  refine lv_aload_n hx hb dX4_init_101 rfl (lv_at hl 1 rfl) ?_
  refine va_get (D := D) (ci := 0) (v := .int ar) (C := RX0) (T := TX0) (N := 13) hx hb hts inW_0 hown hK hP 1 rfl rfl 0 (by decide) (hts _ wd_405) (fun _ h9 => h9) rfl dX4_init_102 ?_
  refine lv_iload_n hx hb dX4_init_105 rfl (lv_at hl 3 rfl) ?_
  refine lv_imul hx hb dX4_init_106 ?_
  refine lv_topi (fun v17 e18 => ?_)
  refine va_put (D := D) (ci := 9) (v := .int v17) (ty := .int) (C := RX9) (T := TX9) (N := 4) hx hb hts inW_9 tyX9 tyX9_ok nmX9 hown hK hP hD hS 2 rfl rfl 0 (by decide) (hts _ wd_473) (fun _ h9 => h9) rfl (by decide +kernel) rfl rfl (Nat.le_of_ble_eq_true rfl) dX4_init_107 (fun H locs hP hD hS => ?_)
  have hP : va_P D vwCl [(h0, .inr (4, [.ref b, .int nu, .int ca, .ref q1, .ref q13, .ref q5, .ref q6, .ref q7, .ref q8, .ref q9, .int 0, .int (-1)])), (b, .inr (0, [.int ar, .int fl, .int wa, .int si, .int sl, .int ov, .ref b1, .ref b2, .int 0, .int 0, .int 0, .int 0, .int 0])), (q1, .inr (9, (nwX9).set 0 (.int v17))), (q5, .inl (c 0, 2400, .inl (fun _ => 0))), (q6, .inl (c 0, 2400, .inl (fun _ => 0))), (q7, .inl (c 0, 2400, .inl (fun _ => 0))), (q8, .inl (c 0, 100, .inl (fun _ => 0))), (q9, .inr (9, nwX9))] H := hP
  have hD : va_D A [(h0, .inr (4, [.ref b, .int nu, .int ca, .ref q1, .ref q13, .ref q5, .ref q6, .ref q7, .ref q8, .ref q9, .int 0, .int (-1)])), (b, .inr (0, [.int ar, .int fl, .int wa, .int si, .int sl, .int ov, .ref b1, .ref b2, .int 0, .int 0, .int 0, .int 0, .int 0])), (q1, .inr (9, (nwX9).set 0 (.int v17))), (q5, .inl (c 0, 2400, .inl (fun _ => 0))), (q6, .inl (c 0, 2400, .inl (fun _ => 0))), (q7, .inl (c 0, 2400, .inl (fun _ => 0))), (q8, .inl (c 0, 100, .inl (fun _ => 0))), (q9, .inr (9, nwX9))] := hD
  exact rt_v hx hb hr hlocks hK hP hD hS dX4_init_110 [.ref b, .int nu, .int ca, .ref q1, .ref q13, .ref q5, .ref q6, .ref q7, .ref q8, .ref q9, .int 0, .int (-1)] [0] rfl rfl trivial
set_option maxHeartbeats 4000000 in
set_option maxRecDepth 100000 in
/-- X6_init -/
theorem c_X6_init (l : Launch) (D : va_G) (c : Nat → ClassId) (sz : Nat) (h0 : Nat) (q : Nat) (kn : Int32) : Met l yX6_init (.code yX6_init cX6_init 6 none :: Wd) ({ frames := 1, cells := 1, slots := 0, locals := 40 }) (va_Pc [.ref h0, .ref q, .int 0, .int kn] (WB D c [(h0, .inr (6, nwX6)), (q, .inl (c 0, 320, .inl (fun _ => 0)))] sz)) (QV (S := List Value) D c (fun _ => True) (fun u => [(h0, .inr (6, u))]) (va_A [(h0, .inr (6, nwX6)), (q, .inl (c 0, 320, .inl (fun _ => 0)))] sz)) 1 0 (va_A [(h0, .inr (6, nwX6)), (q, .inl (c 0, 320, .inl (fun _ => 0)))] sz) := by
  refine kz_met (Qc := QV (S := List Value) D c (fun _ => True) (fun u => [(h0, .inr (6, u))])) (by decide) (Nat.le_of_ble_eq_true rfl) ?_
  intro p e s m below meth cd A ls H locs hx hb hr hml hts hown hlocks hin hN hO hK hP hD hS hA hl
  have hl : lv_has ls 6 [(0, .ref h0), (1, .ref q), (2, .int 0), (3, .int kn)] := hl
  have hown : s.vm.findClass RX6 = some m.cls := hown
  refine lv_aload_n hx hb dX6_init_0 rfl (lv_at hl 0 rfl) ?_
  refine W.objInit hx hb hown (hts _ wd_855) (hts _ wd_110) (hts _ wd_111) rfl (by rw [hml]; exact hl.1) rfl dX6_init_1 (Nat.le_of_ble_eq_true rfl) (Nat.le_of_ble_eq_true rfl) ?_
  refine W.eq (g2 := F0 m 4 ls []) rfl ?_
  refine lv_aload_n hx hb dX6_init_4 rfl (lv_at hl 0 rfl) ?_
  refine lv_iload_n hx hb dX6_init_5 rfl (lv_at hl 3 rfl) ?_
  refine va_putF (D := D) (ci := 6) (v := .int kn) (ty := .int) (C := RX6) (T := TX6) (N := 3) hx hb hts inW_6 tyX6 tyX6_ok nmX6 hown hK hP hD hS 0 rfl rfl 0 (by decide) (hts _ wd_860) (fun _ h9 => h9) rfl hin rfl (by decide +kernel) rfl rfl (Nat.le_of_ble_eq_true rfl) dX6_init_6 (fun H locs hP hD hS => ?_)
  have hP : va_P D vwCl [(h0, .inr (6, [.int kn, .int 0, .null])), (q, .inl (c 0, 320, .inl (fun _ => 0)))] H := hP
  have hD : va_D A [(h0, .inr (6, [.int kn, .int 0, .null])), (q, .inl (c 0, 320, .inl (fun _ => 0)))] := hD
  refine lv_aload_n hx hb dX6_init_9 rfl (lv_at hl 0 rfl) ?_
  refine lv_iconst (v := 0) hx hb dX6_init_10 (by decide) ?_
  refine lv_iload_n hx hb dX6_init_11 rfl (lv_at hl 2 rfl) ?_
  refine lv_aload_n hx hb dX6_init_12 rfl (lv_at hl 1 rfl) ?_
  refine va_alen (v := 320) hx hb hK hP 1 0 rfl rfl (by show Int32.ofNat 320 = 320; decide) dX6_init_13 ?_
  refine va_mmin hx hb (by rw [hml]; exact hl.1.symm) hown (hts _ wd_856) (hts _ wd_639) (hts _ wd_95) (hts _ wd_640) (Nat.le_of_ble_eq_true rfl) (Nat.le_of_ble_eq_true rfl) (Nat.le_of_ble_eq_true rfl) (Nat.le_of_ble_eq_true rfl) dX6_init_14 ?_
  refine lv_topi (fun v1 e2 => ?_)
  obtain rfl : v1 = 0 := e2.trans (by decide)
  refine va_mmax hx hb (by rw [hml]; exact hl.1.symm) hown (hts _ wd_857) (hts _ wd_646) (hts _ wd_95) (hts _ wd_647) (Nat.le_of_ble_eq_true rfl) (Nat.le_of_ble_eq_true rfl) (Nat.le_of_ble_eq_true rfl) (Nat.le_of_ble_eq_true rfl) dX6_init_17 ?_
  refine lv_topi (fun v3 e4 => ?_)
  obtain rfl : v3 = 0 := e4.trans (by decide)
  refine kz_newa (c := c) (atype := .int) (a0 := (0, .inl (fun _ => 0))) hx hb 0 rfl (hts _ wd_129) rfl hK hP hD hS hA (fun _ => rfl) (by decide) (by decide) (Nat.le_of_ble_eq_true rfl) (Nat.le_of_ble_eq_true rfl) (Nat.le_of_ble_eq_true rfl) dX6_init_20 (fun q5 H hP hD hS => ?_)
  have hP : va_P D vwCl [(h0, .inr (6, [.int kn, .int 0, .null])), (q, .inl (c 0, 320, .inl (fun _ => 0))), (q5, .inl (c 0, 0, .inl (fun _ => 0)))] H := hP
  have hD : va_D A [(h0, .inr (6, [.int kn, .int 0, .null])), (q, .inl (c 0, 320, .inl (fun _ => 0))), (q5, .inl (c 0, 0, .inl (fun _ => 0)))] := hD
  refine W.widen (k := 1) (n := 0) (Nat.le_of_ble_eq_true rfl) (Nat.le_of_ble_eq_true rfl) ?_
  refine va_putF (D := D) (ci := 6) (v := .ref q5) (ty := (.array .int)) (C := RX6) (T := TX6) (N := 3) hx hb hts inW_6 tyX6 tyX6_ok nmX6 hown hK hP hD hS 0 rfl rfl 2 (by decide) (hts _ wd_864) (fun _ h9 => h9) rfl hin rfl (by decide +kernel) rfl rfl (Nat.le_of_ble_eq_true rfl) dX6_init_22 (fun H locs hP hD hS => ?_)
  have hP : va_P D vwCl [(h0, .inr (6, [.int kn, .int 0, .ref q5])), (q, .inl (c 0, 320, .inl (fun _ => 0))), (q5, .inl (c 0, 0, .inl (fun _ => 0)))] H := hP
  have hD : va_D A [(h0, .inr (6, [.int kn, .int 0, .ref q5])), (q, .inl (c 0, 320, .inl (fun _ => 0))), (q5, .inl (c 0, 0, .inl (fun _ => 0)))] := hD
  refine lv_iconst (v := 0) hx hb dX6_init_25 (by decide) ?_
  refine lv_istore (lv' := [(4, .int 0), (0, .ref h0), (1, .ref q), (2, .int 0), (3, .int kn)]) hx hb dX6_init_26 hl (by decide) rfl (fun ls hl => ?_)
  refine lv_iconst (v := 0) hx hb dX6_init_28 (by decide) ?_
  refine lv_istore (lv' := [(5, .int 0), (4, .int 0), (0, .ref h0), (1, .ref q), (2, .int 0), (3, .int kn)]) hx hb dX6_init_29 hl (by decide) rfl (fun ls hl => ?_)
  refine lv_iload hx hb dX6_init_31 (lv_at hl 0 rfl) ?_
  refine lv_aload_n hx hb dX6_init_33 rfl (lv_at hl 2 rfl) ?_
  refine va_get (D := D) (ci := 6) (v := .ref q5) (C := RX6) (T := TX6) (N := 3) hx hb hts inW_6 hown hK hP 0 rfl rfl 2 (by decide) (hts _ wd_864) (fun _ h9 => h9) rfl dX6_init_34 ?_
  refine va_alen (v := 0) hx hb hK hP 2 0 rfl rfl (by show Int32.ofNat 0 = 0; decide) dX6_init_37 ?_
  refine lv_icmp_ge (tgt := 102) hx hb dX6_init_38 (by decide) (fun _ => ?_) (fun c => False.elim (by revert c; decide))
  refine lv_aload_n hx hb dX6_init_102 rfl (lv_at hl 2 rfl) ?_
  refine lv_iload hx hb dX6_init_103 (lv_at hl 1 rfl) ?_
  refine va_putF (D := D) (ci := 6) (v := .int 0) (ty := .boolean) (C := RX6) (T := TX6) (N := 3) hx hb hts inW_6 tyX6 tyX6_ok nmX6 hown hK hP hD hS 0 rfl rfl 1 (by decide) (hts _ wd_862) (fun _ h9 => h9) rfl hin rfl (by decide +kernel) rfl rfl (Nat.le_of_ble_eq_true rfl) dX6_init_105 (fun H locs hP hD hS => ?_)
  have hP : va_P D vwCl [(h0, .inr (6, [.int kn, .int 0, .ref q5])), (q, .inl (c 0, 320, .inl (fun _ => 0))), (q5, .inl (c 0, 0, .inl (fun _ => 0)))] H := hP
  have hD : va_D A [(h0, .inr (6, [.int kn, .int 0, .ref q5])), (q, .inl (c 0, 320, .inl (fun _ => 0))), (q5, .inl (c 0, 0, .inl (fun _ => 0)))] := hD
  exact rt_v hx hb hr hlocks hK hP hD hS dX6_init_108 [.int kn, .int 0, .ref q5] [0] rfl rfl trivial
