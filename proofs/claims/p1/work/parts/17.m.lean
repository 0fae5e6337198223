set_option maxHeartbeats 4000000 in
set_option maxRecDepth 100000 in
/-- X12_turn -/
theorem c_X12_turn (l : Launch) (D : va_G) (c : Nat → ClassId) (sz : Nat) (r : Nat → Nat) (t : Int32) (v : Int32) : Met l yX12_turn (.code yX12_turn cX12_turn 3 (some .int) :: Wd) ({ frames := 1, cells := 0, slots := 0, locals := 22 }) (va_Pc [.ref (r 0), .int t, .int v] (WB D c [((r 0), .inr (12, fM r 0 0)), ((r 3), .inl (c 0, 500, .inl (fun _ => 0))), ((r 4), .inl (c 0, 500, .inl (fun _ => 0)))] sz)) (QI (S := Unit) D c (fun q _ => q = f_turn t v) (fun _ => []) (va_A [((r 0), .inr (12, fM r 0 0)), ((r 3), .inl (c 0, 500, .inl (fun _ => 0))), ((r 4), .inl (c 0, 500, .inl (fun _ => 0)))] sz)) 0 0 (va_A [((r 0), .inr (12, fM r 0 0)), ((r 3), .inl (c 0, 500, .inl (fun _ => 0))), ((r 4), .inl (c 0, 500, .inl (fun _ => 0)))] sz) := by
  refine kz_met (Qc := QI (S := Unit) D c (fun q _ => q = f_turn t v) (fun _ => [])) (by decide) (Nat.le_of_ble_eq_true rfl) ?_
  intro p e s m below meth cd A ls H locs hx hb hr hml hts hown hlocks hin hN hO hK hP hD hS hA hl
  have hl : lv_has ls 3 [(0, .ref (r 0)), (1, .int t), (2, .int v)] := hl
  have hown : s.vm.findClass RX12 = some m.cls := hown
  refine lv_aload_n hx hb dX12_turn_0 rfl (lv_at hl 0 rfl) ?_
  refine va_get (D := D) (ci := 12) (v := .int 0) (C := RX12) (T := TX12) (N := 92) hx hb hts inW_12 hown hK hP 0 rfl rfl 1 (by decide) (hts _ wd_1121) (fun _ h9 => h9) rfl dX12_turn_1 ?_
  refine lv_sipush (v := 500) hx hb dX12_turn_4 (by decide) ?_
  refine lv_icmp_eq (tgt := 41) hx hb dX12_turn_7 (by decide) (fun c => False.elim (by revert c; decide)) (fun _ => ?_)
  refine lv_aload_n hx hb dX12_turn_10 rfl (lv_at hl 0 rfl) ?_
  have hPc := hP.sub (ws' := [((r 0), .inr (12, fM r 0 0))]) [0] rfl
  have hDc := hD.sub (ws' := [((r 0), .inr (12, fM r 0 0))]) [0] (by decide) rfl
  refine cl_i (wr := [((r 3), .inl (c 0, 500, .inl (fun _ => 0))), ((r 4), .inl (c 0, 500, .inl (fun _ => 0)))]) (va_runV (As := []) (rest := []) ⟨hx, hb, hml, hown, hts⟩ (c_X12_isOver l D c H.size r) (kw_V 0 hts wd_1403 wd_1405 wd_42 wd_90 wd_1406 rfl rfl (by decide +kernel) ⟨Nat.le_of_ble_eq_true rfl, Nat.le_of_ble_eq_true rfl⟩) (pre_V hPc hK hDc hN hO (ci := 12) (q0 := 0) rfl rfl) rfl rfl hl.1 rfl (lv_room (Nat.le_of_ble_eq_true rfl)) dX12_turn_11 ⟨Nat.le_of_ble_eq_true rfl, Nat.le_of_ble_eq_true rfl⟩) hP hD hS hA [0] [1, 2] rfl rfl (by decide) (by decide) (fun r1 u2 H locs h3 hP hD hS => ?_)
  have hP : va_P D vwCl [((r 3), .inl (c 0, 500, .inl (fun _ => 0))), ((r 4), .inl (c 0, 500, .inl (fun _ => 0))), ((r 0), .inr (12, fM r 0 0))] H := hP
  have hD : va_D A [((r 3), .inl (c 0, 500, .inl (fun _ => 0))), ((r 4), .inl (c 0, 500, .inl (fun _ => 0))), ((r 0), .inr (12, fM r 0 0))] := hD
  obtain rfl : r1 = 0 := h3
  refine lv_if_ne (tgt := 41) hx hb dX12_turn_14 (by decide) (fun c => False.elim (by revert c; decide)) (fun _ => ?_)
  refine lv_iload_n hx hb dX12_turn_17 rfl (lv_at hl 1 rfl) ?_
  refine lv_iconst (v := 0) hx hb dX12_turn_18 (by decide) ?_
  refine lv_sipush (v := 14399) hx hb dX12_turn_19 (by decide) ?_
  have hPc := hP.sub (ws' := []) [] rfl
  have hDc := hD.sub (ws' := []) [] (by decide) rfl
  refine cl_i (wr := [((r 3), .inl (c 0, 500, .inl (fun _ => 0))), ((r 4), .inl (c 0, 500, .inl (fun _ => 0))), ((r 0), .inr (12, fM r 0 0))]) (va_runS (As := [.int t, .int 0, .int 14399]) (rest := []) ⟨hx, hb, hml, hown, hts⟩ (c_X12_in l D c H.size t 0 14399) (kw_S 3 hts wd_1407 wd_1408 wd_90 wd_1409 rfl rfl (by decide +kernel) ⟨Nat.le_of_ble_eq_true rfl, Nat.le_of_ble_eq_true rfl⟩) (pre_S hPc hK hDc hN hO) rfl rfl hl.1 rfl (lv_room (Nat.le_of_ble_eq_true rfl)) dX12_turn_22 ⟨Nat.le_of_ble_eq_true rfl, Nat.le_of_ble_eq_true rfl⟩) hP hD hS hA [] [0, 1, 2] rfl rfl (by decide) (by decide) (fun r4 u5 H locs h6 hP hD hS => ?_)
  have hP : va_P D vwCl [((r 3), .inl (c 0, 500, .inl (fun _ => 0))), ((r 4), .inl (c 0, 500, .inl (fun _ => 0))), ((r 0), .inr (12, fM r 0 0))] H := hP
  have hD : va_D A [((r 3), .inl (c 0, 500, .inl (fun _ => 0))), ((r 4), .inl (c 0, 500, .inl (fun _ => 0))), ((r 0), .inr (12, fM r 0 0))] := hD
  rcases inB_c h6 with ⟨h7, rfl⟩ | ⟨h7, rfl⟩
  · refine lv_if_eq (tgt := 41) hx hb dX12_turn_25 (by decide) (fun c => False.elim (by revert c; decide)) (fun _ => ?_)
    refine lv_iload_n hx hb dX12_turn_28 rfl (lv_at hl 2 rfl) ?_
    refine lv_sipush (v := (-500)) hx hb dX12_turn_29 (by decide) ?_
    refine lv_sipush (v := 900) hx hb dX12_turn_32 (by decide) ?_
    have hPc := hP.sub (ws' := []) [] rfl
    have hDc := hD.sub (ws' := []) [] (by decide) rfl
    refine cl_i (wr := [((r 3), .inl (c 0, 500, .inl (fun _ => 0))), ((r 4), .inl (c 0, 500, .inl (fun _ => 0))), ((r 0), .inr (12, fM r 0 0))]) (va_runS (As := [.int v, .int (-500), .int 900]) (rest := []) ⟨hx, hb, hml, hown, hts⟩ (c_X12_in l D c H.size v ((-500)) 900) (kw_S 3 hts wd_1407 wd_1408 wd_90 wd_1409 rfl rfl (by decide +kernel) ⟨Nat.le_of_ble_eq_true rfl, Nat.le_of_ble_eq_true rfl⟩) (pre_S hPc hK hDc hN hO) rfl rfl hl.1 rfl (lv_room (Nat.le_of_ble_eq_true rfl)) dX12_turn_35 ⟨Nat.le_of_ble_eq_true rfl, Nat.le_of_ble_eq_true rfl⟩) hP hD hS hA [] [0, 1, 2] rfl rfl (by decide) (by decide) (fun r8 u9 H locs h10 hP hD hS => ?_)
    have hP : va_P D vwCl [((r 3), .inl (c 0, 500, .inl (fun _ => 0))), ((r 4), .inl (c 0, 500, .inl (fun _ => 0))), ((r 0), .inr (12, fM r 0 0))] H := hP
    have hD : va_D A [((r 3), .inl (c 0, 500, .inl (fun _ => 0))), ((r 4), .inl (c 0, 500, .inl (fun _ => 0))), ((r 0), .inr (12, fM r 0 0))] := hD
    rcases inB_c h10 with ⟨h11, rfl⟩ | ⟨h11, rfl⟩
    · refine lv_if_ne (tgt := 43) hx hb dX12_turn_38 (by decide) (fun _ => ?_) (fun c => False.elim (by revert c; decide))
      refine lv_aload_n hx hb dX12_turn_43 rfl (lv_at hl 0 rfl) ?_
      refine va_get (D := D) (ci := 12) (v := .int 0) (C := RX12) (T := TX12) (N := 92) hx hb hts inW_12 hown hK hP 2 rfl rfl 1 (by decide) (hts _ wd_1121) (fun _ h9 => h9) rfl dX12_turn_44 ?_
      refine lv_if_le (tgt := 75) hx hb dX12_turn_47 (by decide) (fun _ => ?_) (fun c => False.elim (by revert c; decide))
      refine lv_aload_n hx hb dX12_turn_75 rfl (lv_at hl 0 rfl) ?_
      refine va_get (D := D) (ci := 12) (v := .ref (r 3)) (C := RX12) (T := TX12) (N := 92) hx hb hts inW_12 hown hK hP 2 rfl rfl 2 (by decide) (hts _ wd_1122) (fun _ h9 => h9) rfl dX12_turn_76 ?_
      refine lv_aload_n hx hb dX12_turn_79 rfl (lv_at hl 0 rfl) ?_
      refine va_get (D := D) (ci := 12) (v := .int 0) (C := RX12) (T := TX12) (N := 92) hx hb hts inW_12 hown hK hP 2 rfl rfl 1 (by decide) (hts _ wd_1121) (fun _ h9 => h9) rfl dX12_turn_80 ?_
      refine lv_iload_n hx hb dX12_turn_83 rfl (lv_at hl 1 rfl) ?_
      refine va_iast hx hb hK hP hD hS 0 0 rfl rfl (vp_in_iff.mpr (by decide)) dX12_turn_84 (fun H locs hP hD hS => ?_)
      have hP : va_P D vwCl [((r 3), .inl (c 0, 500, .inl (upd (fun _ => 0) (Int32.toNatClampNeg 0) t))), ((r 4), .inl (c 0, 500, .inl (fun _ => 0))), ((r 0), .inr (12, fM r 0 0))] H := hP
      have hD : va_D A [((r 3), .inl (c 0, 500, .inl (upd (fun _ => 0) (Int32.toNatClampNeg 0) t))), ((r 4), .inl (c 0, 500, .inl (fun _ => 0))), ((r 0), .inr (12, fM r 0 0))] := hD
      refine lv_aload_n hx hb dX12_turn_85 rfl (lv_at hl 0 rfl) ?_
      refine va_get (D := D) (ci := 12) (v := .ref (r 4)) (C := RX12) (T := TX12) (N := 92) hx hb hts inW_12 hown hK hP 2 rfl rfl 3 (by decide) (hts _ wd_1123) (fun _ h9 => h9) rfl dX12_turn_86 ?_
      refine lv_aload_n hx hb dX12_turn_89 rfl (lv_at hl 0 rfl) ?_
      refine va_get (D := D) (ci := 12) (v := .int 0) (C := RX12) (T := TX12) (N := 92) hx hb hts inW_12 hown hK hP 2 rfl rfl 1 (by decide) (hts _ wd_1121) (fun _ h9 => h9) rfl dX12_turn_90 ?_
      refine lv_iload_n hx hb dX12_turn_93 rfl (lv_at hl 2 rfl) ?_
      refine va_iast hx hb hK hP hD hS 1 0 rfl rfl (vp_in_iff.mpr (by decide)) dX12_turn_94 (fun H locs hP hD hS => ?_)
      have hP : va_P D vwCl [((r 3), .inl (c 0, 500, .inl (upd (fun _ => 0) (Int32.toNatClampNeg 0) t))), ((r 4), .inl (c 0, 500, .inl (upd (fun _ => 0) (Int32.toNatClampNeg 0) v))), ((r 0), .inr (12, fM r 0 0))] H := hP
      have hD : va_D A [((r 3), .inl (c 0, 500, .inl (upd (fun _ => 0) (Int32.toNatClampNeg 0) t))), ((r 4), .inl (c 0, 500, .inl (upd (fun _ => 0) (Int32.toNatClampNeg 0) v))), ((r 0), .inr (12, fM r 0 0))] := hD
      refine lv_aload_n hx hb dX12_turn_95 rfl (lv_at hl 0 rfl) ?_
      refine lv_dup hx hb dX12_turn_96 rfl ?_
      refine va_get (D := D) (ci := 12) (v := .int 0) (C := RX12) (T := TX12) (N := 92) hx hb hts inW_12 hown hK hP 2 rfl rfl 1 (by decide) (hts _ wd_1121) (fun _ h9 => h9) rfl dX12_turn_97 ?_
      refine lv_iconst (v := 1) hx hb dX12_turn_100 (by decide) ?_
      refine lv_iadd hx hb dX12_turn_101 ?_
      refine lv_topi (fun v12 e13 => ?_)
      obtain rfl : v12 = 1 := e13.trans (by decide)
      refine va_put (D := D) (ci := 12) (v := .int 1) (ty := .int) (C := RX12) (T := TX12) (N := 92) hx hb hts inW_12 tyX12 tyX12_ok nmX12 hown hK hP hD hS 2 rfl rfl 1 (by decide) (hts _ wd_1121) (fun _ h9 => h9) rfl (by decide +kernel) rfl rfl (Nat.le_of_ble_eq_true rfl) dX12_turn_102 (fun H locs hP hD hS => ?_)
      have hP : va_P D vwCl [((r 3), .inl (c 0, 500, .inl (upd (fun _ => 0) (Int32.toNatClampNeg 0) t))), ((r 4), .inl (c 0, 500, .inl (upd (fun _ => 0) (Int32.toNatClampNeg 0) v))), ((r 0), .inr (12, (fM r 0 0).set 1 (.int 1)))] H := hP
      have hD : va_D A [((r 3), .inl (c 0, 500, .inl (upd (fun _ => 0) (Int32.toNatClampNeg 0) t))), ((r 4), .inl (c 0, 500, .inl (upd (fun _ => 0) (Int32.toNatClampNeg 0) v))), ((r 0), .inr (12, (fM r 0 0).set 1 (.int 1)))] := hD
      refine lv_aload_n hx hb dX12_turn_105 rfl (lv_at hl 0 rfl) ?_
      refine va_get (D := D) (ci := 12) (v := .int 1) (C := RX12) (T := TX12) (N := 92) hx hb hts inW_12 hown hK hP 2 rfl rfl 1 (by decide) (hts _ wd_1121) (fun _ h9 => h9) rfl dX12_turn_106 ?_
      exact rt_i hx hb hr hlocks hK hP hD hS rfl dX12_turn_109 () [] rfl rfl (by show (1 : Int32) = _; unfold f_turn; (try simp only [Int32.reduceToInt, not_true_eq_false, false_or, not_false_eq_true, true_or, and_true, true_and]); (try simp only [Int32.le_iff_toInt_le, Int32.lt_iff_toInt_lt, ← Int32.toInt_inj, Int32.reduceToInt] at h7); (try simp only [Int32.le_iff_toInt_le, Int32.lt_iff_toInt_lt, ← Int32.toInt_inj, Int32.reduceToInt] at h11); first | (rw [if_pos (by omega)]; done) | (rw [if_neg (by omega)]; done) | (rw [if_pos (by omega)]; exact Int32.toInt_inj.mp (by (try simp only [Int32.reduceToInt]); omega)))
    · refine lv_if_ne (tgt := 43) hx hb dX12_turn_38 (by decide) (fun c => False.elim (by revert c; decide)) (fun _ => ?_)
      refine lv_iconst (v := (-1)) hx hb dX12_turn_41 (by decide) ?_
      exact rt_i hx hb hr hlocks hK hP hD hS rfl dX12_turn_42 () [] rfl rfl (by show ((-1) : Int32) = _; unfold f_turn; (try simp only [Int32.reduceToInt, not_true_eq_false, false_or, not_false_eq_true, true_or, and_true, true_and]); (try simp only [Int32.le_iff_toInt_le, Int32.lt_iff_toInt_lt, ← Int32.toInt_inj, Int32.reduceToInt] at h7); (try simp only [Int32.le_iff_toInt_le, Int32.lt_iff_toInt_lt, ← Int32.toInt_inj, Int32.reduceToInt] at h11); first | (rw [if_pos (by omega)]; done) | (rw [if_neg (by omega)]; done) | (rw [if_pos (by omega)]; exact Int32.toInt_inj.mp (by (try simp only [Int32.reduceToInt]); omega)))
  · refine lv_if_eq (tgt := 41) hx hb dX12_turn_25 (by decide) (fun _ => ?_) (fun c => False.elim (by revert c; decide))
    refine lv_iconst (v := (-1)) hx hb dX12_turn_41 (by decide) ?_
    exact rt_i hx hb hr hlocks hK hP hD hS rfl dX12_turn_42 () [] rfl rfl (by show ((-1) : Int32) = _; unfold f_turn; (try simp only [Int32.reduceToInt, not_true_eq_false, false_or, not_false_eq_true, true_or, and_true, true_and]); (try simp only [Int32.le_iff_toInt_le, Int32.lt_iff_toInt_lt, ← Int32.toInt_inj, Int32.reduceToInt] at h7); first | (rw [if_pos (by omega)]; done) | (rw [if_neg (by omega)]; done) | (rw [if_pos (by omega)]; exact Int32.toInt_inj.mp (by (try simp only [Int32.reduceToInt]); omega)))
set_option maxHeartbeats 4000000 in
set_option maxRecDepth 100000 in
/-- X12_sea -/
theorem c_X12_sea (l : Launch) (D : va_G) (c : Nat → ClassId) (sz : Nat) (r : Nat → Nat) (t : Int32) : Met l yX12_sea (.code yX12_sea cX12_sea 2 (some .int) :: Wd) ({ frames := 1, cells := 0, slots := 0, locals := 28 }) (va_Pc [.ref (r 0), .int t] (WB D c [((r 0), .inr (12, fM r 0 0))] sz)) (QI (S := Unit) D c (fun q _ => q = f_sea t) (fun _ => []) (va_A [((r 0), .inr (12, fM r 0 0))] sz)) 0 0 (va_A [((r 0), .inr (12, fM r 0 0))] sz) := by
  refine kz_met (Qc := QI (S := Unit) D c (fun q _ => q = f_sea t) (fun _ => [])) (by decide) (Nat.le_of_ble_eq_true rfl) ?_
  intro p e s m below meth cd A ls H locs hx hb hr hml hts hown hlocks hin hN hO hK hP hD hS hA hl
  have hl : lv_has ls 2 [(0, .ref (r 0)), (1, .int t)] := hl
  have hown : s.vm.findClass RX12 = some m.cls := hown
  refine lv_iload_n hx hb dX12_sea_0 rfl (lv_at hl 1 rfl) ?_
  refine lv_iconst (v := 0) hx hb dX12_sea_1 (by decide) ?_
  refine lv_sipush (v := 14399) hx hb dX12_sea_2 (by decide) ?_
  have hPc := hP.sub (ws' := []) [] rfl
  have hDc := hD.sub (ws' := []) [] (by decide) rfl
  refine cl_i (wr := [((r 0), .inr (12, fM r 0 0))]) (va_runS (As := [.int t, .int 0, .int 14399]) (rest := []) ⟨hx, hb, hml, hown, hts⟩ (c_X12_in l D c H.size t 0 14399) (kw_S 3 hts wd_1407 wd_1408 wd_90 wd_1409 rfl rfl (by decide +kernel) ⟨Nat.le_of_ble_eq_true rfl, Nat.le_of_ble_eq_true rfl⟩) (pre_S hPc hK hDc hN hO) rfl rfl hl.1 rfl (lv_room (Nat.le_of_ble_eq_true rfl)) dX12_sea_5 ⟨Nat.le_of_ble_eq_true rfl, Nat.le_of_ble_eq_true rfl⟩) hP hD hS hA [] [0] rfl rfl (by decide) (by decide) (fun r1 u2 H locs h3 hP hD hS => ?_)
  have hP : va_P D vwCl [((r 0), .inr (12, fM r 0 0))] H := hP
  have hD : va_D A [((r 0), .inr (12, fM r 0 0))] := hD
  rcases inB_c h3 with ⟨h4, rfl⟩ | ⟨h4, rfl⟩
  · refine lv_if_eq (tgt := 19) hx hb dX12_sea_8 (by decide) (fun c => False.elim (by revert c; decide)) (fun _ => ?_)
    refine lv_aload_n hx hb dX12_sea_11 rfl (lv_at hl 0 rfl) ?_
    refine lv_iload_n hx hb dX12_sea_12 rfl (lv_at hl 1 rfl) ?_
    have hPc := hP.sub (ws' := [((r 0), .inr (12, fM r 0 0))]) [0] rfl
    have hDc := hD.sub (ws' := [((r 0), .inr (12, fM r 0 0))]) [0] (by decide) rfl
    refine cl_i (wr := []) (va_runV (As := [.int t]) (rest := []) ⟨hx, hb, hml, hown, hts⟩ (c_X12_seaAt l D c H.size r t) (kw_V 1 hts wd_1414 wd_1416 wd_43 wd_90 wd_1417 rfl rfl (by decide +kernel) ⟨Nat.le_of_ble_eq_true rfl, Nat.le_of_ble_eq_true rfl⟩) (pre_V hPc hK hDc hN hO (ci := 12) (q0 := 0) rfl rfl) rfl rfl hl.1 rfl (lv_room (Nat.le_of_ble_eq_true rfl)) dX12_sea_13 ⟨Nat.le_of_ble_eq_true rfl, Nat.le_of_ble_eq_true rfl⟩) hP hD hS hA [0] [] rfl rfl (by decide) (by decide) (fun r5 u6 H locs h7 hP hD hS => ?_)
    have hP : va_P D vwCl [((r 0), .inr (12, fM r 0 0))] H := hP
    have hD : va_D A [((r 0), .inr (12, fM r 0 0))] := hD
    obtain rfl : r5 = 0 := h7
    refine lv_goto (tgt := 22) hx hb dX12_sea_16 (by decide) ?_
    exact rt_i hx hb hr hlocks hK hP hD hS rfl dX12_sea_22 () [] rfl rfl (by show (0 : Int32) = _; unfold f_sea; (try simp only [Int32.reduceToInt, not_true_eq_false, false_or, not_false_eq_true, true_or, and_true, true_and]); (try simp only [Int32.le_iff_toInt_le, Int32.lt_iff_toInt_lt, ← Int32.toInt_inj, Int32.reduceToInt] at h4); first | (rw [if_pos (by omega)]; done) | (rw [if_neg (by omega)]; done) | (rw [if_pos (by omega)]; exact Int32.toInt_inj.mp (by (try simp only [Int32.reduceToInt]); omega)))
  · refine lv_if_eq (tgt := 19) hx hb dX12_sea_8 (by decide) (fun _ => ?_) (fun c => False.elim (by revert c; decide))
    refine lv_sipush (v := (-1000)) hx hb dX12_sea_19 (by decide) ?_
    exact rt_i hx hb hr hlocks hK hP hD hS rfl dX12_sea_22 () [] rfl rfl (by show ((-1000) : Int32) = _; unfold f_sea; (try simp only [Int32.reduceToInt, not_true_eq_false, false_or, not_false_eq_true, true_or, and_true, true_and]); (try simp only [Int32.le_iff_toInt_le, Int32.lt_iff_toInt_lt, ← Int32.toInt_inj, Int32.reduceToInt] at h4); first | (rw [if_pos (by omega)]; done) | (rw [if_neg (by omega)]; done) | (rw [if_pos (by omega)]; exact Int32.toInt_inj.mp (by (try simp only [Int32.reduceToInt]); omega)))
set_option maxHeartbeats 4000000 in
set_option maxRecDepth 100000 in
/-- X12_wave -/
theorem c_X12_wave (l : Launch) (D : va_G) (c : Nat → ClassId) (sz : Nat) (r : Nat → Nat) (h : Int32) (x : Int32) : Met l yX12_wave (.code yX12_wave cX12_wave 3 (some .int) :: Wd) ({ frames := 2, cells := 0, slots := 0, locals := 42 }) (va_Pc [.ref (r 0), .int h, .int x] (WB D c [((r 0), .inr (12, fM r 0 0)), ((r 6), .inl (c 0, 1500, .inl (fun _ => 0))), ((r 7), .inl (c 0, 1500, .inl (fun _ => 0))), ((r 8), .inl (c 0, 1500, .inl (fun _ => 0)))] sz)) (QI (S := Unit) D c (fun q _ => q = f_wave h x) (fun _ => []) (va_A [((r 0), .inr (12, fM r 0 0)), ((r 6), .inl (c 0, 1500, .inl (fun _ => 0))), ((r 7), .inl (c 0, 1500, .inl (fun _ => 0))), ((r 8), .inl (c 0, 1500, .inl (fun _ => 0)))] sz)) 0 0 (va_A [((r 0), .inr (12, fM r 0 0)), ((r 6), .inl (c 0, 1500, .inl (fun _ => 0))), ((r 7), .inl (c 0, 1500, .inl (fun _ => 0))), ((r 8), .inl (c 0, 1500, .inl (fun _ => 0)))] sz) := by
  refine kz_met (Qc := QI (S := Unit) D c (fun q _ => q = f_wave h x) (fun _ => [])) (by decide) (Nat.le_of_ble_eq_true rfl) ?_
  intro p e s m below meth cd A ls H locs hx hb hr hml hts hown hlocks hin hN hO hK hP hD hS hA hl
  have hl : lv_has ls 3 [(0, .ref (r 0)), (1, .int h), (2, .int x)] := hl
  have hown : s.vm.findClass RX12 = some m.cls := hown
  refine lv_aload_n hx hb dX12_wave_0 rfl (lv_at hl 0 rfl) ?_
  refine va_get (D := D) (ci := 12) (v := .int 0) (C := RX12) (T := TX12) (N := 92) hx hb hts inW_12 hown hK hP 0 rfl rfl 4 (by decide) (hts _ wd_1124) (fun _ h9 => h9) rfl dX12_wave_1 ?_
  refine lv_sipush (v := 1500) hx hb dX12_wave_4 (by decide) ?_
  refine lv_icmp_eq (tgt := 50) hx hb dX12_wave_7 (by decide) (fun c => False.elim (by revert c; decide)) (fun _ => ?_)
  refine lv_aload_n hx hb dX12_wave_10 rfl (lv_at hl 0 rfl) ?_
  have hPc := hP.sub (ws' := [((r 0), .inr (12, fM r 0 0))]) [0] rfl
  have hDc := hD.sub (ws' := [((r 0), .inr (12, fM r 0 0))]) [0] (by decide) rfl
  refine cl_i (wr := [((r 6), .inl (c 0, 1500, .inl (fun _ => 0))), ((r 7), .inl (c 0, 1500, .inl (fun _ => 0))), ((r 8), .inl (c 0, 1500, .inl (fun _ => 0)))]) (va_runV (As := []) (rest := []) ⟨hx, hb, hml, hown, hts⟩ (c_X12_isOver l D c H.size r) (kw_V 0 hts wd_1403 wd_1405 wd_42 wd_90 wd_1406 rfl rfl (by decide +kernel) ⟨Nat.le_of_ble_eq_true rfl, Nat.le_of_ble_eq_true rfl⟩) (pre_V hPc hK hDc hN hO (ci := 12) (q0 := 0) rfl rfl) rfl rfl hl.1 rfl (lv_room (Nat.le_of_ble_eq_true rfl)) dX12_wave_11 ⟨Nat.le_of_ble_eq_true rfl, Nat.le_of_ble_eq_true rfl⟩) hP hD hS hA [0] [1, 2, 3] rfl rfl (by decide) (by decide) (fun r1 u2 H locs h3 hP hD hS => ?_)
  have hP : va_P D vwCl [((r 6), .inl (c 0, 1500, .inl (fun _ => 0))), ((r 7), .inl (c 0, 1500, .inl (fun _ => 0))), ((r 8), .inl (c 0, 1500, .inl (fun _ => 0))), ((r 0), .inr (12, fM r 0 0))] H := hP
  have hD : va_D A [((r 6), .inl (c 0, 1500, .inl (fun _ => 0))), ((r 7), .inl (c 0, 1500, .inl (fun _ => 0))), ((r 8), .inl (c 0, 1500, .inl (fun _ => 0))), ((r 0), .inr (12, fM r 0 0))] := hD
  obtain rfl : r1 = 0 := h3
  refine lv_if_ne (tgt := 50) hx hb dX12_wave_14 (by decide) (fun c => False.elim (by revert c; decide)) (fun _ => ?_)
  refine lv_iload_n hx hb dX12_wave_17 rfl (lv_at hl 1 rfl) ?_
  have hPc := hP.sub (ws' := []) [] rfl
  have hDc := hD.sub (ws' := []) [] (by decide) rfl
  refine cl_i (wr := [((r 6), .inl (c 0, 1500, .inl (fun _ => 0))), ((r 7), .inl (c 0, 1500, .inl (fun _ => 0))), ((r 8), .inl (c 0, 1500, .inl (fun _ => 0))), ((r 0), .inr (12, fM r 0 0))]) (va_runS (As := [.int h]) (rest := []) ⟨hx, hb, hml, hown, hts⟩ (c_X12_isHour l D c H.size h) (kw_S 1 hts wd_1422 wd_1423 wd_90 wd_1424 rfl rfl (by decide +kernel) ⟨Nat.le_of_ble_eq_true rfl, Nat.le_of_ble_eq_true rfl⟩) (pre_S hPc hK hDc hN hO) rfl rfl hl.1 rfl (lv_room (Nat.le_of_ble_eq_true rfl)) dX12_wave_18 ⟨Nat.le_of_ble_eq_true rfl, Nat.le_of_ble_eq_true rfl⟩) hP hD hS hA [] [0, 1, 2, 3] rfl rfl (by decide) (by decide) (fun r4 u5 H locs h6 hP hD hS => ?_)
  have hP : va_P D vwCl [((r 6), .inl (c 0, 1500, .inl (fun _ => 0))), ((r 7), .inl (c 0, 1500, .inl (fun _ => 0))), ((r 8), .inl (c 0, 1500, .inl (fun _ => 0))), ((r 0), .inr (12, fM r 0 0))] H := hP
  have hD : va_D A [((r 6), .inl (c 0, 1500, .inl (fun _ => 0))), ((r 7), .inl (c 0, 1500, .inl (fun _ => 0))), ((r 8), .inl (c 0, 1500, .inl (fun _ => 0))), ((r 0), .inr (12, fM r 0 0))] := hD
  rcases inB_c h6 with ⟨h7, rfl⟩ | ⟨h7, rfl⟩
  · refine lv_if_eq (tgt := 50) hx hb dX12_wave_21 (by decide) (fun c => False.elim (by revert c; decide)) (fun _ => ?_)
    refine lv_iload_n hx hb dX12_wave_24 rfl (lv_at hl 1 rfl) ?_
    refine lv_aload_n hx hb dX12_wave_25 rfl (lv_at hl 0 rfl) ?_
    refine va_get (D := D) (ci := 12) (v := .int 0) (C := RX12) (T := TX12) (N := 92) hx hb hts inW_12 hown hK hP 3 rfl rfl 0 (by decide) (hts _ wd_1120) (fun _ h9 => h9) rfl dX12_wave_26 ?_
    refine lv_bipush (v := 6) hx hb dX12_wave_29 (by decide) ?_
    refine lv_idiv hx hb dX12_wave_31 (by decide) ?_
    refine lv_topi (fun v8 e9 => ?_)
    obtain rfl : v8 = 0 := e9.trans (by decide)
    refine lv_sipush (v := 240) hx hb dX12_wave_32 (by decide) ?_
    refine lv_iadd hx hb dX12_wave_35 ?_
    refine lv_topi (fun v10 e11 => ?_)
    obtain rfl : v10 = 240 := e11.trans (by decide)
    refine lv_icmp_gt (tgt := 50) hx hb dX12_wave_36 (by decide) (fun c12 => ?_) (fun c12 => ?_)
    · refine lv_iconst (v := (-1)) hx hb dX12_wave_50 (by decide) ?_
      exact rt_i hx hb hr hlocks hK hP hD hS rfl dX12_wave_51 () [] rfl rfl (by show ((-1) : Int32) = _; unfold f_wave; (try simp only [Int32.reduceToInt, not_true_eq_false, false_or, not_false_eq_true, true_or, and_true, true_and]); (try simp only [Int32.le_iff_toInt_le, Int32.lt_iff_toInt_lt, ← Int32.toInt_inj, Int32.reduceToInt] at h7); (try simp only [Int32.le_iff_toInt_le, Int32.lt_iff_toInt_lt, ← Int32.toInt_inj, Int32.reduceToInt] at c12); first | (rw [if_pos (by omega)]; done) | (rw [if_neg (by omega)]; done) | (rw [if_pos (by omega)]; exact Int32.toInt_inj.mp (by (try simp only [Int32.reduceToInt]); omega)))
    · refine lv_iload_n hx hb dX12_wave_39 rfl (lv_at hl 2 rfl) ?_
      refine lv_iconst (v := 0) hx hb dX12_wave_40 (by decide) ?_
      refine lv_sipush (v := 500) hx hb dX12_wave_41 (by decide) ?_
      have hPc := hP.sub (ws' := []) [] rfl
      have hDc := hD.sub (ws' := []) [] (by decide) rfl
      refine cl_i (wr := [((r 6), .inl (c 0, 1500, .inl (fun _ => 0))), ((r 7), .inl (c 0, 1500, .inl (fun _ => 0))), ((r 8), .inl (c 0, 1500, .inl (fun _ => 0))), ((r 0), .inr (12, fM r 0 0))]) (va_runS (As := [.int x, .int 0, .int 500]) (rest := []) ⟨hx, hb, hml, hown, hts⟩ (c_X12_in l D c H.size x 0 500) (kw_S 3 hts wd_1407 wd_1408 wd_90 wd_1409 rfl rfl (by decide +kernel) ⟨Nat.le_of_ble_eq_true rfl, Nat.le_of_ble_eq_true rfl⟩) (pre_S hPc hK hDc hN hO) rfl rfl hl.1 rfl (lv_room (Nat.le_of_ble_eq_true rfl)) dX12_wave_44 ⟨Nat.le_of_ble_eq_true rfl, Nat.le_of_ble_eq_true rfl⟩) hP hD hS hA [] [0, 1, 2, 3] rfl rfl (by decide) (by decide) (fun r13 u14 H locs h15 hP hD hS => ?_)
      have hP : va_P D vwCl [((r 6), .inl (c 0, 1500, .inl (fun _ => 0))), ((r 7), .inl (c 0, 1500, .inl (fun _ => 0))), ((r 8), .inl (c 0, 1500, .inl (fun _ => 0))), ((r 0), .inr (12, fM r 0 0))] H := hP
      have hD : va_D A [((r 6), .inl (c 0, 1500, .inl (fun _ => 0))), ((r 7), .inl (c 0, 1500, .inl (fun _ => 0))), ((r 8), .inl (c 0, 1500, .inl (fun _ => 0))), ((r 0), .inr (12, fM r 0 0))] := hD
      rcases inB_c h15 with ⟨h16, rfl⟩ | ⟨h16, rfl⟩
      · refine lv_if_ne (tgt := 52) hx hb dX12_wave_47 (by decide) (fun _ => ?_) (fun c => False.elim (by revert c; decide))
        refine lv_aload_n hx hb dX12_wave_52 rfl (lv_at hl 0 rfl) ?_
        refine va_get (D := D) (ci := 12) (v := .ref (r 6)) (C := RX12) (T := TX12) (N := 92) hx hb hts inW_12 hown hK hP 3 rfl rfl 5 (by decide) (hts _ wd_1125) (fun _ h9 => h9) rfl dX12_wave_53 ?_
        refine lv_aload_n hx hb dX12_wave_56 rfl (lv_at hl 0 rfl) ?_
        refine va_get (D := D) (ci := 12) (v := .int 0) (C := RX12) (T := TX12) (N := 92) hx hb hts inW_12 hown hK hP 3 rfl rfl 4 (by decide) (hts _ wd_1124) (fun _ h9 => h9) rfl dX12_wave_57 ?_
        refine lv_iload_n hx hb dX12_wave_60 rfl (lv_at hl 1 rfl) ?_
        refine va_iast hx hb hK hP hD hS 0 0 rfl rfl (vp_in_iff.mpr (by decide)) dX12_wave_61 (fun H locs hP hD hS => ?_)
        have hP : va_P D vwCl [((r 6), .inl (c 0, 1500, .inl (upd (fun _ => 0) (Int32.toNatClampNeg 0) h))), ((r 7), .inl (c 0, 1500, .inl (fun _ => 0))), ((r 8), .inl (c 0, 1500, .inl (fun _ => 0))), ((r 0), .inr (12, fM r 0 0))] H := hP
        have hD : va_D A [((r 6), .inl (c 0, 1500, .inl (upd (fun _ => 0) (Int32.toNatClampNeg 0) h))), ((r 7), .inl (c 0, 1500, .inl (fun _ => 0))), ((r 8), .inl (c 0, 1500, .inl (fun _ => 0))), ((r 0), .inr (12, fM r 0 0))] := hD
        refine lv_aload_n hx hb dX12_wave_62 rfl (lv_at hl 0 rfl) ?_
        refine va_get (D := D) (ci := 12) (v := .ref (r 7)) (C := RX12) (T := TX12) (N := 92) hx hb hts inW_12 hown hK hP 3 rfl rfl 6 (by decide) (hts _ wd_1126) (fun _ h9 => h9) rfl dX12_wave_63 ?_
        refine lv_aload_n hx hb dX12_wave_66 rfl (lv_at hl 0 rfl) ?_
        refine va_get (D := D) (ci := 12) (v := .int 0) (C := RX12) (T := TX12) (N := 92) hx hb hts inW_12 hown hK hP 3 rfl rfl 4 (by decide) (hts _ wd_1124) (fun _ h9 => h9) rfl dX12_wave_67 ?_
        refine lv_aload_n hx hb dX12_wave_70 rfl (lv_at hl 0 rfl) ?_
        refine va_get (D := D) (ci := 12) (v := .int 0) (C := RX12) (T := TX12) (N := 92) hx hb hts inW_12 hown hK hP 3 rfl rfl 0 (by decide) (hts _ wd_1120) (fun _ h9 => h9) rfl dX12_wave_71 ?_
        refine lv_bipush (v := 6) hx hb dX12_wave_74 (by decide) ?_
        refine lv_idiv hx hb dX12_wave_76 (by decide) ?_
        refine lv_topi (fun v17 e18 => ?_)
        obtain rfl : v17 = 0 := e18.trans (by decide)
        refine va_iast hx hb hK hP hD hS 1 0 rfl rfl (vp_in_iff.mpr (by decide)) dX12_wave_77 (fun H locs hP hD hS => ?_)
        have hP : va_P D vwCl [((r 6), .inl (c 0, 1500, .inl (upd (fun _ => 0) (Int32.toNatClampNeg 0) h))), ((r 7), .inl (c 0, 1500, .inl (upd (fun _ => 0) (Int32.toNatClampNeg 0) 0))), ((r 8), .inl (c 0, 1500, .inl (fun _ => 0))), ((r 0), .inr (12, fM r 0 0))] H := hP
        have hD : va_D A [((r 6), .inl (c 0, 1500, .inl (upd (fun _ => 0) (Int32.toNatClampNeg 0) h))), ((r 7), .inl (c 0, 1500, .inl (upd (fun _ => 0) (Int32.toNatClampNeg 0) 0))), ((r 8), .inl (c 0, 1500, .inl (fun _ => 0))), ((r 0), .inr (12, fM r 0 0))] := hD
        refine lv_aload_n hx hb dX12_wave_78 rfl (lv_at hl 0 rfl) ?_
        refine va_get (D := D) (ci := 12) (v := .ref (r 8)) (C := RX12) (T := TX12) (N := 92) hx hb hts inW_12 hown hK hP 3 rfl rfl 7 (by decide) (hts _ wd_1127) (fun _ h9 => h9) rfl dX12_wave_79 ?_
        refine lv_aload_n hx hb dX12_wave_82 rfl (lv_at hl 0 rfl) ?_
        refine va_get (D := D) (ci := 12) (v := .int 0) (C := RX12) (T := TX12) (N := 92) hx hb hts inW_12 hown hK hP 3 rfl rfl 4 (by decide) (hts _ wd_1124) (fun _ h9 => h9) rfl dX12_wave_83 ?_
        refine lv_iload_n hx hb dX12_wave_86 rfl (lv_at hl 2 rfl) ?_
        refine va_iast hx hb hK hP hD hS 2 0 rfl rfl (vp_in_iff.mpr (by decide)) dX12_wave_87 (fun H locs hP hD hS => ?_)
        have hP : va_P D vwCl [((r 6), .inl (c 0, 1500, .inl (upd (fun _ => 0) (Int32.toNatClampNeg 0) h))), ((r 7), .inl (c 0, 1500, .inl (upd (fun _ => 0) (Int32.toNatClampNeg 0) 0))), ((r 8), .inl (c 0, 1500, .inl (upd (fun _ => 0) (Int32.toNatClampNeg 0) x))), ((r 0), .inr (12, fM r 0 0))] H := hP
        have hD : va_D A [((r 6), .inl (c 0, 1500, .inl (upd (fun _ => 0) (Int32.toNatClampNeg 0) h))), ((r 7), .inl (c 0, 1500, .inl (upd (fun _ => 0) (Int32.toNatClampNeg 0) 0))), ((r 8), .inl (c 0, 1500, .inl (upd (fun _ => 0) (Int32.toNatClampNeg 0) x))), ((r 0), .inr (12, fM r 0 0))] := hD
        refine lv_aload_n hx hb dX12_wave_88 rfl (lv_at hl 0 rfl) ?_
        refine lv_dup hx hb dX12_wave_89 rfl ?_
        refine va_get (D := D) (ci := 12) (v := .int 0) (C := RX12) (T := TX12) (N := 92) hx hb hts inW_12 hown hK hP 3 rfl rfl 4 (by decide) (hts _ wd_1124) (fun _ h9 => h9) rfl dX12_wave_90 ?_
        refine lv_iconst (v := 1) hx hb dX12_wave_93 (by decide) ?_
        refine lv_iadd hx hb dX12_wave_94 ?_
        refine lv_topi (fun v19 e20 => ?_)
        obtain rfl : v19 = 1 := e20.trans (by decide)
        refine va_put (D := D) (ci := 12) (v := .int 1) (ty := .int) (C := RX12) (T := TX12) (N := 92) hx hb hts inW_12 tyX12 tyX12_ok nmX12 hown hK hP hD hS 3 rfl rfl 4 (by decide) (hts _ wd_1124) (fun _ h9 => h9) rfl (by decide +kernel) rfl rfl (Nat.le_of_ble_eq_true rfl) dX12_wave_95 (fun H locs hP hD hS => ?_)
        have hP : va_P D vwCl [((r 6), .inl (c 0, 1500, .inl (upd (fun _ => 0) (Int32.toNatClampNeg 0) h))), ((r 7), .inl (c 0, 1500, .inl (upd (fun _ => 0) (Int32.toNatClampNeg 0) 0))), ((r 8), .inl (c 0, 1500, .inl (upd (fun _ => 0) (Int32.toNatClampNeg 0) x))), ((r 0), .inr (12, (fM r 0 0).set 4 (.int 1)))] H := hP
        have hD : va_D A [((r 6), .inl (c 0, 1500, .inl (upd (fun _ => 0) (Int32.toNatClampNeg 0) h))), ((r 7), .inl (c 0, 1500, .inl (upd (fun _ => 0) (Int32.toNatClampNeg 0) 0))), ((r 8), .inl (c 0, 1500, .inl (upd (fun _ => 0) (Int32.toNatClampNeg 0) x))), ((r 0), .inr (12, (fM r 0 0).set 4 (.int 1)))] := hD
        refine lv_aload_n hx hb dX12_wave_98 rfl (lv_at hl 0 rfl) ?_
        refine va_get (D := D) (ci := 12) (v := .int 1) (C := RX12) (T := TX12) (N := 92) hx hb hts inW_12 hown hK hP 3 rfl rfl 4 (by decide) (hts _ wd_1124) (fun _ h9 => h9) rfl dX12_wave_99 ?_
        exact rt_i hx hb hr hlocks hK hP hD hS rfl dX12_wave_102 () [] rfl rfl (by show (1 : Int32) = _; unfold f_wave; (try simp only [Int32.reduceToInt, not_true_eq_false, false_or, not_false_eq_true, true_or, and_true, true_and]); (try simp only [Int32.le_iff_toInt_le, Int32.lt_iff_toInt_lt, ← Int32.toInt_inj, Int32.reduceToInt] at h7); (try simp only [Int32.le_iff_toInt_le, Int32.lt_iff_toInt_lt, ← Int32.toInt_inj, Int32.reduceToInt] at c12); (try simp only [Int32.le_iff_toInt_le, Int32.lt_iff_toInt_lt, ← Int32.toInt_inj, Int32.reduceToInt] at h16); first | (rw [if_pos (by omega)]; done) | (rw [if_neg (by omega)]; done) | (rw [if_pos (by omega)]; exact Int32.toInt_inj.mp (by (try simp only [Int32.reduceToInt]); omega)))
      · refine lv_if_ne (tgt := 52) hx hb dX12_wave_47 (by decide) (fun c => False.elim (by revert c; decide)) (fun _ => ?_)
        refine lv_iconst (v := (-1)) hx hb dX12_wave_50 (by decide) ?_
        exact rt_i hx hb hr hlocks hK hP hD hS rfl dX12_wave_51 () [] rfl rfl (by show ((-1) : Int32) = _; unfold f_wave; (try simp only [Int32.reduceToInt, not_true_eq_false, false_or, not_false_eq_true, true_or, and_true, true_and]); (try simp only [Int32.le_iff_toInt_le, Int32.lt_iff_toInt_lt, ← Int32.toInt_inj, Int32.reduceToInt] at h7); (try simp only [Int32.le_iff_toInt_le, Int32.lt_iff_toInt_lt, ← Int32.toInt_inj, Int32.reduceToInt] at c12); (try simp only [Int32.le_iff_toInt_le, Int32.lt_iff_toInt_lt, ← Int32.toInt_inj, Int32.reduceToInt] at h16); first | (rw [if_pos (by omega)]; done) | (rw [if_neg (by omega)]; done) | (rw [if_pos (by omega)]; exact Int32.toInt_inj.mp (by (try simp only [Int32.reduceToInt]); omega)))
  · refine lv_if_eq (tgt := 50) hx hb dX12_wave_21 (by decide) (fun _ => ?_) (fun c => False.elim (by revert c; decide))
    refine lv_iconst (v := (-1)) hx hb dX12_wave_50 (by decide) ?_
    exact rt_i hx hb hr hlocks hK hP hD hS rfl dX12_wave_51 () [] rfl rfl (by show ((-1) : Int32) = _; unfold f_wave; (try simp only [Int32.reduceToInt, not_true_eq_false, false_or, not_false_eq_true, true_or, and_true, true_and]); (try simp only [Int32.le_iff_toInt_le, Int32.lt_iff_toInt_lt, ← Int32.toInt_inj, Int32.reduceToInt] at h7); first | (rw [if_pos (by omega)]; done) | (rw [if_neg (by omega)]; done) | (rw [if_pos (by omega)]; exact Int32.toInt_inj.mp (by (try simp only [Int32.reduceToInt]); omega)))
set_option maxHeartbeats 4000000 in
set_option maxRecDepth 100000 in
/-- X12_waved -/
theorem c_X12_waved (l : Launch) (D : va_G) (c : Nat → ClassId) (sz : Nat) (r : Nat → Nat) (h : Int32) (k : Int32) : Met l yX12_waved (.code yX12_waved cX12_waved 3 (some .int) :: Wd) ({ frames := 2, cells := 0, slots := 0, locals := 42 }) (va_Pc [.ref (r 0), .int h, .int k] (WB D c [((r 0), .inr (12, fM r 0 0)), ((r 9), .inl (c 0, 3, .inl (setF)))] sz)) (QI (S := Unit) D c (fun q _ => q = f_waved h k) (fun _ => []) (va_A [((r 0), .inr (12, fM r 0 0)), ((r 9), .inl (c 0, 3, .inl (setF)))] sz)) 0 0 (va_A [((r 0), .inr (12, fM r 0 0)), ((r 9), .inl (c 0, 3, .inl (setF)))] sz) := by
  refine kz_met (Qc := QI (S := Unit) D c (fun q _ => q = f_waved h k) (fun _ => [])) (by decide) (Nat.le_of_ble_eq_true rfl) ?_
  intro p e s m below meth cd A ls H locs hx hb hr hml hts hown hlocks hin hN hO hK hP hD hS hA hl
  have hl : lv_has ls 3 [(0, .ref (r 0)), (1, .int h), (2, .int k)] := hl
  have hown : s.vm.findClass RX12 = some m.cls := hown
  refine lv_iload_n hx hb dX12_waved_0 rfl (lv_at hl 1 rfl) ?_
  have hPc := hP.sub (ws' := []) [] rfl
  have hDc := hD.sub (ws' := []) [] (by decide) rfl
  refine cl_i (wr := [((r 0), .inr (12, fM r 0 0)), ((r 9), .inl (c 0, 3, .inl (setF)))]) (va_runS (As := [.int h]) (rest := []) ⟨hx, hb, hml, hown, hts⟩ (c_X12_isHour l D c H.size h) (kw_S 1 hts wd_1422 wd_1423 wd_90 wd_1424 rfl rfl (by decide +kernel) ⟨Nat.le_of_ble_eq_true rfl, Nat.le_of_ble_eq_true rfl⟩) (pre_S hPc hK hDc hN hO) rfl rfl hl.1 rfl (lv_room (Nat.le_of_ble_eq_true rfl)) dX12_waved_1 ⟨Nat.le_of_ble_eq_true rfl, Nat.le_of_ble_eq_true rfl⟩) hP hD hS hA [] [0, 1] rfl rfl (by decide) (by decide) (fun r1 u2 H locs h3 hP hD hS => ?_)
  have hP : va_P D vwCl [((r 0), .inr (12, fM r 0 0)), ((r 9), .inl (c 0, 3, .inl (setF)))] H := hP
  have hD : va_D A [((r 0), .inr (12, fM r 0 0)), ((r 9), .inl (c 0, 3, .inl (setF)))] := hD
  rcases inB_c h3 with ⟨h4, rfl⟩ | ⟨h4, rfl⟩
  · refine lv_if_eq (tgt := 23) hx hb dX12_waved_4 (by decide) (fun c => False.elim (by revert c; decide)) (fun _ => ?_)
    refine lv_iload_n hx hb dX12_waved_7 rfl (lv_at hl 2 rfl) ?_
    have hPc := hP.sub (ws' := []) [] rfl
    have hDc := hD.sub (ws' := []) [] (by decide) rfl
    refine cl_i (wr := [((r 0), .inr (12, fM r 0 0)), ((r 9), .inl (c 0, 3, .inl (setF)))]) (va_runS (As := [.int k]) (rest := []) ⟨hx, hb, hml, hown, hts⟩ (c_X12_isHour l D c H.size k) (kw_S 1 hts wd_1422 wd_1423 wd_90 wd_1424 rfl rfl (by decide +kernel) ⟨Nat.le_of_ble_eq_true rfl, Nat.le_of_ble_eq_true rfl⟩) (pre_S hPc hK hDc hN hO) rfl rfl hl.1 rfl (lv_room (Nat.le_of_ble_eq_true rfl)) dX12_waved_8 ⟨Nat.le_of_ble_eq_true rfl, Nat.le_of_ble_eq_true rfl⟩) hP hD hS hA [] [0, 1] rfl rfl (by decide) (by decide) (fun r5 u6 H locs h7 hP hD hS => ?_)
    have hP : va_P D vwCl [((r 0), .inr (12, fM r 0 0)), ((r 9), .inl (c 0, 3, .inl (setF)))] H := hP
    have hD : va_D A [((r 0), .inr (12, fM r 0 0)), ((r 9), .inl (c 0, 3, .inl (setF)))] := hD
    rcases inB_c h7 with ⟨h8, rfl⟩ | ⟨h8, rfl⟩
    · refine lv_if_eq (tgt := 23) hx hb dX12_waved_11 (by decide) (fun c => False.elim (by revert c; decide)) (fun _ => ?_)
      refine lv_aload_n hx hb dX12_waved_14 rfl (lv_at hl 0 rfl) ?_
      refine lv_iload_n hx hb dX12_waved_15 rfl (lv_at hl 1 rfl) ?_
      refine lv_iload_n hx hb dX12_waved_16 rfl (lv_at hl 2 rfl) ?_
      have hPc := hP.sub (ws' := [((r 0), .inr (12, fM r 0 0)), ((r 9), .inl (c 0, 3, .inl (setF)))]) [0, 1] rfl
      have hDc := hD.sub (ws' := [((r 0), .inr (12, fM r 0 0)), ((r 9), .inl (c 0, 3, .inl (setF)))]) [0, 1] (by decide) rfl
      refine cl_i (wr := []) (va_runV (As := [.int h, .int k]) (rest := []) ⟨hx, hb, hml, hown, hts⟩ (c_X12_waveAt l D c H.size r 0 h k) (kw_V 2 hts wd_1429 wd_1431 wd_44 wd_90 wd_1432 rfl rfl (by decide +kernel) ⟨Nat.le_of_ble_eq_true rfl, Nat.le_of_ble_eq_true rfl⟩) (pre_V hPc hK hDc hN hO (ci := 12) (q0 := 0) rfl rfl) rfl rfl hl.1 rfl (lv_room (Nat.le_of_ble_eq_true rfl)) dX12_waved_17 ⟨Nat.le_of_ble_eq_true rfl, Nat.le_of_ble_eq_true rfl⟩) hP hD hS hA [0, 1] [] rfl rfl (by decide) (by decide) (fun r9 u10 H locs h11 hP hD hS => ?_)
      have hP : va_P D vwCl [((r 0), .inr (12, fM r 0 0)), ((r 9), .inl (c 0, 3, .inl (setF)))] H := hP
      have hD : va_D A [((r 0), .inr (12, fM r 0 0)), ((r 9), .inl (c 0, 3, .inl (setF)))] := hD
      obtain rfl : r9 = 100 := h11
      refine lv_goto (tgt := 24) hx hb dX12_waved_20 (by decide) ?_
      exact rt_i hx hb hr hlocks hK hP hD hS rfl dX12_waved_24 () [] rfl rfl (by show (100 : Int32) = _; unfold f_waved; (try simp only [Int32.reduceToInt, not_true_eq_false, false_or, not_false_eq_true, true_or, and_true, true_and]); (try simp only [Int32.le_iff_toInt_le, Int32.lt_iff_toInt_lt, ← Int32.toInt_inj, Int32.reduceToInt] at h4); (try simp only [Int32.le_iff_toInt_le, Int32.lt_iff_toInt_lt, ← Int32.toInt_inj, Int32.reduceToInt] at h8); first | (rw [if_pos (by omega)]; done) | (rw [if_neg (by omega)]; done) | (rw [if_pos (by omega)]; exact Int32.toInt_inj.mp (by (try simp only [Int32.reduceToInt]); omega)))
    · refine lv_if_eq (tgt := 23) hx hb dX12_waved_11 (by decide) (fun _ => ?_) (fun c => False.elim (by revert c; decide))
      refine lv_iconst (v := (-1)) hx hb dX12_waved_23 (by decide) ?_
      exact rt_i hx hb hr hlocks hK hP hD hS rfl dX12_waved_24 () [] rfl rfl (by show ((-1) : Int32) = _; unfold f_waved; (try simp only [Int32.reduceToInt, not_true_eq_false, false_or, not_false_eq_true, true_or, and_true, true_and]); (try simp only [Int32.le_iff_toInt_le, Int32.lt_iff_toInt_lt, ← Int32.toInt_inj, Int32.reduceToInt] at h4); (try simp only [Int32.le_iff_toInt_le, Int32.lt_iff_toInt_lt, ← Int32.toInt_inj, Int32.reduceToInt] at h8); first | (rw [if_pos (by omega)]; done) | (rw [if_neg (by omega)]; done) | (rw [if_pos (by omega)]; exact Int32.toInt_inj.mp (by (try simp only [Int32.reduceToInt]); omega)))
  · refine lv_if_eq (tgt := 23) hx hb dX12_waved_4 (by decide) (fun _ => ?_) (fun c => False.elim (by revert c; decide))
    refine lv_iconst (v := (-1)) hx hb dX12_waved_23 (by decide) ?_
    exact rt_i hx hb hr hlocks hK hP hD hS rfl dX12_waved_24 () [] rfl rfl (by show ((-1) : Int32) = _; unfold f_waved; (try simp only [Int32.reduceToInt, not_true_eq_false, false_or, not_false_eq_true, true_or, and_true, true_and]); (try simp only [Int32.le_iff_toInt_le, Int32.lt_iff_toInt_lt, ← Int32.toInt_inj, Int32.reduceToInt] at h4); first | (rw [if_pos (by omega)]; done) | (rw [if_neg (by omega)]; done) | (rw [if_pos (by omega)]; exact Int32.toInt_inj.mp (by (try simp only [Int32.reduceToInt]); omega)))
set_option maxHeartbeats 4000000 in
set_option maxRecDepth 100000 in
/-- X12_set -/
theorem c_X12_set (l : Launch) (D : va_G) (c : Nat → ClassId) (sz : Nat) (r : Nat → Nat) (w : Int32) (v : Int32) : Met l yX12_set (.code yX12_set cX12_set 4 (some .int) :: Wd) ({ frames := 1, cells := 0, slots := 0, locals := 22 }) (va_Pc [.ref (r 0), .int w, .int v] (WB D c [((r 0), .inr (12, fM r 0 0)), ((r 9), .inl (c 0, 3, .inl (setF)))] sz)) (QI (S := Unit) D c (fun q _ => q = f_set w v) (fun _ => []) (va_A [((r 0), .inr (12, fM r 0 0)), ((r 9), .inl (c 0, 3, .inl (setF)))] sz)) 0 0 (va_A [((r 0), .inr (12, fM r 0 0)), ((r 9), .inl (c 0, 3, .inl (setF)))] sz) := by
  refine kz_met (Qc := QI (S := Unit) D c (fun q _ => q = f_set w v) (fun _ => [])) (by decide) (Nat.le_of_ble_eq_true rfl) ?_
  intro p e s m below meth cd A ls H locs hx hb hr hml hts hown hlocks hin hN hO hK hP hD hS hA hl
  have hl : lv_has ls 4 [(0, .ref (r 0)), (1, .int w), (2, .int v)] := hl
  have hown : s.vm.findClass RX12 = some m.cls := hown
  refine lv_iload_n hx hb dX12_set_0 rfl (lv_at hl 1 rfl) ?_
  refine lv_iconst (v := 0) hx hb dX12_set_1 (by decide) ?_
  refine lv_iconst (v := 2) hx hb dX12_set_2 (by decide) ?_
  have hPc := hP.sub (ws' := []) [] rfl
  have hDc := hD.sub (ws' := []) [] (by decide) rfl
  refine cl_i (wr := [((r 0), .inr (12, fM r 0 0)), ((r 9), .inl (c 0, 3, .inl (setF)))]) (va_runS (As := [.int w, .int 0, .int 2]) (rest := []) ⟨hx, hb, hml, hown, hts⟩ (c_X12_in l D c H.size w 0 2) (kw_S 3 hts wd_1407 wd_1408 wd_90 wd_1409 rfl rfl (by decide +kernel) ⟨Nat.le_of_ble_eq_true rfl, Nat.le_of_ble_eq_true rfl⟩) (pre_S hPc hK hDc hN hO) rfl rfl hl.1 rfl (lv_room (Nat.le_of_ble_eq_true rfl)) dX12_set_3 ⟨Nat.le_of_ble_eq_true rfl, Nat.le_of_ble_eq_true rfl⟩) hP hD hS hA [] [0, 1] rfl rfl (by decide) (by decide) (fun r1 u2 H locs h3 hP hD hS => ?_)
  have hP : va_P D vwCl [((r 0), .inr (12, fM r 0 0)), ((r 9), .inl (c 0, 3, .inl (setF)))] H := hP
  have hD : va_D A [((r 0), .inr (12, fM r 0 0)), ((r 9), .inl (c 0, 3, .inl (setF)))] := hD
  rcases inB_c h3 with ⟨h4, rfl⟩ | ⟨h4, rfl⟩
  · refine lv_if_eq (tgt := 46) hx hb dX12_set_6 (by decide) (fun c => False.elim (by revert c; decide)) (fun _ => ?_)
    refine lv_aload_n hx hb dX12_set_9 rfl (lv_at hl 0 rfl) ?_
    have hPc := hP.sub (ws' := [((r 0), .inr (12, fM r 0 0))]) [0] rfl
    have hDc := hD.sub (ws' := [((r 0), .inr (12, fM r 0 0))]) [0] (by decide) rfl
    refine cl_i (wr := [((r 9), .inl (c 0, 3, .inl (setF)))]) (va_runV (As := []) (rest := []) ⟨hx, hb, hml, hown, hts⟩ (c_X12_isOver l D c H.size r) (kw_V 0 hts wd_1403 wd_1405 wd_42 wd_90 wd_1406 rfl rfl (by decide +kernel) ⟨Nat.le_of_ble_eq_true rfl, Nat.le_of_ble_eq_true rfl⟩) (pre_V hPc hK hDc hN hO (ci := 12) (q0 := 0) rfl rfl) rfl rfl hl.1 rfl (lv_room (Nat.le_of_ble_eq_true rfl)) dX12_set_10 ⟨Nat.le_of_ble_eq_true rfl, Nat.le_of_ble_eq_true rfl⟩) hP hD hS hA [0] [1] rfl rfl (by decide) (by decide) (fun r5 u6 H locs h7 hP hD hS => ?_)
    have hP : va_P D vwCl [((r 9), .inl (c 0, 3, .inl (setF))), ((r 0), .inr (12, fM r 0 0))] H := hP
    have hD : va_D A [((r 9), .inl (c 0, 3, .inl (setF))), ((r 0), .inr (12, fM r 0 0))] := hD
    obtain rfl : r5 = 0 := h7
    refine lv_if_ne (tgt := 46) hx hb dX12_set_13 (by decide) (fun c => False.elim (by revert c; decide)) (fun _ => ?_)
    refine lv_iload_n hx hb dX12_set_16 rfl (lv_at hl 2 rfl) ?_
    refine lv_iload_n hx hb dX12_set_17 rfl (lv_at hl 1 rfl) ?_
    refine lv_iconst (v := 2) hx hb dX12_set_18 (by decide) ?_
    refine lv_icmp_ne (tgt := 26) hx hb dX12_set_19 (by decide) (fun c8 => ?_) (fun c8 => ?_)
    · refine lv_iconst (v := 0) hx hb dX12_set_26 (by decide) ?_
      refine lv_iload_n hx hb dX12_set_27 rfl (lv_at hl 1 rfl) ?_
      refine lv_iconst (v := 2) hx hb dX12_set_28 (by decide) ?_
      refine lv_icmp_ne (tgt := 37) hx hb dX12_set_29 (by decide) (fun _ => ?_) (fun c => absurd c c8)
      refine lv_sipush (v := 500) hx hb dX12_set_37 (by decide) ?_
      have hPc := hP.sub (ws' := []) [] rfl
      have hDc := hD.sub (ws' := []) [] (by decide) rfl
      refine cl_i (wr := [((r 9), .inl (c 0, 3, .inl (setF))), ((r 0), .inr (12, fM r 0 0))]) (va_runS (As := [.int v, .int 0, .int 500]) (rest := []) ⟨hx, hb, hml, hown, hts⟩ (c_X12_in l D c H.size v 0 500) (kw_S 3 hts wd_1407 wd_1408 wd_90 wd_1409 rfl rfl (by decide +kernel) ⟨Nat.le_of_ble_eq_true rfl, Nat.le_of_ble_eq_true rfl⟩) (pre_S hPc hK hDc hN hO) rfl rfl hl.1 rfl (lv_room (Nat.le_of_ble_eq_true rfl)) dX12_set_40 ⟨Nat.le_of_ble_eq_true rfl, Nat.le_of_ble_eq_true rfl⟩) hP hD hS hA [] [0, 1] rfl rfl (by decide) (by decide) (fun r9 u10 H locs h11 hP hD hS => ?_)
      have hP : va_P D vwCl [((r 9), .inl (c 0, 3, .inl (setF))), ((r 0), .inr (12, fM r 0 0))] H := hP
      have hD : va_D A [((r 9), .inl (c 0, 3, .inl (setF))), ((r 0), .inr (12, fM r 0 0))] := hD
      rcases inB_c h11 with ⟨h12, rfl⟩ | ⟨h12, rfl⟩
      · refine lv_if_ne (tgt := 48) hx hb dX12_set_43 (by decide) (fun _ => ?_) (fun c => False.elim (by revert c; decide))
        refine lv_aload_n hx hb dX12_set_48 rfl (lv_at hl 0 rfl) ?_
        refine va_get (D := D) (ci := 12) (v := .ref (r 9)) (C := RX12) (T := TX12) (N := 92) hx hb hts inW_12 hown hK hP 1 rfl rfl 8 (by decide) (hts _ wd_1128) (fun _ h9 => h9) rfl dX12_set_49 ?_
        refine lv_iload_n hx hb dX12_set_52 rfl (lv_at hl 1 rfl) ?_
        refine va_iald hx hb hK hP 0 0 rfl rfl (vin_le (n := 3) h4 (by decide)) dX12_set_53 ?_
        refine lv_topi (fun v13 e14 => ?_)
        refine lv_istore_n (lv' := [(3, .int v13), (0, .ref (r 0)), (1, .int w), (2, .int v)]) hx hb dX12_set_54 rfl hl (by decide) rfl (fun ls hl => ?_)
        refine lv_aload_n hx hb dX12_set_55 rfl (lv_at hl 1 rfl) ?_
        refine va_get (D := D) (ci := 12) (v := .ref (r 9)) (C := RX12) (T := TX12) (N := 92) hx hb hts inW_12 hown hK hP 1 rfl rfl 8 (by decide) (hts _ wd_1128) (fun _ h9 => h9) rfl dX12_set_56 ?_
        refine lv_iload_n hx hb dX12_set_59 rfl (lv_at hl 2 rfl) ?_
        refine lv_iload_n hx hb dX12_set_60 rfl (lv_at hl 3 rfl) ?_
        refine va_iast hx hb hK hP hD hS 0 0 rfl rfl (vin_le (n := 3) h4 (by decide)) dX12_set_61 (fun H locs hP hD hS => ?_)
        have hP : va_P D vwCl [((r 9), .inl (c 0, 3, .inl (upd (setF) (Int32.toNatClampNeg w) v))), ((r 0), .inr (12, fM r 0 0))] H := hP
        have hD : va_D A [((r 9), .inl (c 0, 3, .inl (upd (setF) (Int32.toNatClampNeg w) v))), ((r 0), .inr (12, fM r 0 0))] := hD
        refine lv_iload_n hx hb dX12_set_62 rfl (lv_at hl 0 rfl) ?_
        exact rt_i hx hb hr hlocks hK hP hD hS rfl dX12_set_63 () [] rfl rfl (by show v13 = _; rw [e14, setF_at h4]; unfold f_set; (try simp only [Int32.reduceToInt, not_true_eq_false, false_or, not_false_eq_true, true_or, and_true, true_and]); (try simp only [Int32.le_iff_toInt_le, Int32.lt_iff_toInt_lt, ← Int32.toInt_inj, Int32.reduceToInt] at h4); (try simp only [Int32.le_iff_toInt_le, Int32.lt_iff_toInt_lt, ← Int32.toInt_inj, Int32.reduceToInt] at c8); (try simp only [Int32.le_iff_toInt_le, Int32.lt_iff_toInt_lt, ← Int32.toInt_inj, Int32.reduceToInt] at h12); rw [if_pos (by omega)])
      · refine lv_if_ne (tgt := 48) hx hb dX12_set_43 (by decide) (fun c => False.elim (by revert c; decide)) (fun _ => ?_)
        refine lv_iconst (v := (-1)) hx hb dX12_set_46 (by decide) ?_
        exact rt_i hx hb hr hlocks hK hP hD hS rfl dX12_set_47 () [] rfl rfl (by show ((-1) : Int32) = _; unfold f_set; (try simp only [Int32.reduceToInt, not_true_eq_false, false_or, not_false_eq_true, true_or, and_true, true_and]); (try simp only [Int32.le_iff_toInt_le, Int32.lt_iff_toInt_lt, ← Int32.toInt_inj, Int32.reduceToInt] at h4); (try simp only [Int32.le_iff_toInt_le, Int32.lt_iff_toInt_lt, ← Int32.toInt_inj, Int32.reduceToInt] at c8); (try simp only [Int32.le_iff_toInt_le, Int32.lt_iff_toInt_lt, ← Int32.toInt_inj, Int32.reduceToInt] at h12); first | (rw [if_pos (by omega)]; done) | (rw [if_neg (by omega)]; done) | (rw [if_pos (by omega)]; exact Int32.toInt_inj.mp (by (try simp only [Int32.reduceToInt]); omega)))
    · subst c8
      refine lv_iconst (v := 1) hx hb dX12_set_22 (by decide) ?_
      refine lv_goto (tgt := 27) hx hb dX12_set_23 (by decide) ?_
      refine lv_iload_n hx hb dX12_set_27 rfl (lv_at hl 1 rfl) ?_
      refine lv_iconst (v := 2) hx hb dX12_set_28 (by decide) ?_
      refine lv_icmp_ne (tgt := 37) hx hb dX12_set_29 (by decide) (fun c => False.elim (by revert c; decide)) (fun _ => ?_)
      refine lv_bipush (v := 24) hx hb dX12_set_32 (by decide) ?_
      refine lv_goto (tgt := 40) hx hb dX12_set_34 (by decide) ?_
      have hPc := hP.sub (ws' := []) [] rfl
      have hDc := hD.sub (ws' := []) [] (by decide) rfl
      refine cl_i (wr := [((r 9), .inl (c 0, 3, .inl (setF))), ((r 0), .inr (12, fM r 0 0))]) (va_runS (As := [.int v, .int 1, .int 24]) (rest := []) ⟨hx, hb, hml, hown, hts⟩ (c_X12_in l D c H.size v 1 24) (kw_S 3 hts wd_1407 wd_1408 wd_90 wd_1409 rfl rfl (by decide +kernel) ⟨Nat.le_of_ble_eq_true rfl, Nat.le_of_ble_eq_true rfl⟩) (pre_S hPc hK hDc hN hO) rfl rfl hl.1 rfl (lv_room (Nat.le_of_ble_eq_true rfl)) dX12_set_40 ⟨Nat.le_of_ble_eq_true rfl, Nat.le_of_ble_eq_true rfl⟩) hP hD hS hA [] [0, 1] rfl rfl (by decide) (by decide) (fun r15 u16 H locs h17 hP hD hS => ?_)
      have hP : va_P D vwCl [((r 9), .inl (c 0, 3, .inl (setF))), ((r 0), .inr (12, fM r 0 0))] H := hP
      have hD : va_D A [((r 9), .inl (c 0, 3, .inl (setF))), ((r 0), .inr (12, fM r 0 0))] := hD
      rcases inB_c h17 with ⟨h18, rfl⟩ | ⟨h18, rfl⟩
      · refine lv_if_ne (tgt := 48) hx hb dX12_set_43 (by decide) (fun _ => ?_) (fun c => False.elim (by revert c; decide))
        refine lv_aload_n hx hb dX12_set_48 rfl (lv_at hl 0 rfl) ?_
        refine va_get (D := D) (ci := 12) (v := .ref (r 9)) (C := RX12) (T := TX12) (N := 92) hx hb hts inW_12 hown hK hP 1 rfl rfl 8 (by decide) (hts _ wd_1128) (fun _ h9 => h9) rfl dX12_set_49 ?_
        refine lv_iload_n hx hb dX12_set_52 rfl (lv_at hl 1 rfl) ?_
        refine va_iald hx hb hK hP 0 0 rfl rfl (vp_in_iff.mpr (by decide)) dX12_set_53 ?_
        refine lv_topi (fun v19 e20 => ?_)
        obtain rfl : v19 = 8 := (by first | exact e20 | exact e20.trans (by decide))
        refine lv_istore_n (lv' := [(3, .int 8), (0, .ref (r 0)), (1, .int 2), (2, .int v)]) hx hb dX12_set_54 rfl hl (by decide) rfl (fun ls hl => ?_)
        refine lv_aload_n hx hb dX12_set_55 rfl (lv_at hl 1 rfl) ?_
        refine va_get (D := D) (ci := 12) (v := .ref (r 9)) (C := RX12) (T := TX12) (N := 92) hx hb hts inW_12 hown hK hP 1 rfl rfl 8 (by decide) (hts _ wd_1128) (fun _ h9 => h9) rfl dX12_set_56 ?_
        refine lv_iload_n hx hb dX12_set_59 rfl (lv_at hl 2 rfl) ?_
        refine lv_iload_n hx hb dX12_set_60 rfl (lv_at hl 3 rfl) ?_
        refine va_iast hx hb hK hP hD hS 0 0 rfl rfl (vp_in_iff.mpr (by decide)) dX12_set_61 (fun H locs hP hD hS => ?_)
        have hP : va_P D vwCl [((r 9), .inl (c 0, 3, .inl (upd (setF) (Int32.toNatClampNeg 2) v))), ((r 0), .inr (12, fM r 0 0))] H := hP
        have hD : va_D A [((r 9), .inl (c 0, 3, .inl (upd (setF) (Int32.toNatClampNeg 2) v))), ((r 0), .inr (12, fM r 0 0))] := hD
        refine lv_iload_n hx hb dX12_set_62 rfl (lv_at hl 0 rfl) ?_
        exact rt_i hx hb hr hlocks hK hP hD hS rfl dX12_set_63 () [] rfl rfl (by show (8 : Int32) = _; unfold f_set; (try simp only [Int32.reduceToInt, not_true_eq_false, false_or, not_false_eq_true, true_or, and_true, true_and]); (try simp only [Int32.le_iff_toInt_le, Int32.lt_iff_toInt_lt, ← Int32.toInt_inj, Int32.reduceToInt] at h4); (try simp only [Int32.le_iff_toInt_le, Int32.lt_iff_toInt_lt, ← Int32.toInt_inj, Int32.reduceToInt] at h18); rw [if_pos (by omega)]; decide)
      · refine lv_if_ne (tgt := 48) hx hb dX12_set_43 (by decide) (fun c => False.elim (by revert c; decide)) (fun _ => ?_)
        refine lv_iconst (v := (-1)) hx hb dX12_set_46 (by decide) ?_
        exact rt_i hx hb hr hlocks hK hP hD hS rfl dX12_set_47 () [] rfl rfl (by show ((-1) : Int32) = _; unfold f_set; (try simp only [Int32.reduceToInt, not_true_eq_false, false_or, not_false_eq_true, true_or, and_true, true_and]); (try simp only [Int32.le_iff_toInt_le, Int32.lt_iff_toInt_lt, ← Int32.toInt_inj, Int32.reduceToInt] at h4); (try simp only [Int32.le_iff_toInt_le, Int32.lt_iff_toInt_lt, ← Int32.toInt_inj, Int32.reduceToInt] at h18); first | (rw [if_pos (by omega)]; done) | (rw [if_neg (by omega)]; done) | (rw [if_pos (by omega)]; exact Int32.toInt_inj.mp (by (try simp only [Int32.reduceToInt]); omega)))
  · refine lv_if_eq (tgt := 46) hx hb dX12_set_6 (by decide) (fun _ => ?_) (fun c => False.elim (by revert c; decide))
    refine lv_iconst (v := (-1)) hx hb dX12_set_46 (by decide) ?_
    exact rt_i hx hb hr hlocks hK hP hD hS rfl dX12_set_47 () [] rfl rfl (by show ((-1) : Int32) = _; unfold f_set; (try simp only [Int32.reduceToInt, not_true_eq_false, false_or, not_false_eq_true, true_or, and_true, true_and]); (try simp only [Int32.le_iff_toInt_le, Int32.lt_iff_toInt_lt, ← Int32.toInt_inj, Int32.reduceToInt] at h4); first | (rw [if_pos (by omega)]; done) | (rw [if_neg (by omega)]; done) | (rw [if_pos (by omega)]; exact Int32.toInt_inj.mp (by (try simp only [Int32.reduceToInt]); omega)))
set_option maxHeartbeats 4000000 in
set_option maxRecDepth 100000 in
/-- X12_pool -/
theorem c_X12_pool (l : Launch) (D : va_G) (c : Nat → ClassId) (sz : Nat) (r : Nat → Nat) (a : Int32) (f : Int32) (w : Int32) (s0 : Int32) (sl : Int32) (ov : Int32) (d : Int32) : Met l yX12_pool (.code yX12_pool cX12_pool 8 (some .int) :: Wd) ({ frames := 1, cells := 0, slots := 0, locals := 22 }) (va_Pc [.ref (r 0), .int a, .int f, .int w, .int s0, .int sl, .int ov, .int d] (WB D c [((r 0), .inr (12, fM r 0 0)), ((r 12), .inl (c 0, 11, .inl (fun _ => 0))), ((r 13), .inl (c 0, 11, .inl (fun _ => 0))), ((r 14), .inl (c 0, 11, .inl (fun _ => 0))), ((r 15), .inl (c 0, 11, .inl (fun _ => 0))), ((r 16), .inl (c 0, 11, .inl (fun _ => 0))), ((r 17), .inl (c 0, 11, .inl (fun _ => 0))), ((r 22), .inl (c 0, 11, .inl (fun _ => 0))), ((r 26), .inl (c 0, 11, .inl (fun _ => 0)))] sz)) (QI (S := Unit) D c (fun q _ => q = f_pool a f w s0 sl ov d) (fun _ => []) (va_A [((r 0), .inr (12, fM r 0 0)), ((r 12), .inl (c 0, 11, .inl (fun _ => 0))), ((r 13), .inl (c 0, 11, .inl (fun _ => 0))), ((r 14), .inl (c 0, 11, .inl (fun _ => 0))), ((r 15), .inl (c 0, 11, .inl (fun _ => 0))), ((r 16), .inl (c 0, 11, .inl (fun _ => 0))), ((r 17), .inl (c 0, 11, .inl (fun _ => 0))), ((r 22), .inl (c 0, 11, .inl (fun _ => 0))), ((r 26), .inl (c 0, 11, .inl (fun _ => 0)))] sz)) 0 0 (va_A [((r 0), .inr (12, fM r 0 0)), ((r 12), .inl (c 0, 11, .inl (fun _ => 0))), ((r 13), .inl (c 0, 11, .inl (fun _ => 0))), ((r 14), .inl (c 0, 11, .inl (fun _ => 0))), ((r 15), .inl (c 0, 11, .inl (fun _ => 0))), ((r 16), .inl (c 0, 11, .inl (fun _ => 0))), ((r 17), .inl (c 0, 11, .inl (fun _ => 0))), ((r 22), .inl (c 0, 11, .inl (fun _ => 0))), ((r 26), .inl (c 0, 11, .inl (fun _ => 0)))] sz) := by
  refine kz_met (Qc := QI (S := Unit) D c (fun q _ => q = f_pool a f w s0 sl ov d) (fun _ => [])) (by decide) (Nat.le_of_ble_eq_true rfl) ?_
  intro p e s m below meth cd A ls H locs hx hb hr hml hts hown hlocks hin hN hO hK hP hD hS hA hl
  have hl : lv_has ls 8 [(0, .ref (r 0)), (1, .int a), (2, .int f), (3, .int w), (4, .int s0), (5, .int sl), (6, .int ov), (7, .int d)] := hl
  have hown : s.vm.findClass RX12 = some m.cls := hown
  refine lv_aload_n hx hb dX12_pool_0 rfl (lv_at hl 0 rfl) ?_
  refine va_get (D := D) (ci := 12) (v := .int 0) (C := RX12) (T := TX12) (N := 92) hx hb hts inW_12 hown hK hP 0 rfl rfl 10 (by decide) (hts _ wd_1130) (fun _ h9 => h9) rfl dX12_pool_1 ?_
  refine lv_bipush (v := 11) hx hb dX12_pool_4 (by decide) ?_
  refine lv_icmp_eq (tgt := 97) hx hb dX12_pool_6 (by decide) (fun c => False.elim (by revert c; decide)) (fun _ => ?_)
  refine lv_aload_n hx hb dX12_pool_9 rfl (lv_at hl 0 rfl) ?_
  have hPc := hP.sub (ws' := [((r 0), .inr (12, fM r 0 0))]) [0] rfl
  have hDc := hD.sub (ws' := [((r 0), .inr (12, fM r 0 0))]) [0] (by decide) rfl
  refine cl_i (wr := [((r 12), .inl (c 0, 11, .inl (fun _ => 0))), ((r 13), .inl (c 0, 11, .inl (fun _ => 0))), ((r 14), .inl (c 0, 11, .inl (fun _ => 0))), ((r 15), .inl (c 0, 11, .inl (fun _ => 0))), ((r 16), .inl (c 0, 11, .inl (fun _ => 0))), ((r 17), .inl (c 0, 11, .inl (fun _ => 0))), ((r 22), .inl (c 0, 11, .inl (fun _ => 0))), ((r 26), .inl (c 0, 11, .inl (fun _ => 0)))]) (va_runV (As := []) (rest := []) ⟨hx, hb, hml, hown, hts⟩ (c_X12_isOver l D c H.size r) (kw_V 0 hts wd_1403 wd_1405 wd_42 wd_90 wd_1406 rfl rfl (by decide +kernel) ⟨Nat.le_of_ble_eq_true rfl, Nat.le_of_ble_eq_true rfl⟩) (pre_V hPc hK hDc hN hO (ci := 12) (q0 := 0) rfl rfl) rfl rfl hl.1 rfl (lv_room (Nat.le_of_ble_eq_true rfl)) dX12_pool_10 ⟨Nat.le_of_ble_eq_true rfl, Nat.le_of_ble_eq_true rfl⟩) hP hD hS hA [0] [1, 2, 3, 4, 5, 6, 7, 8] rfl rfl (by decide) (by decide) (fun r1 u2 H locs h3 hP hD hS => ?_)
  have hP : va_P D vwCl [((r 12), .inl (c 0, 11, .inl (fun _ => 0))), ((r 13), .inl (c 0, 11, .inl (fun _ => 0))), ((r 14), .inl (c 0, 11, .inl (fun _ => 0))), ((r 15), .inl (c 0, 11, .inl (fun _ => 0))), ((r 16), .inl (c 0, 11, .inl (fun _ => 0))), ((r 17), .inl (c 0, 11, .inl (fun _ => 0))), ((r 22), .inl (c 0, 11, .inl (fun _ => 0))), ((r 26), .inl (c 0, 11, .inl (fun _ => 0))), ((r 0), .inr (12, fM r 0 0))] H := hP
  have hD : va_D A [((r 12), .inl (c 0, 11, .inl (fun _ => 0))), ((r 13), .inl (c 0, 11, .inl (fun _ => 0))), ((r 14), .inl (c 0, 11, .inl (fun _ => 0))), ((r 15), .inl (c 0, 11, .inl (fun _ => 0))), ((r 16), .inl (c 0, 11, .inl (fun _ => 0))), ((r 17), .inl (c 0, 11, .inl (fun _ => 0))), ((r 22), .inl (c 0, 11, .inl (fun _ => 0))), ((r 26), .inl (c 0, 11, .inl (fun _ => 0))), ((r 0), .inr (12, fM r 0 0))] := hD
  obtain rfl : r1 = 0 := h3
  refine lv_if_ne (tgt := 97) hx hb dX12_pool_13 (by decide) (fun c => False.elim (by revert c; decide)) (fun _ => ?_)
  refine lv_iload_n hx hb dX12_pool_16 rfl (lv_at hl 1 rfl) ?_
  refine lv_iconst (v := 1) hx hb dX12_pool_17 (by decide) ?_
  refine lv_sipush (v := 2000) hx hb dX12_pool_18 (by decide) ?_
  have hPc := hP.sub (ws' := []) [] rfl
  have hDc := hD.sub (ws' := []) [] (by decide) rfl
  refine cl_i (wr := [((r 12), .inl (c 0, 11, .inl (fun _ => 0))), ((r 13), .inl (c 0, 11, .inl (fun _ => 0))), ((r 14), .inl (c 0, 11, .inl (fun _ => 0))), ((r 15), .inl (c 0, 11, .inl (fun _ => 0))), ((r 16), .inl (c 0, 11, .inl (fun _ => 0))), ((r 17), .inl (c 0, 11, .inl (fun _ => 0))), ((r 22), .inl (c 0, 11, .inl (fun _ => 0))), ((r 26), .inl (c 0, 11, .inl (fun _ => 0))), ((r 0), .inr (12, fM r 0 0))]) (va_runS (As := [.int a, .int 1, .int 2000]) (rest := []) ⟨hx, hb, hml, hown, hts⟩ (c_X12_in l D c H.size a 1 2000) (kw_S 3 hts wd_1407 wd_1408 wd_90 wd_1409 rfl rfl (by decide +kernel) ⟨Nat.le_of_ble_eq_true rfl, Nat.le_of_ble_eq_true rfl⟩) (pre_S hPc hK hDc hN hO) rfl rfl hl.1 rfl (lv_room (Nat.le_of_ble_eq_true rfl)) dX12_pool_21 ⟨Nat.le_of_ble_eq_true rfl, Nat.le_of_ble_eq_true rfl⟩) hP hD hS hA [] [0, 1, 2, 3, 4, 5, 6, 7, 8] rfl rfl (by decide) (by decide) (fun r4 u5 H locs h6 hP hD hS => ?_)
  have hP : va_P D vwCl [((r 12), .inl (c 0, 11, .inl (fun _ => 0))), ((r 13), .inl (c 0, 11, .inl (fun _ => 0))), ((r 14), .inl (c 0, 11, .inl (fun _ => 0))), ((r 15), .inl (c 0, 11, .inl (fun _ => 0))), ((r 16), .inl (c 0, 11, .inl (fun _ => 0))), ((r 17), .inl (c 0, 11, .inl (fun _ => 0))), ((r 22), .inl (c 0, 11, .inl (fun _ => 0))), ((r 26), .inl (c 0, 11, .inl (fun _ => 0))), ((r 0), .inr (12, fM r 0 0))] H := hP
  have hD : va_D A [((r 12), .inl (c 0, 11, .inl (fun _ => 0))), ((r 13), .inl (c 0, 11, .inl (fun _ => 0))), ((r 14), .inl (c 0, 11, .inl (fun _ => 0))), ((r 15), .inl (c 0, 11, .inl (fun _ => 0))), ((r 16), .inl (c 0, 11, .inl (fun _ => 0))), ((r 17), .inl (c 0, 11, .inl (fun _ => 0))), ((r 22), .inl (c 0, 11, .inl (fun _ => 0))), ((r 26), .inl (c 0, 11, .inl (fun _ => 0))), ((r 0), .inr (12, fM r 0 0))] := hD
  rcases inB_c h6 with ⟨h7, rfl⟩ | ⟨h7, rfl⟩
  · refine lv_if_eq (tgt := 97) hx hb dX12_pool_24 (by decide) (fun c => False.elim (by revert c; decide)) (fun _ => ?_)
    refine lv_iload_n hx hb dX12_pool_27 rfl (lv_at hl 2 rfl) ?_
    refine lv_sipush (v := (-300)) hx hb dX12_pool_28 (by decide) ?_
    refine lv_sipush (v := 800) hx hb dX12_pool_31 (by decide) ?_
    have hPc := hP.sub (ws' := []) [] rfl
    have hDc := hD.sub (ws' := []) [] (by decide) rfl
    refine cl_i (wr := [((r 12), .inl (c 0, 11, .inl (fun _ => 0))), ((r 13), .inl (c 0, 11, .inl (fun _ => 0))), ((r 14), .inl (c 0, 11, .inl (fun _ => 0))), ((r 15), .inl (c 0, 11, .inl (fun _ => 0))), ((r 16), .inl (c 0, 11, .inl (fun _ => 0))), ((r 17), .inl (c 0, 11, .inl (fun _ => 0))), ((r 22), .inl (c 0, 11, .inl (fun _ => 0))), ((r 26), .inl (c 0, 11, .inl (fun _ => 0))), ((r 0), .inr (12, fM r 0 0))]) (va_runS (As := [.int f, .int (-300), .int 800]) (rest := []) ⟨hx, hb, hml, hown, hts⟩ (c_X12_in l D c H.size f ((-300)) 800) (kw_S 3 hts wd_1407 wd_1408 wd_90 wd_1409 rfl rfl (by decide +kernel) ⟨Nat.le_of_ble_eq_true rfl, Nat.le_of_ble_eq_true rfl⟩) (pre_S hPc hK hDc hN hO) rfl rfl hl.1 rfl (lv_room (Nat.le_of_ble_eq_true rfl)) dX12_pool_34 ⟨Nat.le_of_ble_eq_true rfl, Nat.le_of_ble_eq_true rfl⟩) hP hD hS hA [] [0, 1, 2, 3, 4, 5, 6, 7, 8] rfl rfl (by decide) (by decide) (fun r8 u9 H locs h10 hP hD hS => ?_)
    have hP : va_P D vwCl [((r 12), .inl (c 0, 11, .inl (fun _ => 0))), ((r 13), .inl (c 0, 11, .inl (fun _ => 0))), ((r 14), .inl (c 0, 11, .inl (fun _ => 0))), ((r 15), .inl (c 0, 11, .inl (fun _ => 0))), ((r 16), .inl (c 0, 11, .inl (fun _ => 0))), ((r 17), .inl (c 0, 11, .inl (fun _ => 0))), ((r 22), .inl (c 0, 11, .inl (fun _ => 0))), ((r 26), .inl (c 0, 11, .inl (fun _ => 0))), ((r 0), .inr (12, fM r 0 0))] H := hP
    have hD : va_D A [((r 12), .inl (c 0, 11, .inl (fun _ => 0))), ((r 13), .inl (c 0, 11, .inl (fun _ => 0))), ((r 14), .inl (c 0, 11, .inl (fun _ => 0))), ((r 15), .inl (c 0, 11, .inl (fun _ => 0))), ((r 16), .inl (c 0, 11, .inl (fun _ => 0))), ((r 17), .inl (c 0, 11, .inl (fun _ => 0))), ((r 22), .inl (c 0, 11, .inl (fun _ => 0))), ((r 26), .inl (c 0, 11, .inl (fun _ => 0))), ((r 0), .inr (12, fM r 0 0))] := hD
    rcases inB_c h10 with ⟨h11, rfl⟩ | ⟨h11, rfl⟩
    · refine lv_if_eq (tgt := 97) hx hb dX12_pool_37 (by decide) (fun c => False.elim (by revert c; decide)) (fun _ => ?_)
      refine lv_iload_n hx hb dX12_pool_40 rfl (lv_at hl 3 rfl) ?_
      refine lv_iload_n hx hb dX12_pool_41 rfl (lv_at hl 2 rfl) ?_
      refine lv_iconst (v := 1) hx hb dX12_pool_42 (by decide) ?_
      refine lv_iadd hx hb dX12_pool_43 ?_
      refine lv_topi (fun v12 e13 => ?_)
      refine lv_sipush (v := 900) hx hb dX12_pool_44 (by decide) ?_
      have hPc := hP.sub (ws' := []) [] rfl
      have hDc := hD.sub (ws' := []) [] (by decide) rfl
      refine cl_i (wr := [((r 12), .inl (c 0, 11, .inl (fun _ => 0))), ((r 13), .inl (c 0, 11, .inl (fun _ => 0))), ((r 14), .inl (c 0, 11, .inl (fun _ => 0))), ((r 15), .inl (c 0, 11, .inl (fun _ => 0))), ((r 16), .inl (c 0, 11, .inl (fun _ => 0))), ((r 17), .inl (c 0, 11, .inl (fun _ => 0))), ((r 22), .inl (c 0, 11, .inl (fun _ => 0))), ((r 26), .inl (c 0, 11, .inl (fun _ => 0))), ((r 0), .inr (12, fM r 0 0))]) (va_runS (As := [.int w, .int v12, .int 900]) (rest := []) ⟨hx, hb, hml, hown, hts⟩ (c_X12_in l D c H.size w v12 900) (kw_S 3 hts wd_1407 wd_1408 wd_90 wd_1409 rfl rfl (by decide +kernel) ⟨Nat.le_of_ble_eq_true rfl, Nat.le_of_ble_eq_true rfl⟩) (pre_S hPc hK hDc hN hO) rfl rfl hl.1 rfl (lv_room (Nat.le_of_ble_eq_true rfl)) dX12_pool_47 ⟨Nat.le_of_ble_eq_true rfl, Nat.le_of_ble_eq_true rfl⟩) hP hD hS hA [] [0, 1, 2, 3, 4, 5, 6, 7, 8] rfl rfl (by decide) (by decide) (fun r14 u15 H locs h16 hP hD hS => ?_)
      have hP : va_P D vwCl [((r 12), .inl (c 0, 11, .inl (fun _ => 0))), ((r 13), .inl (c 0, 11, .inl (fun _ => 0))), ((r 14), .inl (c 0, 11, .inl (fun _ => 0))), ((r 15), .inl (c 0, 11, .inl (fun _ => 0))), ((r 16), .inl (c 0, 11, .inl (fun _ => 0))), ((r 17), .inl (c 0, 11, .inl (fun _ => 0))), ((r 22), .inl (c 0, 11, .inl (fun _ => 0))), ((r 26), .inl (c 0, 11, .inl (fun _ => 0))), ((r 0), .inr (12, fM r 0 0))] H := hP
      have hD : va_D A [((r 12), .inl (c 0, 11, .inl (fun _ => 0))), ((r 13), .inl (c 0, 11, .inl (fun _ => 0))), ((r 14), .inl (c 0, 11, .inl (fun _ => 0))), ((r 15), .inl (c 0, 11, .inl (fun _ => 0))), ((r 16), .inl (c 0, 11, .inl (fun _ => 0))), ((r 17), .inl (c 0, 11, .inl (fun _ => 0))), ((r 22), .inl (c 0, 11, .inl (fun _ => 0))), ((r 26), .inl (c 0, 11, .inl (fun _ => 0))), ((r 0), .inr (12, fM r 0 0))] := hD
      rcases inB_c h16 with ⟨h17, rfl⟩ | ⟨h17, rfl⟩
      · refine lv_if_eq (tgt := 97) hx hb dX12_pool_50 (by decide) (fun c => False.elim (by revert c; decide)) (fun _ => ?_)
        refine lv_iload hx hb dX12_pool_53 (lv_at hl 4 rfl) ?_
        refine lv_iload_n hx hb dX12_pool_55 rfl (lv_at hl 2 rfl) ?_
        refine lv_iload_n hx hb dX12_pool_56 rfl (lv_at hl 3 rfl) ?_
        have hPc := hP.sub (ws' := []) [] rfl
        have hDc := hD.sub (ws' := []) [] (by decide) rfl
        refine cl_i (wr := [((r 12), .inl (c 0, 11, .inl (fun _ => 0))), ((r 13), .inl (c 0, 11, .inl (fun _ => 0))), ((r 14), .inl (c 0, 11, .inl (fun _ => 0))), ((r 15), .inl (c 0, 11, .inl (fun _ => 0))), ((r 16), .inl (c 0, 11, .inl (fun _ => 0))), ((r 17), .inl (c 0, 11, .inl (fun _ => 0))), ((r 22), .inl (c 0, 11, .inl (fun _ => 0))), ((r 26), .inl (c 0, 11, .inl (fun _ => 0))), ((r 0), .inr (12, fM r 0 0))]) (va_runS (As := [.int s0, .int f, .int w]) (rest := []) ⟨hx, hb, hml, hown, hts⟩ (c_X12_in l D c H.size s0 f w) (kw_S 3 hts wd_1407 wd_1408 wd_90 wd_1409 rfl rfl (by decide +kernel) ⟨Nat.le_of_ble_eq_true rfl, Nat.le_of_ble_eq_true rfl⟩) (pre_S hPc hK hDc hN hO) rfl rfl hl.1 rfl (lv_room (Nat.le_of_ble_eq_true rfl)) dX12_pool_57 ⟨Nat.le_of_ble_eq_true rfl, Nat.le_of_ble_eq_true rfl⟩) hP hD hS hA [] [0, 1, 2, 3, 4, 5, 6, 7, 8] rfl rfl (by decide) (by decide) (fun r18 u19 H locs h20 hP hD hS => ?_)
        have hP : va_P D vwCl [((r 12), .inl (c 0, 11, .inl (fun _ => 0))), ((r 13), .inl (c 0, 11, .inl (fun _ => 0))), ((r 14), .inl (c 0, 11, .inl (fun _ => 0))), ((r 15), .inl (c 0, 11, .inl (fun _ => 0))), ((r 16), .inl (c 0, 11, .inl (fun _ => 0))), ((r 17), .inl (c 0, 11, .inl (fun _ => 0))), ((r 22), .inl (c 0, 11, .inl (fun _ => 0))), ((r 26), .inl (c 0, 11, .inl (fun _ => 0))), ((r 0), .inr (12, fM r 0 0))] H := hP
        have hD : va_D A [((r 12), .inl (c 0, 11, .inl (fun _ => 0))), ((r 13), .inl (c 0, 11, .inl (fun _ => 0))), ((r 14), .inl (c 0, 11, .inl (fun _ => 0))), ((r 15), .inl (c 0, 11, .inl (fun _ => 0))), ((r 16), .inl (c 0, 11, .inl (fun _ => 0))), ((r 17), .inl (c 0, 11, .inl (fun _ => 0))), ((r 22), .inl (c 0, 11, .inl (fun _ => 0))), ((r 26), .inl (c 0, 11, .inl (fun _ => 0))), ((r 0), .inr (12, fM r 0 0))] := hD
        rcases inB_c h20 with ⟨h21, rfl⟩ | ⟨h21, rfl⟩
        · refine lv_if_eq (tgt := 97) hx hb dX12_pool_60 (by decide) (fun c => False.elim (by revert c; decide)) (fun _ => ?_)
          refine lv_iload hx hb dX12_pool_63 (lv_at hl 5 rfl) ?_
          refine lv_iconst (v := 0) hx hb dX12_pool_65 (by decide) ?_
          refine lv_bipush (v := 100) hx hb dX12_pool_66 (by decide) ?_
          have hPc := hP.sub (ws' := []) [] rfl
          have hDc := hD.sub (ws' := []) [] (by decide) rfl
          refine cl_i (wr := [((r 12), .inl (c 0, 11, .inl (fun _ => 0))), ((r 13), .inl (c 0, 11, .inl (fun _ => 0))), ((r 14), .inl (c 0, 11, .inl (fun _ => 0))), ((r 15), .inl (c 0, 11, .inl (fun _ => 0))), ((r 16), .inl (c 0, 11, .inl (fun _ => 0))), ((r 17), .inl (c 0, 11, .inl (fun _ => 0))), ((r 22), .inl (c 0, 11, .inl (fun _ => 0))), ((r 26), .inl (c 0, 11, .inl (fun _ => 0))), ((r 0), .inr (12, fM r 0 0))]) (va_runS (As := [.int sl, .int 0, .int 100]) (rest := []) ⟨hx, hb, hml, hown, hts⟩ (c_X12_in l D c H.size sl 0 100) (kw_S 3 hts wd_1407 wd_1408 wd_90 wd_1409 rfl rfl (by decide +kernel) ⟨Nat.le_of_ble_eq_true rfl, Nat.le_of_ble_eq_true rfl⟩) (pre_S hPc hK hDc hN hO) rfl rfl hl.1 rfl (lv_room (Nat.le_of_ble_eq_true rfl)) dX12_pool_68 ⟨Nat.le_of_ble_eq_true rfl, Nat.le_of_ble_eq_true rfl⟩) hP hD hS hA [] [0, 1, 2, 3, 4, 5, 6, 7, 8] rfl rfl (by decide) (by decide) (fun r22 u23 H locs h24 hP hD hS => ?_)
          have hP : va_P D vwCl [((r 12), .inl (c 0, 11, .inl (fun _ => 0))), ((r 13), .inl (c 0, 11, .inl (fun _ => 0))), ((r 14), .inl (c 0, 11, .inl (fun _ => 0))), ((r 15), .inl (c 0, 11, .inl (fun _ => 0))), ((r 16), .inl (c 0, 11, .inl (fun _ => 0))), ((r 17), .inl (c 0, 11, .inl (fun _ => 0))), ((r 22), .inl (c 0, 11, .inl (fun _ => 0))), ((r 26), .inl (c 0, 11, .inl (fun _ => 0))), ((r 0), .inr (12, fM r 0 0))] H := hP
          have hD : va_D A [((r 12), .inl (c 0, 11, .inl (fun _ => 0))), ((r 13), .inl (c 0, 11, .inl (fun _ => 0))), ((r 14), .inl (c 0, 11, .inl (fun _ => 0))), ((r 15), .inl (c 0, 11, .inl (fun _ => 0))), ((r 16), .inl (c 0, 11, .inl (fun _ => 0))), ((r 17), .inl (c 0, 11, .inl (fun _ => 0))), ((r 22), .inl (c 0, 11, .inl (fun _ => 0))), ((r 26), .inl (c 0, 11, .inl (fun _ => 0))), ((r 0), .inr (12, fM r 0 0))] := hD
          rcases inB_c h24 with ⟨h25, rfl⟩ | ⟨h25, rfl⟩
          · refine lv_if_eq (tgt := 97) hx hb dX12_pool_71 (by decide) (fun c => False.elim (by revert c; decide)) (fun _ => ?_)
            refine lv_iload hx hb dX12_pool_74 (lv_at hl 6 rfl) ?_
            refine lv_iconst (v := 0) hx hb dX12_pool_76 (by decide) ?_
            refine lv_bipush (v := 100) hx hb dX12_pool_77 (by decide) ?_
            have hPc := hP.sub (ws' := []) [] rfl
            have hDc := hD.sub (ws' := []) [] (by decide) rfl
            refine cl_i (wr := [((r 12), .inl (c 0, 11, .inl (fun _ => 0))), ((r 13), .inl (c 0, 11, .inl (fun _ => 0))), ((r 14), .inl (c 0, 11, .inl (fun _ => 0))), ((r 15), .inl (c 0, 11, .inl (fun _ => 0))), ((r 16), .inl (c 0, 11, .inl (fun _ => 0))), ((r 17), .inl (c 0, 11, .inl (fun _ => 0))), ((r 22), .inl (c 0, 11, .inl (fun _ => 0))), ((r 26), .inl (c 0, 11, .inl (fun _ => 0))), ((r 0), .inr (12, fM r 0 0))]) (va_runS (As := [.int ov, .int 0, .int 100]) (rest := []) ⟨hx, hb, hml, hown, hts⟩ (c_X12_in l D c H.size ov 0 100) (kw_S 3 hts wd_1407 wd_1408 wd_90 wd_1409 rfl rfl (by decide +kernel) ⟨Nat.le_of_ble_eq_true rfl, Nat.le_of_ble_eq_true rfl⟩) (pre_S hPc hK hDc hN hO) rfl rfl hl.1 rfl (lv_room (Nat.le_of_ble_eq_true rfl)) dX12_pool_79 ⟨Nat.le_of_ble_eq_true rfl, Nat.le_of_ble_eq_true rfl⟩) hP hD hS hA [] [0, 1, 2, 3, 4, 5, 6, 7, 8] rfl rfl (by decide) (by decide) (fun r26 u27 H locs h28 hP hD hS => ?_)
            have hP : va_P D vwCl [((r 12), .inl (c 0, 11, .inl (fun _ => 0))), ((r 13), .inl (c 0, 11, .inl (fun _ => 0))), ((r 14), .inl (c 0, 11, .inl (fun _ => 0))), ((r 15), .inl (c 0, 11, .inl (fun _ => 0))), ((r 16), .inl (c 0, 11, .inl (fun _ => 0))), ((r 17), .inl (c 0, 11, .inl (fun _ => 0))), ((r 22), .inl (c 0, 11, .inl (fun _ => 0))), ((r 26), .inl (c 0, 11, .inl (fun _ => 0))), ((r 0), .inr (12, fM r 0 0))] H := hP
            have hD : va_D A [((r 12), .inl (c 0, 11, .inl (fun _ => 0))), ((r 13), .inl (c 0, 11, .inl (fun _ => 0))), ((r 14), .inl (c 0, 11, .inl (fun _ => 0))), ((r 15), .inl (c 0, 11, .inl (fun _ => 0))), ((r 16), .inl (c 0, 11, .inl (fun _ => 0))), ((r 17), .inl (c 0, 11, .inl (fun _ => 0))), ((r 22), .inl (c 0, 11, .inl (fun _ => 0))), ((r 26), .inl (c 0, 11, .inl (fun _ => 0))), ((r 0), .inr (12, fM r 0 0))] := hD
            rcases inB_c h28 with ⟨h29, rfl⟩ | ⟨h29, rfl⟩
            · refine lv_if_eq (tgt := 97) hx hb dX12_pool_82 (by decide) (fun c => False.elim (by revert c; decide)) (fun _ => ?_)
              refine lv_iload hx hb dX12_pool_85 (lv_at hl 7 rfl) ?_
              refine lv_iconst (v := 0) hx hb dX12_pool_87 (by decide) ?_
              refine lv_iload_n hx hb dX12_pool_88 rfl (lv_at hl 3 rfl) ?_
              refine lv_iload_n hx hb dX12_pool_89 rfl (lv_at hl 2 rfl) ?_
              refine lv_isub hx hb dX12_pool_90 ?_
              refine lv_topi (fun v30 e31 => ?_)
              have hPc := hP.sub (ws' := []) [] rfl
              have hDc := hD.sub (ws' := []) [] (by decide) rfl
              refine cl_i (wr := [((r 12), .inl (c 0, 11, .inl (fun _ => 0))), ((r 13), .inl (c 0, 11, .inl (fun _ => 0))), ((r 14), .inl (c 0, 11, .inl (fun _ => 0))), ((r 15), .inl (c 0, 11, .inl (fun _ => 0))), ((r 16), .inl (c 0, 11, .inl (fun _ => 0))), ((r 17), .inl (c 0, 11, .inl (fun _ => 0))), ((r 22), .inl (c 0, 11, .inl (fun _ => 0))), ((r 26), .inl (c 0, 11, .inl (fun _ => 0))), ((r 0), .inr (12, fM r 0 0))]) (va_runS (As := [.int d, .int 0, .int v30]) (rest := []) ⟨hx, hb, hml, hown, hts⟩ (c_X12_in l D c H.size d 0 v30) (kw_S 3 hts wd_1407 wd_1408 wd_90 wd_1409 rfl rfl (by decide +kernel) ⟨Nat.le_of_ble_eq_true rfl, Nat.le_of_ble_eq_true rfl⟩) (pre_S hPc hK hDc hN hO) rfl rfl hl.1 rfl (lv_room (Nat.le_of_ble_eq_true rfl)) dX12_pool_91 ⟨Nat.le_of_ble_eq_true rfl, Nat.le_of_ble_eq_true rfl⟩) hP hD hS hA [] [0, 1, 2, 3, 4, 5, 6, 7, 8] rfl rfl (by decide) (by decide) (fun r32 u33 H locs h34 hP hD hS => ?_)
              have hP : va_P D vwCl [((r 12), .inl (c 0, 11, .inl (fun _ => 0))), ((r 13), .inl (c 0, 11, .inl (fun _ => 0))), ((r 14), .inl (c 0, 11, .inl (fun _ => 0))), ((r 15), .inl (c 0, 11, .inl (fun _ => 0))), ((r 16), .inl (c 0, 11, .inl (fun _ => 0))), ((r 17), .inl (c 0, 11, .inl (fun _ => 0))), ((r 22), .inl (c 0, 11, .inl (fun _ => 0))), ((r 26), .inl (c 0, 11, .inl (fun _ => 0))), ((r 0), .inr (12, fM r 0 0))] H := hP
              have hD : va_D A [((r 12), .inl (c 0, 11, .inl (fun _ => 0))), ((r 13), .inl (c 0, 11, .inl (fun _ => 0))), ((r 14), .inl (c 0, 11, .inl (fun _ => 0))), ((r 15), .inl (c 0, 11, .inl (fun _ => 0))), ((r 16), .inl (c 0, 11, .inl (fun _ => 0))), ((r 17), .inl (c 0, 11, .inl (fun _ => 0))), ((r 22), .inl (c 0, 11, .inl (fun _ => 0))), ((r 26), .inl (c 0, 11, .inl (fun _ => 0))), ((r 0), .inr (12, fM r 0 0))] := hD
              rcases inB_c h34 with ⟨h35, rfl⟩ | ⟨h35, rfl⟩
              · refine lv_if_ne (tgt := 99) hx hb dX12_pool_94 (by decide) (fun _ => ?_) (fun c => False.elim (by revert c; decide))
                refine lv_aload_n hx hb dX12_pool_99 rfl (lv_at hl 0 rfl) ?_
                refine va_get (D := D) (ci := 12) (v := .ref (r 12)) (C := RX12) (T := TX12) (N := 92) hx hb hts inW_12 hown hK hP 8 rfl rfl 11 (by decide) (hts _ wd_1131) (fun _ h9 => h9) rfl dX12_pool_100 ?_
                refine lv_aload_n hx hb dX12_pool_103 rfl (lv_at hl 0 rfl) ?_
                refine va_get (D := D) (ci := 12) (v := .int 0) (C := RX12) (T := TX12) (N := 92) hx hb hts inW_12 hown hK hP 8 rfl rfl 10 (by decide) (hts _ wd_1130) (fun _ h9 => h9) rfl dX12_pool_104 ?_
                refine lv_iload_n hx hb dX12_pool_107 rfl (lv_at hl 1 rfl) ?_
                refine va_iast hx hb hK hP hD hS 0 0 rfl rfl (vp_in_iff.mpr (by decide)) dX12_pool_108 (fun H locs hP hD hS => ?_)
                have hP : va_P D vwCl [((r 12), .inl (c 0, 11, .inl (upd (fun _ => 0) (Int32.toNatClampNeg 0) a))), ((r 13), .inl (c 0, 11, .inl (fun _ => 0))), ((r 14), .inl (c 0, 11, .inl (fun _ => 0))), ((r 15), .inl (c 0, 11, .inl (fun _ => 0))), ((r 16), .inl (c 0, 11, .inl (fun _ => 0))), ((r 17), .inl (c 0, 11, .inl (fun _ => 0))), ((r 22), .inl (c 0, 11, .inl (fun _ => 0))), ((r 26), .inl (c 0, 11, .inl (fun _ => 0))), ((r 0), .inr (12, fM r 0 0))] H := hP
                have hD : va_D A [((r 12), .inl (c 0, 11, .inl (upd (fun _ => 0) (Int32.toNatClampNeg 0) a))), ((r 13), .inl (c 0, 11, .inl (fun _ => 0))), ((r 14), .inl (c 0, 11, .inl (fun _ => 0))), ((r 15), .inl (c 0, 11, .inl (fun _ => 0))), ((r 16), .inl (c 0, 11, .inl (fun _ => 0))), ((r 17), .inl (c 0, 11, .inl (fun _ => 0))), ((r 22), .inl (c 0, 11, .inl (fun _ => 0))), ((r 26), .inl (c 0, 11, .inl (fun _ => 0))), ((r 0), .inr (12, fM r 0 0))] := hD
                refine lv_aload_n hx hb dX12_pool_109 rfl (lv_at hl 0 rfl) ?_
                refine va_get (D := D) (ci := 12) (v := .ref (r 13)) (C := RX12) (T := TX12) (N := 92) hx hb hts inW_12 hown hK hP 8 rfl rfl 12 (by decide) (hts _ wd_1132) (fun _ h9 => h9) rfl dX12_pool_110 ?_
                refine lv_aload_n hx hb dX12_pool_113 rfl (lv_at hl 0 rfl) ?_
                refine va_get (D := D) (ci := 12) (v := .int 0) (C := RX12) (T := TX12) (N := 92) hx hb hts inW_12 hown hK hP 8 rfl rfl 10 (by decide) (hts _ wd_1130) (fun _ h9 => h9) rfl dX12_pool_114 ?_
                refine lv_iload_n hx hb dX12_pool_117 rfl (lv_at hl 2 rfl) ?_
                refine va_iast hx hb hK hP hD hS 1 0 rfl rfl (vp_in_iff.mpr (by decide)) dX12_pool_118 (fun H locs hP hD hS => ?_)
                have hP : va_P D vwCl [((r 12), .inl (c 0, 11, .inl (upd (fun _ => 0) (Int32.toNatClampNeg 0) a))), ((r 13), .inl (c 0, 11, .inl (upd (fun _ => 0) (Int32.toNatClampNeg 0) f))), ((r 14), .inl (c 0, 11, .inl (fun _ => 0))), ((r 15), .inl (c 0, 11, .inl (fun _ => 0))), ((r 16), .inl (c 0, 11, .inl (fun _ => 0))), ((r 17), .inl (c 0, 11, .inl (fun _ => 0))), ((r 22), .inl (c 0, 11, .inl (fun _ => 0))), ((r 26), .inl (c 0, 11, .inl (fun _ => 0))), ((r 0), .inr (12, fM r 0 0))] H := hP
                have hD : va_D A [((r 12), .inl (c 0, 11, .inl (upd (fun _ => 0) (Int32.toNatClampNeg 0) a))), ((r 13), .inl (c 0, 11, .inl (upd (fun _ => 0) (Int32.toNatClampNeg 0) f))), ((r 14), .inl (c 0, 11, .inl (fun _ => 0))), ((r 15), .inl (c 0, 11, .inl (fun _ => 0))), ((r 16), .inl (c 0, 11, .inl (fun _ => 0))), ((r 17), .inl (c 0, 11, .inl (fun _ => 0))), ((r 22), .inl (c 0, 11, .inl (fun _ => 0))), ((r 26), .inl (c 0, 11, .inl (fun _ => 0))), ((r 0), .inr (12, fM r 0 0))] := hD
                refine lv_aload_n hx hb dX12_pool_119 rfl (lv_at hl 0 rfl) ?_
                refine va_get (D := D) (ci := 12) (v := .ref (r 14)) (C := RX12) (T := TX12) (N := 92) hx hb hts inW_12 hown hK hP 8 rfl rfl 13 (by decide) (hts _ wd_1133) (fun _ h9 => h9) rfl dX12_pool_120 ?_
                refine lv_aload_n hx hb dX12_pool_123 rfl (lv_at hl 0 rfl) ?_
                refine va_get (D := D) (ci := 12) (v := .int 0) (C := RX12) (T := TX12) (N := 92) hx hb hts inW_12 hown hK hP 8 rfl rfl 10 (by decide) (hts _ wd_1130) (fun _ h9 => h9) rfl dX12_pool_124 ?_
                refine lv_iload_n hx hb dX12_pool_127 rfl (lv_at hl 3 rfl) ?_
                refine va_iast hx hb hK hP hD hS 2 0 rfl rfl (vp_in_iff.mpr (by decide)) dX12_pool_128 (fun H locs hP hD hS => ?_)
                have hP : va_P D vwCl [((r 12), .inl (c 0, 11, .inl (upd (fun _ => 0) (Int32.toNatClampNeg 0) a))), ((r 13), .inl (c 0, 11, .inl (upd (fun _ => 0) (Int32.toNatClampNeg 0) f))), ((r 14), .inl (c 0, 11, .inl (upd (fun _ => 0) (Int32.toNatClampNeg 0) w))), ((r 15), .inl (c 0, 11, .inl (fun _ => 0))), ((r 16), .inl (c 0, 11, .inl (fun _ => 0))), ((r 17), .inl (c 0, 11, .inl (fun _ => 0))), ((r 22), .inl (c 0, 11, .inl (fun _ => 0))), ((r 26), .inl (c 0, 11, .inl (fun _ => 0))), ((r 0), .inr (12, fM r 0 0))] H := hP
                have hD : va_D A [((r 12), .inl (c 0, 11, .inl (upd (fun _ => 0) (Int32.toNatClampNeg 0) a))), ((r 13), .inl (c 0, 11, .inl (upd (fun _ => 0) (Int32.toNatClampNeg 0) f))), ((r 14), .inl (c 0, 11, .inl (upd (fun _ => 0) (Int32.toNatClampNeg 0) w))), ((r 15), .inl (c 0, 11, .inl (fun _ => 0))), ((r 16), .inl (c 0, 11, .inl (fun _ => 0))), ((r 17), .inl (c 0, 11, .inl (fun _ => 0))), ((r 22), .inl (c 0, 11, .inl (fun _ => 0))), ((r 26), .inl (c 0, 11, .inl (fun _ => 0))), ((r 0), .inr (12, fM r 0 0))] := hD
                refine lv_aload_n hx hb dX12_pool_129 rfl (lv_at hl 0 rfl) ?_
                refine va_get (D := D) (ci := 12) (v := .ref (r 15)) (C := RX12) (T := TX12) (N := 92) hx hb hts inW_12 hown hK hP 8 rfl rfl 14 (by decide) (hts _ wd_1134) (fun _ h9 => h9) rfl dX12_pool_130 ?_
                refine lv_aload_n hx hb dX12_pool_133 rfl (lv_at hl 0 rfl) ?_
                refine va_get (D := D) (ci := 12) (v := .int 0) (C := RX12) (T := TX12) (N := 92) hx hb hts inW_12 hown hK hP 8 rfl rfl 10 (by decide) (hts _ wd_1130) (fun _ h9 => h9) rfl dX12_pool_134 ?_
                refine lv_iload hx hb dX12_pool_137 (lv_at hl 4 rfl) ?_
                refine va_iast hx hb hK hP hD hS 3 0 rfl rfl (vp_in_iff.mpr (by decide)) dX12_pool_139 (fun H locs hP hD hS => ?_)
                have hP : va_P D vwCl [((r 12), .inl (c 0, 11, .inl (upd (fun _ => 0) (Int32.toNatClampNeg 0) a))), ((r 13), .inl (c 0, 11, .inl (upd (fun _ => 0) (Int32.toNatClampNeg 0) f))), ((r 14), .inl (c 0, 11, .inl (upd (fun _ => 0) (Int32.toNatClampNeg 0) w))), ((r 15), .inl (c 0, 11, .inl (upd (fun _ => 0) (Int32.toNatClampNeg 0) s0))), ((r 16), .inl (c 0, 11, .inl (fun _ => 0))), ((r 17), .inl (c 0, 11, .inl (fun _ => 0))), ((r 22), .inl (c 0, 11, .inl (fun _ => 0))), ((r 26), .inl (c 0, 11, .inl (fun _ => 0))), ((r 0), .inr (12, fM r 0 0))] H := hP
                have hD : va_D A [((r 12), .inl (c 0, 11, .inl (upd (fun _ => 0) (Int32.toNatClampNeg 0) a))), ((r 13), .inl (c 0, 11, .inl (upd (fun _ => 0) (Int32.toNatClampNeg 0) f))), ((r 14), .inl (c 0, 11, .inl (upd (fun _ => 0) (Int32.toNatClampNeg 0) w))), ((r 15), .inl (c 0, 11, .inl (upd (fun _ => 0) (Int32.toNatClampNeg 0) s0))), ((r 16), .inl (c 0, 11, .inl (fun _ => 0))), ((r 17), .inl (c 0, 11, .inl (fun _ => 0))), ((r 22), .inl (c 0, 11, .inl (fun _ => 0))), ((r 26), .inl (c 0, 11, .inl (fun _ => 0))), ((r 0), .inr (12, fM r 0 0))] := hD
                refine lv_aload_n hx hb dX12_pool_140 rfl (lv_at hl 0 rfl) ?_
                refine va_get (D := D) (ci := 12) (v := .ref (r 16)) (C := RX12) (T := TX12) (N := 92) hx hb hts inW_12 hown hK hP 8 rfl rfl 15 (by decide) (hts _ wd_1135) (fun _ h9 => h9) rfl dX12_pool_141 ?_
                refine lv_aload_n hx hb dX12_pool_144 rfl (lv_at hl 0 rfl) ?_
                refine va_get (D := D) (ci := 12) (v := .int 0) (C := RX12) (T := TX12) (N := 92) hx hb hts inW_12 hown hK hP 8 rfl rfl 10 (by decide) (hts _ wd_1130) (fun _ h9 => h9) rfl dX12_pool_145 ?_
                refine lv_iload hx hb dX12_pool_148 (lv_at hl 5 rfl) ?_
                refine va_iast hx hb hK hP hD hS 4 0 rfl rfl (vp_in_iff.mpr (by decide)) dX12_pool_150 (fun H locs hP hD hS => ?_)
                have hP : va_P D vwCl [((r 12), .inl (c 0, 11, .inl (upd (fun _ => 0) (Int32.toNatClampNeg 0) a))), ((r 13), .inl (c 0, 11, .inl (upd (fun _ => 0) (Int32.toNatClampNeg 0) f))), ((r 14), .inl (c 0, 11, .inl (upd (fun _ => 0) (Int32.toNatClampNeg 0) w))), ((r 15), .inl (c 0, 11, .inl (upd (fun _ => 0) (Int32.toNatClampNeg 0) s0))), ((r 16), .inl (c 0, 11, .inl (upd (fun _ => 0) (Int32.toNatClampNeg 0) sl))), ((r 17), .inl (c 0, 11, .inl (fun _ => 0))), ((r 22), .inl (c 0, 11, .inl (fun _ => 0))), ((r 26), .inl (c 0, 11, .inl (fun _ => 0))), ((r 0), .inr (12, fM r 0 0))] H := hP
                have hD : va_D A [((r 12), .inl (c 0, 11, .inl (upd (fun _ => 0) (Int32.toNatClampNeg 0) a))), ((r 13), .inl (c 0, 11, .inl (upd (fun _ => 0) (Int32.toNatClampNeg 0) f))), ((r 14), .inl (c 0, 11, .inl (upd (fun _ => 0) (Int32.toNatClampNeg 0) w))), ((r 15), .inl (c 0, 11, .inl (upd (fun _ => 0) (Int32.toNatClampNeg 0) s0))), ((r 16), .inl (c 0, 11, .inl (upd (fun _ => 0) (Int32.toNatClampNeg 0) sl))), ((r 17), .inl (c 0, 11, .inl (fun _ => 0))), ((r 22), .inl (c 0, 11, .inl (fun _ => 0))), ((r 26), .inl (c 0, 11, .inl (fun _ => 0))), ((r 0), .inr (12, fM r 0 0))] := hD
                refine lv_aload_n hx hb dX12_pool_151 rfl (lv_at hl 0 rfl) ?_
                refine va_get (D := D) (ci := 12) (v := .ref (r 17)) (C := RX12) (T := TX12) (N := 92) hx hb hts inW_12 hown hK hP 8 rfl rfl 16 (by decide) (hts _ wd_1136) (fun _ h9 => h9) rfl dX12_pool_152 ?_
                refine lv_aload_n hx hb dX12_pool_155 rfl (lv_at hl 0 rfl) ?_
                refine va_get (D := D) (ci := 12) (v := .int 0) (C := RX12) (T := TX12) (N := 92) hx hb hts inW_12 hown hK hP 8 rfl rfl 10 (by decide) (hts _ wd_1130) (fun _ h9 => h9) rfl dX12_pool_156 ?_
                refine lv_iload hx hb dX12_pool_159 (lv_at hl 6 rfl) ?_
                refine va_iast hx hb hK hP hD hS 5 0 rfl rfl (vp_in_iff.mpr (by decide)) dX12_pool_161 (fun H locs hP hD hS => ?_)
                have hP : va_P D vwCl [((r 12), .inl (c 0, 11, .inl (upd (fun _ => 0) (Int32.toNatClampNeg 0) a))), ((r 13), .inl (c 0, 11, .inl (upd (fun _ => 0) (Int32.toNatClampNeg 0) f))), ((r 14), .inl (c 0, 11, .inl (upd (fun _ => 0) (Int32.toNatClampNeg 0) w))), ((r 15), .inl (c 0, 11, .inl (upd (fun _ => 0) (Int32.toNatClampNeg 0) s0))), ((r 16), .inl (c 0, 11, .inl (upd (fun _ => 0) (Int32.toNatClampNeg 0) sl))), ((r 17), .inl (c 0, 11, .inl (upd (fun _ => 0) (Int32.toNatClampNeg 0) ov))), ((r 22), .inl (c 0, 11, .inl (fun _ => 0))), ((r 26), .inl (c 0, 11, .inl (fun _ => 0))), ((r 0), .inr (12, fM r 0 0))] H := hP
                have hD : va_D A [((r 12), .inl (c 0, 11, .inl (upd (fun _ => 0) (Int32.toNatClampNeg 0) a))), ((r 13), .inl (c 0, 11, .inl (upd (fun _ => 0) (Int32.toNatClampNeg 0) f))), ((r 14), .inl (c 0, 11, .inl (upd (fun _ => 0) (Int32.toNatClampNeg 0) w))), ((r 15), .inl (c 0, 11, .inl (upd (fun _ => 0) (Int32.toNatClampNeg 0) s0))), ((r 16), .inl (c 0, 11, .inl (upd (fun _ => 0) (Int32.toNatClampNeg 0) sl))), ((r 17), .inl (c 0, 11, .inl (upd (fun _ => 0) (Int32.toNatClampNeg 0) ov))), ((r 22), .inl (c 0, 11, .inl (fun _ => 0))), ((r 26), .inl (c 0, 11, .inl (fun _ => 0))), ((r 0), .inr (12, fM r 0 0))] := hD
                refine lv_aload_n hx hb dX12_pool_162 rfl (lv_at hl 0 rfl) ?_
                refine va_get (D := D) (ci := 12) (v := .ref (r 22)) (C := RX12) (T := TX12) (N := 92) hx hb hts inW_12 hown hK hP 8 rfl rfl 21 (by decide) (hts _ wd_1141) (fun _ h9 => h9) rfl dX12_pool_163 ?_
                refine lv_aload_n hx hb dX12_pool_166 rfl (lv_at hl 0 rfl) ?_
                refine va_get (D := D) (ci := 12) (v := .int 0) (C := RX12) (T := TX12) (N := 92) hx hb hts inW_12 hown hK hP 8 rfl rfl 10 (by decide) (hts _ wd_1130) (fun _ h9 => h9) rfl dX12_pool_167 ?_
                refine lv_iload_n hx hb dX12_pool_170 rfl (lv_at hl 1 rfl) ?_
                refine lv_iload hx hb dX12_pool_171 (lv_at hl 7 rfl) ?_
                refine lv_imul hx hb dX12_pool_173 ?_
                refine lv_topi (fun v36 e37 => ?_)
                refine va_iast hx hb hK hP hD hS 6 0 rfl rfl (vp_in_iff.mpr (by decide)) dX12_pool_174 (fun H locs hP hD hS => ?_)
                have hP : va_P D vwCl [((r 12), .inl (c 0, 11, .inl (upd (fun _ => 0) (Int32.toNatClampNeg 0) a))), ((r 13), .inl (c 0, 11, .inl (upd (fun _ => 0) (Int32.toNatClampNeg 0) f))), ((r 14), .inl (c 0, 11, .inl (upd (fun _ => 0) (Int32.toNatClampNeg 0) w))), ((r 15), .inl (c 0, 11, .inl (upd (fun _ => 0) (Int32.toNatClampNeg 0) s0))), ((r 16), .inl (c 0, 11, .inl (upd (fun _ => 0) (Int32.toNatClampNeg 0) sl))), ((r 17), .inl (c 0, 11, .inl (upd (fun _ => 0) (Int32.toNatClampNeg 0) ov))), ((r 22), .inl (c 0, 11, .inl (upd (fun _ => 0) (Int32.toNatClampNeg 0) v36))), ((r 26), .inl (c 0, 11, .inl (fun _ => 0))), ((r 0), .inr (12, fM r 0 0))] H := hP
                have hD : va_D A [((r 12), .inl (c 0, 11, .inl (upd (fun _ => 0) (Int32.toNatClampNeg 0) a))), ((r 13), .inl (c 0, 11, .inl (upd (fun _ => 0) (Int32.toNatClampNeg 0) f))), ((r 14), .inl (c 0, 11, .inl (upd (fun _ => 0) (Int32.toNatClampNeg 0) w))), ((r 15), .inl (c 0, 11, .inl (upd (fun _ => 0) (Int32.toNatClampNeg 0) s0))), ((r 16), .inl (c 0, 11, .inl (upd (fun _ => 0) (Int32.toNatClampNeg 0) sl))), ((r 17), .inl (c 0, 11, .inl (upd (fun _ => 0) (Int32.toNatClampNeg 0) ov))), ((r 22), .inl (c 0, 11, .inl (upd (fun _ => 0) (Int32.toNatClampNeg 0) v36))), ((r 26), .inl (c 0, 11, .inl (fun _ => 0))), ((r 0), .inr (12, fM r 0 0))] := hD
                refine lv_aload_n hx hb dX12_pool_175 rfl (lv_at hl 0 rfl) ?_
                refine va_get (D := D) (ci := 12) (v := .ref (r 26)) (C := RX12) (T := TX12) (N := 92) hx hb hts inW_12 hown hK hP 8 rfl rfl 25 (by decide) (hts _ wd_1145) (fun _ h9 => h9) rfl dX12_pool_176 ?_
                refine lv_aload_n hx hb dX12_pool_179 rfl (lv_at hl 0 rfl) ?_
                refine va_get (D := D) (ci := 12) (v := .int 0) (C := RX12) (T := TX12) (N := 92) hx hb hts inW_12 hown hK hP 8 rfl rfl 10 (by decide) (hts _ wd_1130) (fun _ h9 => h9) rfl dX12_pool_180 ?_
                refine lv_aload_n hx hb dX12_pool_183 rfl (lv_at hl 0 rfl) ?_
                refine va_get (D := D) (ci := 12) (v := .int 0) (C := RX12) (T := TX12) (N := 92) hx hb hts inW_12 hown hK hP 8 rfl rfl 0 (by decide) (hts _ wd_1120) (fun _ h9 => h9) rfl dX12_pool_184 ?_
                refine lv_bipush (v := 6) hx hb dX12_pool_187 (by decide) ?_
                refine lv_idiv hx hb dX12_pool_189 (by decide) ?_
                refine lv_topi (fun v38 e39 => ?_)
                obtain rfl : v38 = 0 := e39.trans (by decide)
                refine va_iast hx hb hK hP hD hS 7 0 rfl rfl (vp_in_iff.mpr (by decide)) dX12_pool_190 (fun H locs hP hD hS => ?_)
                have hP : va_P D vwCl [((r 12), .inl (c 0, 11, .inl (upd (fun _ => 0) (Int32.toNatClampNeg 0) a))), ((r 13), .inl (c 0, 11, .inl (upd (fun _ => 0) (Int32.toNatClampNeg 0) f))), ((r 14), .inl (c 0, 11, .inl (upd (fun _ => 0) (Int32.toNatClampNeg 0) w))), ((r 15), .inl (c 0, 11, .inl (upd (fun _ => 0) (Int32.toNatClampNeg 0) s0))), ((r 16), .inl (c 0, 11, .inl (upd (fun _ => 0) (Int32.toNatClampNeg 0) sl))), ((r 17), .inl (c 0, 11, .inl (upd (fun _ => 0) (Int32.toNatClampNeg 0) ov))), ((r 22), .inl (c 0, 11, .inl (upd (fun _ => 0) (Int32.toNatClampNeg 0) v36))), ((r 26), .inl (c 0, 11, .inl (upd (fun _ => 0) (Int32.toNatClampNeg 0) 0))), ((r 0), .inr (12, fM r 0 0))] H := hP
                have hD : va_D A [((r 12), .inl (c 0, 11, .inl (upd (fun _ => 0) (Int32.toNatClampNeg 0) a))), ((r 13), .inl (c 0, 11, .inl (upd (fun _ => 0) (Int32.toNatClampNeg 0) f))), ((r 14), .inl (c 0, 11, .inl (upd (fun _ => 0) (Int32.toNatClampNeg 0) w))), ((r 15), .inl (c 0, 11, .inl (upd (fun _ => 0) (Int32.toNatClampNeg 0) s0))), ((r 16), .inl (c 0, 11, .inl (upd (fun _ => 0) (Int32.toNatClampNeg 0) sl))), ((r 17), .inl (c 0, 11, .inl (upd (fun _ => 0) (Int32.toNatClampNeg 0) ov))), ((r 22), .inl (c 0, 11, .inl (upd (fun _ => 0) (Int32.toNatClampNeg 0) v36))), ((r 26), .inl (c 0, 11, .inl (upd (fun _ => 0) (Int32.toNatClampNeg 0) 0))), ((r 0), .inr (12, fM r 0 0))] := hD
                refine lv_aload_n hx hb dX12_pool_191 rfl (lv_at hl 0 rfl) ?_
                refine lv_dup hx hb dX12_pool_192 rfl ?_
                refine va_get (D := D) (ci := 12) (v := .int 0) (C := RX12) (T := TX12) (N := 92) hx hb hts inW_12 hown hK hP 8 rfl rfl 10 (by decide) (hts _ wd_1130) (fun _ h9 => h9) rfl dX12_pool_193 ?_
                refine lv_iconst (v := 1) hx hb dX12_pool_196 (by decide) ?_
                refine lv_iadd hx hb dX12_pool_197 ?_
                refine lv_topi (fun v40 e41 => ?_)
                obtain rfl : v40 = 1 := e41.trans (by decide)
                refine va_put (D := D) (ci := 12) (v := .int 1) (ty := .int) (C := RX12) (T := TX12) (N := 92) hx hb hts inW_12 tyX12 tyX12_ok nmX12 hown hK hP hD hS 8 rfl rfl 10 (by decide) (hts _ wd_1130) (fun _ h9 => h9) rfl (by decide +kernel) rfl rfl (Nat.le_of_ble_eq_true rfl) dX12_pool_198 (fun H locs hP hD hS => ?_)
                have hP : va_P D vwCl [((r 12), .inl (c 0, 11, .inl (upd (fun _ => 0) (Int32.toNatClampNeg 0) a))), ((r 13), .inl (c 0, 11, .inl (upd (fun _ => 0) (Int32.toNatClampNeg 0) f))), ((r 14), .inl (c 0, 11, .inl (upd (fun _ => 0) (Int32.toNatClampNeg 0) w))), ((r 15), .inl (c 0, 11, .inl (upd (fun _ => 0) (Int32.toNatClampNeg 0) s0))), ((r 16), .inl (c 0, 11, .inl (upd (fun _ => 0) (Int32.toNatClampNeg 0) sl))), ((r 17), .inl (c 0, 11, .inl (upd (fun _ => 0) (Int32.toNatClampNeg 0) ov))), ((r 22), .inl (c 0, 11, .inl (upd (fun _ => 0) (Int32.toNatClampNeg 0) v36))), ((r 26), .inl (c 0, 11, .inl (upd (fun _ => 0) (Int32.toNatClampNeg 0) 0))), ((r 0), .inr (12, (fM r 0 0).set 10 (.int 1)))] H := hP
                have hD : va_D A [((r 12), .inl (c 0, 11, .inl (upd (fun _ => 0) (Int32.toNatClampNeg 0) a))), ((r 13), .inl (c 0, 11, .inl (upd (fun _ => 0) (Int32.toNatClampNeg 0) f))), ((r 14), .inl (c 0, 11, .inl (upd (fun _ => 0) (Int32.toNatClampNeg 0) w))), ((r 15), .inl (c 0, 11, .inl (upd (fun _ => 0) (Int32.toNatClampNeg 0) s0))), ((r 16), .inl (c 0, 11, .inl (upd (fun _ => 0) (Int32.toNatClampNeg 0) sl))), ((r 17), .inl (c 0, 11, .inl (upd (fun _ => 0) (Int32.toNatClampNeg 0) ov))), ((r 22), .inl (c 0, 11, .inl (upd (fun _ => 0) (Int32.toNatClampNeg 0) v36))), ((r 26), .inl (c 0, 11, .inl (upd (fun _ => 0) (Int32.toNatClampNeg 0) 0))), ((r 0), .inr (12, (fM r 0 0).set 10 (.int 1)))] := hD
                refine lv_aload_n hx hb dX12_pool_201 rfl (lv_at hl 0 rfl) ?_
                refine va_get (D := D) (ci := 12) (v := .int 1) (C := RX12) (T := TX12) (N := 92) hx hb hts inW_12 hown hK hP 8 rfl rfl 10 (by decide) (hts _ wd_1130) (fun _ h9 => h9) rfl dX12_pool_202 ?_
                refine lv_iconst (v := 1) hx hb dX12_pool_205 (by decide) ?_
                refine lv_isub hx hb dX12_pool_206 ?_
                refine lv_topi (fun v42 e43 => ?_)
                obtain rfl : v42 = 0 := e43.trans (by decide)
                exact rt_i hx hb hr hlocks hK hP hD hS rfl dX12_pool_207 () [] rfl rfl (by show (0 : Int32) = _; unfold f_pool; (try simp only [Int32.reduceToInt, not_true_eq_false, false_or, not_false_eq_true, true_or, and_true, true_and]); (try simp only [Int32.le_iff_toInt_le, Int32.lt_iff_toInt_lt, ← Int32.toInt_inj, Int32.reduceToInt] at h7); (try simp only [Int32.le_iff_toInt_le, Int32.lt_iff_toInt_lt, ← Int32.toInt_inj, Int32.reduceToInt] at h11); (try simp only [Int32.le_iff_toInt_le, Int32.lt_iff_toInt_lt, ← Int32.toInt_inj, Int32.reduceToInt] at h17); (try simp only [Int32.le_iff_toInt_le, Int32.lt_iff_toInt_lt, ← Int32.toInt_inj, Int32.reduceToInt] at h21); (try simp only [Int32.le_iff_toInt_le, Int32.lt_iff_toInt_lt, ← Int32.toInt_inj, Int32.reduceToInt] at h25); (try simp only [Int32.le_iff_toInt_le, Int32.lt_iff_toInt_lt, ← Int32.toInt_inj, Int32.reduceToInt] at h29); (try simp only [Int32.le_iff_toInt_le, Int32.lt_iff_toInt_lt, ← Int32.toInt_inj, Int32.reduceToInt] at h35); (try have z_v12 : v12.toInt = f.toInt + (1 : Int32).toInt := by rw [e13]; exact i32_add (by (try simp only [Int32.reduceToInt]); omega) (by (try simp only [Int32.reduceToInt]); omega) (by (try simp only [Int32.reduceToInt]); omega) (by (try simp only [Int32.reduceToInt]); omega)); (try simp only [Int32.reduceToInt] at z_v12); (try have z_v30 : v30.toInt = w.toInt - f.toInt := by rw [e31]; exact i32_sub (by (try simp only [Int32.reduceToInt]); omega) (by (try simp only [Int32.reduceToInt]); omega) (by (try simp only [Int32.reduceToInt]); omega) (by (try simp only [Int32.reduceToInt]); omega)); (try simp only [Int32.reduceToInt] at z_v30); first | (rw [if_pos (by omega)]; done) | (rw [if_neg (by omega)]; done) | (rw [if_pos (by omega)]; exact Int32.toInt_inj.mp (by (try simp only [Int32.reduceToInt]); omega)))
              · refine lv_if_ne (tgt := 99) hx hb dX12_pool_94 (by decide) (fun c => False.elim (by revert c; decide)) (fun _ => ?_)
                refine lv_iconst (v := (-1)) hx hb dX12_pool_97 (by decide) ?_
                exact rt_i hx hb hr hlocks hK hP hD hS rfl dX12_pool_98 () [] rfl rfl (by show ((-1) : Int32) = _; unfold f_pool; (try simp only [Int32.reduceToInt, not_true_eq_false, false_or, not_false_eq_true, true_or, and_true, true_and]); (try simp only [Int32.le_iff_toInt_le, Int32.lt_iff_toInt_lt, ← Int32.toInt_inj, Int32.reduceToInt] at h7); (try simp only [Int32.le_iff_toInt_le, Int32.lt_iff_toInt_lt, ← Int32.toInt_inj, Int32.reduceToInt] at h11); (try simp only [Int32.le_iff_toInt_le, Int32.lt_iff_toInt_lt, ← Int32.toInt_inj, Int32.reduceToInt] at h17); (try simp only [Int32.le_iff_toInt_le, Int32.lt_iff_toInt_lt, ← Int32.toInt_inj, Int32.reduceToInt] at h21); (try simp only [Int32.le_iff_toInt_le, Int32.lt_iff_toInt_lt, ← Int32.toInt_inj, Int32.reduceToInt] at h25); (try simp only [Int32.le_iff_toInt_le, Int32.lt_iff_toInt_lt, ← Int32.toInt_inj, Int32.reduceToInt] at h29); (try simp only [Int32.le_iff_toInt_le, Int32.lt_iff_toInt_lt, ← Int32.toInt_inj, Int32.reduceToInt] at h35); (try have z_v12 : v12.toInt = f.toInt + (1 : Int32).toInt := by rw [e13]; exact i32_add (by (try simp only [Int32.reduceToInt]); omega) (by (try simp only [Int32.reduceToInt]); omega) (by (try simp only [Int32.reduceToInt]); omega) (by (try simp only [Int32.reduceToInt]); omega)); (try simp only [Int32.reduceToInt] at z_v12); (try have z_v30 : v30.toInt = w.toInt - f.toInt := by rw [e31]; exact i32_sub (by (try simp only [Int32.reduceToInt]); omega) (by (try simp only [Int32.reduceToInt]); omega) (by (try simp only [Int32.reduceToInt]); omega) (by (try simp only [Int32.reduceToInt]); omega)); (try simp only [Int32.reduceToInt] at z_v30); first | (rw [if_pos (by omega)]; done) | (rw [if_neg (by omega)]; done) | (rw [if_pos (by omega)]; exact Int32.toInt_inj.mp (by (try simp only [Int32.reduceToInt]); omega)))
            · refine lv_if_eq (tgt := 97) hx hb dX12_pool_82 (by decide) (fun _ => ?_) (fun c => False.elim (by revert c; decide))
              refine lv_iconst (v := (-1)) hx hb dX12_pool_97 (by decide) ?_
              exact rt_i hx hb hr hlocks hK hP hD hS rfl dX12_pool_98 () [] rfl rfl (by show ((-1) : Int32) = _; unfold f_pool; (try simp only [Int32.reduceToInt, not_true_eq_false, false_or, not_false_eq_true, true_or, and_true, true_and]); (try simp only [Int32.le_iff_toInt_le, Int32.lt_iff_toInt_lt, ← Int32.toInt_inj, Int32.reduceToInt] at h7); (try simp only [Int32.le_iff_toInt_le, Int32.lt_iff_toInt_lt, ← Int32.toInt_inj, Int32.reduceToInt] at h11); (try simp only [Int32.le_iff_toInt_le, Int32.lt_iff_toInt_lt, ← Int32.toInt_inj, Int32.reduceToInt] at h17); (try simp only [Int32.le_iff_toInt_le, Int32.lt_iff_toInt_lt, ← Int32.toInt_inj, Int32.reduceToInt] at h21); (try simp only [Int32.le_iff_toInt_le, Int32.lt_iff_toInt_lt, ← Int32.toInt_inj, Int32.reduceToInt] at h25); (try simp only [Int32.le_iff_toInt_le, Int32.lt_iff_toInt_lt, ← Int32.toInt_inj, Int32.reduceToInt] at h29); (try have z_v12 : v12.toInt = f.toInt + (1 : Int32).toInt := by rw [e13]; exact i32_add (by (try simp only [Int32.reduceToInt]); omega) (by (try simp only [Int32.reduceToInt]); omega) (by (try simp only [Int32.reduceToInt]); omega) (by (try simp only [Int32.reduceToInt]); omega)); (try simp only [Int32.reduceToInt] at z_v12); first | (rw [if_pos (by omega)]; done) | (rw [if_neg (by omega)]; done) | (rw [if_pos (by omega)]; exact Int32.toInt_inj.mp (by (try simp only [Int32.reduceToInt]); omega)))
          · refine lv_if_eq (tgt := 97) hx hb dX12_pool_71 (by decide) (fun _ => ?_) (fun c => False.elim (by revert c; decide))
            refine lv_iconst (v := (-1)) hx hb dX12_pool_97 (by decide) ?_
            exact rt_i hx hb hr hlocks hK hP hD hS rfl dX12_pool_98 () [] rfl rfl (by show ((-1) : Int32) = _; unfold f_pool; (try simp only [Int32.reduceToInt, not_true_eq_false, false_or, not_false_eq_true, true_or, and_true, true_and]); (try simp only [Int32.le_iff_toInt_le, Int32.lt_iff_toInt_lt, ← Int32.toInt_inj, Int32.reduceToInt] at h7); (try simp only [Int32.le_iff_toInt_le, Int32.lt_iff_toInt_lt, ← Int32.toInt_inj, Int32.reduceToInt] at h11); (try simp only [Int32.le_iff_toInt_le, Int32.lt_iff_toInt_lt, ← Int32.toInt_inj, Int32.reduceToInt] at h17); (try simp only [Int32.le_iff_toInt_le, Int32.lt_iff_toInt_lt, ← Int32.toInt_inj, Int32.reduceToInt] at h21); (try simp only [Int32.le_iff_toInt_le, Int32.lt_iff_toInt_lt, ← Int32.toInt_inj, Int32.reduceToInt] at h25); (try have z_v12 : v12.toInt = f.toInt + (1 : Int32).toInt := by rw [e13]; exact i32_add (by (try simp only [Int32.reduceToInt]); omega) (by (try simp only [Int32.reduceToInt]); omega) (by (try simp only [Int32.reduceToInt]); omega) (by (try simp only [Int32.reduceToInt]); omega)); (try simp only [Int32.reduceToInt] at z_v12); first | (rw [if_pos (by omega)]; done) | (rw [if_neg (by omega)]; done) | (rw [if_pos (by omega)]; exact Int32.toInt_inj.mp (by (try simp only [Int32.reduceToInt]); omega)))
        · refine lv_if_eq (tgt := 97) hx hb dX12_pool_60 (by decide) (fun _ => ?_) (fun c => False.elim (by revert c; decide))
          refine lv_iconst (v := (-1)) hx hb dX12_pool_97 (by decide) ?_
          exact rt_i hx hb hr hlocks hK hP hD hS rfl dX12_pool_98 () [] rfl rfl (by show ((-1) : Int32) = _; unfold f_pool; (try simp only [Int32.reduceToInt, not_true_eq_false, false_or, not_false_eq_true, true_or, and_true, true_and]); (try simp only [Int32.le_iff_toInt_le, Int32.lt_iff_toInt_lt, ← Int32.toInt_inj, Int32.reduceToInt] at h7); (try simp only [Int32.le_iff_toInt_le, Int32.lt_iff_toInt_lt, ← Int32.toInt_inj, Int32.reduceToInt] at h11); (try simp only [Int32.le_iff_toInt_le, Int32.lt_iff_toInt_lt, ← Int32.toInt_inj, Int32.reduceToInt] at h17); (try simp only [Int32.le_iff_toInt_le, Int32.lt_iff_toInt_lt, ← Int32.toInt_inj, Int32.reduceToInt] at h21); (try have z_v12 : v12.toInt = f.toInt + (1 : Int32).toInt := by rw [e13]; exact i32_add (by (try simp only [Int32.reduceToInt]); omega) (by (try simp only [Int32.reduceToInt]); omega) (by (try simp only [Int32.reduceToInt]); omega) (by (try simp only [Int32.reduceToInt]); omega)); (try simp only [Int32.reduceToInt] at z_v12); first | (rw [if_pos (by omega)]; done) | (rw [if_neg (by omega)]; done) | (rw [if_pos (by omega)]; exact Int32.toInt_inj.mp (by (try simp only [Int32.reduceToInt]); omega)))
      · refine lv_if_eq (tgt := 97) hx hb dX12_pool_50 (by decide) (fun _ => ?_) (fun c => False.elim (by revert c; decide))
        refine lv_iconst (v := (-1)) hx hb dX12_pool_97 (by decide) ?_
        exact rt_i hx hb hr hlocks hK hP hD hS rfl dX12_pool_98 () [] rfl rfl (by show ((-1) : Int32) = _; unfold f_pool; (try simp only [Int32.reduceToInt, not_true_eq_false, false_or, not_false_eq_true, true_or, and_true, true_and]); (try simp only [Int32.le_iff_toInt_le, Int32.lt_iff_toInt_lt, ← Int32.toInt_inj, Int32.reduceToInt] at h7); (try simp only [Int32.le_iff_toInt_le, Int32.lt_iff_toInt_lt, ← Int32.toInt_inj, Int32.reduceToInt] at h11); (try simp only [Int32.le_iff_toInt_le, Int32.lt_iff_toInt_lt, ← Int32.toInt_inj, Int32.reduceToInt] at h17); (try have z_v12 : v12.toInt = f.toInt + (1 : Int32).toInt := by rw [e13]; exact i32_add (by (try simp only [Int32.reduceToInt]); omega) (by (try simp only [Int32.reduceToInt]); omega) (by (try simp only [Int32.reduceToInt]); omega) (by (try simp only [Int32.reduceToInt]); omega)); (try simp only [Int32.reduceToInt] at z_v12); first | (rw [if_pos (by omega)]; done) | (rw [if_neg (by omega)]; done) | (rw [if_pos (by omega)]; exact Int32.toInt_inj.mp (by (try simp only [Int32.reduceToInt]); omega)))
    · refine lv_if_eq (tgt := 97) hx hb dX12_pool_37 (by decide) (fun _ => ?_) (fun c => False.elim (by revert c; decide))
      refine lv_iconst (v := (-1)) hx hb dX12_pool_97 (by decide) ?_
      exact rt_i hx hb hr hlocks hK hP hD hS rfl dX12_pool_98 () [] rfl rfl (by show ((-1) : Int32) = _; unfold f_pool; (try simp only [Int32.reduceToInt, not_true_eq_false, false_or, not_false_eq_true, true_or, and_true, true_and]); (try simp only [Int32.le_iff_toInt_le, Int32.lt_iff_toInt_lt, ← Int32.toInt_inj, Int32.reduceToInt] at h7); (try simp only [Int32.le_iff_toInt_le, Int32.lt_iff_toInt_lt, ← Int32.toInt_inj, Int32.reduceToInt] at h11); first | (rw [if_pos (by omega)]; done) | (rw [if_neg (by omega)]; done) | (rw [if_pos (by omega)]; exact Int32.toInt_inj.mp (by (try simp only [Int32.reduceToInt]); omega)))
  · refine lv_if_eq (tgt := 97) hx hb dX12_pool_24 (by decide) (fun _ => ?_) (fun c => False.elim (by revert c; decide))
    refine lv_iconst (v := (-1)) hx hb dX12_pool_97 (by decide) ?_
    exact rt_i hx hb hr hlocks hK hP hD hS rfl dX12_pool_98 () [] rfl rfl (by show ((-1) : Int32) = _; unfold f_pool; (try simp only [Int32.reduceToInt, not_true_eq_false, false_or, not_false_eq_true, true_or, and_true, true_and]); (try simp only [Int32.le_iff_toInt_le, Int32.lt_iff_toInt_lt, ← Int32.toInt_inj, Int32.reduceToInt] at h7); first | (rw [if_pos (by omega)]; done) | (rw [if_neg (by omega)]; done) | (rw [if_pos (by omega)]; exact Int32.toInt_inj.mp (by (try simp only [Int32.reduceToInt]); omega)))
set_option maxHeartbeats 4000000 in
set_option maxRecDepth 100000 in
/-- X12_dirt -/
theorem c_X12_dirt (l : Launch) (D : va_G) (c : Nat → ClassId) (sz : Nat) (r : Nat → Nat) (p0 : Int32) (s0 : Int32) (w : Int32) : Met l yX12_dirt (.code yX12_dirt cX12_dirt 4 (some .boolean) :: Wd) ({ frames := 2, cells := 0, slots := 0, locals := 43 }) (va_Pc [.ref (r 0), .int p0, .int s0, .int w] (WB D c [((r 0), .inr (12, fM r 0 0))] sz)) (QI (S := Unit) D c (fun q _ => q = 0) (fun _ => []) (va_A [((r 0), .inr (12, fM r 0 0))] sz)) 0 0 (va_A [((r 0), .inr (12, fM r 0 0))] sz) := by
  refine kz_met (Qc := QI (S := Unit) D c (fun q _ => q = 0) (fun _ => [])) (by decide) (Nat.le_of_ble_eq_true rfl) ?_
  intro p e s m below meth cd A ls H locs hx hb hr hml hts hown hlocks hin hN hO hK hP hD hS hA hl
  have hl : lv_has ls 4 [(0, .ref (r 0)), (1, .int p0), (2, .int s0), (3, .int w)] := hl
  have hown : s.vm.findClass RX12 = some m.cls := hown
  refine lv_aload_n hx hb dX12_dirt_0 rfl (lv_at hl 0 rfl) ?_
  refine lv_iload_n hx hb dX12_dirt_1 rfl (lv_at hl 1 rfl) ?_
  have hPc := hP.sub (ws' := [((r 0), .inr (12, fM r 0 0))]) [0] rfl
  have hDc := hD.sub (ws' := [((r 0), .inr (12, fM r 0 0))]) [0] (by decide) rfl
  refine cl_i (wr := []) (va_runV (As := [.int p0]) (rest := []) ⟨hx, hb, hml, hown, hts⟩ (c_X12_isPool l D c H.size r p0) (kw_V 1 hts wd_1445 wd_1447 wd_45 wd_90 wd_1448 rfl rfl (by decide +kernel) ⟨Nat.le_of_ble_eq_true rfl, Nat.le_of_ble_eq_true rfl⟩) (pre_V hPc hK hDc hN hO (ci := 12) (q0 := 0) rfl rfl) rfl rfl hl.1 rfl (lv_room (Nat.le_of_ble_eq_true rfl)) dX12_dirt_2 ⟨Nat.le_of_ble_eq_true rfl, Nat.le_of_ble_eq_true rfl⟩) hP hD hS hA [0] [] rfl rfl (by decide) (by decide) (fun r1 u2 H locs h3 hP hD hS => ?_)
  have hP : va_P D vwCl [((r 0), .inr (12, fM r 0 0))] H := hP
  have hD : va_D A [((r 0), .inr (12, fM r 0 0))] := hD
  obtain rfl : r1 = 0 := h3
  refine lv_if_eq (tgt := 35) hx hb dX12_dirt_5 (by decide) (fun _ => ?_) (fun c => False.elim (by revert c; decide))
  refine lv_iconst (v := 0) hx hb dX12_dirt_35 (by decide) ?_
  exact rt_i hx hb hr hlocks hK hP hD hS rfl dX12_dirt_36 () [] rfl rfl rfl
set_option maxHeartbeats 4000000 in
set_option maxRecDepth 100000 in
/-- X12_crack -/
theorem c_X12_crack (l : Launch) (D : va_G) (c : Nat → ClassId) (sz : Nat) (r : Nat → Nat) (p0 : Int32) (z : Int32) (t : Int32) : Met l yX12_crack (.code yX12_crack cX12_crack 4 (some .int) :: Wd) ({ frames := 2, cells := 0, slots := 0, locals := 43 }) (va_Pc [.ref (r 0), .int p0, .int z, .int t] (WB D c [((r 0), .inr (12, fM r 0 0))] sz)) (QI (S := Unit) D c (fun q _ => q = -1) (fun _ => []) (va_A [((r 0), .inr (12, fM r 0 0))] sz)) 0 0 (va_A [((r 0), .inr (12, fM r 0 0))] sz) := by
  refine kz_met (Qc := QI (S := Unit) D c (fun q _ => q = -1) (fun _ => [])) (by decide) (Nat.le_of_ble_eq_true rfl) ?_
  intro p e s m below meth cd A ls H locs hx hb hr hml hts hown hlocks hin hN hO hK hP hD hS hA hl
  have hl : lv_has ls 4 [(0, .ref (r 0)), (1, .int p0), (2, .int z), (3, .int t)] := hl
  have hown : s.vm.findClass RX12 = some m.cls := hown
  refine lv_aload_n hx hb dX12_crack_0 rfl (lv_at hl 0 rfl) ?_
  refine lv_iload_n hx hb dX12_crack_1 rfl (lv_at hl 1 rfl) ?_
  have hPc := hP.sub (ws' := [((r 0), .inr (12, fM r 0 0))]) [0] rfl
  have hDc := hD.sub (ws' := [((r 0), .inr (12, fM r 0 0))]) [0] (by decide) rfl
  refine cl_i (wr := []) (va_runV (As := [.int p0]) (rest := []) ⟨hx, hb, hml, hown, hts⟩ (c_X12_isPool l D c H.size r p0) (kw_V 1 hts wd_1445 wd_1447 wd_45 wd_90 wd_1448 rfl rfl (by decide +kernel) ⟨Nat.le_of_ble_eq_true rfl, Nat.le_of_ble_eq_true rfl⟩) (pre_V hPc hK hDc hN hO (ci := 12) (q0 := 0) rfl rfl) rfl rfl hl.1 rfl (lv_room (Nat.le_of_ble_eq_true rfl)) dX12_crack_2 ⟨Nat.le_of_ble_eq_true rfl, Nat.le_of_ble_eq_true rfl⟩) hP hD hS hA [0] [] rfl rfl (by decide) (by decide) (fun r1 u2 H locs h3 hP hD hS => ?_)
  have hP : va_P D vwCl [((r 0), .inr (12, fM r 0 0))] H := hP
  have hD : va_D A [((r 0), .inr (12, fM r 0 0))] := hD
  obtain rfl : r1 = 0 := h3
  refine lv_if_eq (tgt := 54) hx hb dX12_crack_5 (by decide) (fun _ => ?_) (fun c => False.elim (by revert c; decide))
  refine lv_iconst (v := (-1)) hx hb dX12_crack_54 (by decide) ?_
  exact rt_i hx hb hr hlocks hK hP hD hS rfl dX12_crack_55 () [] rfl rfl rfl
set_option maxHeartbeats 4000000 in
set_option maxRecDepth 100000 in
/-- X12_mend -/
theorem c_X12_mend (l : Launch) (D : va_G) (c : Nat → ClassId) (sz : Nat) (r : Nat → Nat) (p0 : Int32) : Met l yX12_mend (.code yX12_mend cX12_mend 3 (some .int) :: Wd) ({ frames := 2, cells := 0, slots := 0, locals := 43 }) (va_Pc [.ref (r 0), .int p0] (WB D c [((r 0), .inr (12, fM r 0 0))] sz)) (QI (S := Unit) D c (fun q _ => q = -1) (fun _ => []) (va_A [((r 0), .inr (12, fM r 0 0))] sz)) 0 0 (va_A [((r 0), .inr (12, fM r 0 0))] sz) := by
  refine kz_met (Qc := QI (S := Unit) D c (fun q _ => q = -1) (fun _ => [])) (by decide) (Nat.le_of_ble_eq_true rfl) ?_
  intro p e s m below meth cd A ls H locs hx hb hr hml hts hown hlocks hin hN hO hK hP hD hS hA hl
  have hl : lv_has ls 3 [(0, .ref (r 0)), (1, .int p0)] := hl
  have hown : s.vm.findClass RX12 = some m.cls := hown
  refine lv_aload_n hx hb dX12_mend_0 rfl (lv_at hl 0 rfl) ?_
  refine lv_iload_n hx hb dX12_mend_1 rfl (lv_at hl 1 rfl) ?_
  have hPc := hP.sub (ws' := [((r 0), .inr (12, fM r 0 0))]) [0] rfl
  have hDc := hD.sub (ws' := [((r 0), .inr (12, fM r 0 0))]) [0] (by decide) rfl
  refine cl_i (wr := []) (va_runV (As := [.int p0]) (rest := []) ⟨hx, hb, hml, hown, hts⟩ (c_X12_isPool l D c H.size r p0) (kw_V 1 hts wd_1445 wd_1447 wd_45 wd_90 wd_1448 rfl rfl (by decide +kernel) ⟨Nat.le_of_ble_eq_true rfl, Nat.le_of_ble_eq_true rfl⟩) (pre_V hPc hK hDc hN hO (ci := 12) (q0 := 0) rfl rfl) rfl rfl hl.1 rfl (lv_room (Nat.le_of_ble_eq_true rfl)) dX12_mend_2 ⟨Nat.le_of_ble_eq_true rfl, Nat.le_of_ble_eq_true rfl⟩) hP hD hS hA [0] [] rfl rfl (by decide) (by decide) (fun r1 u2 H locs h3 hP hD hS => ?_)
  have hP : va_P D vwCl [((r 0), .inr (12, fM r 0 0))] H := hP
  have hD : va_D A [((r 0), .inr (12, fM r 0 0))] := hD
  obtain rfl : r1 = 0 := h3
  refine lv_if_eq (tgt := 15) hx hb dX12_mend_5 (by decide) (fun _ => ?_) (fun c => False.elim (by revert c; decide))
  refine lv_iconst (v := (-1)) hx hb dX12_mend_15 (by decide) ?_
  exact rt_i hx hb hr hlocks hK hP hD hS rfl dX12_mend_16 () [] rfl rfl rfl
set_option maxHeartbeats 4000000 in
set_option maxRecDepth 100000 in
/-- X12_sluice -/
theorem c_X12_sluice (l : Launch) (D : va_G) (c : Nat → ClassId) (sz : Nat) (r : Nat → Nat) (p0 : Int32) (o : Int32) : Met l yX12_sluice (.code yX12_sluice cX12_sluice 3 (some .boolean) :: Wd) ({ frames := 2, cells := 0, slots := 0, locals := 43 }) (va_Pc [.ref (r 0), .int p0, .int o] (WB D c [((r 0), .inr (12, fM r 0 0))] sz)) (QI (S := Unit) D c (fun q _ => q = 0) (fun _ => []) (va_A [((r 0), .inr (12, fM r 0 0))] sz)) 0 0 (va_A [((r 0), .inr (12, fM r 0 0))] sz) := by
  refine kz_met (Qc := QI (S := Unit) D c (fun q _ => q = 0) (fun _ => [])) (by decide) (Nat.le_of_ble_eq_true rfl) ?_
  intro p e s m below meth cd A ls H locs hx hb hr hml hts hown hlocks hin hN hO hK hP hD hS hA hl
  have hl : lv_has ls 3 [(0, .ref (r 0)), (1, .int p0), (2, .int o)] := hl
  have hown : s.vm.findClass RX12 = some m.cls := hown
  refine lv_aload_n hx hb dX12_sluice_0 rfl (lv_at hl 0 rfl) ?_
  refine lv_iload_n hx hb dX12_sluice_1 rfl (lv_at hl 1 rfl) ?_
  have hPc := hP.sub (ws' := [((r 0), .inr (12, fM r 0 0))]) [0] rfl
  have hDc := hD.sub (ws' := [((r 0), .inr (12, fM r 0 0))]) [0] (by decide) rfl
  refine cl_i (wr := []) (va_runV (As := [.int p0]) (rest := []) ⟨hx, hb, hml, hown, hts⟩ (c_X12_isPool l D c H.size r p0) (kw_V 1 hts wd_1445 wd_1447 wd_45 wd_90 wd_1448 rfl rfl (by decide +kernel) ⟨Nat.le_of_ble_eq_true rfl, Nat.le_of_ble_eq_true rfl⟩) (pre_V hPc hK hDc hN hO (ci := 12) (q0 := 0) rfl rfl) rfl rfl hl.1 rfl (lv_room (Nat.le_of_ble_eq_true rfl)) dX12_sluice_2 ⟨Nat.le_of_ble_eq_true rfl, Nat.le_of_ble_eq_true rfl⟩) hP hD hS hA [0] [] rfl rfl (by decide) (by decide) (fun r1 u2 H locs h3 hP hD hS => ?_)
  have hP : va_P D vwCl [((r 0), .inr (12, fM r 0 0))] H := hP
  have hD : va_D A [((r 0), .inr (12, fM r 0 0))] := hD
  obtain rfl : r1 = 0 := h3
  refine lv_if_eq (tgt := 25) hx hb dX12_sluice_5 (by decide) (fun _ => ?_) (fun c => False.elim (by revert c; decide))
  refine lv_iconst (v := 0) hx hb dX12_sluice_25 (by decide) ?_
  exact rt_i hx hb hr hlocks hK hP hD hS rfl dX12_sluice_26 () [] rfl rfl rfl
set_option maxHeartbeats 4000000 in
set_option maxRecDepth 100000 in
/-- X12_pump -/
theorem c_X12_pump (l : Launch) (D : va_G) (c : Nat → ClassId) (sz : Nat) (r : Nat → Nat) (p0 : Int32) (t : Int32) : Met l yX12_pump (.code yX12_pump cX12_pump 4 (some .int) :: Wd) ({ frames := 2, cells := 0, slots := 0, locals := 43 }) (va_Pc [.ref (r 0), .int p0, .int t] (WB D c [((r 0), .inr (12, fM r 0 0))] sz)) (QI (S := Unit) D c (fun q _ => q = -2000) (fun _ => []) (va_A [((r 0), .inr (12, fM r 0 0))] sz)) 0 0 (va_A [((r 0), .inr (12, fM r 0 0))] sz) := by
  refine kz_met (Qc := QI (S := Unit) D c (fun q _ => q = -2000) (fun _ => [])) (by decide) (Nat.le_of_ble_eq_true rfl) ?_
  intro p e s m below meth cd A ls H locs hx hb hr hml hts hown hlocks hin hN hO hK hP hD hS hA hl
  have hl : lv_has ls 4 [(0, .ref (r 0)), (1, .int p0), (2, .int t)] := hl
  have hown : s.vm.findClass RX12 = some m.cls := hown
  refine lv_aload_n hx hb dX12_pump_0 rfl (lv_at hl 0 rfl) ?_
  refine lv_iload_n hx hb dX12_pump_1 rfl (lv_at hl 1 rfl) ?_
  have hPc := hP.sub (ws' := [((r 0), .inr (12, fM r 0 0))]) [0] rfl
  have hDc := hD.sub (ws' := [((r 0), .inr (12, fM r 0 0))]) [0] (by decide) rfl
  refine cl_i (wr := []) (va_runV (As := [.int p0]) (rest := []) ⟨hx, hb, hml, hown, hts⟩ (c_X12_isPool l D c H.size r p0) (kw_V 1 hts wd_1445 wd_1447 wd_45 wd_90 wd_1448 rfl rfl (by decide +kernel) ⟨Nat.le_of_ble_eq_true rfl, Nat.le_of_ble_eq_true rfl⟩) (pre_V hPc hK hDc hN hO (ci := 12) (q0 := 0) rfl rfl) rfl rfl hl.1 rfl (lv_room (Nat.le_of_ble_eq_true rfl)) dX12_pump_2 ⟨Nat.le_of_ble_eq_true rfl, Nat.le_of_ble_eq_true rfl⟩) hP hD hS hA [0] [] rfl rfl (by decide) (by decide) (fun r1 u2 H locs h3 hP hD hS => ?_)
  have hP : va_P D vwCl [((r 0), .inr (12, fM r 0 0))] H := hP
  have hD : va_D A [((r 0), .inr (12, fM r 0 0))] := hD
  obtain rfl : r1 = 0 := h3
  refine lv_if_eq (tgt := 28) hx hb dX12_pump_5 (by decide) (fun _ => ?_) (fun c => False.elim (by revert c; decide))
  refine lv_sipush (v := (-2000)) hx hb dX12_pump_28 (by decide) ?_
  exact rt_i hx hb hr hlocks hK hP hD hS rfl dX12_pump_31 () [] rfl rfl rfl
set_option maxHeartbeats 4000000 in
set_option maxRecDepth 100000 in
/-- X12_clean -/
theorem c_X12_clean (l : Launch) (D : va_G) (c : Nat → ClassId) (sz : Nat) (r : Nat → Nat) (p0 : Int32) : Met l yX12_clean (.code yX12_clean cX12_clean 3 (some .int) :: Wd) ({ frames := 2, cells := 0, slots := 0, locals := 43 }) (va_Pc [.ref (r 0), .int p0] (WB D c [((r 0), .inr (12, fM r 0 0))] sz)) (QI (S := Unit) D c (fun q _ => q = -1) (fun _ => []) (va_A [((r 0), .inr (12, fM r 0 0))] sz)) 0 0 (va_A [((r 0), .inr (12, fM r 0 0))] sz) := by
  refine kz_met (Qc := QI (S := Unit) D c (fun q _ => q = -1) (fun _ => [])) (by decide) (Nat.le_of_ble_eq_true rfl) ?_
  intro p e s m below meth cd A ls H locs hx hb hr hml hts hown hlocks hin hN hO hK hP hD hS hA hl
  have hl : lv_has ls 3 [(0, .ref (r 0)), (1, .int p0)] := hl
  have hown : s.vm.findClass RX12 = some m.cls := hown
  refine lv_aload_n hx hb dX12_clean_0 rfl (lv_at hl 0 rfl) ?_
  refine lv_iload_n hx hb dX12_clean_1 rfl (lv_at hl 1 rfl) ?_
  have hPc := hP.sub (ws' := [((r 0), .inr (12, fM r 0 0))]) [0] rfl
  have hDc := hD.sub (ws' := [((r 0), .inr (12, fM r 0 0))]) [0] (by decide) rfl
  refine cl_i (wr := []) (va_runV (As := [.int p0]) (rest := []) ⟨hx, hb, hml, hown, hts⟩ (c_X12_isPool l D c H.size r p0) (kw_V 1 hts wd_1445 wd_1447 wd_45 wd_90 wd_1448 rfl rfl (by decide +kernel) ⟨Nat.le_of_ble_eq_true rfl, Nat.le_of_ble_eq_true rfl⟩) (pre_V hPc hK hDc hN hO (ci := 12) (q0 := 0) rfl rfl) rfl rfl hl.1 rfl (lv_room (Nat.le_of_ble_eq_true rfl)) dX12_clean_2 ⟨Nat.le_of_ble_eq_true rfl, Nat.le_of_ble_eq_true rfl⟩) hP hD hS hA [0] [] rfl rfl (by decide) (by decide) (fun r1 u2 H locs h3 hP hD hS => ?_)
  have hP : va_P D vwCl [((r 0), .inr (12, fM r 0 0))] H := hP
  have hD : va_D A [((r 0), .inr (12, fM r 0 0))] := hD
  obtain rfl : r1 = 0 := h3
  refine lv_if_eq (tgt := 32) hx hb dX12_clean_5 (by decide) (fun _ => ?_) (fun c => False.elim (by revert c; decide))
  refine lv_iconst (v := (-1)) hx hb dX12_clean_32 (by decide) ?_
  exact rt_i hx hb hr hlocks hK hP hD hS rfl dX12_clean_33 () [] rfl rfl rfl
set_option maxHeartbeats 4000000 in
set_option maxRecDepth 100000 in
/-- X12_about -/
theorem c_X12_about (l : Launch) (D : va_G) (c : Nat → ClassId) (sz : Nat) (r : Nat → Nat) (p0 : Int32) (w : Int32) : Met l yX12_about (.code yX12_about cX12_about 3 (some .int) :: Wd) ({ frames := 2, cells := 0, slots := 0, locals := 43 }) (va_Pc [.ref (r 0), .int p0, .int w] (WB D c [((r 0), .inr (12, fM r 0 0))] sz)) (QI (S := Unit) D c (fun q _ => q = -1000) (fun _ => []) (va_A [((r 0), .inr (12, fM r 0 0))] sz)) 0 0 (va_A [((r 0), .inr (12, fM r 0 0))] sz) := by
  refine kz_met (Qc := QI (S := Unit) D c (fun q _ => q = -1000) (fun _ => [])) (by decide) (Nat.le_of_ble_eq_true rfl) ?_
  intro p e s m below meth cd A ls H locs hx hb hr hml hts hown hlocks hin hN hO hK hP hD hS hA hl
  have hl : lv_has ls 3 [(0, .ref (r 0)), (1, .int p0), (2, .int w)] := hl
  have hown : s.vm.findClass RX12 = some m.cls := hown
  refine lv_aload_n hx hb dX12_about_0 rfl (lv_at hl 0 rfl) ?_
  refine lv_iload_n hx hb dX12_about_1 rfl (lv_at hl 1 rfl) ?_
  have hPc := hP.sub (ws' := [((r 0), .inr (12, fM r 0 0))]) [0] rfl
  have hDc := hD.sub (ws' := [((r 0), .inr (12, fM r 0 0))]) [0] (by decide) rfl
  refine cl_i (wr := []) (va_runV (As := [.int p0]) (rest := []) ⟨hx, hb, hml, hown, hts⟩ (c_X12_isPool l D c H.size r p0) (kw_V 1 hts wd_1445 wd_1447 wd_45 wd_90 wd_1448 rfl rfl (by decide +kernel) ⟨Nat.le_of_ble_eq_true rfl, Nat.le_of_ble_eq_true rfl⟩) (pre_V hPc hK hDc hN hO (ci := 12) (q0 := 0) rfl rfl) rfl rfl hl.1 rfl (lv_room (Nat.le_of_ble_eq_true rfl)) dX12_about_2 ⟨Nat.le_of_ble_eq_true rfl, Nat.le_of_ble_eq_true rfl⟩) hP hD hS hA [0] [] rfl rfl (by decide) (by decide) (fun r1 u2 H locs h3 hP hD hS => ?_)
  have hP : va_P D vwCl [((r 0), .inr (12, fM r 0 0))] H := hP
  have hD : va_D A [((r 0), .inr (12, fM r 0 0))] := hD
  obtain rfl : r1 = 0 := h3
  refine lv_if_ne (tgt := 12) hx hb dX12_about_5 (by decide) (fun c => False.elim (by revert c; decide)) (fun _ => ?_)
  refine lv_sipush (v := (-1000)) hx hb dX12_about_8 (by decide) ?_
  exact rt_i hx hb hr hlocks hK hP hD hS rfl dX12_about_11 () [] rfl rfl rfl
set_option maxHeartbeats 4000000 in
set_option maxRecDepth 100000 in
/-- X12_hour -/
theorem c_X12_hour (l : Launch) (D : va_G) (c : Nat → ClassId) (sz : Nat) (r : Nat → Nat) (p0 : Int32) (h : Int32) (w : Int32) : Met l yX12_hour (.code yX12_hour cX12_hour 4 (some .int) :: Wd) ({ frames := 2, cells := 0, slots := 0, locals := 43 }) (va_Pc [.ref (r 0), .int p0, .int h, .int w] (WB D c [((r 0), .inr (12, fM r 0 0))] sz)) (QI (S := Unit) D c (fun q _ => q = -1000) (fun _ => []) (va_A [((r 0), .inr (12, fM r 0 0))] sz)) 0 0 (va_A [((r 0), .inr (12, fM r 0 0))] sz) := by
  refine kz_met (Qc := QI (S := Unit) D c (fun q _ => q = -1000) (fun _ => [])) (by decide) (Nat.le_of_ble_eq_true rfl) ?_
  intro p e s m below meth cd A ls H locs hx hb hr hml hts hown hlocks hin hN hO hK hP hD hS hA hl
  have hl : lv_has ls 4 [(0, .ref (r 0)), (1, .int p0), (2, .int h), (3, .int w)] := hl
  have hown : s.vm.findClass RX12 = some m.cls := hown
  refine lv_aload_n hx hb dX12_hour_0 rfl (lv_at hl 0 rfl) ?_
  refine lv_iload_n hx hb dX12_hour_1 rfl (lv_at hl 1 rfl) ?_
  have hPc := hP.sub (ws' := [((r 0), .inr (12, fM r 0 0))]) [0] rfl
  have hDc := hD.sub (ws' := [((r 0), .inr (12, fM r 0 0))]) [0] (by decide) rfl
  refine cl_i (wr := []) (va_runV (As := [.int p0]) (rest := []) ⟨hx, hb, hml, hown, hts⟩ (c_X12_isPool l D c H.size r p0) (kw_V 1 hts wd_1445 wd_1447 wd_45 wd_90 wd_1448 rfl rfl (by decide +kernel) ⟨Nat.le_of_ble_eq_true rfl, Nat.le_of_ble_eq_true rfl⟩) (pre_V hPc hK hDc hN hO (ci := 12) (q0 := 0) rfl rfl) rfl rfl hl.1 rfl (lv_room (Nat.le_of_ble_eq_true rfl)) dX12_hour_2 ⟨Nat.le_of_ble_eq_true rfl, Nat.le_of_ble_eq_true rfl⟩) hP hD hS hA [0] [] rfl rfl (by decide) (by decide) (fun r1 u2 H locs h3 hP hD hS => ?_)
  have hP : va_P D vwCl [((r 0), .inr (12, fM r 0 0))] H := hP
  have hD : va_D A [((r 0), .inr (12, fM r 0 0))] := hD
  obtain rfl : r1 = 0 := h3
  refine lv_if_eq (tgt := 34) hx hb dX12_hour_5 (by decide) (fun _ => ?_) (fun c => False.elim (by revert c; decide))
  refine lv_sipush (v := (-1000)) hx hb dX12_hour_34 (by decide) ?_
  exact rt_i hx hb hr hlocks hK hP hD hS rfl dX12_hour_37 () [] rfl rfl rfl
set_option maxHeartbeats 4000000 in
set_option maxRecDepth 100000 in
/-- X12_feed -/
theorem c_X12_feed (l : Launch) (D : va_G) (c : Nat → ClassId) (sz : Nat) (r : Nat → Nat) (a : Int32) (b : Int32) (c0 : Int32) (d : Int32) (e0 : Int32) : Met l yX12_feed (.code yX12_feed cX12_feed 6 (some .int) :: Wd) ({ frames := 1, cells := 0, slots := 0, locals := 22 }) (va_Pc [.ref (r 0), .int a, .int b, .int c0, .int d, .int e0] (WB D c [((r 0), .inr (12, fM r 0 0)), ((r 45), .inl (c 1, 300, .inl (fun _ => 0)))] sz)) (QI (S := Unit) D c (fun q _ => q = 20) (fun _ => []) (va_A [((r 0), .inr (12, fM r 0 0)), ((r 45), .inl (c 1, 300, .inl (fun _ => 0)))] sz)) 0 0 (va_A [((r 0), .inr (12, fM r 0 0)), ((r 45), .inl (c 1, 300, .inl (fun _ => 0)))] sz) := by
  refine kz_met (Qc := QI (S := Unit) D c (fun q _ => q = 20) (fun _ => [])) (by decide) (Nat.le_of_ble_eq_true rfl) ?_
  intro p e s m below meth cd A ls H locs hx hb hr hml hts hown hlocks hin hN hO hK hP hD hS hA hl
  have hl : lv_has ls 6 [(0, .ref (r 0)), (1, .int a), (2, .int b), (3, .int c0), (4, .int d), (5, .int e0)] := hl
  have hown : s.vm.findClass RX12 = some m.cls := hown
  refine lv_aload_n hx hb dX12_feed_0 rfl (lv_at hl 0 rfl) ?_
  refine va_get (D := D) (ci := 12) (v := .int 0) (C := RX12) (T := TX12) (N := 92) hx hb hts inW_12 hown hK hP 0 rfl rfl 45 (by decide) (hts _ wd_1165) (fun _ h9 => h9) rfl dX12_feed_1 ?_
  refine lv_bipush (v := 20) hx hb dX12_feed_4 (by decide) ?_
  refine lv_iadd hx hb dX12_feed_6 ?_
  refine lv_topi (fun v1 e2 => ?_)
  obtain rfl : v1 = 20 := e2.trans (by decide)
  refine lv_sipush (v := 300) hx hb dX12_feed_7 (by decide) ?_
  refine lv_icmp_le (tgt := 15) hx hb dX12_feed_10 (by decide) (fun _ => ?_) (fun c => False.elim (by revert c; decide))
  refine lv_aload_n hx hb dX12_feed_15 rfl (lv_at hl 0 rfl) ?_
  refine lv_iload_n hx hb dX12_feed_16 rfl (lv_at hl 1 rfl) ?_
  have hPc := hP.sub (ws' := [((r 0), .inr (12, fM r 0 0)), ((r 45), .inl (c 1, 300, .inl ((fun _ => 0))))]) [0, 1] rfl
  have hDc := hD.sub (ws' := [((r 0), .inr (12, fM r 0 0)), ((r 45), .inl (c 1, 300, .inl ((fun _ => 0))))]) [0, 1] (by decide) rfl
  refine cl_v (wr := []) (va_runV (As := [.int a]) (rest := []) ⟨hx, hb, hml, hown, hts⟩ (c_X12_four l D c H.size r 0 ((fun _ => 0)) ((vp_in_iff.mpr (by decide))) ((vp_in_iff.mpr (by decide))) ((vp_in_iff.mpr (by decide))) ((vp_in_iff.mpr (by decide))) a) (kw_V 1 hts wd_1543 wd_1545 wd_58 wd_90 wd_1546 rfl rfl (by decide +kernel) ⟨Nat.le_of_ble_eq_true rfl, Nat.le_of_ble_eq_true rfl⟩) (pre_V hPc hK hDc hN hO (ci := 12) (q0 := 0) rfl rfl) rfl rfl hl.1 rfl (lv_room (Nat.le_of_ble_eq_true rfl)) dX12_feed_17 ⟨Nat.le_of_ble_eq_true rfl, Nat.le_of_ble_eq_true rfl⟩) hP hD hS hA [0, 1] [] rfl rfl (by decide) (by decide) (fun u4 H locs h5 hP hD hS => ?_)
  obtain ⟨n6, f7⟩ := u4
  obtain rfl : n6 = 4 := h5.trans (by decide)
  have hP : va_P D vwCl [((r 0), .inr (12, fM r 0 4)), ((r 45), .inl (c 1, 300, .inl (f7)))] H := hP
  have hD : va_D A [((r 0), .inr (12, fM r 0 4)), ((r 45), .inl (c 1, 300, .inl (f7)))] := hD
  refine lv_aload_n hx hb dX12_feed_20 rfl (lv_at hl 0 rfl) ?_
  refine lv_iload_n hx hb dX12_feed_21 rfl (lv_at hl 2 rfl) ?_
  have hPc := hP.sub (ws' := [((r 0), .inr (12, fM r 0 4)), ((r 45), .inl (c 1, 300, .inl ((f7))))]) [0, 1] rfl
  have hDc := hD.sub (ws' := [((r 0), .inr (12, fM r 0 4)), ((r 45), .inl (c 1, 300, .inl ((f7))))]) [0, 1] (by decide) rfl
  refine cl_v (wr := []) (va_runV (As := [.int b]) (rest := []) ⟨hx, hb, hml, hown, hts⟩ (c_X12_four l D c H.size r 4 ((f7)) ((vp_in_iff.mpr (by decide))) ((vp_in_iff.mpr (by decide))) ((vp_in_iff.mpr (by decide))) ((vp_in_iff.mpr (by decide))) b) (kw_V 1 hts wd_1543 wd_1545 wd_58 wd_90 wd_1546 rfl rfl (by decide +kernel) ⟨Nat.le_of_ble_eq_true rfl, Nat.le_of_ble_eq_true rfl⟩) (pre_V hPc hK hDc hN hO (ci := 12) (q0 := 0) rfl rfl) rfl rfl hl.1 rfl (lv_room (Nat.le_of_ble_eq_true rfl)) dX12_feed_22 ⟨Nat.le_of_ble_eq_true rfl, Nat.le_of_ble_eq_true rfl⟩) hP hD hS hA [0, 1] [] rfl rfl (by decide) (by decide) (fun u9 H locs h10 hP hD hS => ?_)
  obtain ⟨n11, f12⟩ := u9
  obtain rfl : n11 = 8 := h10.trans (by decide)
  have hP : va_P D vwCl [((r 0), .inr (12, fM r 0 8)), ((r 45), .inl (c 1, 300, .inl (f12)))] H := hP
  have hD : va_D A [((r 0), .inr (12, fM r 0 8)), ((r 45), .inl (c 1, 300, .inl (f12)))] := hD
  refine lv_aload_n hx hb dX12_feed_25 rfl (lv_at hl 0 rfl) ?_
  refine lv_iload_n hx hb dX12_feed_26 rfl (lv_at hl 3 rfl) ?_
  have hPc := hP.sub (ws' := [((r 0), .inr (12, fM r 0 8)), ((r 45), .inl (c 1, 300, .inl ((f12))))]) [0, 1] rfl
  have hDc := hD.sub (ws' := [((r 0), .inr (12, fM r 0 8)), ((r 45), .inl (c 1, 300, .inl ((f12))))]) [0, 1] (by decide) rfl
  refine cl_v (wr := []) (va_runV (As := [.int c0]) (rest := []) ⟨hx, hb, hml, hown, hts⟩ (c_X12_four l D c H.size r 8 ((f12)) ((vp_in_iff.mpr (by decide))) ((vp_in_iff.mpr (by decide))) ((vp_in_iff.mpr (by decide))) ((vp_in_iff.mpr (by decide))) c0) (kw_V 1 hts wd_1543 wd_1545 wd_58 wd_90 wd_1546 rfl rfl (by decide +kernel) ⟨Nat.le_of_ble_eq_true rfl, Nat.le_of_ble_eq_true rfl⟩) (pre_V hPc hK hDc hN hO (ci := 12) (q0 := 0) rfl rfl) rfl rfl hl.1 rfl (lv_room (Nat.le_of_ble_eq_true rfl)) dX12_feed_27 ⟨Nat.le_of_ble_eq_true rfl, Nat.le_of_ble_eq_true rfl⟩) hP hD hS hA [0, 1] [] rfl rfl (by decide) (by decide) (fun u14 H locs h15 hP hD hS => ?_)
  obtain ⟨n16, f17⟩ := u14
  obtain rfl : n16 = 12 := h15.trans (by decide)
  have hP : va_P D vwCl [((r 0), .inr (12, fM r 0 12)), ((r 45), .inl (c 1, 300, .inl (f17)))] H := hP
  have hD : va_D A [((r 0), .inr (12, fM r 0 12)), ((r 45), .inl (c 1, 300, .inl (f17)))] := hD
  refine lv_aload_n hx hb dX12_feed_30 rfl (lv_at hl 0 rfl) ?_
  refine lv_iload hx hb dX12_feed_31 (lv_at hl 4 rfl) ?_
  have hPc := hP.sub (ws' := [((r 0), .inr (12, fM r 0 12)), ((r 45), .inl (c 1, 300, .inl ((f17))))]) [0, 1] rfl
  have hDc := hD.sub (ws' := [((r 0), .inr (12, fM r 0 12)), ((r 45), .inl (c 1, 300, .inl ((f17))))]) [0, 1] (by decide) rfl
  refine cl_v (wr := []) (va_runV (As := [.int d]) (rest := []) ⟨hx, hb, hml, hown, hts⟩ (c_X12_four l D c H.size r 12 ((f17)) ((vp_in_iff.mpr (by decide))) ((vp_in_iff.mpr (by decide))) ((vp_in_iff.mpr (by decide))) ((vp_in_iff.mpr (by decide))) d) (kw_V 1 hts wd_1543 wd_1545 wd_58 wd_90 wd_1546 rfl rfl (by decide +kernel) ⟨Nat.le_of_ble_eq_true rfl, Nat.le_of_ble_eq_true rfl⟩) (pre_V hPc hK hDc hN hO (ci := 12) (q0 := 0) rfl rfl) rfl rfl hl.1 rfl (lv_room (Nat.le_of_ble_eq_true rfl)) dX12_feed_33 ⟨Nat.le_of_ble_eq_true rfl, Nat.le_of_ble_eq_true rfl⟩) hP hD hS hA [0, 1] [] rfl rfl (by decide) (by decide) (fun u19 H locs h20 hP hD hS => ?_)
  obtain ⟨n21, f22⟩ := u19
  obtain rfl : n21 = 16 := h20.trans (by decide)
  have hP : va_P D vwCl [((r 0), .inr (12, fM r 0 16)), ((r 45), .inl (c 1, 300, .inl (f22)))] H := hP
  have hD : va_D A [((r 0), .inr (12, fM r 0 16)), ((r 45), .inl (c 1, 300, .inl (f22)))] := hD
  refine lv_aload_n hx hb dX12_feed_36 rfl (lv_at hl 0 rfl) ?_
  refine lv_iload hx hb dX12_feed_37 (lv_at hl 5 rfl) ?_
  have hPc := hP.sub (ws' := [((r 0), .inr (12, fM r 0 16)), ((r 45), .inl (c 1, 300, .inl ((f22))))]) [0, 1] rfl
  have hDc := hD.sub (ws' := [((r 0), .inr (12, fM r 0 16)), ((r 45), .inl (c 1, 300, .inl ((f22))))]) [0, 1] (by decide) rfl
  refine cl_v (wr := []) (va_runV (As := [.int e0]) (rest := []) ⟨hx, hb, hml, hown, hts⟩ (c_X12_four l D c H.size r 16 ((f22)) ((vp_in_iff.mpr (by decide))) ((vp_in_iff.mpr (by decide))) ((vp_in_iff.mpr (by decide))) ((vp_in_iff.mpr (by decide))) e0) (kw_V 1 hts wd_1543 wd_1545 wd_58 wd_90 wd_1546 rfl rfl (by decide +kernel) ⟨Nat.le_of_ble_eq_true rfl, Nat.le_of_ble_eq_true rfl⟩) (pre_V hPc hK hDc hN hO (ci := 12) (q0 := 0) rfl rfl) rfl rfl hl.1 rfl (lv_room (Nat.le_of_ble_eq_true rfl)) dX12_feed_39 ⟨Nat.le_of_ble_eq_true rfl, Nat.le_of_ble_eq_true rfl⟩) hP hD hS hA [0, 1] [] rfl rfl (by decide) (by decide) (fun u24 H locs h25 hP hD hS => ?_)
  obtain ⟨n26, f27⟩ := u24
  obtain rfl : n26 = 20 := h25.trans (by decide)
  have hP : va_P D vwCl [((r 0), .inr (12, fM r 0 20)), ((r 45), .inl (c 1, 300, .inl (f27)))] H := hP
  have hD : va_D A [((r 0), .inr (12, fM r 0 20)), ((r 45), .inl (c 1, 300, .inl (f27)))] := hD
  refine lv_aload_n hx hb dX12_feed_42 rfl (lv_at hl 0 rfl) ?_
  refine va_get (D := D) (ci := 12) (v := .int 20) (C := RX12) (T := TX12) (N := 92) hx hb hts inW_12 hown hK hP 0 rfl rfl 45 (by decide) (hts _ wd_1165) (fun _ h9 => h9) rfl dX12_feed_43 ?_
  exact rt_i hx hb hr hlocks hK hP hD hS rfl dX12_feed_46 () [] rfl rfl rfl
set_option maxHeartbeats 4000000 in
set_option maxRecDepth 100000 in
/-- X12_end -/
theorem c_X12_end (l : Launch) (D : va_G) (c : Nat → ClassId) (sz : Nat) (r : Nat → Nat) (n : Int32) : Met l yX12_end (.code yX12_end cX12_end 2 (some .int) :: Wd) ({ frames := 0, cells := 0, slots := 0, locals := 0 }) (va_Pc [.ref (r 0), .int n] (WB D c [((r 0), .inr (12, fM r 0 0))] sz)) (QI (S := Unit) D c (fun q _ => q = f_end n) (fun _ => []) (va_A [((r 0), .inr (12, fM r 0 0))] sz)) 0 0 (va_A [((r 0), .inr (12, fM r 0 0))] sz) := by
  refine kz_met (Qc := QI (S := Unit) D c (fun q _ => q = f_end n) (fun _ => [])) (by decide) (Nat.le_of_ble_eq_true rfl) ?_
  intro p e s m below meth cd A ls H locs hx hb hr hml hts hown hlocks hin hN hO hK hP hD hS hA hl
  have hl : lv_has ls 2 [(0, .ref (r 0)), (1, .int n)] := hl
  have hown : s.vm.findClass RX12 = some m.cls := hown
  refine lv_iload_n hx hb dX12_end_0 rfl (lv_at hl 1 rfl) ?_
  refine lv_if_lt (tgt := 12) hx hb dX12_end_1 (by decide) (fun c1 => ?_) (fun c1 => ?_)
  · refine lv_iconst (v := (-1)) hx hb dX12_end_12 (by decide) ?_
    exact rt_i hx hb hr hlocks hK hP hD hS rfl dX12_end_13 () [] rfl rfl (by show ((-1) : Int32) = _; unfold f_end; (try simp only [Int32.reduceToInt, not_true_eq_false, false_or, not_false_eq_true, true_or, and_true, true_and]); (try simp only [Int32.le_iff_toInt_le, Int32.lt_iff_toInt_lt, ← Int32.toInt_inj, Int32.reduceToInt] at c1); first | (rw [if_pos (by omega)]; done) | (rw [if_neg (by omega)]; done) | (rw [if_pos (by omega)]; exact Int32.toInt_inj.mp (by (try simp only [Int32.reduceToInt]); omega)))
  · refine lv_iload_n hx hb dX12_end_4 rfl (lv_at hl 1 rfl) ?_
    refine lv_aload_n hx hb dX12_end_5 rfl (lv_at hl 0 rfl) ?_
    refine va_get (D := D) (ci := 12) (v := .int 0) (C := RX12) (T := TX12) (N := 92) hx hb hts inW_12 hown hK hP 0 rfl rfl 45 (by decide) (hts _ wd_1165) (fun _ h9 => h9) rfl dX12_end_6 ?_
    refine lv_icmp_le (tgt := 14) hx hb dX12_end_9 (by decide) (fun c2 => ?_) (fun c2 => ?_)
    · refine lv_aload_n hx hb dX12_end_14 rfl (lv_at hl 0 rfl) ?_
      refine lv_iload_n hx hb dX12_end_15 rfl (lv_at hl 1 rfl) ?_
      refine va_put (D := D) (ci := 12) (v := .int n) (ty := .int) (C := RX12) (T := TX12) (N := 92) hx hb hts inW_12 tyX12 tyX12_ok nmX12 hown hK hP hD hS 0 rfl rfl 45 (by decide) (hts _ wd_1165) (fun _ h9 => h9) rfl (by decide +kernel) rfl rfl (Nat.le_of_ble_eq_true rfl) dX12_end_16 (fun H locs hP hD hS => ?_)
      have hP : va_P D vwCl [((r 0), .inr (12, (fM r 0 0).set 45 (.int n)))] H := hP
      have hD : va_D A [((r 0), .inr (12, (fM r 0 0).set 45 (.int n)))] := hD
      refine lv_iload_n hx hb dX12_end_19 rfl (lv_at hl 1 rfl) ?_
      exact rt_i hx hb hr hlocks hK hP hD hS rfl dX12_end_20 () [] rfl rfl (by show (n : Int32) = _; unfold f_end; (try simp only [Int32.reduceToInt, not_true_eq_false, false_or, not_false_eq_true, true_or, and_true, true_and]); (try simp only [Int32.le_iff_toInt_le, Int32.lt_iff_toInt_lt, ← Int32.toInt_inj, Int32.reduceToInt] at c1); (try simp only [Int32.le_iff_toInt_le, Int32.lt_iff_toInt_lt, ← Int32.toInt_inj, Int32.reduceToInt] at c2); first | (rw [if_pos (by omega)]; done) | (rw [if_neg (by omega)]; done) | (rw [if_pos (by omega)]; exact Int32.toInt_inj.mp (by (try simp only [Int32.reduceToInt]); omega)))
    · refine lv_iconst (v := (-1)) hx hb dX12_end_12 (by decide) ?_
      exact rt_i hx hb hr hlocks hK hP hD hS rfl dX12_end_13 () [] rfl rfl (by show ((-1) : Int32) = _; unfold f_end; (try simp only [Int32.reduceToInt, not_true_eq_false, false_or, not_false_eq_true, true_or, and_true, true_and]); (try simp only [Int32.le_iff_toInt_le, Int32.lt_iff_toInt_lt, ← Int32.toInt_inj, Int32.reduceToInt] at c1); (try simp only [Int32.le_iff_toInt_le, Int32.lt_iff_toInt_lt, ← Int32.toInt_inj, Int32.reduceToInt] at c2); first | (rw [if_pos (by omega)]; done) | (rw [if_neg (by omega)]; done) | (rw [if_pos (by omega)]; exact Int32.toInt_inj.mp (by (try simp only [Int32.reduceToInt]); omega)))
set_option maxHeartbeats 4000000 in
set_option maxRecDepth 100000 in
/-- X12_rules -/
theorem c_X12_rules (l : Launch) (D : va_G) (c : Nat → ClassId) (sz : Nat) (r : Nat → Nat) : Met l yX12_rules (.code yX12_rules cX12_rules 3 (some .int) :: Wd) ({ frames := 1, cells := 0, slots := 0, locals := 20 }) (va_Pc [.ref (r 0)] (WB D c [((r 0), .inr (12, fM r 0 0)), ((r 59), .inl (c 0, 10, .inl (fun _ => 0))), ((r 60), .inl (c 0, 10, .inl (fun _ => 0)))] sz)) (QI (S := Unit) D c (fun q _ => q = 0) (fun _ => []) (va_A [((r 0), .inr (12, fM r 0 0)), ((r 59), .inl (c 0, 10, .inl (fun _ => 0))), ((r 60), .inl (c 0, 10, .inl (fun _ => 0)))] sz)) 0 0 (va_A [((r 0), .inr (12, fM r 0 0)), ((r 59), .inl (c 0, 10, .inl (fun _ => 0))), ((r 60), .inl (c 0, 10, .inl (fun _ => 0)))] sz) := by
  refine kz_met (Qc := QI (S := Unit) D c (fun q _ => q = 0) (fun _ => [])) (by decide) (Nat.le_of_ble_eq_true rfl) ?_
  intro p e s m below meth cd A ls H locs hx hb hr hml hts hown hlocks hin hN hO hK hP hD hS hA hl
  have hl : lv_has ls 3 [(0, .ref (r 0))] := hl
  have hown : s.vm.findClass RX12 = some m.cls := hown
  refine lv_aload_n hx hb dX12_rules_0 rfl (lv_at hl 0 rfl) ?_
  refine va_get (D := D) (ci := 12) (v := .int 0) (C := RX12) (T := TX12) (N := 92) hx hb hts inW_12 hown hK hP 0 rfl rfl 57 (by decide) (hts _ wd_1177) (fun _ h9 => h9) rfl dX12_rules_1 ?_
  refine lv_bipush (v := 10) hx hb dX12_rules_4 (by decide) ?_
  refine lv_icmp_eq (tgt := 16) hx hb dX12_rules_6 (by decide) (fun c => False.elim (by revert c; decide)) (fun _ => ?_)
  refine lv_aload_n hx hb dX12_rules_9 rfl (lv_at hl 0 rfl) ?_
  have hPc := hP.sub (ws' := [((r 0), .inr (12, fM r 0 0))]) [0] rfl
  have hDc := hD.sub (ws' := [((r 0), .inr (12, fM r 0 0))]) [0] (by decide) rfl
  refine cl_i (wr := [((r 59), .inl (c 0, 10, .inl (fun _ => 0))), ((r 60), .inl (c 0, 10, .inl (fun _ => 0)))]) (va_runV (As := []) (rest := []) ⟨hx, hb, hml, hown, hts⟩ (c_X12_isOver l D c H.size r) (kw_V 0 hts wd_1403 wd_1405 wd_42 wd_90 wd_1406 rfl rfl (by decide +kernel) ⟨Nat.le_of_ble_eq_true rfl, Nat.le_of_ble_eq_true rfl⟩) (pre_V hPc hK hDc hN hO (ci := 12) (q0 := 0) rfl rfl) rfl rfl hl.1 rfl (lv_room (Nat.le_of_ble_eq_true rfl)) dX12_rules_10 ⟨Nat.le_of_ble_eq_true rfl, Nat.le_of_ble_eq_true rfl⟩) hP hD hS hA [0] [1, 2] rfl rfl (by decide) (by decide) (fun r1 u2 H locs h3 hP hD hS => ?_)
  have hP : va_P D vwCl [((r 59), .inl (c 0, 10, .inl (fun _ => 0))), ((r 60), .inl (c 0, 10, .inl (fun _ => 0))), ((r 0), .inr (12, fM r 0 0))] H := hP
  have hD : va_D A [((r 59), .inl (c 0, 10, .inl (fun _ => 0))), ((r 60), .inl (c 0, 10, .inl (fun _ => 0))), ((r 0), .inr (12, fM r 0 0))] := hD
  obtain rfl : r1 = 0 := h3
  refine lv_if_eq (tgt := 18) hx hb dX12_rules_13 (by decide) (fun _ => ?_) (fun c => False.elim (by revert c; decide))
  refine lv_aload_n hx hb dX12_rules_18 rfl (lv_at hl 0 rfl) ?_
  refine lv_iconst (v := 0) hx hb dX12_rules_19 (by decide) ?_
  refine va_put (D := D) (ci := 12) (v := .int 0) (ty := .int) (C := RX12) (T := TX12) (N := 92) hx hb hts inW_12 tyX12 tyX12_ok nmX12 hown hK hP hD hS 2 rfl rfl 46 (by decide) (hts _ wd_1166) (fun _ h9 => h9) rfl (by decide +kernel) rfl rfl (Nat.le_of_ble_eq_true rfl) dX12_rules_20 (fun H locs hP hD hS => ?_)
  have hP : va_P D vwCl [((r 59), .inl (c 0, 10, .inl (fun _ => 0))), ((r 60), .inl (c 0, 10, .inl (fun _ => 0))), ((r 0), .inr (12, (fM r 0 0).set 46 (.int 0)))] H := hP
  have hD : va_D A [((r 59), .inl (c 0, 10, .inl (fun _ => 0))), ((r 60), .inl (c 0, 10, .inl (fun _ => 0))), ((r 0), .inr (12, (fM r 0 0).set 46 (.int 0)))] := hD
  refine lv_aload_n hx hb dX12_rules_23 rfl (lv_at hl 0 rfl) ?_
  refine lv_iconst (v := 0) hx hb dX12_rules_24 (by decide) ?_
  refine va_put (D := D) (ci := 12) (v := .int 0) (ty := .int) (C := RX12) (T := TX12) (N := 92) hx hb hts inW_12 tyX12 tyX12_ok nmX12 hown hK hP hD hS 2 rfl rfl 47 (by decide) (hts _ wd_1167) (fun _ h9 => h9) rfl (by decide +kernel) rfl rfl (Nat.le_of_ble_eq_true rfl) dX12_rules_25 (fun H locs hP hD hS => ?_)
  have hP : va_P D vwCl [((r 59), .inl (c 0, 10, .inl (fun _ => 0))), ((r 60), .inl (c 0, 10, .inl (fun _ => 0))), ((r 0), .inr (12, ((fM r 0 0).set 46 (.int 0)).set 47 (.int 0)))] H := hP
  have hD : va_D A [((r 59), .inl (c 0, 10, .inl (fun _ => 0))), ((r 60), .inl (c 0, 10, .inl (fun _ => 0))), ((r 0), .inr (12, ((fM r 0 0).set 46 (.int 0)).set 47 (.int 0)))] := hD
  refine lv_aload_n hx hb dX12_rules_28 rfl (lv_at hl 0 rfl) ?_
  refine lv_iconst (v := 0) hx hb dX12_rules_29 (by decide) ?_
  refine va_put (D := D) (ci := 12) (v := .int 0) (ty := .int) (C := RX12) (T := TX12) (N := 92) hx hb hts inW_12 tyX12 tyX12_ok nmX12 hown hK hP hD hS 2 rfl rfl 50 (by decide) (hts _ wd_1170) (fun _ h9 => h9) rfl (by decide +kernel) rfl rfl (Nat.le_of_ble_eq_true rfl) dX12_rules_30 (fun H locs hP hD hS => ?_)
  have hP : va_P D vwCl [((r 59), .inl (c 0, 10, .inl (fun _ => 0))), ((r 60), .inl (c 0, 10, .inl (fun _ => 0))), ((r 0), .inr (12, (((fM r 0 0).set 46 (.int 0)).set 47 (.int 0)).set 50 (.int 0)))] H := hP
  have hD : va_D A [((r 59), .inl (c 0, 10, .inl (fun _ => 0))), ((r 60), .inl (c 0, 10, .inl (fun _ => 0))), ((r 0), .inr (12, (((fM r 0 0).set 46 (.int 0)).set 47 (.int 0)).set 50 (.int 0)))] := hD
  refine lv_aload_n hx hb dX12_rules_33 rfl (lv_at hl 0 rfl) ?_
  refine lv_iconst (v := 0) hx hb dX12_rules_34 (by decide) ?_
  refine va_put (D := D) (ci := 12) (v := .int 0) (ty := .int) (C := RX12) (T := TX12) (N := 92) hx hb hts inW_12 tyX12 tyX12_ok nmX12 hown hK hP hD hS 2 rfl rfl 51 (by decide) (hts _ wd_1171) (fun _ h9 => h9) rfl (by decide +kernel) rfl rfl (Nat.le_of_ble_eq_true rfl) dX12_rules_35 (fun H locs hP hD hS => ?_)
  have hP : va_P D vwCl [((r 59), .inl (c 0, 10, .inl (fun _ => 0))), ((r 60), .inl (c 0, 10, .inl (fun _ => 0))), ((r 0), .inr (12, ((((fM r 0 0).set 46 (.int 0)).set 47 (.int 0)).set 50 (.int 0)).set 51 (.int 0)))] H := hP
  have hD : va_D A [((r 59), .inl (c 0, 10, .inl (fun _ => 0))), ((r 60), .inl (c 0, 10, .inl (fun _ => 0))), ((r 0), .inr (12, ((((fM r 0 0).set 46 (.int 0)).set 47 (.int 0)).set 50 (.int 0)).set 51 (.int 0)))] := hD
  refine lv_aload_n hx hb dX12_rules_38 rfl (lv_at hl 0 rfl) ?_
  refine lv_iconst (v := 0) hx hb dX12_rules_39 (by decide) ?_
  refine va_put (D := D) (ci := 12) (v := .int 0) (ty := .int) (C := RX12) (T := TX12) (N := 92) hx hb hts inW_12 tyX12 tyX12_ok nmX12 hown hK hP hD hS 2 rfl rfl 52 (by decide) (hts _ wd_1172) (fun _ h9 => h9) rfl (by decide +kernel) rfl rfl (Nat.le_of_ble_eq_true rfl) dX12_rules_40 (fun H locs hP hD hS => ?_)
  have hP : va_P D vwCl [((r 59), .inl (c 0, 10, .inl (fun _ => 0))), ((r 60), .inl (c 0, 10, .inl (fun _ => 0))), ((r 0), .inr (12, (((((fM r 0 0).set 46 (.int 0)).set 47 (.int 0)).set 50 (.int 0)).set 51 (.int 0)).set 52 (.int 0)))] H := hP
  have hD : va_D A [((r 59), .inl (c 0, 10, .inl (fun _ => 0))), ((r 60), .inl (c 0, 10, .inl (fun _ => 0))), ((r 0), .inr (12, (((((fM r 0 0).set 46 (.int 0)).set 47 (.int 0)).set 50 (.int 0)).set 51 (.int 0)).set 52 (.int 0)))] := hD
  refine lv_aload_n hx hb dX12_rules_43 rfl (lv_at hl 0 rfl) ?_
  refine lv_iconst (v := 0) hx hb dX12_rules_44 (by decide) ?_
  refine va_put (D := D) (ci := 12) (v := .int 0) (ty := .int) (C := RX12) (T := TX12) (N := 92) hx hb hts inW_12 tyX12 tyX12_ok nmX12 hown hK hP hD hS 2 rfl rfl 56 (by decide) (hts _ wd_1176) (fun _ h9 => h9) rfl (by decide +kernel) rfl rfl (Nat.le_of_ble_eq_true rfl) dX12_rules_45 (fun H locs hP hD hS => ?_)
  have hP : va_P D vwCl [((r 59), .inl (c 0, 10, .inl (fun _ => 0))), ((r 60), .inl (c 0, 10, .inl (fun _ => 0))), ((r 0), .inr (12, ((((((fM r 0 0).set 46 (.int 0)).set 47 (.int 0)).set 50 (.int 0)).set 51 (.int 0)).set 52 (.int 0)).set 56 (.int 0)))] H := hP
  have hD : va_D A [((r 59), .inl (c 0, 10, .inl (fun _ => 0))), ((r 60), .inl (c 0, 10, .inl (fun _ => 0))), ((r 0), .inr (12, ((((((fM r 0 0).set 46 (.int 0)).set 47 (.int 0)).set 50 (.int 0)).set 51 (.int 0)).set 52 (.int 0)).set 56 (.int 0)))] := hD
  refine lv_aload_n hx hb dX12_rules_48 rfl (lv_at hl 0 rfl) ?_
  have hPc := hP.sub (ws' := [((r 0), .inr (12, fM r 0 0))]) [2] rfl
  have hDc := hD.sub (ws' := [((r 0), .inr (12, fM r 0 0))]) [2] (by decide) rfl
  refine cl_i (wr := [((r 59), .inl (c 0, 10, .inl (fun _ => 0))), ((r 60), .inl (c 0, 10, .inl (fun _ => 0)))]) (va_runV (As := []) (rest := []) ⟨hx, hb, hml, hown, hts⟩ (c_X12_see l D c H.size r) (kw_V 0 hts wd_1555 wd_1557 wd_59 wd_90 wd_1558 rfl rfl (by decide +kernel) ⟨Nat.le_of_ble_eq_true rfl, Nat.le_of_ble_eq_true rfl⟩) (pre_V hPc hK hDc hN hO (ci := 12) (q0 := 0) rfl rfl) rfl rfl hl.1 rfl (lv_room (Nat.le_of_ble_eq_true rfl)) dX12_rules_49 ⟨Nat.le_of_ble_eq_true rfl, Nat.le_of_ble_eq_true rfl⟩) hP hD hS hA [2] [0, 1] rfl rfl (by decide) (by decide) (fun r4 u5 H locs h6 hP hD hS => ?_)
  have hP : va_P D vwCl [((r 59), .inl (c 0, 10, .inl (fun _ => 0))), ((r 60), .inl (c 0, 10, .inl (fun _ => 0))), ((r 0), .inr (12, fM r 0 0))] H := hP
  have hD : va_D A [((r 59), .inl (c 0, 10, .inl (fun _ => 0))), ((r 60), .inl (c 0, 10, .inl (fun _ => 0))), ((r 0), .inr (12, fM r 0 0))] := hD
  obtain rfl : r4 = (-1) := h6
  refine lv_iconst (v := (-1)) hx hb dX12_rules_52 (by decide) ?_
  refine lv_icmp_eq (tgt := 63) hx hb dX12_rules_53 (by decide) (fun _ => ?_) (fun c => False.elim (by revert c; decide))
  refine lv_iconst (v := 1) hx hb dX12_rules_63 (by decide) ?_
  refine lv_goto (tgt := 68) hx hb dX12_rules_64 (by decide) ?_
  refine lv_istore_n (lv' := [(1, .int 1), (0, .ref (r 0))]) hx hb dX12_rules_68 rfl hl (by decide) rfl (fun ls hl => ?_)
  refine lv_aload_n hx hb dX12_rules_69 rfl (lv_at hl 1 rfl) ?_
  refine lv_iconst (v := 0) hx hb dX12_rules_70 (by decide) ?_
  refine va_put (D := D) (ci := 12) (v := .int 0) (ty := .int) (C := RX12) (T := TX12) (N := 92) hx hb hts inW_12 tyX12 tyX12_ok nmX12 hown hK hP hD hS 2 rfl rfl 45 (by decide) (hts _ wd_1165) (fun _ h9 => h9) rfl (by decide +kernel) rfl rfl (Nat.le_of_ble_eq_true rfl) dX12_rules_71 (fun H locs hP hD hS => ?_)
  have hP : va_P D vwCl [((r 59), .inl (c 0, 10, .inl (fun _ => 0))), ((r 60), .inl (c 0, 10, .inl (fun _ => 0))), ((r 0), .inr (12, (fM r 0 0).set 45 (.int 0)))] H := hP
  have hD : va_D A [((r 59), .inl (c 0, 10, .inl (fun _ => 0))), ((r 60), .inl (c 0, 10, .inl (fun _ => 0))), ((r 0), .inr (12, (fM r 0 0).set 45 (.int 0)))] := hD
  refine lv_iload_n hx hb dX12_rules_74 rfl (lv_at hl 0 rfl) ?_
  refine lv_if_ne (tgt := 86) hx hb dX12_rules_75 (by decide) (fun _ => ?_) (fun c => False.elim (by revert c; decide))
  refine lv_aload_n hx hb dX12_rules_86 rfl (lv_at hl 1 rfl) ?_
  refine va_get (D := D) (ci := 12) (v := .ref (r 59)) (C := RX12) (T := TX12) (N := 92) hx hb hts inW_12 hown hK hP 2 rfl rfl 58 (by decide) (hts _ wd_1178) (fun _ h9 => h9) rfl dX12_rules_87 ?_
  refine lv_aload_n hx hb dX12_rules_90 rfl (lv_at hl 1 rfl) ?_
  refine va_get (D := D) (ci := 12) (v := .int 0) (C := RX12) (T := TX12) (N := 92) hx hb hts inW_12 hown hK hP 2 rfl rfl 57 (by decide) (hts _ wd_1177) (fun _ h9 => h9) rfl dX12_rules_91 ?_
  refine lv_aload_n hx hb dX12_rules_94 rfl (lv_at hl 1 rfl) ?_
  refine va_get (D := D) (ci := 12) (v := .int 0) (C := RX12) (T := TX12) (N := 92) hx hb hts inW_12 hown hK hP 2 rfl rfl 0 (by decide) (hts _ wd_1120) (fun _ h9 => h9) rfl dX12_rules_95 ?_
  refine lv_bipush (v := 6) hx hb dX12_rules_98 (by decide) ?_
  refine lv_idiv hx hb dX12_rules_100 (by decide) ?_
  refine lv_topi (fun v7 e8 => ?_)
  obtain rfl : v7 = 0 := e8.trans (by decide)
  refine va_iast hx hb hK hP hD hS 0 0 rfl rfl (vp_in_iff.mpr (by decide)) dX12_rules_101 (fun H locs hP hD hS => ?_)
  have hP : va_P D vwCl [((r 59), .inl (c 0, 10, .inl (upd (fun _ => 0) (Int32.toNatClampNeg 0) 0))), ((r 60), .inl (c 0, 10, .inl (fun _ => 0))), ((r 0), .inr (12, (fM r 0 0).set 45 (.int 0)))] H := hP
  have hD : va_D A [((r 59), .inl (c 0, 10, .inl (upd (fun _ => 0) (Int32.toNatClampNeg 0) 0))), ((r 60), .inl (c 0, 10, .inl (fun _ => 0))), ((r 0), .inr (12, (fM r 0 0).set 45 (.int 0)))] := hD
  refine lv_aload_n hx hb dX12_rules_102 rfl (lv_at hl 1 rfl) ?_
  refine va_get (D := D) (ci := 12) (v := .ref (r 60)) (C := RX12) (T := TX12) (N := 92) hx hb hts inW_12 hown hK hP 2 rfl rfl 59 (by decide) (hts _ wd_1179) (fun _ h9 => h9) rfl dX12_rules_103 ?_
  refine lv_aload_n hx hb dX12_rules_106 rfl (lv_at hl 1 rfl) ?_
  refine va_get (D := D) (ci := 12) (v := .int 0) (C := RX12) (T := TX12) (N := 92) hx hb hts inW_12 hown hK hP 2 rfl rfl 57 (by decide) (hts _ wd_1177) (fun _ h9 => h9) rfl dX12_rules_107 ?_
  refine lv_aload_n hx hb dX12_rules_110 rfl (lv_at hl 1 rfl) ?_
  refine va_get (D := D) (ci := 12) (v := .int 0) (C := RX12) (T := TX12) (N := 92) hx hb hts inW_12 hown hK hP 2 rfl rfl 51 (by decide) (hts _ wd_1171) (fun _ h9 => h9) rfl dX12_rules_111 ?_
  refine va_iast hx hb hK hP hD hS 1 0 rfl rfl (vp_in_iff.mpr (by decide)) dX12_rules_114 (fun H locs hP hD hS => ?_)
  have hP : va_P D vwCl [((r 59), .inl (c 0, 10, .inl (upd (fun _ => 0) (Int32.toNatClampNeg 0) 0))), ((r 60), .inl (c 0, 10, .inl (upd (fun _ => 0) (Int32.toNatClampNeg 0) 0))), ((r 0), .inr (12, (fM r 0 0).set 45 (.int 0)))] H := hP
  have hD : va_D A [((r 59), .inl (c 0, 10, .inl (upd (fun _ => 0) (Int32.toNatClampNeg 0) 0))), ((r 60), .inl (c 0, 10, .inl (upd (fun _ => 0) (Int32.toNatClampNeg 0) 0))), ((r 0), .inr (12, (fM r 0 0).set 45 (.int 0)))] := hD
  refine lv_iconst (v := 0) hx hb dX12_rules_115 (by decide) ?_
  refine lv_istore_n (lv' := [(2, .int 0), (1, .int 1), (0, .ref (r 0))]) hx hb dX12_rules_116 rfl hl (by decide) rfl (fun ls hl => ?_)
  refine lv_iload_n hx hb dX12_rules_117 rfl (lv_at hl 0 rfl) ?_
  refine lv_aload_n hx hb dX12_rules_118 rfl (lv_at hl 2 rfl) ?_
  refine va_get (D := D) (ci := 12) (v := .int 0) (C := RX12) (T := TX12) (N := 92) hx hb hts inW_12 hown hK hP 2 rfl rfl 50 (by decide) (hts _ wd_1170) (fun _ h9 => h9) rfl dX12_rules_119 ?_
  refine lv_icmp_ge (tgt := 152) hx hb dX12_rules_122 (by decide) (fun _ => ?_) (fun c => False.elim (by revert c; decide))
  refine lv_iconst (v := 0) hx hb dX12_rules_152 (by decide) ?_
  refine lv_istore_n (lv' := [(2, .int 0), (1, .int 1), (0, .ref (r 0))]) hx hb dX12_rules_153 rfl hl (by decide) rfl (fun ls hl => ?_)
  refine lv_iload_n hx hb dX12_rules_154 rfl (lv_at hl 0 rfl) ?_
  refine lv_aload_n hx hb dX12_rules_155 rfl (lv_at hl 2 rfl) ?_
  refine va_get (D := D) (ci := 12) (v := .int 0) (C := RX12) (T := TX12) (N := 92) hx hb hts inW_12 hown hK hP 2 rfl rfl 51 (by decide) (hts _ wd_1171) (fun _ h9 => h9) rfl dX12_rules_156 ?_
  refine lv_icmp_ge (tgt := 188) hx hb dX12_rules_159 (by decide) (fun _ => ?_) (fun c => False.elim (by revert c; decide))
  refine lv_aload_n hx hb dX12_rules_188 rfl (lv_at hl 2 rfl) ?_
  refine lv_dup hx hb dX12_rules_189 rfl ?_
  refine va_get (D := D) (ci := 12) (v := .int 0) (C := RX12) (T := TX12) (N := 92) hx hb hts inW_12 hown hK hP 2 rfl rfl 57 (by decide) (hts _ wd_1177) (fun _ h9 => h9) rfl dX12_rules_190 ?_
  refine lv_iconst (v := 1) hx hb dX12_rules_193 (by decide) ?_
  refine lv_iadd hx hb dX12_rules_194 ?_
  refine lv_topi (fun v9 e10 => ?_)
  obtain rfl : v9 = 1 := e10.trans (by decide)
  refine va_put (D := D) (ci := 12) (v := .int 1) (ty := .int) (C := RX12) (T := TX12) (N := 92) hx hb hts inW_12 tyX12 tyX12_ok nmX12 hown hK hP hD hS 2 rfl rfl 57 (by decide) (hts _ wd_1177) (fun _ h9 => h9) rfl (by decide +kernel) rfl rfl (Nat.le_of_ble_eq_true rfl) dX12_rules_195 (fun H locs hP hD hS => ?_)
  have hP : va_P D vwCl [((r 59), .inl (c 0, 10, .inl (upd (fun _ => 0) (Int32.toNatClampNeg 0) 0))), ((r 60), .inl (c 0, 10, .inl (upd (fun _ => 0) (Int32.toNatClampNeg 0) 0))), ((r 0), .inr (12, ((fM r 0 0).set 45 (.int 0)).set 57 (.int 1)))] H := hP
  have hD : va_D A [((r 59), .inl (c 0, 10, .inl (upd (fun _ => 0) (Int32.toNatClampNeg 0) 0))), ((r 60), .inl (c 0, 10, .inl (upd (fun _ => 0) (Int32.toNatClampNeg 0) 0))), ((r 0), .inr (12, ((fM r 0 0).set 45 (.int 0)).set 57 (.int 1)))] := hD
  refine lv_aload_n hx hb dX12_rules_198 rfl (lv_at hl 2 rfl) ?_
  refine va_get (D := D) (ci := 12) (v := .int 0) (C := RX12) (T := TX12) (N := 92) hx hb hts inW_12 hown hK hP 2 rfl rfl 51 (by decide) (hts _ wd_1171) (fun _ h9 => h9) rfl dX12_rules_199 ?_
  exact rt_i hx hb hr hlocks hK hP hD hS rfl dX12_rules_202 () [] rfl rfl rfl
set_option maxHeartbeats 4000000 in
set_option maxRecDepth 100000 in
/-- X12_test -/
theorem c_X12_test (l : Launch) (D : va_G) (c : Nat → ClassId) (sz : Nat) (r : Nat → Nat) (p0 : Int32) (h : Int32) (t : Int32) : Met l yX12_test (.code yX12_test cX12_test 4 (some .int) :: Wd) ({ frames := 2, cells := 0, slots := 0, locals := 43 }) (va_Pc [.ref (r 0), .int p0, .int h, .int t] (WB D c [((r 0), .inr (12, fM r 0 0))] sz)) (QI (S := Unit) D c (fun q _ => q = -1) (fun _ => []) (va_A [((r 0), .inr (12, fM r 0 0))] sz)) 0 0 (va_A [((r 0), .inr (12, fM r 0 0))] sz) := by
  refine kz_met (Qc := QI (S := Unit) D c (fun q _ => q = -1) (fun _ => [])) (by decide) (Nat.le_of_ble_eq_true rfl) ?_
  intro p e s m below meth cd A ls H locs hx hb hr hml hts hown hlocks hin hN hO hK hP hD hS hA hl
  have hl : lv_has ls 4 [(0, .ref (r 0)), (1, .int p0), (2, .int h), (3, .int t)] := hl
  have hown : s.vm.findClass RX12 = some m.cls := hown
  refine lv_aload_n hx hb dX12_test_0 rfl (lv_at hl 0 rfl) ?_
  refine va_get (D := D) (ci := 12) (v := .int 0) (C := RX12) (T := TX12) (N := 92) hx hb hts inW_12 hown hK hP 0 rfl rfl 62 (by decide) (hts _ wd_1182) (fun _ h9 => h9) rfl dX12_test_1 ?_
  refine lv_sipush (v := 500) hx hb dX12_test_4 (by decide) ?_
  refine lv_icmp_eq (tgt := 51) hx hb dX12_test_7 (by decide) (fun c => False.elim (by revert c; decide)) (fun _ => ?_)
  refine lv_aload_n hx hb dX12_test_10 rfl (lv_at hl 0 rfl) ?_
  have hPc := hP.sub (ws' := [((r 0), .inr (12, fM r 0 0))]) [0] rfl
  have hDc := hD.sub (ws' := [((r 0), .inr (12, fM r 0 0))]) [0] (by decide) rfl
  refine cl_i (wr := []) (va_runV (As := []) (rest := []) ⟨hx, hb, hml, hown, hts⟩ (c_X12_isOver l D c H.size r) (kw_V 0 hts wd_1403 wd_1405 wd_42 wd_90 wd_1406 rfl rfl (by decide +kernel) ⟨Nat.le_of_ble_eq_true rfl, Nat.le_of_ble_eq_true rfl⟩) (pre_V hPc hK hDc hN hO (ci := 12) (q0 := 0) rfl rfl) rfl rfl hl.1 rfl (lv_room (Nat.le_of_ble_eq_true rfl)) dX12_test_11 ⟨Nat.le_of_ble_eq_true rfl, Nat.le_of_ble_eq_true rfl⟩) hP hD hS hA [0] [] rfl rfl (by decide) (by decide) (fun r1 u2 H locs h3 hP hD hS => ?_)
  have hP : va_P D vwCl [((r 0), .inr (12, fM r 0 0))] H := hP
  have hD : va_D A [((r 0), .inr (12, fM r 0 0))] := hD
  obtain rfl : r1 = 0 := h3
  refine lv_if_ne (tgt := 51) hx hb dX12_test_14 (by decide) (fun c => False.elim (by revert c; decide)) (fun _ => ?_)
  refine lv_aload_n hx hb dX12_test_17 rfl (lv_at hl 0 rfl) ?_
  refine lv_iload_n hx hb dX12_test_18 rfl (lv_at hl 1 rfl) ?_
  have hPc := hP.sub (ws' := [((r 0), .inr (12, fM r 0 0))]) [0] rfl
  have hDc := hD.sub (ws' := [((r 0), .inr (12, fM r 0 0))]) [0] (by decide) rfl
  refine cl_i (wr := []) (va_runV (As := [.int p0]) (rest := []) ⟨hx, hb, hml, hown, hts⟩ (c_X12_isPool l D c H.size r p0) (kw_V 1 hts wd_1445 wd_1447 wd_45 wd_90 wd_1448 rfl rfl (by decide +kernel) ⟨Nat.le_of_ble_eq_true rfl, Nat.le_of_ble_eq_true rfl⟩) (pre_V hPc hK hDc hN hO (ci := 12) (q0 := 0) rfl rfl) rfl rfl hl.1 rfl (lv_room (Nat.le_of_ble_eq_true rfl)) dX12_test_19 ⟨Nat.le_of_ble_eq_true rfl, Nat.le_of_ble_eq_true rfl⟩) hP hD hS hA [0] [] rfl rfl (by decide) (by decide) (fun r4 u5 H locs h6 hP hD hS => ?_)
  have hP : va_P D vwCl [((r 0), .inr (12, fM r 0 0))] H := hP
  have hD : va_D A [((r 0), .inr (12, fM r 0 0))] := hD
  obtain rfl : r4 = 0 := h6
  refine lv_if_eq (tgt := 51) hx hb dX12_test_22 (by decide) (fun _ => ?_) (fun c => False.elim (by revert c; decide))
  refine lv_iconst (v := (-1)) hx hb dX12_test_51 (by decide) ?_
  exact rt_i hx hb hr hlocks hK hP hD hS rfl dX12_test_52 () [] rfl rfl rfl
set_option maxHeartbeats 4000000 in
set_option maxRecDepth 100000 in
/-- X12_closed -/
theorem c_X12_closed (l : Launch) (D : va_G) (c : Nat → ClassId) (sz : Nat) (r : Nat → Nat) (p0 : Int32) (h : Int32) (k : Int32) : Met l yX12_closed (.code yX12_closed cX12_closed 4 (some .int) :: Wd) ({ frames := 2, cells := 0, slots := 0, locals := 43 }) (va_Pc [.ref (r 0), .int p0, .int h, .int k] (WB D c [((r 0), .inr (12, fM r 0 0))] sz)) (QI (S := Unit) D c (fun q _ => q = -1) (fun _ => []) (va_A [((r 0), .inr (12, fM r 0 0))] sz)) 0 0 (va_A [((r 0), .inr (12, fM r 0 0))] sz) := by
  refine kz_met (Qc := QI (S := Unit) D c (fun q _ => q = -1) (fun _ => [])) (by decide) (Nat.le_of_ble_eq_true rfl) ?_
  intro p e s m below meth cd A ls H locs hx hb hr hml hts hown hlocks hin hN hO hK hP hD hS hA hl
  have hl : lv_has ls 4 [(0, .ref (r 0)), (1, .int p0), (2, .int h), (3, .int k)] := hl
  have hown : s.vm.findClass RX12 = some m.cls := hown
  refine lv_aload_n hx hb dX12_closed_0 rfl (lv_at hl 0 rfl) ?_
  refine lv_iload_n hx hb dX12_closed_1 rfl (lv_at hl 1 rfl) ?_
  have hPc := hP.sub (ws' := [((r 0), .inr (12, fM r 0 0))]) [0] rfl
  have hDc := hD.sub (ws' := [((r 0), .inr (12, fM r 0 0))]) [0] (by decide) rfl
  refine cl_i (wr := []) (va_runV (As := [.int p0]) (rest := []) ⟨hx, hb, hml, hown, hts⟩ (c_X12_isPool l D c H.size r p0) (kw_V 1 hts wd_1445 wd_1447 wd_45 wd_90 wd_1448 rfl rfl (by decide +kernel) ⟨Nat.le_of_ble_eq_true rfl, Nat.le_of_ble_eq_true rfl⟩) (pre_V hPc hK hDc hN hO (ci := 12) (q0 := 0) rfl rfl) rfl rfl hl.1 rfl (lv_room (Nat.le_of_ble_eq_true rfl)) dX12_closed_2 ⟨Nat.le_of_ble_eq_true rfl, Nat.le_of_ble_eq_true rfl⟩) hP hD hS hA [0] [] rfl rfl (by decide) (by decide) (fun r1 u2 H locs h3 hP hD hS => ?_)
  have hP : va_P D vwCl [((r 0), .inr (12, fM r 0 0))] H := hP
  have hD : va_D A [((r 0), .inr (12, fM r 0 0))] := hD
  obtain rfl : r1 = 0 := h3
  refine lv_if_eq (tgt := 32) hx hb dX12_closed_5 (by decide) (fun _ => ?_) (fun c => False.elim (by revert c; decide))
  refine lv_iconst (v := (-1)) hx hb dX12_closed_32 (by decide) ?_
  exact rt_i hx hb hr hlocks hK hP hD hS rfl dX12_closed_33 () [] rfl rfl rfl
set_option maxHeartbeats 4000000 in
set_option maxRecDepth 100000 in
/-- X12_open -/
theorem c_X12_open (l : Launch) (D : va_G) (c : Nat → ClassId) (sz : Nat) (r : Nat → Nat) (p0 : Int32) (d : Int32) (k : Int32) : Met l yX12_open (.code yX12_open cX12_open 4 (some .int) :: Wd) ({ frames := 2, cells := 0, slots := 0, locals := 43 }) (va_Pc [.ref (r 0), .int p0, .int d, .int k] (WB D c [((r 0), .inr (12, fM r 0 0))] sz)) (QI (S := Unit) D c (fun q _ => q = -1) (fun _ => []) (va_A [((r 0), .inr (12, fM r 0 0))] sz)) 0 0 (va_A [((r 0), .inr (12, fM r 0 0))] sz) := by
  refine kz_met (Qc := QI (S := Unit) D c (fun q _ => q = -1) (fun _ => [])) (by decide) (Nat.le_of_ble_eq_true rfl) ?_
  intro p e s m below meth cd A ls H locs hx hb hr hml hts hown hlocks hin hN hO hK hP hD hS hA hl
  have hl : lv_has ls 4 [(0, .ref (r 0)), (1, .int p0), (2, .int d), (3, .int k)] := hl
  have hown : s.vm.findClass RX12 = some m.cls := hown
  refine lv_aload_n hx hb dX12_open_0 rfl (lv_at hl 0 rfl) ?_
  refine lv_iload_n hx hb dX12_open_1 rfl (lv_at hl 1 rfl) ?_
  have hPc := hP.sub (ws' := [((r 0), .inr (12, fM r 0 0))]) [0] rfl
  have hDc := hD.sub (ws' := [((r 0), .inr (12, fM r 0 0))]) [0] (by decide) rfl
  refine cl_i (wr := []) (va_runV (As := [.int p0]) (rest := []) ⟨hx, hb, hml, hown, hts⟩ (c_X12_isPool l D c H.size r p0) (kw_V 1 hts wd_1445 wd_1447 wd_45 wd_90 wd_1448 rfl rfl (by decide +kernel) ⟨Nat.le_of_ble_eq_true rfl, Nat.le_of_ble_eq_true rfl⟩) (pre_V hPc hK hDc hN hO (ci := 12) (q0 := 0) rfl rfl) rfl rfl hl.1 rfl (lv_room (Nat.le_of_ble_eq_true rfl)) dX12_open_2 ⟨Nat.le_of_ble_eq_true rfl, Nat.le_of_ble_eq_true rfl⟩) hP hD hS hA [0] [] rfl rfl (by decide) (by decide) (fun r1 u2 H locs h3 hP hD hS => ?_)
  have hP : va_P D vwCl [((r 0), .inr (12, fM r 0 0))] H := hP
  have hD : va_D A [((r 0), .inr (12, fM r 0 0))] := hD
  obtain rfl : r1 = 0 := h3
  refine lv_if_eq (tgt := 45) hx hb dX12_open_5 (by decide) (fun _ => ?_) (fun c => False.elim (by revert c; decide))
  refine lv_iconst (v := (-1)) hx hb dX12_open_45 (by decide) ?_
  exact rt_i hx hb hr hlocks hK hP hD hS rfl dX12_open_46 () [] rfl rfl rfl
set_option maxHeartbeats 4000000 in
set_option maxRecDepth 100000 in
/-- X12_free -/
theorem c_X12_free (l : Launch) (D : va_G) (c : Nat → ClassId) (sz : Nat) (r : Nat → Nat) (p0 : Int32) (d : Int32) (b : Int32) : Met l yX12_free (.code yX12_free cX12_free 4 (some .boolean) :: Wd) ({ frames := 2, cells := 0, slots := 0, locals := 43 }) (va_Pc [.ref (r 0), .int p0, .int d, .int b] (WB D c [((r 0), .inr (12, fM r 0 0))] sz)) (QI (S := Unit) D c (fun q _ => q = 0) (fun _ => []) (va_A [((r 0), .inr (12, fM r 0 0))] sz)) 0 0 (va_A [((r 0), .inr (12, fM r 0 0))] sz) := by
  refine kz_met (Qc := QI (S := Unit) D c (fun q _ => q = 0) (fun _ => [])) (by decide) (Nat.le_of_ble_eq_true rfl) ?_
  intro p e s m below meth cd A ls H locs hx hb hr hml hts hown hlocks hin hN hO hK hP hD hS hA hl
  have hl : lv_has ls 4 [(0, .ref (r 0)), (1, .int p0), (2, .int d), (3, .int b)] := hl
  have hown : s.vm.findClass RX12 = some m.cls := hown
  refine lv_aload_n hx hb dX12_free_0 rfl (lv_at hl 0 rfl) ?_
  refine lv_iload_n hx hb dX12_free_1 rfl (lv_at hl 1 rfl) ?_
  have hPc := hP.sub (ws' := [((r 0), .inr (12, fM r 0 0))]) [0] rfl
  have hDc := hD.sub (ws' := [((r 0), .inr (12, fM r 0 0))]) [0] (by decide) rfl
  refine cl_i (wr := []) (va_runV (As := [.int p0]) (rest := []) ⟨hx, hb, hml, hown, hts⟩ (c_X12_isPool l D c H.size r p0) (kw_V 1 hts wd_1445 wd_1447 wd_45 wd_90 wd_1448 rfl rfl (by decide +kernel) ⟨Nat.le_of_ble_eq_true rfl, Nat.le_of_ble_eq_true rfl⟩) (pre_V hPc hK hDc hN hO (ci := 12) (q0 := 0) rfl rfl) rfl rfl hl.1 rfl (lv_room (Nat.le_of_ble_eq_true rfl)) dX12_free_2 ⟨Nat.le_of_ble_eq_true rfl, Nat.le_of_ble_eq_true rfl⟩) hP hD hS hA [0] [] rfl rfl (by decide) (by decide) (fun r1 u2 H locs h3 hP hD hS => ?_)
  have hP : va_P D vwCl [((r 0), .inr (12, fM r 0 0))] H := hP
  have hD : va_D A [((r 0), .inr (12, fM r 0 0))] := hD
  obtain rfl : r1 = 0 := h3
  refine lv_if_eq (tgt := 37) hx hb dX12_free_5 (by decide) (fun _ => ?_) (fun c => False.elim (by revert c; decide))
  refine lv_iconst (v := 0) hx hb dX12_free_37 (by decide) ?_
  exact rt_i hx hb hr hlocks hK hP hD hS rfl dX12_free_38 () [] rfl rfl rfl
set_option maxHeartbeats 4000000 in
set_option maxRecDepth 100000 in
/-- X12_low -/
theorem c_X12_low (l : Launch) (D : va_G) (c : Nat → ClassId) (sz : Nat) (r : Nat → Nat) (p0 : Int32) (d : Int32) : Met l yX12_low (.code yX12_low cX12_low 3 (some .int) :: Wd) ({ frames := 2, cells := 0, slots := 0, locals := 43 }) (va_Pc [.ref (r 0), .int p0, .int d] (WB D c [((r 0), .inr (12, fM r 0 0))] sz)) (QI (S := Unit) D c (fun q _ => q = -1) (fun _ => []) (va_A [((r 0), .inr (12, fM r 0 0))] sz)) 0 0 (va_A [((r 0), .inr (12, fM r 0 0))] sz) := by
  refine kz_met (Qc := QI (S := Unit) D c (fun q _ => q = -1) (fun _ => [])) (by decide) (Nat.le_of_ble_eq_true rfl) ?_
  intro p e s m below meth cd A ls H locs hx hb hr hml hts hown hlocks hin hN hO hK hP hD hS hA hl
  have hl : lv_has ls 3 [(0, .ref (r 0)), (1, .int p0), (2, .int d)] := hl
  have hown : s.vm.findClass RX12 = some m.cls := hown
  refine lv_aload_n hx hb dX12_low_0 rfl (lv_at hl 0 rfl) ?_
  refine lv_iload_n hx hb dX12_low_1 rfl (lv_at hl 1 rfl) ?_
  have hPc := hP.sub (ws' := [((r 0), .inr (12, fM r 0 0))]) [0] rfl
  have hDc := hD.sub (ws' := [((r 0), .inr (12, fM r 0 0))]) [0] (by decide) rfl
  refine cl_i (wr := []) (va_runV (As := [.int p0]) (rest := []) ⟨hx, hb, hml, hown, hts⟩ (c_X12_isPool l D c H.size r p0) (kw_V 1 hts wd_1445 wd_1447 wd_45 wd_90 wd_1448 rfl rfl (by decide +kernel) ⟨Nat.le_of_ble_eq_true rfl, Nat.le_of_ble_eq_true rfl⟩) (pre_V hPc hK hDc hN hO (ci := 12) (q0 := 0) rfl rfl) rfl rfl hl.1 rfl (lv_room (Nat.le_of_ble_eq_true rfl)) dX12_low_2 ⟨Nat.le_of_ble_eq_true rfl, Nat.le_of_ble_eq_true rfl⟩) hP hD hS hA [0] [] rfl rfl (by decide) (by decide) (fun r1 u2 H locs h3 hP hD hS => ?_)
  have hP : va_P D vwCl [((r 0), .inr (12, fM r 0 0))] H := hP
  have hD : va_D A [((r 0), .inr (12, fM r 0 0))] := hD
  obtain rfl : r1 = 0 := h3
  refine lv_if_eq (tgt := 32) hx hb dX12_low_5 (by decide) (fun _ => ?_) (fun c => False.elim (by revert c; decide))
  refine lv_iconst (v := (-1)) hx hb dX12_low_32 (by decide) ?_
  exact rt_i hx hb hr hlocks hK hP hD hS rfl dX12_low_33 () [] rfl rfl rfl
set_option maxHeartbeats 4000000 in
set_option maxRecDepth 100000 in
/-- X12_plan -/
theorem c_X12_plan (l : Launch) (D : va_G) (c : Nat → ClassId) (sz : Nat) (r : Nat → Nat) (s0 : Int32) (d : Int32) (n : Int32) (g : Int32) (b : Int32) : Met l yX12_plan (.code yX12_plan cX12_plan 10 (some .int) :: Wd) ({ frames := 0, cells := 0, slots := 0, locals := 0 }) (va_Pc [.ref (r 0), .int s0, .int d, .int n, .int g, .int b] (WB D c [((r 0), .inr (12, fM r 0 0))] sz)) (QI (S := Unit) D c (fun q _ => q = -1) (fun _ => []) (va_A [((r 0), .inr (12, fM r 0 0))] sz)) 0 0 (va_A [((r 0), .inr (12, fM r 0 0))] sz) := by
  refine kz_met (Qc := QI (S := Unit) D c (fun q _ => q = -1) (fun _ => [])) (by decide) (Nat.le_of_ble_eq_true rfl) ?_
  intro p e s m below meth cd A ls H locs hx hb hr hml hts hown hlocks hin hN hO hK hP hD hS hA hl
  have hl : lv_has ls 10 [(0, .ref (r 0)), (1, .int s0), (2, .int d), (3, .int n), (4, .int g), (5, .int b)] := hl
  have hown : s.vm.findClass RX12 = some m.cls := hown
  refine lv_iload_n hx hb dX12_plan_0 rfl (lv_at hl 1 rfl) ?_
  refine lv_iconst (v := 1) hx hb dX12_plan_1 (by decide) ?_
  refine lv_icmp_lt (tgt := 88) hx hb dX12_plan_2 (by decide) (fun c1 => ?_) (fun c1 => ?_)
  · refine lv_iconst (v := (-1)) hx hb dX12_plan_88 (by decide) ?_
    exact rt_i hx hb hr hlocks hK hP hD hS rfl dX12_plan_89 () [] rfl rfl rfl
  · refine lv_aload_n hx hb dX12_plan_5 rfl (lv_at hl 0 rfl) ?_
    refine va_get (D := D) (ci := 12) (v := .int 0) (C := RX12) (T := TX12) (N := 92) hx hb hts inW_12 hown hK hP 0 rfl rfl 10 (by decide) (hts _ wd_1130) (fun _ h9 => h9) rfl dX12_plan_6 ?_
    refine lv_if_eq (tgt := 88) hx hb dX12_plan_9 (by decide) (fun _ => ?_) (fun c => False.elim (by revert c; decide))
    refine lv_iconst (v := (-1)) hx hb dX12_plan_88 (by decide) ?_
    exact rt_i hx hb hr hlocks hK hP hD hS rfl dX12_plan_89 () [] rfl rfl rfl
set_option maxHeartbeats 4000000 in
set_option maxRecDepth 100000 in
/-- X12_planned -/
theorem c_X12_planned (l : Launch) (D : va_G) (c : Nat → ClassId) (sz : Nat) (r : Nat → Nat) (p0 : Int32) : Met l yX12_planned (.code yX12_planned cX12_planned 2 (some .int) :: Wd) ({ frames := 2, cells := 0, slots := 0, locals := 43 }) (va_Pc [.ref (r 0), .int p0] (WB D c [((r 0), .inr (12, fM r 0 0))] sz)) (QI (S := Unit) D c (fun q _ => q = -1) (fun _ => []) (va_A [((r 0), .inr (12, fM r 0 0))] sz)) 0 0 (va_A [((r 0), .inr (12, fM r 0 0))] sz) := by
  refine kz_met (Qc := QI (S := Unit) D c (fun q _ => q = -1) (fun _ => [])) (by decide) (Nat.le_of_ble_eq_true rfl) ?_
  intro p e s m below meth cd A ls H locs hx hb hr hml hts hown hlocks hin hN hO hK hP hD hS hA hl
  have hl : lv_has ls 2 [(0, .ref (r 0)), (1, .int p0)] := hl
  have hown : s.vm.findClass RX12 = some m.cls := hown
  refine lv_aload_n hx hb dX12_planned_0 rfl (lv_at hl 0 rfl) ?_
  refine lv_iload_n hx hb dX12_planned_1 rfl (lv_at hl 1 rfl) ?_
  have hPc := hP.sub (ws' := [((r 0), .inr (12, fM r 0 0))]) [0] rfl
  have hDc := hD.sub (ws' := [((r 0), .inr (12, fM r 0 0))]) [0] (by decide) rfl
  refine cl_i (wr := []) (va_runV (As := [.int p0]) (rest := []) ⟨hx, hb, hml, hown, hts⟩ (c_X12_isPool l D c H.size r p0) (kw_V 1 hts wd_1445 wd_1447 wd_45 wd_90 wd_1448 rfl rfl (by decide +kernel) ⟨Nat.le_of_ble_eq_true rfl, Nat.le_of_ble_eq_true rfl⟩) (pre_V hPc hK hDc hN hO (ci := 12) (q0 := 0) rfl rfl) rfl rfl hl.1 rfl (lv_room (Nat.le_of_ble_eq_true rfl)) dX12_planned_2 ⟨Nat.le_of_ble_eq_true rfl, Nat.le_of_ble_eq_true rfl⟩) hP hD hS hA [0] [] rfl rfl (by decide) (by decide) (fun r1 u2 H locs h3 hP hD hS => ?_)
  have hP : va_P D vwCl [((r 0), .inr (12, fM r 0 0))] H := hP
  have hD : va_D A [((r 0), .inr (12, fM r 0 0))] := hD
  obtain rfl : r1 = 0 := h3
  refine lv_if_eq (tgt := 17) hx hb dX12_planned_5 (by decide) (fun _ => ?_) (fun c => False.elim (by revert c; decide))
  refine lv_iconst (v := (-1)) hx hb dX12_planned_17 (by decide) ?_
  exact rt_i hx hb hr hlocks hK hP hD hS rfl dX12_planned_18 () [] rfl rfl rfl
set_option maxHeartbeats 4000000 in
set_option maxRecDepth 100000 in
/-- X12_race -/
theorem c_X12_race (l : Launch) (D : va_G) (c : Nat → ClassId) (sz : Nat) (r : Nat → Nat) (p0 : Int32) (d : Int32) (f : Int32) (n : Int32) (lo : Int32) (hi : Int32) (w : Int32) : Met l yX12_race (.code yX12_race cX12_race 12 (some .int) :: Wd) ({ frames := 2, cells := 0, slots := 0, locals := 43 }) (va_Pc [.ref (r 0), .int p0, .int d, .int f, .int n, .int lo, .int hi, .int w] (WB D c [((r 0), .inr (12, fM r 0 0))] sz)) (QI (S := Unit) D c (fun q _ => q = -1) (fun _ => []) (va_A [((r 0), .inr (12, fM r 0 0))] sz)) 0 0 (va_A [((r 0), .inr (12, fM r 0 0))] sz) := by
  refine kz_met (Qc := QI (S := Unit) D c (fun q _ => q = -1) (fun _ => [])) (by decide) (Nat.le_of_ble_eq_true rfl) ?_
  intro p e s m below meth cd A ls H locs hx hb hr hml hts hown hlocks hin hN hO hK hP hD hS hA hl
  have hl : lv_has ls 12 [(0, .ref (r 0)), (1, .int p0), (2, .int d), (3, .int f), (4, .int n), (5, .int lo), (6, .int hi), (7, .int w)] := hl
  have hown : s.vm.findClass RX12 = some m.cls := hown
  refine lv_aload_n hx hb dX12_race_0 rfl (lv_at hl 0 rfl) ?_
  refine lv_iload_n hx hb dX12_race_1 rfl (lv_at hl 1 rfl) ?_
  have hPc := hP.sub (ws' := [((r 0), .inr (12, fM r 0 0))]) [0] rfl
  have hDc := hD.sub (ws' := [((r 0), .inr (12, fM r 0 0))]) [0] (by decide) rfl
  refine cl_i (wr := []) (va_runV (As := [.int p0]) (rest := []) ⟨hx, hb, hml, hown, hts⟩ (c_X12_isPool l D c H.size r p0) (kw_V 1 hts wd_1445 wd_1447 wd_45 wd_90 wd_1448 rfl rfl (by decide +kernel) ⟨Nat.le_of_ble_eq_true rfl, Nat.le_of_ble_eq_true rfl⟩) (pre_V hPc hK hDc hN hO (ci := 12) (q0 := 0) rfl rfl) rfl rfl hl.1 rfl (lv_room (Nat.le_of_ble_eq_true rfl)) dX12_race_2 ⟨Nat.le_of_ble_eq_true rfl, Nat.le_of_ble_eq_true rfl⟩) hP hD hS hA [0] [] rfl rfl (by decide) (by decide) (fun r1 u2 H locs h3 hP hD hS => ?_)
  have hP : va_P D vwCl [((r 0), .inr (12, fM r 0 0))] H := hP
  have hD : va_D A [((r 0), .inr (12, fM r 0 0))] := hD
  obtain rfl : r1 = 0 := h3
  refine lv_if_eq (tgt := 105) hx hb dX12_race_5 (by decide) (fun _ => ?_) (fun c => False.elim (by revert c; decide))
  refine lv_iconst (v := (-1)) hx hb dX12_race_105 (by decide) ?_
  exact rt_i hx hb hr hlocks hK hP hD hS rfl dX12_race_106 () [] rfl rfl rfl
set_option maxHeartbeats 4000000 in
set_option maxRecDepth 100000 in
/-- X12_night -/
theorem c_X12_night (l : Launch) (D : va_G) (c : Nat → ClassId) (sz : Nat) (r : Nat → Nat) (p0 : Int32) (a : Int32) (b : Int32) (t : Int32) : Met l yX12_night (.code yX12_night cX12_night 6 (some .int) :: Wd) ({ frames := 2, cells := 0, slots := 0, locals := 43 }) (va_Pc [.ref (r 0), .int p0, .int a, .int b, .int t] (WB D c [((r 0), .inr (12, fM r 0 0))] sz)) (QI (S := Unit) D c (fun q _ => q = -1) (fun _ => []) (va_A [((r 0), .inr (12, fM r 0 0))] sz)) 0 0 (va_A [((r 0), .inr (12, fM r 0 0))] sz) := by
  refine kz_met (Qc := QI (S := Unit) D c (fun q _ => q = -1) (fun _ => [])) (by decide) (Nat.le_of_ble_eq_true rfl) ?_
  intro p e s m below meth cd A ls H locs hx hb hr hml hts hown hlocks hin hN hO hK hP hD hS hA hl
  have hl : lv_has ls 6 [(0, .ref (r 0)), (1, .int p0), (2, .int a), (3, .int b), (4, .int t)] := hl
  have hown : s.vm.findClass RX12 = some m.cls := hown
  refine lv_aload_n hx hb dX12_night_0 rfl (lv_at hl 0 rfl) ?_
  refine lv_iload_n hx hb dX12_night_1 rfl (lv_at hl 1 rfl) ?_
  have hPc := hP.sub (ws' := [((r 0), .inr (12, fM r 0 0))]) [0] rfl
  have hDc := hD.sub (ws' := [((r 0), .inr (12, fM r 0 0))]) [0] (by decide) rfl
  refine cl_i (wr := []) (va_runV (As := [.int p0]) (rest := []) ⟨hx, hb, hml, hown, hts⟩ (c_X12_isPool l D c H.size r p0) (kw_V 1 hts wd_1445 wd_1447 wd_45 wd_90 wd_1448 rfl rfl (by decide +kernel) ⟨Nat.le_of_ble_eq_true rfl, Nat.le_of_ble_eq_true rfl⟩) (pre_V hPc hK hDc hN hO (ci := 12) (q0 := 0) rfl rfl) rfl rfl hl.1 rfl (lv_room (Nat.le_of_ble_eq_true rfl)) dX12_night_2 ⟨Nat.le_of_ble_eq_true rfl, Nat.le_of_ble_eq_true rfl⟩) hP hD hS hA [0] [] rfl rfl (by decide) (by decide) (fun r1 u2 H locs h3 hP hD hS => ?_)
  have hP : va_P D vwCl [((r 0), .inr (12, fM r 0 0))] H := hP
  have hD : va_D A [((r 0), .inr (12, fM r 0 0))] := hD
  obtain rfl : r1 = 0 := h3
  refine lv_if_eq (tgt := 57) hx hb dX12_night_5 (by decide) (fun _ => ?_) (fun c => False.elim (by revert c; decide))
  refine lv_iconst (v := (-1)) hx hb dX12_night_57 (by decide) ?_
  exact rt_i hx hb hr hlocks hK hP hD hS rfl dX12_night_58 () [] rfl rfl rfl
set_option maxHeartbeats 4000000 in
set_option maxRecDepth 100000 in
/-- X12_suspect -/
theorem c_X12_suspect (l : Launch) (D : va_G) (c : Nat → ClassId) (sz : Nat) (r : Nat → Nat) (p0 : Int32) (d : Int32) (t : Int32) : Met l yX12_suspect (.code yX12_suspect cX12_suspect 4 (some .int) :: Wd) ({ frames := 2, cells := 0, slots := 0, locals := 43 }) (va_Pc [.ref (r 0), .int p0, .int d, .int t] (WB D c [((r 0), .inr (12, fM r 0 0))] sz)) (QI (S := Unit) D c (fun q _ => q = -1) (fun _ => []) (va_A [((r 0), .inr (12, fM r 0 0))] sz)) 0 0 (va_A [((r 0), .inr (12, fM r 0 0))] sz) := by
  refine kz_met (Qc := QI (S := Unit) D c (fun q _ => q = -1) (fun _ => [])) (by decide) (Nat.le_of_ble_eq_true rfl) ?_
  intro p e s m below meth cd A ls H locs hx hb hr hml hts hown hlocks hin hN hO hK hP hD hS hA hl
  have hl : lv_has ls 4 [(0, .ref (r 0)), (1, .int p0), (2, .int d), (3, .int t)] := hl
  have hown : s.vm.findClass RX12 = some m.cls := hown
  refine lv_aload_n hx hb dX12_suspect_0 rfl (lv_at hl 0 rfl) ?_
  refine lv_iload_n hx hb dX12_suspect_1 rfl (lv_at hl 1 rfl) ?_
  have hPc := hP.sub (ws' := [((r 0), .inr (12, fM r 0 0))]) [0] rfl
  have hDc := hD.sub (ws' := [((r 0), .inr (12, fM r 0 0))]) [0] (by decide) rfl
  refine cl_i (wr := []) (va_runV (As := [.int p0]) (rest := []) ⟨hx, hb, hml, hown, hts⟩ (c_X12_isPool l D c H.size r p0) (kw_V 1 hts wd_1445 wd_1447 wd_45 wd_90 wd_1448 rfl rfl (by decide +kernel) ⟨Nat.le_of_ble_eq_true rfl, Nat.le_of_ble_eq_true rfl⟩) (pre_V hPc hK hDc hN hO (ci := 12) (q0 := 0) rfl rfl) rfl rfl hl.1 rfl (lv_room (Nat.le_of_ble_eq_true rfl)) dX12_suspect_2 ⟨Nat.le_of_ble_eq_true rfl, Nat.le_of_ble_eq_true rfl⟩) hP hD hS hA [0] [] rfl rfl (by decide) (by decide) (fun r1 u2 H locs h3 hP hD hS => ?_)
  have hP : va_P D vwCl [((r 0), .inr (12, fM r 0 0))] H := hP
  have hD : va_D A [((r 0), .inr (12, fM r 0 0))] := hD
  obtain rfl : r1 = 0 := h3
  refine lv_if_eq (tgt := 47) hx hb dX12_suspect_5 (by decide) (fun _ => ?_) (fun c => False.elim (by revert c; decide))
  refine lv_iconst (v := (-1)) hx hb dX12_suspect_47 (by decide) ?_
  exact rt_i hx hb hr hlocks hK hP hD hS rfl dX12_suspect_48 () [] rfl rfl rfl
set_option maxHeartbeats 4000000 in
set_option maxRecDepth 100000 in
/-- X12_cause -/
theorem c_X12_cause (l : Launch) (D : va_G) (c : Nat → ClassId) (sz : Nat) (r : Nat → Nat) (p0 : Int32) : Met l yX12_cause (.code yX12_cause cX12_cause 4 (some .int) :: Wd) ({ frames := 2, cells := 0, slots := 0, locals := 43 }) (va_Pc [.ref (r 0), .int p0] (WB D c [((r 0), .inr (12, fM r 0 0))] sz)) (QI (S := Unit) D c (fun q _ => q = -1) (fun _ => []) (va_A [((r 0), .inr (12, fM r 0 0))] sz)) 0 0 (va_A [((r 0), .inr (12, fM r 0 0))] sz) := by
  refine kz_met (Qc := QI (S := Unit) D c (fun q _ => q = -1) (fun _ => [])) (by decide) (Nat.le_of_ble_eq_true rfl) ?_
  intro p e s m below meth cd A ls H locs hx hb hr hml hts hown hlocks hin hN hO hK hP hD hS hA hl
  have hl : lv_has ls 4 [(0, .ref (r 0)), (1, .int p0)] := hl
  have hown : s.vm.findClass RX12 = some m.cls := hown
  refine lv_aload_n hx hb dX12_cause_0 rfl (lv_at hl 0 rfl) ?_
  refine lv_iload_n hx hb dX12_cause_1 rfl (lv_at hl 1 rfl) ?_
  have hPc := hP.sub (ws' := [((r 0), .inr (12, fM r 0 0))]) [0] rfl
  have hDc := hD.sub (ws' := [((r 0), .inr (12, fM r 0 0))]) [0] (by decide) rfl
  refine cl_i (wr := []) (va_runV (As := [.int p0]) (rest := []) ⟨hx, hb, hml, hown, hts⟩ (c_X12_isPool l D c H.size r p0) (kw_V 1 hts wd_1445 wd_1447 wd_45 wd_90 wd_1448 rfl rfl (by decide +kernel) ⟨Nat.le_of_ble_eq_true rfl, Nat.le_of_ble_eq_true rfl⟩) (pre_V hPc hK hDc hN hO (ci := 12) (q0 := 0) rfl rfl) rfl rfl hl.1 rfl (lv_room (Nat.le_of_ble_eq_true rfl)) dX12_cause_2 ⟨Nat.le_of_ble_eq_true rfl, Nat.le_of_ble_eq_true rfl⟩) hP hD hS hA [0] [] rfl rfl (by decide) (by decide) (fun r1 u2 H locs h3 hP hD hS => ?_)
  have hP : va_P D vwCl [((r 0), .inr (12, fM r 0 0))] H := hP
  have hD : va_D A [((r 0), .inr (12, fM r 0 0))] := hD
  obtain rfl : r1 = 0 := h3
  refine lv_if_ne (tgt := 10) hx hb dX12_cause_5 (by decide) (fun c => False.elim (by revert c; decide)) (fun _ => ?_)
  refine lv_iconst (v := (-1)) hx hb dX12_cause_8 (by decide) ?_
  exact rt_i hx hb hr hlocks hK hP hD hS rfl dX12_cause_9 () [] rfl rfl rfl
set_option maxHeartbeats 4000000 in
set_option maxRecDepth 100000 in
/-- X12_causes -/
theorem c_X12_causes (l : Launch) (D : va_G) (c : Nat → ClassId) (sz : Nat) (r : Nat → Nat) (k : Int32) (i : Int32) : Met l yX12_causes (.code yX12_causes cX12_causes 3 (some .int) :: Wd) ({ frames := 1, cells := 0, slots := 0, locals := 22 }) (va_Pc [.ref (r 0), .int k, .int i] (WB D c [((r 0), .inr (12, fM r 0 0))] sz)) (QI (S := Unit) D c (fun q _ => q = -1) (fun _ => []) (va_A [((r 0), .inr (12, fM r 0 0))] sz)) 0 0 (va_A [((r 0), .inr (12, fM r 0 0))] sz) := by
  refine kz_met (Qc := QI (S := Unit) D c (fun q _ => q = -1) (fun _ => [])) (by decide) (Nat.le_of_ble_eq_true rfl) ?_
  intro p e s m below meth cd A ls H locs hx hb hr hml hts hown hlocks hin hN hO hK hP hD hS hA hl
  have hl : lv_has ls 3 [(0, .ref (r 0)), (1, .int k), (2, .int i)] := hl
  have hown : s.vm.findClass RX12 = some m.cls := hown
  refine lv_iload_n hx hb dX12_causes_0 rfl (lv_at hl 1 rfl) ?_
  refine lv_iconst (v := 0) hx hb dX12_causes_1 (by decide) ?_
  refine lv_aload_n hx hb dX12_causes_2 rfl (lv_at hl 0 rfl) ?_
  refine va_get (D := D) (ci := 12) (v := .int 0) (C := RX12) (T := TX12) (N := 92) hx hb hts inW_12 hown hK hP 0 rfl rfl 83 (by decide) (hts _ wd_1203) (fun _ h9 => h9) rfl dX12_causes_3 ?_
  refine lv_iconst (v := 1) hx hb dX12_causes_6 (by decide) ?_
  refine lv_isub hx hb dX12_causes_7 ?_
  refine lv_topi (fun v1 e2 => ?_)
  obtain rfl : v1 = (-1) := e2.trans (by decide)
  have hPc := hP.sub (ws' := []) [] rfl
  have hDc := hD.sub (ws' := []) [] (by decide) rfl
  refine cl_i (wr := [((r 0), .inr (12, fM r 0 0))]) (va_runS (As := [.int k, .int 0, .int (-1)]) (rest := []) ⟨hx, hb, hml, hown, hts⟩ (c_X12_in l D c H.size k 0 ((-1))) (kw_S 3 hts wd_1407 wd_1408 wd_90 wd_1409 rfl rfl (by decide +kernel) ⟨Nat.le_of_ble_eq_true rfl, Nat.le_of_ble_eq_true rfl⟩) (pre_S hPc hK hDc hN hO) rfl rfl hl.1 rfl (lv_room (Nat.le_of_ble_eq_true rfl)) dX12_causes_8 ⟨Nat.le_of_ble_eq_true rfl, Nat.le_of_ble_eq_true rfl⟩) hP hD hS hA [] [0] rfl rfl (by decide) (by decide) (fun r3 u4 H locs h5 hP hD hS => ?_)
  have hP : va_P D vwCl [((r 0), .inr (12, fM r 0 0))] H := hP
  have hD : va_D A [((r 0), .inr (12, fM r 0 0))] := hD
  rcases inB_c h5 with ⟨h6, rfl⟩ | ⟨h6, rfl⟩
  · exact absurd h6 (inB_no (by decide))
  · refine lv_if_eq (tgt := 45) hx hb dX12_causes_11 (by decide) (fun _ => ?_) (fun c => False.elim (by revert c; decide))
    refine lv_iconst (v := (-1)) hx hb dX12_causes_45 (by decide) ?_
    exact rt_i hx hb hr hlocks hK hP hD hS rfl dX12_causes_46 () [] rfl rfl rfl
set_option maxHeartbeats 4000000 in
set_option maxRecDepth 100000 in
/-- X12_look -/
theorem c_X12_look (l : Launch) (D : va_G) (c : Nat → ClassId) (sz : Nat) (r : Nat → Nat) : Met l yX12_look (.code yX12_look cX12_look 8 (some .int) :: Wd) ({ frames := 0, cells := 0, slots := 0, locals := 0 }) (va_Pc [.ref (r 0)] (WB D c [((r 0), .inr (12, fM r 0 0))] sz)) (QI (S := Unit) D c (fun q _ => q = -1) (fun _ => []) (va_A [((r 0), .inr (12, fM r 0 0))] sz)) 0 0 (va_A [((r 0), .inr (12, fM r 0 0))] sz) := by
  refine kz_met (Qc := QI (S := Unit) D c (fun q _ => q = -1) (fun _ => [])) (by decide) (Nat.le_of_ble_eq_true rfl) ?_
  intro p e s m below meth cd A ls H locs hx hb hr hml hts hown hlocks hin hN hO hK hP hD hS hA hl
  have hl : lv_has ls 8 [(0, .ref (r 0))] := hl
  have hown : s.vm.findClass RX12 = some m.cls := hown
  refine lv_aload_n hx hb dX12_look_0 rfl (lv_at hl 0 rfl) ?_
  refine va_get (D := D) (ci := 12) (v := .int 0) (C := RX12) (T := TX12) (N := 92) hx hb hts inW_12 hown hK hP 0 rfl rfl 83 (by decide) (hts _ wd_1203) (fun _ h9 => h9) rfl dX12_look_1 ?_
  refine lv_iconst (v := 2) hx hb dX12_look_4 (by decide) ?_
  refine lv_icmp_ge (tgt := 10) hx hb dX12_look_5 (by decide) (fun c => False.elim (by revert c; decide)) (fun _ => ?_)
  refine lv_iconst (v := (-1)) hx hb dX12_look_8 (by decide) ?_
  exact rt_i hx hb hr hlocks hK hP hD hS rfl dX12_look_9 () [] rfl rfl rfl
set_option maxHeartbeats 4000000 in
set_option maxRecDepth 100000 in
/-- X12_lease -/
theorem c_X12_lease (l : Launch) (D : va_G) (c : Nat → ClassId) (sz : Nat) (r : Nat → Nat) (p0 : Int32) (k : Int32) (f : Int32) (t : Int32) : Met l yX12_lease (.code yX12_lease cX12_lease 5 (some .int) :: Wd) ({ frames := 2, cells := 0, slots := 0, locals := 43 }) (va_Pc [.ref (r 0), .int p0, .int k, .int f, .int t] (WB D c [((r 0), .inr (12, fM r 0 0))] sz)) (QI (S := Unit) D c (fun q _ => q = -1) (fun _ => []) (va_A [((r 0), .inr (12, fM r 0 0))] sz)) 0 0 (va_A [((r 0), .inr (12, fM r 0 0))] sz) := by
  refine kz_met (Qc := QI (S := Unit) D c (fun q _ => q = -1) (fun _ => [])) (by decide) (Nat.le_of_ble_eq_true rfl) ?_
  intro p e s m below meth cd A ls H locs hx hb hr hml hts hown hlocks hin hN hO hK hP hD hS hA hl
  have hl : lv_has ls 5 [(0, .ref (r 0)), (1, .int p0), (2, .int k), (3, .int f), (4, .int t)] := hl
  have hown : s.vm.findClass RX12 = some m.cls := hown
  refine lv_aload_n hx hb dX12_lease_0 rfl (lv_at hl 0 rfl) ?_
  refine va_get (D := D) (ci := 12) (v := .int 0) (C := RX12) (T := TX12) (N := 92) hx hb hts inW_12 hown hK hP 0 rfl rfl 86 (by decide) (hts _ wd_1206) (fun _ h9 => h9) rfl dX12_lease_1 ?_
  refine lv_bipush (v := 10) hx hb dX12_lease_4 (by decide) ?_
  refine lv_icmp_eq (tgt := 53) hx hb dX12_lease_6 (by decide) (fun c => False.elim (by revert c; decide)) (fun _ => ?_)
  refine lv_aload_n hx hb dX12_lease_9 rfl (lv_at hl 0 rfl) ?_
  have hPc := hP.sub (ws' := [((r 0), .inr (12, fM r 0 0))]) [0] rfl
  have hDc := hD.sub (ws' := [((r 0), .inr (12, fM r 0 0))]) [0] (by decide) rfl
  refine cl_i (wr := []) (va_runV (As := []) (rest := []) ⟨hx, hb, hml, hown, hts⟩ (c_X12_isOver l D c H.size r) (kw_V 0 hts wd_1403 wd_1405 wd_42 wd_90 wd_1406 rfl rfl (by decide +kernel) ⟨Nat.le_of_ble_eq_true rfl, Nat.le_of_ble_eq_true rfl⟩) (pre_V hPc hK hDc hN hO (ci := 12) (q0 := 0) rfl rfl) rfl rfl hl.1 rfl (lv_room (Nat.le_of_ble_eq_true rfl)) dX12_lease_10 ⟨Nat.le_of_ble_eq_true rfl, Nat.le_of_ble_eq_true rfl⟩) hP hD hS hA [0] [] rfl rfl (by decide) (by decide) (fun r1 u2 H locs h3 hP hD hS => ?_)
  have hP : va_P D vwCl [((r 0), .inr (12, fM r 0 0))] H := hP
  have hD : va_D A [((r 0), .inr (12, fM r 0 0))] := hD
  obtain rfl : r1 = 0 := h3
  refine lv_if_ne (tgt := 53) hx hb dX12_lease_13 (by decide) (fun c => False.elim (by revert c; decide)) (fun _ => ?_)
  refine lv_aload_n hx hb dX12_lease_16 rfl (lv_at hl 0 rfl) ?_
  refine lv_iload_n hx hb dX12_lease_17 rfl (lv_at hl 1 rfl) ?_
  have hPc := hP.sub (ws' := [((r 0), .inr (12, fM r 0 0))]) [0] rfl
  have hDc := hD.sub (ws' := [((r 0), .inr (12, fM r 0 0))]) [0] (by decide) rfl
  refine cl_i (wr := []) (va_runV (As := [.int p0]) (rest := []) ⟨hx, hb, hml, hown, hts⟩ (c_X12_isPool l D c H.size r p0) (kw_V 1 hts wd_1445 wd_1447 wd_45 wd_90 wd_1448 rfl rfl (by decide +kernel) ⟨Nat.le_of_ble_eq_true rfl, Nat.le_of_ble_eq_true rfl⟩) (pre_V hPc hK hDc hN hO (ci := 12) (q0 := 0) rfl rfl) rfl rfl hl.1 rfl (lv_room (Nat.le_of_ble_eq_true rfl)) dX12_lease_18 ⟨Nat.le_of_ble_eq_true rfl, Nat.le_of_ble_eq_true rfl⟩) hP hD hS hA [0] [] rfl rfl (by decide) (by decide) (fun r4 u5 H locs h6 hP hD hS => ?_)
  have hP : va_P D vwCl [((r 0), .inr (12, fM r 0 0))] H := hP
  have hD : va_D A [((r 0), .inr (12, fM r 0 0))] := hD
  obtain rfl : r4 = 0 := h6
  refine lv_if_eq (tgt := 53) hx hb dX12_lease_21 (by decide) (fun _ => ?_) (fun c => False.elim (by revert c; decide))
  refine lv_iconst (v := (-1)) hx hb dX12_lease_53 (by decide) ?_
  exact rt_i hx hb hr hlocks hK hP hD hS rfl dX12_lease_54 () [] rfl rfl rfl
set_option maxHeartbeats 4000000 in
set_option maxRecDepth 100000 in
/-- X12_due -/
theorem c_X12_due (l : Launch) (D : va_G) (c : Nat → ClassId) (sz : Nat) (r : Nat → Nat) (k : Int32) (t : Int32) : Met l yX12_due (.code yX12_due cX12_due 3 (some .int) :: Wd) ({ frames := 1, cells := 0, slots := 0, locals := 22 }) (va_Pc [.ref (r 0), .int k, .int t] (WB D c [((r 0), .inr (12, fM r 0 0))] sz)) (QI (S := Unit) D c (fun q _ => q = -1) (fun _ => []) (va_A [((r 0), .inr (12, fM r 0 0))] sz)) 0 0 (va_A [((r 0), .inr (12, fM r 0 0))] sz) := by
  refine kz_met (Qc := QI (S := Unit) D c (fun q _ => q = -1) (fun _ => [])) (by decide) (Nat.le_of_ble_eq_true rfl) ?_
  intro p e s m below meth cd A ls H locs hx hb hr hml hts hown hlocks hin hN hO hK hP hD hS hA hl
  have hl : lv_has ls 3 [(0, .ref (r 0)), (1, .int k), (2, .int t)] := hl
  have hown : s.vm.findClass RX12 = some m.cls := hown
  refine lv_iload_n hx hb dX12_due_0 rfl (lv_at hl 1 rfl) ?_
  refine lv_iconst (v := 0) hx hb dX12_due_1 (by decide) ?_
  refine lv_aload_n hx hb dX12_due_2 rfl (lv_at hl 0 rfl) ?_
  refine va_get (D := D) (ci := 12) (v := .int 0) (C := RX12) (T := TX12) (N := 92) hx hb hts inW_12 hown hK hP 0 rfl rfl 86 (by decide) (hts _ wd_1206) (fun _ h9 => h9) rfl dX12_due_3 ?_
  refine lv_iconst (v := 1) hx hb dX12_due_6 (by decide) ?_
  refine lv_isub hx hb dX12_due_7 ?_
  refine lv_topi (fun v1 e2 => ?_)
  obtain rfl : v1 = (-1) := e2.trans (by decide)
  have hPc := hP.sub (ws' := []) [] rfl
  have hDc := hD.sub (ws' := []) [] (by decide) rfl
  refine cl_i (wr := [((r 0), .inr (12, fM r 0 0))]) (va_runS (As := [.int k, .int 0, .int (-1)]) (rest := []) ⟨hx, hb, hml, hown, hts⟩ (c_X12_in l D c H.size k 0 ((-1))) (kw_S 3 hts wd_1407 wd_1408 wd_90 wd_1409 rfl rfl (by decide +kernel) ⟨Nat.le_of_ble_eq_true rfl, Nat.le_of_ble_eq_true rfl⟩) (pre_S hPc hK hDc hN hO) rfl rfl hl.1 rfl (lv_room (Nat.le_of_ble_eq_true rfl)) dX12_due_8 ⟨Nat.le_of_ble_eq_true rfl, Nat.le_of_ble_eq_true rfl⟩) hP hD hS hA [] [0] rfl rfl (by decide) (by decide) (fun r3 u4 H locs h5 hP hD hS => ?_)
  have hP : va_P D vwCl [((r 0), .inr (12, fM r 0 0))] H := hP
  have hD : va_D A [((r 0), .inr (12, fM r 0 0))] := hD
  rcases inB_c h5 with ⟨h6, rfl⟩ | ⟨h6, rfl⟩
  · exact absurd h6 (inB_no (by decide))
  · refine lv_if_eq (tgt := 40) hx hb dX12_due_11 (by decide) (fun _ => ?_) (fun c => False.elim (by revert c; decide))
    refine lv_iconst (v := (-1)) hx hb dX12_due_40 (by decide) ?_
    exact rt_i hx hb hr hlocks hK hP hD hS rfl dX12_due_41 () [] rfl rfl rfl
set_option maxHeartbeats 4000000 in
set_option maxRecDepth 100000 in
/-- X12_pay -/
theorem c_X12_pay (l : Launch) (D : va_G) (c : Nat → ClassId) (sz : Nat) (r : Nat → Nat) (k : Int32) : Met l yX12_pay (.code yX12_pay cX12_pay 4 (some .int) :: Wd) ({ frames := 1, cells := 0, slots := 0, locals := 22 }) (va_Pc [.ref (r 0), .int k] (WB D c [((r 0), .inr (12, fM r 0 0))] sz)) (QI (S := Unit) D c (fun q _ => q = -1000000) (fun _ => []) (va_A [((r 0), .inr (12, fM r 0 0))] sz)) 0 0 (va_A [((r 0), .inr (12, fM r 0 0))] sz) := by
  refine kz_met (Qc := QI (S := Unit) D c (fun q _ => q = -1000000) (fun _ => [])) (by decide) (Nat.le_of_ble_eq_true rfl) ?_
  intro p e s m below meth cd A ls H locs hx hb hr hml hts hown hlocks hin hN hO hK hP hD hS hA hl
  have hl : lv_has ls 4 [(0, .ref (r 0)), (1, .int k)] := hl
  have hown : s.vm.findClass RX12 = some m.cls := hown
  refine lv_iload_n hx hb dX12_pay_0 rfl (lv_at hl 1 rfl) ?_
  refine lv_iconst (v := 0) hx hb dX12_pay_1 (by decide) ?_
  refine lv_aload_n hx hb dX12_pay_2 rfl (lv_at hl 0 rfl) ?_
  refine va_get (D := D) (ci := 12) (v := .int 0) (C := RX12) (T := TX12) (N := 92) hx hb hts inW_12 hown hK hP 0 rfl rfl 86 (by decide) (hts _ wd_1206) (fun _ h9 => h9) rfl dX12_pay_3 ?_
  refine lv_iconst (v := 1) hx hb dX12_pay_6 (by decide) ?_
  refine lv_isub hx hb dX12_pay_7 ?_
  refine lv_topi (fun v1 e2 => ?_)
  obtain rfl : v1 = (-1) := e2.trans (by decide)
  have hPc := hP.sub (ws' := []) [] rfl
  have hDc := hD.sub (ws' := []) [] (by decide) rfl
  refine cl_i (wr := [((r 0), .inr (12, fM r 0 0))]) (va_runS (As := [.int k, .int 0, .int (-1)]) (rest := []) ⟨hx, hb, hml, hown, hts⟩ (c_X12_in l D c H.size k 0 ((-1))) (kw_S 3 hts wd_1407 wd_1408 wd_90 wd_1409 rfl rfl (by decide +kernel) ⟨Nat.le_of_ble_eq_true rfl, Nat.le_of_ble_eq_true rfl⟩) (pre_S hPc hK hDc hN hO) rfl rfl hl.1 rfl (lv_room (Nat.le_of_ble_eq_true rfl)) dX12_pay_8 ⟨Nat.le_of_ble_eq_true rfl, Nat.le_of_ble_eq_true rfl⟩) hP hD hS hA [] [0] rfl rfl (by decide) (by decide) (fun r3 u4 H locs h5 hP hD hS => ?_)
  have hP : va_P D vwCl [((r 0), .inr (12, fM r 0 0))] H := hP
  have hD : va_D A [((r 0), .inr (12, fM r 0 0))] := hD
  rcases inB_c h5 with ⟨h6, rfl⟩ | ⟨h6, rfl⟩
  · exact absurd h6 (inB_no (by decide))
  · refine lv_if_eq (tgt := 21) hx hb dX12_pay_11 (by decide) (fun _ => ?_) (fun c => False.elim (by revert c; decide))
    refine lv_ldcw (v := (-1000000)) hx hb hown (hts _ wd_1718) dX12_pay_21 ?_
    exact rt_i hx hb hr hlocks hK hP hD hS rfl dX12_pay_24 () [] rfl rfl rfl
set_option maxHeartbeats 4000000 in
set_option maxRecDepth 100000 in
/-- X12_count -/
theorem c_X12_count (l : Launch) (D : va_G) (c : Nat → ClassId) (sz : Nat) (r : Nat → Nat) (w : Int32) : Met l yX12_count (.code yX12_count cX12_count 2 (some .int) :: Wd) ({ frames := 1, cells := 0, slots := 0, locals := 22 }) (va_Pc [.ref (r 0), .int w] (WB D c [((r 0), .inr (12, fM r 0 0)), ((r 9), .inl (c 0, 3, .inl (setF)))] sz)) (QI (S := Unit) D c (fun q _ => q = f_count w) (fun _ => []) (va_A [((r 0), .inr (12, fM r 0 0)), ((r 9), .inl (c 0, 3, .inl (setF)))] sz)) 0 0 (va_A [((r 0), .inr (12, fM r 0 0)), ((r 9), .inl (c 0, 3, .inl (setF)))] sz) := by
  refine kz_met (Qc := QI (S := Unit) D c (fun q _ => q = f_count w) (fun _ => [])) (by decide) (Nat.le_of_ble_eq_true rfl) ?_
  intro p e s m below meth cd A ls H locs hx hb hr hml hts hown hlocks hin hN hO hK hP hD hS hA hl
  have hl : lv_has ls 2 [(0, .ref (r 0)), (1, .int w)] := hl
  have hown : s.vm.findClass RX12 = some m.cls := hown
  refine lv_iload_n hx hb dX12_count_0 rfl (lv_at hl 1 rfl) ?_
  by_cases c1 : w = 0
  · subst c1
    refine lv_tableIn (tgt := 60) hx hb dX12_count_1 (by decide) (by decide) rfl (by decide) ?_
    refine lv_aload_n hx hb dX12_count_60 rfl (lv_at hl 0 rfl) ?_
    refine va_get (D := D) (ci := 12) (v := .int 0) (C := RX12) (T := TX12) (N := 92) hx hb hts inW_12 hown hK hP 0 rfl rfl 0 (by decide) (hts _ wd_1120) (fun _ h9 => h9) rfl dX12_count_61 ?_
    exact rt_i hx hb hr hlocks hK hP hD hS rfl dX12_count_64 () [] rfl rfl (by decide)
  · by_cases c2 : w = 1
    · subst c2
      refine lv_tableIn (tgt := 65) hx hb dX12_count_1 (by decide) (by decide) rfl (by decide) ?_
      refine lv_aload_n hx hb dX12_count_65 rfl (lv_at hl 0 rfl) ?_
      refine va_get (D := D) (ci := 12) (v := .int 0) (C := RX12) (T := TX12) (N := 92) hx hb hts inW_12 hown hK hP 0 rfl rfl 1 (by decide) (hts _ wd_1121) (fun _ h9 => h9) rfl dX12_count_66 ?_
      exact rt_i hx hb hr hlocks hK hP hD hS rfl dX12_count_69 () [] rfl rfl (by decide)
    · by_cases c3 : w = 2
      · subst c3
        refine lv_tableIn (tgt := 70) hx hb dX12_count_1 (by decide) (by decide) rfl (by decide) ?_
        refine lv_aload_n hx hb dX12_count_70 rfl (lv_at hl 0 rfl) ?_
        refine va_get (D := D) (ci := 12) (v := .int 0) (C := RX12) (T := TX12) (N := 92) hx hb hts inW_12 hown hK hP 0 rfl rfl 4 (by decide) (hts _ wd_1124) (fun _ h9 => h9) rfl dX12_count_71 ?_
        exact rt_i hx hb hr hlocks hK hP hD hS rfl dX12_count_74 () [] rfl rfl (by decide)
      · by_cases c4 : w = 3
        · subst c4
          refine lv_tableIn (tgt := 75) hx hb dX12_count_1 (by decide) (by decide) rfl (by decide) ?_
          refine lv_aload_n hx hb dX12_count_75 rfl (lv_at hl 0 rfl) ?_
          refine va_get (D := D) (ci := 12) (v := .int 0) (C := RX12) (T := TX12) (N := 92) hx hb hts inW_12 hown hK hP 0 rfl rfl 10 (by decide) (hts _ wd_1130) (fun _ h9 => h9) rfl dX12_count_76 ?_
          exact rt_i hx hb hr hlocks hK hP hD hS rfl dX12_count_79 () [] rfl rfl (by decide)
        · by_cases c5 : w = 4
          · subst c5
            refine lv_tableIn (tgt := 80) hx hb dX12_count_1 (by decide) (by decide) rfl (by decide) ?_
            refine lv_aload_n hx hb dX12_count_80 rfl (lv_at hl 0 rfl) ?_
            refine va_get (D := D) (ci := 12) (v := .int 0) (C := RX12) (T := TX12) (N := 92) hx hb hts inW_12 hown hK hP 0 rfl rfl 57 (by decide) (hts _ wd_1177) (fun _ h9 => h9) rfl dX12_count_81 ?_
            exact rt_i hx hb hr hlocks hK hP hD hS rfl dX12_count_84 () [] rfl rfl (by decide)
          · by_cases c6 : w = 5
            · subst c6
              refine lv_tableIn (tgt := 85) hx hb dX12_count_1 (by decide) (by decide) rfl (by decide) ?_
              refine lv_aload_n hx hb dX12_count_85 rfl (lv_at hl 0 rfl) ?_
              refine va_get (D := D) (ci := 12) (v := .int 0) (C := RX12) (T := TX12) (N := 92) hx hb hts inW_12 hown hK hP 0 rfl rfl 62 (by decide) (hts _ wd_1182) (fun _ h9 => h9) rfl dX12_count_86 ?_
              exact rt_i hx hb hr hlocks hK hP hD hS rfl dX12_count_89 () [] rfl rfl (by decide)
            · by_cases c7 : w = 6
              · subst c7
                refine lv_tableIn (tgt := 90) hx hb dX12_count_1 (by decide) (by decide) rfl (by decide) ?_
                refine lv_aload_n hx hb dX12_count_90 rfl (lv_at hl 0 rfl) ?_
                refine va_get (D := D) (ci := 12) (v := .int 0) (C := RX12) (T := TX12) (N := 92) hx hb hts inW_12 hown hK hP 0 rfl rfl 86 (by decide) (hts _ wd_1206) (fun _ h9 => h9) rfl dX12_count_91 ?_
                exact rt_i hx hb hr hlocks hK hP hD hS rfl dX12_count_94 () [] rfl rfl (by decide)
              · by_cases c8 : w = 7
                · subst c8
                  refine lv_tableIn (tgt := 95) hx hb dX12_count_1 (by decide) (by decide) rfl (by decide) ?_
                  refine lv_aload_n hx hb dX12_count_95 rfl (lv_at hl 0 rfl) ?_
                  refine va_get (D := D) (ci := 12) (v := .int 0) (C := RX12) (T := TX12) (N := 92) hx hb hts inW_12 hown hK hP 0 rfl rfl 45 (by decide) (hts _ wd_1165) (fun _ h9 => h9) rfl dX12_count_96 ?_
                  exact rt_i hx hb hr hlocks hK hP hD hS rfl dX12_count_99 () [] rfl rfl (by decide)
                · by_cases c9 : w = 8
                  · subst c9
                    refine lv_tableIn (tgt := 100) hx hb dX12_count_1 (by decide) (by decide) rfl (by decide) ?_
                    refine lv_aload_n hx hb dX12_count_100 rfl (lv_at hl 0 rfl) ?_
                    refine va_get (D := D) (ci := 12) (v := .ref (r 9)) (C := RX12) (T := TX12) (N := 92) hx hb hts inW_12 hown hK hP 0 rfl rfl 8 (by decide) (hts _ wd_1128) (fun _ h9 => h9) rfl dX12_count_101 ?_
                    refine lv_iload_n hx hb dX12_count_104 rfl (lv_at hl 1 rfl) ?_
                    refine lv_bipush (v := 8) hx hb dX12_count_105 (by decide) ?_
                    refine lv_isub hx hb dX12_count_107 ?_
                    refine lv_topi (fun v10 e11 => ?_)
                    obtain rfl : v10 = 0 := e11.trans (by decide)
                    refine va_iald hx hb hK hP 1 0 rfl rfl (vp_in_iff.mpr (by decide)) dX12_count_108 ?_
                    refine lv_topi (fun v12 e13 => ?_)
                    obtain rfl : v12 = 100 := (by first | exact e13 | exact e13.trans (by decide))
                    exact rt_i hx hb hr hlocks hK hP hD hS rfl dX12_count_109 () [] rfl rfl (by decide)
                  · by_cases c14 : w = 9
                    · subst c14
                      refine lv_tableIn (tgt := 100) hx hb dX12_count_1 (by decide) (by decide) rfl (by decide) ?_
                      refine lv_aload_n hx hb dX12_count_100 rfl (lv_at hl 0 rfl) ?_
                      refine va_get (D := D) (ci := 12) (v := .ref (r 9)) (C := RX12) (T := TX12) (N := 92) hx hb hts inW_12 hown hK hP 0 rfl rfl 8 (by decide) (hts _ wd_1128) (fun _ h9 => h9) rfl dX12_count_101 ?_
                      refine lv_iload_n hx hb dX12_count_104 rfl (lv_at hl 1 rfl) ?_
                      refine lv_bipush (v := 8) hx hb dX12_count_105 (by decide) ?_
                      refine lv_isub hx hb dX12_count_107 ?_
                      refine lv_topi (fun v15 e16 => ?_)
                      obtain rfl : v15 = 1 := e16.trans (by decide)
                      refine va_iald hx hb hK hP 1 0 rfl rfl (vp_in_iff.mpr (by decide)) dX12_count_108 ?_
                      refine lv_topi (fun v17 e18 => ?_)
                      obtain rfl : v17 = 150 := (by first | exact e18 | exact e18.trans (by decide))
                      exact rt_i hx hb hr hlocks hK hP hD hS rfl dX12_count_109 () [] rfl rfl (by decide)
                    · by_cases c19 : w = 10
                      · subst c19
                        refine lv_tableIn (tgt := 100) hx hb dX12_count_1 (by decide) (by decide) rfl (by decide) ?_
                        refine lv_aload_n hx hb dX12_count_100 rfl (lv_at hl 0 rfl) ?_
                        refine va_get (D := D) (ci := 12) (v := .ref (r 9)) (C := RX12) (T := TX12) (N := 92) hx hb hts inW_12 hown hK hP 0 rfl rfl 8 (by decide) (hts _ wd_1128) (fun _ h9 => h9) rfl dX12_count_101 ?_
                        refine lv_iload_n hx hb dX12_count_104 rfl (lv_at hl 1 rfl) ?_
                        refine lv_bipush (v := 8) hx hb dX12_count_105 (by decide) ?_
                        refine lv_isub hx hb dX12_count_107 ?_
                        refine lv_topi (fun v20 e21 => ?_)
                        obtain rfl : v20 = 2 := e21.trans (by decide)
                        refine va_iald hx hb hK hP 1 0 rfl rfl (vp_in_iff.mpr (by decide)) dX12_count_108 ?_
                        refine lv_topi (fun v22 e23 => ?_)
                        obtain rfl : v22 = 8 := (by first | exact e23 | exact e23.trans (by decide))
                        exact rt_i hx hb hr hlocks hK hP hD hS rfl dX12_count_109 () [] rfl rfl (by decide)
                      · refine lv_tableOut (tgt := 110) hx hb dX12_count_1 (by simp only [← Int32.toInt_inj, Int32.reduceToInt] at c1 c2 c3 c4 c5 c6 c7 c8 c9 c14 c19; omega) (by decide) ?_
                        refine lv_iload_n hx hb dX12_count_110 rfl (lv_at hl 1 rfl) ?_
                        refine lv_bipush (v := 20) hx hb dX12_count_111 (by decide) ?_
                        refine lv_bipush (v := 19) hx hb dX12_count_113 (by decide) ?_
                        refine lv_aload_n hx hb dX12_count_115 rfl (lv_at hl 0 rfl) ?_
                        refine va_get (D := D) (ci := 12) (v := .int 0) (C := RX12) (T := TX12) (N := 92) hx hb hts inW_12 hown hK hP 0 rfl rfl 86 (by decide) (hts _ wd_1206) (fun _ h9 => h9) rfl dX12_count_116 ?_
                        refine lv_iadd hx hb dX12_count_119 ?_
                        refine lv_topi (fun v24 e25 => ?_)
                        obtain rfl : v24 = 19 := e25.trans (by decide)
                        have hPc := hP.sub (ws' := []) [] rfl
                        have hDc := hD.sub (ws' := []) [] (by decide) rfl
                        refine cl_i (wr := [((r 0), .inr (12, fM r 0 0)), ((r 9), .inl (c 0, 3, .inl (setF)))]) (va_runS (As := [.int w, .int 20, .int 19]) (rest := []) ⟨hx, hb, hml, hown, hts⟩ (c_X12_in l D c H.size w 20 19) (kw_S 3 hts wd_1407 wd_1408 wd_90 wd_1409 rfl rfl (by decide +kernel) ⟨Nat.le_of_ble_eq_true rfl, Nat.le_of_ble_eq_true rfl⟩) (pre_S hPc hK hDc hN hO) rfl rfl hl.1 rfl (lv_room (Nat.le_of_ble_eq_true rfl)) dX12_count_120 ⟨Nat.le_of_ble_eq_true rfl, Nat.le_of_ble_eq_true rfl⟩) hP hD hS hA [] [0, 1] rfl rfl (by decide) (by decide) (fun r26 u27 H locs h28 hP hD hS => ?_)
                        have hP : va_P D vwCl [((r 0), .inr (12, fM r 0 0)), ((r 9), .inl (c 0, 3, .inl (setF)))] H := hP
                        have hD : va_D A [((r 0), .inr (12, fM r 0 0)), ((r 9), .inl (c 0, 3, .inl (setF)))] := hD
                        rcases inB_c h28 with ⟨h29, rfl⟩ | ⟨h29, rfl⟩
                        · exact absurd h29 (inB_no (by decide))
                        · refine lv_if_eq (tgt := 138) hx hb dX12_count_123 (by decide) (fun _ => ?_) (fun c => False.elim (by revert c; decide))
                          refine lv_iconst (v := (-1)) hx hb dX12_count_138 (by decide) ?_
                          exact rt_i hx hb hr hlocks hK hP hD hS rfl dX12_count_139 () [] rfl rfl (by show ((-1) : Int32) = _; unfold f_count; rw [if_neg c9, if_neg c14, if_neg c19]; (try simp only [Int32.le_iff_toInt_le, Int32.lt_iff_toInt_lt, ← Int32.toInt_inj, Int32.reduceToInt] at c1); (try simp only [Int32.le_iff_toInt_le, Int32.lt_iff_toInt_lt, ← Int32.toInt_inj, Int32.reduceToInt] at c2); (try simp only [Int32.le_iff_toInt_le, Int32.lt_iff_toInt_lt, ← Int32.toInt_inj, Int32.reduceToInt] at c3); (try simp only [Int32.le_iff_toInt_le, Int32.lt_iff_toInt_lt, ← Int32.toInt_inj, Int32.reduceToInt] at c4); (try simp only [Int32.le_iff_toInt_le, Int32.lt_iff_toInt_lt, ← Int32.toInt_inj, Int32.reduceToInt] at c5); (try simp only [Int32.le_iff_toInt_le, Int32.lt_iff_toInt_lt, ← Int32.toInt_inj, Int32.reduceToInt] at c6); (try simp only [Int32.le_iff_toInt_le, Int32.lt_iff_toInt_lt, ← Int32.toInt_inj, Int32.reduceToInt] at c7); (try simp only [Int32.le_iff_toInt_le, Int32.lt_iff_toInt_lt, ← Int32.toInt_inj, Int32.reduceToInt] at c8); (try simp only [Int32.le_iff_toInt_le, Int32.lt_iff_toInt_lt, ← Int32.toInt_inj, Int32.reduceToInt] at c9); (try simp only [Int32.le_iff_toInt_le, Int32.lt_iff_toInt_lt, ← Int32.toInt_inj, Int32.reduceToInt] at c14); (try simp only [Int32.le_iff_toInt_le, Int32.lt_iff_toInt_lt, ← Int32.toInt_inj, Int32.reduceToInt] at c19); (try simp only [Int32.le_iff_toInt_le, Int32.lt_iff_toInt_lt, ← Int32.toInt_inj, Int32.reduceToInt] at h29); rw [if_neg (by omega)])
set_option maxHeartbeats 4000000 in
set_option maxRecDepth 100000 in
/-- X12_isStorm -/
theorem c_X12_isStorm (l : Launch) (D : va_G) (c : Nat → ClassId) (sz : Nat) (r : Nat → Nat) (now : Int32) (d : Int32) (k : Int32) : Met l yX12_isStorm (.code yX12_isStorm cX12_isStorm 4 (some .boolean) :: Wd) ({ frames := 1, cells := 0, slots := 0, locals := 23 }) (va_Pc [.ref (r 0), .int d, .int k] (WB D c [((r 0), .inr (12, fM r now 0)), ((r 9), .inl (c 0, 3, .inl (setF)))] sz)) (QI (S := Unit) D c (fun q _ => q = 0) (fun _ => [((r 0), .inr (12, fM r now 0)), ((r 9), .inl (c 0, 3, .inl (setF)))]) (va_A [((r 0), .inr (12, fM r now 0)), ((r 9), .inl (c 0, 3, .inl (setF)))] sz)) 0 0 (va_A [((r 0), .inr (12, fM r now 0)), ((r 9), .inl (c 0, 3, .inl (setF)))] sz) := by
  refine kz_met (Qc := QI (S := Unit) D c (fun q _ => q = 0) (fun _ => [((r 0), .inr (12, fM r now 0)), ((r 9), .inl (c 0, 3, .inl (setF)))])) (by decide) (Nat.le_of_ble_eq_true rfl) ?_
  intro p e s m below meth cd A ls H locs hx hb hr hml hts hown hlocks hin hN hO hK hP hD hS hA hl
  have hl : lv_has ls 4 [(0, .ref (r 0)), (1, .int d), (2, .int k)] := hl
  have hown : s.vm.findClass RX12 = some m.cls := hown
  refine lv_bipush (v := 24) hx hb dX12_isStorm_0 (by decide) ?_
  refine lv_iload_n hx hb dX12_isStorm_2 rfl (lv_at hl 1 rfl) ?_
  refine lv_imul hx hb dX12_isStorm_3 ?_
  refine lv_topi (fun v1 e2 => ?_)
  refine lv_istore_n (lv' := [(3, .int v1), (0, .ref (r 0)), (1, .int d), (2, .int k)]) hx hb dX12_isStorm_4 rfl hl (by decide) rfl (fun ls hl => ?_)
  have loop : ∀ (n : Nat) (i : Int32) (ls : Array Slot) (H : Heap) (locs : List Loc), ((24 * d + 24 : Int32).toInt - i.toInt).toNat < n → va_P D vwCl [((r 0), .inr (12, fM r now 0)), ((r 9), .inl (c 0, 3, .inl (setF)))] H → va_D A [((r 0), .inr (12, fM r now 0)), ((r 9), .inl (c 0, 3, .inl (setF)))] → va_S A s.heap H locs → lv_has ls 4 [(0, .ref (r 0)), (1, .int d), (2, .int k), (3, .int i)] → W p l e (headSpec (Cond.code yX12_isStorm cX12_isStorm 4 (some .boolean) :: Wd) ({ frames := 1, cells := 0, slots := 0, locals := 23 })).room s m ([.ref (r 0), .int d, .int k] : List Value).toArray below meth cd H locs 0 0 (MQ below (QI (S := Unit) D c (fun q _ => q = 0) (fun _ => [((r 0), .inr (12, fM r now 0)), ((r 9), .inl (c 0, 3, .inl (setF)))]) A) ([.ref (r 0), .int d, .int k] : List Value).toArray s 0 0 A) (F0 m 5 ls []) := by
    intro n
    induction n with
    | zero => exact fun _ _ _ _ h => absurd h (Nat.not_lt_zero _)
    | succ n ih =>
      intro i ls H locs hn hP hD hS hl
      refine lv_iload_n hx hb dX12_isStorm_5 rfl (lv_at hl 3 rfl) ?_
      refine lv_bipush (v := 24) hx hb dX12_isStorm_6 (by decide) ?_
      refine lv_iload_n hx hb dX12_isStorm_8 rfl (lv_at hl 1 rfl) ?_
      refine lv_imul hx hb dX12_isStorm_9 ?_
      refine lv_topi (fun v3 e4 => ?_)
      refine lv_bipush (v := 24) hx hb dX12_isStorm_10 (by decide) ?_
      refine lv_iadd hx hb dX12_isStorm_12 ?_
      refine lv_topi (fun v5 e6 => ?_)
      refine lv_icmp_ge (tgt := 39) hx hb dX12_isStorm_13 (by decide) (fun c7 => ?_) (fun c7 => ?_)
      · refine lv_iconst (v := 0) hx hb dX12_isStorm_39 (by decide) ?_
        exact rt_i hx hb hr hlocks hK hP hD hS rfl dX12_isStorm_40 () [0, 1] rfl rfl rfl
      · refine lv_aload_n hx hb dX12_isStorm_16 rfl (lv_at hl 0 rfl) ?_
        refine lv_iload_n hx hb dX12_isStorm_17 rfl (lv_at hl 3 rfl) ?_
        refine lv_iload_n hx hb dX12_isStorm_18 rfl (lv_at hl 2 rfl) ?_
        have hPc := hP.sub (ws' := [((r 0), .inr (12, fM r now 0)), ((r 9), .inl (c 0, 3, .inl (setF)))]) [0, 1] rfl
        have hDc := hD.sub (ws' := [((r 0), .inr (12, fM r now 0)), ((r 9), .inl (c 0, 3, .inl (setF)))]) [0, 1] (by decide) rfl
        refine cl_i (wr := []) (va_runV (As := [.int i, .int k]) (rest := []) ⟨hx, hb, hml, hown, hts⟩ (c_X12_waveAt l D c H.size r now i k) (kw_V 2 hts wd_1429 wd_1431 wd_44 wd_90 wd_1432 rfl rfl (by decide +kernel) ⟨Nat.le_of_ble_eq_true rfl, Nat.le_of_ble_eq_true rfl⟩) (pre_V hPc hK hDc hN hO (ci := 12) (q0 := 0) rfl rfl) rfl rfl hl.1 rfl (lv_room (Nat.le_of_ble_eq_true rfl)) dX12_isStorm_19 ⟨Nat.le_of_ble_eq_true rfl, Nat.le_of_ble_eq_true rfl⟩) hP hD hS hA [0, 1] [] rfl rfl (by decide) (by decide) (fun r8 u9 H locs h10 hP hD hS => ?_)
        have hP : va_P D vwCl [((r 0), .inr (12, fM r now 0)), ((r 9), .inl (c 0, 3, .inl (setF)))] H := hP
        have hD : va_D A [((r 0), .inr (12, fM r now 0)), ((r 9), .inl (c 0, 3, .inl (setF)))] := hD
        obtain rfl : r8 = 100 := h10
        refine lv_aload_n hx hb dX12_isStorm_22 rfl (lv_at hl 0 rfl) ?_
        refine va_get (D := D) (ci := 12) (v := .ref (r 9)) (C := RX12) (T := TX12) (N := 92) hx hb hts inW_12 hown hK hP 0 rfl rfl 8 (by decide) (hts _ wd_1128) (fun _ h9 => h9) rfl dX12_isStorm_23 ?_
        refine lv_iconst (v := 1) hx hb dX12_isStorm_26 (by decide) ?_
        refine va_iald hx hb hK hP 1 0 rfl rfl (vp_in_iff.mpr (by decide)) dX12_isStorm_27 ?_
        refine lv_topi (fun v11 e12 => ?_)
        obtain rfl : v11 = 150 := (by first | exact e12 | exact e12.trans (by decide))
        refine lv_icmp_lt (tgt := 33) hx hb dX12_isStorm_28 (by decide) (fun _ => ?_) (fun c => False.elim (by revert c; decide))
        obtain ⟨v13, e14⟩ : ∃ y : Int32, y = i + 1 := ⟨_, rfl⟩
        refine lv_iinc (v := v13) (lv' := [(3, .int v13), (0, .ref (r 0)), (1, .int d), (2, .int k)]) hx hb dX12_isStorm_33 hl (k := 3) rfl (by rw [e14]; rfl) (by decide) rfl (fun ls hl => ?_)
        refine lv_goto (tgt := 5) hx hb dX12_isStorm_36 (by decide) ?_
        rw [e6, e4] at c7
        have st := i32_step c7 hn
        refine ih v13 ls H locs (by rw [e14]; exact st.2) hP hD hS (lv_sub hl [1, 2, 3, 0] rfl)
  exact loop _ v1 ls H locs (Nat.lt_succ_self _) hP hD hS (lv_sub hl [1, 2, 3, 0] rfl)
set_option maxHeartbeats 4000000 in
set_option maxRecDepth 100000 in
/-- X12_pass -/
theorem c_X12_pass (l : Launch) (D : va_G) (c : Nat → ClassId) (sz : Nat) (r : Nat → Nat) (n : Int32) : Met l yX12_pass (.code yX12_pass cX12_pass 8 (some .int) :: Wd) ({ frames := 2, cells := 0, slots := 0, locals := 46 }) (va_Pc [.ref (r 0), .int n] (WB D c [((r 0), .inr (12, fM r 0 0)), ((r 9), .inl (c 0, 3, .inl (setF)))] sz)) (QI (S := Unit) D c (fun q _ => q = f_pass n) (fun _ => []) (va_A [((r 0), .inr (12, fM r 0 0)), ((r 9), .inl (c 0, 3, .inl (setF)))] sz)) 0 0 (va_A [((r 0), .inr (12, fM r 0 0)), ((r 9), .inl (c 0, 3, .inl (setF)))] sz) := by
  refine kz_met (Qc := QI (S := Unit) D c (fun q _ => q = f_pass n) (fun _ => [])) (by decide) (Nat.le_of_ble_eq_true rfl) ?_
  intro p e s m below meth cd A ls H locs hx hb hr hml hts hown hlocks hin hN hO hK hP hD hS hA hl
  have hl : lv_has ls 8 [(0, .ref (r 0)), (1, .int n)] := hl
  have hown : s.vm.findClass RX12 = some m.cls := hown
  refine lv_iload_n hx hb dX12_pass_0 rfl (lv_at hl 1 rfl) ?_
  refine lv_iconst (v := 1) hx hb dX12_pass_1 (by decide) ?_
  refine lv_sipush (v := 288) hx hb dX12_pass_2 (by decide) ?_
  have hPc := hP.sub (ws' := []) [] rfl
  have hDc := hD.sub (ws' := []) [] (by decide) rfl
  refine cl_i (wr := [((r 0), .inr (12, fM r 0 0)), ((r 9), .inl (c 0, 3, .inl (setF)))]) (va_runS (As := [.int n, .int 1, .int 288]) (rest := []) ⟨hx, hb, hml, hown, hts⟩ (c_X12_in l D c H.size n 1 288) (kw_S 3 hts wd_1407 wd_1408 wd_90 wd_1409 rfl rfl (by decide +kernel) ⟨Nat.le_of_ble_eq_true rfl, Nat.le_of_ble_eq_true rfl⟩) (pre_S hPc hK hDc hN hO) rfl rfl hl.1 rfl (lv_room (Nat.le_of_ble_eq_true rfl)) dX12_pass_5 ⟨Nat.le_of_ble_eq_true rfl, Nat.le_of_ble_eq_true rfl⟩) hP hD hS hA [] [0, 1] rfl rfl (by decide) (by decide) (fun r1 u2 H locs h3 hP hD hS => ?_)
  have hP : va_P D vwCl [((r 0), .inr (12, fM r 0 0)), ((r 9), .inl (c 0, 3, .inl (setF)))] H := hP
  have hD : va_D A [((r 0), .inr (12, fM r 0 0)), ((r 9), .inl (c 0, 3, .inl (setF)))] := hD
  rcases inB_c h3 with ⟨h4, rfl⟩ | ⟨h4, rfl⟩
  · refine lv_if_eq (tgt := 23) hx hb dX12_pass_8 (by decide) (fun c => False.elim (by revert c; decide)) (fun _ => ?_)
    refine lv_aload_n hx hb dX12_pass_11 rfl (lv_at hl 0 rfl) ?_
    refine va_get (D := D) (ci := 12) (v := .int 0) (C := RX12) (T := TX12) (N := 92) hx hb hts inW_12 hown hK hP 0 rfl rfl 0 (by decide) (hts _ wd_1120) (fun _ h9 => h9) rfl dX12_pass_12 ?_
    refine lv_iload_n hx hb dX12_pass_15 rfl (lv_at hl 1 rfl) ?_
    refine lv_iadd hx hb dX12_pass_16 ?_
    refine lv_topi (fun v5 e6 => ?_)
    refine lv_sipush (v := 14400) hx hb dX12_pass_17 (by decide) ?_
    refine lv_icmp_le (tgt := 25) hx hb dX12_pass_20 (by decide) (fun c7 => ?_) (fun c7 => ?_)
    · refine lv_iconst (v := 0) hx hb dX12_pass_25 (by decide) ?_
      refine lv_istore_n (lv' := [(2, .int 0), (0, .ref (r 0)), (1, .int n)]) hx hb dX12_pass_26 rfl hl (by decide) rfl (fun ls hl => ?_)
      have loop : ∀ (k : Nat) (i : Int32) (ls : Array Slot) (H : Heap) (locs : List Loc), (n.toInt - i.toInt).toNat < k → 0 ≤ i.toInt ∧ i.toInt ≤ n.toInt → va_P D vwCl [((r 0), .inr (12, fM r i 0)), ((r 9), .inl (c 0, 3, .inl (setF)))] H → va_D A [((r 0), .inr (12, fM r i 0)), ((r 9), .inl (c 0, 3, .inl (setF)))] → va_S A s.heap H locs → lv_has ls 8 [(0, .ref (r 0)), (1, .int n), (2, .int i)] → W p l e (headSpec (Cond.code yX12_pass cX12_pass 8 (some .int) :: Wd) ({ frames := 2, cells := 0, slots := 0, locals := 46 })).room s m ([.ref (r 0), .int n] : List Value).toArray below meth cd H locs 0 0 (MQ below (QI (S := Unit) D c (fun q _ => q = f_pass n) (fun _ => []) A) ([.ref (r 0), .int n] : List Value).toArray s 0 0 A) (F0 m 27 ls []) := by
        intro k
        induction k with
        | zero => exact fun _ _ _ _ h => absurd h (Nat.not_lt_zero _)
        | succ k ih =>
          intro i ls H locs hn hi hP hD hS hl
          refine lv_iload_n hx hb dX12_pass_27 rfl (lv_at hl 2 rfl) ?_
          refine lv_iload_n hx hb dX12_pass_28 rfl (lv_at hl 1 rfl) ?_
          refine lv_icmp_ge (tgt := 302) hx hb dX12_pass_29 (by decide) (fun c8 => ?_) (fun c8 => ?_)
          · refine lv_aload_n hx hb dX12_pass_302 rfl (lv_at hl 0 rfl) ?_
            refine va_get (D := D) (ci := 12) (v := .int i) (C := RX12) (T := TX12) (N := 92) hx hb hts inW_12 hown hK hP 0 rfl rfl 0 (by decide) (hts _ wd_1120) (fun _ h9 => h9) rfl dX12_pass_303 ?_
            exact rt_i hx hb hr hlocks hK hP hD hS rfl dX12_pass_306 () [] rfl rfl (by show i = _; unfold f_pass; simp only [Int32.le_iff_toInt_le, Int32.reduceToInt] at h4 c8; rw [if_pos (by omega)]; exact Int32.toInt_inj.mp (by omega))
          · refine lv_aload_n hx hb dX12_pass_32 rfl (lv_at hl 0 rfl) ?_
            refine va_get (D := D) (ci := 12) (v := .int i) (C := RX12) (T := TX12) (N := 92) hx hb hts inW_12 hown hK hP 0 rfl rfl 0 (by decide) (hts _ wd_1120) (fun _ h9 => h9) rfl dX12_pass_33 ?_
            refine lv_bipush (v := 6) hx hb dX12_pass_36 (by decide) ?_
            refine lv_idiv hx hb dX12_pass_38 (by decide) ?_
            refine lv_topi (fun v9 e10 => ?_)
            refine lv_istore_n (lv' := [(3, .int v9), (0, .ref (r 0)), (1, .int n), (2, .int i)]) hx hb dX12_pass_39 rfl hl (by decide) rfl (fun ls hl => ?_)
            refine lv_aload_n hx hb dX12_pass_40 rfl (lv_at hl 1 rfl) ?_
            refine lv_iload_n hx hb dX12_pass_41 rfl (lv_at hl 0 rfl) ?_
            refine lv_iload_n hx hb dX12_pass_42 rfl (lv_at hl 0 rfl) ?_
            have hPc := hP.sub (ws' := [((r 0), .inr (12, fM r i 0)), ((r 9), .inl (c 0, 3, .inl (setF)))]) [0, 1] rfl
            have hDc := hD.sub (ws' := [((r 0), .inr (12, fM r i 0)), ((r 9), .inl (c 0, 3, .inl (setF)))]) [0, 1] (by decide) rfl
            refine cl_i (wr := []) (va_runV (As := [.int v9, .int v9]) (rest := []) ⟨hx, hb, hml, hown, hts⟩ (c_X12_waveAt l D c H.size r i v9 v9) (kw_V 2 hts wd_1429 wd_1431 wd_44 wd_90 wd_1432 rfl rfl (by decide +kernel) ⟨Nat.le_of_ble_eq_true rfl, Nat.le_of_ble_eq_true rfl⟩) (pre_V hPc hK hDc hN hO (ci := 12) (q0 := 0) rfl rfl) rfl rfl hl.1 rfl (lv_room (Nat.le_of_ble_eq_true rfl)) dX12_pass_43 ⟨Nat.le_of_ble_eq_true rfl, Nat.le_of_ble_eq_true rfl⟩) hP hD hS hA [0, 1] [] rfl rfl (by decide) (by decide) (fun r11 u12 H locs h13 hP hD hS => ?_)
            have hP : va_P D vwCl [((r 0), .inr (12, fM r i 0)), ((r 9), .inl (c 0, 3, .inl (setF)))] H := hP
            have hD : va_D A [((r 0), .inr (12, fM r i 0)), ((r 9), .inl (c 0, 3, .inl (setF)))] := hD
            obtain rfl : r11 = 100 := h13
            refine lv_istore (lv' := [(4, .int 100), (3, .int v9), (0, .ref (r 0)), (1, .int n), (2, .int i)]) hx hb dX12_pass_46 hl (by decide) rfl (fun ls hl => ?_)
            refine lv_aload_n hx hb dX12_pass_48 rfl (lv_at hl 2 rfl) ?_
            refine va_get (D := D) (ci := 12) (v := .int i) (C := RX12) (T := TX12) (N := 92) hx hb hts inW_12 hown hK hP 0 rfl rfl 0 (by decide) (hts _ wd_1120) (fun _ h9 => h9) rfl dX12_pass_49 ?_
            refine lv_sipush (v := 144) hx hb dX12_pass_52 (by decide) ?_
            refine lv_irem hx hb dX12_pass_55 (by decide) ?_
            refine lv_topi (fun v14 e15 => ?_)
            refine lv_sipush (v := 143) hx hb dX12_pass_56 (by decide) ?_
            refine lv_icmp_ne (tgt := 66) hx hb dX12_pass_59 (by decide) (fun c16 => ?_) (fun c16 => ?_)
            · refine lv_iconst (v := 0) hx hb dX12_pass_66 (by decide) ?_
              refine lv_istore (lv' := [(5, .int 0), (4, .int 100), (3, .int v9), (0, .ref (r 0)), (1, .int n), (2, .int i)]) hx hb dX12_pass_67 hl (by decide) rfl (fun ls hl => ?_)
              refine lv_iload hx hb dX12_pass_69 (lv_at hl 0 rfl) ?_
              refine lv_if_eq (tgt := 94) hx hb dX12_pass_71 (by decide) (fun _ => ?_) (fun c => False.elim (by revert c; decide))
              refine lv_iconst (v := 0) hx hb dX12_pass_94 (by decide) ?_
              refine lv_istore (lv' := [(6, .int 0), (5, .int 0), (4, .int 100), (3, .int v9), (0, .ref (r 0)), (1, .int n), (2, .int i)]) hx hb dX12_pass_95 hl (by decide) rfl (fun ls hl => ?_)
              refine lv_iconst (v := 0) hx hb dX12_pass_97 (by decide) ?_
              refine lv_istore (lv' := [(7, .int 0), (6, .int 0), (5, .int 0), (4, .int 100), (3, .int v9), (0, .ref (r 0)), (1, .int n), (2, .int i)]) hx hb dX12_pass_98 hl (by decide) rfl (fun ls hl => ?_)
              refine lv_iload hx hb dX12_pass_100 (lv_at hl 0 rfl) ?_
              refine lv_aload_n hx hb dX12_pass_102 rfl (lv_at hl 5 rfl) ?_
              refine va_get (D := D) (ci := 12) (v := .int 0) (C := RX12) (T := TX12) (N := 92) hx hb hts inW_12 hown hK hP 0 rfl rfl 10 (by decide) (hts _ wd_1130) (fun _ h9 => h9) rfl dX12_pass_103 ?_
              refine lv_icmp_ge (tgt := 286) hx hb dX12_pass_106 (by decide) (fun _ => ?_) (fun c => False.elim (by revert c; decide))
              refine lv_aload_n hx hb dX12_pass_286 rfl (lv_at hl 5 rfl) ?_
              refine lv_dup hx hb dX12_pass_287 rfl ?_
              refine va_get (D := D) (ci := 12) (v := .int i) (C := RX12) (T := TX12) (N := 92) hx hb hts inW_12 hown hK hP 0 rfl rfl 0 (by decide) (hts _ wd_1120) (fun _ h9 => h9) rfl dX12_pass_288 ?_
              refine lv_iconst (v := 1) hx hb dX12_pass_291 (by decide) ?_
              refine lv_iadd hx hb dX12_pass_292 ?_
              refine lv_topi (fun v17 e18 => ?_)
              refine va_put (D := D) (ci := 12) (v := .int v17) (ty := .int) (C := RX12) (T := TX12) (N := 92) hx hb hts inW_12 tyX12 tyX12_ok nmX12 hown hK hP hD hS 0 rfl rfl 0 (by decide) (hts _ wd_1120) (fun _ h9 => h9) rfl (by decide +kernel) rfl rfl (Nat.le_of_ble_eq_true rfl) dX12_pass_293 (fun H locs hP hD hS => ?_)
              have hP : va_P D vwCl [((r 0), .inr (12, (fM r i 0).set 0 (.int v17))), ((r 9), .inl (c 0, 3, .inl (setF)))] H := hP
              have hD : va_D A [((r 0), .inr (12, (fM r i 0).set 0 (.int v17))), ((r 9), .inl (c 0, 3, .inl (setF)))] := hD
              obtain ⟨v19, e20⟩ : ∃ y : Int32, y = i + 1 := ⟨_, rfl⟩
              refine lv_iinc (v := v19) (lv' := [(2, .int v19), (7, .int 0), (6, .int 0), (5, .int 0), (4, .int 100), (3, .int v9), (0, .ref (r 0)), (1, .int n)]) hx hb dX12_pass_296 hl (k := 7) rfl (by rw [e20]; rfl) (by decide) rfl (fun ls hl => ?_)
              refine lv_goto (tgt := 27) hx hb dX12_pass_299 (by decide) ?_
              have st := i32_step c8 hn
              have sq : v17 = v19 := e18.trans e20.symm
              rw [sq] at hP hD
              have hP := hP.sub (ws' := [((r 0), .inr (12, fM r v19 0)), ((r 9), .inl (c 0, 3, .inl (setF)))]) [0, 1] rfl
              have hD := hD.sub (ws' := [((r 0), .inr (12, fM r v19 0)), ((r 9), .inl (c 0, 3, .inl (setF)))]) [0, 1] (by decide) rfl
              have c9 : ¬ n.toInt ≤ i.toInt := fun z => c8 (Int32.le_iff_toInt_le.mpr z)
              exact ih v19 ls H locs (by rw [e20]; exact st.2) (by rw [e20, st.1]; omega) hP hD hS (lv_sub hl [6, 7, 0] rfl)
            · subst c16
              refine lv_iconst (v := 1) hx hb dX12_pass_62 (by decide) ?_
              refine lv_goto (tgt := 67) hx hb dX12_pass_63 (by decide) ?_
              refine lv_istore (lv' := [(5, .int 1), (4, .int 100), (3, .int v9), (0, .ref (r 0)), (1, .int n), (2, .int i)]) hx hb dX12_pass_67 hl (by decide) rfl (fun ls hl => ?_)
              refine lv_iload hx hb dX12_pass_69 (lv_at hl 0 rfl) ?_
              refine lv_if_eq (tgt := 94) hx hb dX12_pass_71 (by decide) (fun c => False.elim (by revert c; decide)) (fun _ => ?_)
              refine lv_aload_n hx hb dX12_pass_74 rfl (lv_at hl 3 rfl) ?_
              refine lv_aload_n hx hb dX12_pass_75 rfl (lv_at hl 3 rfl) ?_
              refine va_get (D := D) (ci := 12) (v := .int i) (C := RX12) (T := TX12) (N := 92) hx hb hts inW_12 hown hK hP 0 rfl rfl 0 (by decide) (hts _ wd_1120) (fun _ h9 => h9) rfl dX12_pass_76 ?_
              refine lv_sipush (v := 144) hx hb dX12_pass_79 (by decide) ?_
              refine lv_idiv hx hb dX12_pass_82 (by decide) ?_
              refine lv_topi (fun v21 e22 => ?_)
              refine lv_iload_n hx hb dX12_pass_83 rfl (lv_at hl 2 rfl) ?_
              have hPc := hP.sub (ws' := [((r 0), .inr (12, fM r i 0)), ((r 9), .inl (c 0, 3, .inl (setF)))]) [0, 1] rfl
              have hDc := hD.sub (ws' := [((r 0), .inr (12, fM r i 0)), ((r 9), .inl (c 0, 3, .inl (setF)))]) [0, 1] (by decide) rfl
              refine cl_i (wr := []) (va_runV (As := [.int v21, .int v9]) (rest := []) ⟨hx, hb, hml, hown, hts⟩ (c_X12_isStorm l D c H.size r i v21 v9) (kw_V 2 hts wd_1473 wd_1475 wd_46 wd_90 wd_1476 rfl rfl (by decide +kernel) ⟨Nat.le_of_ble_eq_true rfl, Nat.le_of_ble_eq_true rfl⟩) (pre_V hPc hK hDc hN hO (ci := 12) (q0 := 0) rfl rfl) rfl rfl hl.1 rfl (lv_room (Nat.le_of_ble_eq_true rfl)) dX12_pass_84 ⟨Nat.le_of_ble_eq_true rfl, Nat.le_of_ble_eq_true rfl⟩) hP hD hS hA [0, 1] [] rfl rfl (by decide) (by decide) (fun r23 u24 H locs h25 hP hD hS => ?_)
              have hP : va_P D vwCl [((r 0), .inr (12, fM r i 0)), ((r 9), .inl (c 0, 3, .inl (setF)))] H := hP
              have hD : va_D A [((r 0), .inr (12, fM r i 0)), ((r 9), .inl (c 0, 3, .inl (setF)))] := hD
              obtain rfl : r23 = 0 := h25
              refine lv_if_eq (tgt := 94) hx hb dX12_pass_87 (by decide) (fun _ => ?_) (fun c => False.elim (by revert c; decide))
              refine lv_iconst (v := 0) hx hb dX12_pass_94 (by decide) ?_
              refine lv_istore (lv' := [(6, .int 0), (5, .int 1), (4, .int 100), (3, .int v9), (0, .ref (r 0)), (1, .int n), (2, .int i)]) hx hb dX12_pass_95 hl (by decide) rfl (fun ls hl => ?_)
              refine lv_iconst (v := 0) hx hb dX12_pass_97 (by decide) ?_
              refine lv_istore (lv' := [(7, .int 0), (6, .int 0), (5, .int 1), (4, .int 100), (3, .int v9), (0, .ref (r 0)), (1, .int n), (2, .int i)]) hx hb dX12_pass_98 hl (by decide) rfl (fun ls hl => ?_)
              refine lv_iload hx hb dX12_pass_100 (lv_at hl 0 rfl) ?_
              refine lv_aload_n hx hb dX12_pass_102 rfl (lv_at hl 5 rfl) ?_
              refine va_get (D := D) (ci := 12) (v := .int 0) (C := RX12) (T := TX12) (N := 92) hx hb hts inW_12 hown hK hP 0 rfl rfl 10 (by decide) (hts _ wd_1130) (fun _ h9 => h9) rfl dX12_pass_103 ?_
              refine lv_icmp_ge (tgt := 286) hx hb dX12_pass_106 (by decide) (fun _ => ?_) (fun c => False.elim (by revert c; decide))
              refine lv_aload_n hx hb dX12_pass_286 rfl (lv_at hl 5 rfl) ?_
              refine lv_dup hx hb dX12_pass_287 rfl ?_
              refine va_get (D := D) (ci := 12) (v := .int i) (C := RX12) (T := TX12) (N := 92) hx hb hts inW_12 hown hK hP 0 rfl rfl 0 (by decide) (hts _ wd_1120) (fun _ h9 => h9) rfl dX12_pass_288 ?_
              refine lv_iconst (v := 1) hx hb dX12_pass_291 (by decide) ?_
              refine lv_iadd hx hb dX12_pass_292 ?_
              refine lv_topi (fun v26 e27 => ?_)
              refine va_put (D := D) (ci := 12) (v := .int v26) (ty := .int) (C := RX12) (T := TX12) (N := 92) hx hb hts inW_12 tyX12 tyX12_ok nmX12 hown hK hP hD hS 0 rfl rfl 0 (by decide) (hts _ wd_1120) (fun _ h9 => h9) rfl (by decide +kernel) rfl rfl (Nat.le_of_ble_eq_true rfl) dX12_pass_293 (fun H locs hP hD hS => ?_)
              have hP : va_P D vwCl [((r 0), .inr (12, (fM r i 0).set 0 (.int v26))), ((r 9), .inl (c 0, 3, .inl (setF)))] H := hP
              have hD : va_D A [((r 0), .inr (12, (fM r i 0).set 0 (.int v26))), ((r 9), .inl (c 0, 3, .inl (setF)))] := hD
              obtain ⟨v28, e29⟩ : ∃ y : Int32, y = i + 1 := ⟨_, rfl⟩
              refine lv_iinc (v := v28) (lv' := [(2, .int v28), (7, .int 0), (6, .int 0), (5, .int 1), (4, .int 100), (3, .int v9), (0, .ref (r 0)), (1, .int n)]) hx hb dX12_pass_296 hl (k := 7) rfl (by rw [e29]; rfl) (by decide) rfl (fun ls hl => ?_)
              refine lv_goto (tgt := 27) hx hb dX12_pass_299 (by decide) ?_
              have st := i32_step c8 hn
              have sq : v26 = v28 := e27.trans e29.symm
              rw [sq] at hP hD
              have hP := hP.sub (ws' := [((r 0), .inr (12, fM r v28 0)), ((r 9), .inl (c 0, 3, .inl (setF)))]) [0, 1] rfl
              have hD := hD.sub (ws' := [((r 0), .inr (12, fM r v28 0)), ((r 9), .inl (c 0, 3, .inl (setF)))]) [0, 1] (by decide) rfl
              have c9 : ¬ n.toInt ≤ i.toInt := fun z => c8 (Int32.le_iff_toInt_le.mpr z)
              exact ih v28 ls H locs (by rw [e29]; exact st.2) (by rw [e29, st.1]; omega) hP hD hS (lv_sub hl [6, 7, 0] rfl)
      have hP : va_P D vwCl [((r 0), .inr (12, fM r 0 0)), ((r 9), .inl (c 0, 3, .inl (setF)))] H := hP
      have hD : va_D A [((r 0), .inr (12, fM r 0 0)), ((r 9), .inl (c 0, 3, .inl (setF)))] := hD
      exact loop _ 0 ls H locs (Nat.lt_succ_self _) (by simp only [Int32.le_iff_toInt_le, Int32.reduceToInt] at h4 ⊢; omega) hP hD hS (lv_sub hl [1, 2, 0] rfl)
    · refine lv_iconst (v := (-1)) hx hb dX12_pass_23 (by decide) ?_
      exact rt_i hx hb hr hlocks hK hP hD hS rfl dX12_pass_24 () [] rfl rfl (by show ((-1) : Int32) = _; unfold f_pass; (try simp only [Int32.reduceToInt, not_true_eq_false, false_or, not_false_eq_true, true_or, and_true, true_and]); (try simp only [Int32.le_iff_toInt_le, Int32.lt_iff_toInt_lt, ← Int32.toInt_inj, Int32.reduceToInt] at h4); (try simp only [Int32.le_iff_toInt_le, Int32.lt_iff_toInt_lt, ← Int32.toInt_inj, Int32.reduceToInt] at c7); (try have z_v5 : v5.toInt = (0 : Int32).toInt + n.toInt := by rw [e6]; exact i32_add (by (try simp only [Int32.reduceToInt]); omega) (by (try simp only [Int32.reduceToInt]); omega) (by (try simp only [Int32.reduceToInt]); omega) (by (try simp only [Int32.reduceToInt]); omega)); (try simp only [Int32.reduceToInt] at z_v5); first | (rw [if_pos (by omega)]; done) | (rw [if_neg (by omega)]; done) | (rw [if_pos (by omega)]; exact Int32.toInt_inj.mp (by (try simp only [Int32.reduceToInt]); omega)))
  · refine lv_if_eq (tgt := 23) hx hb dX12_pass_8 (by decide) (fun _ => ?_) (fun c => False.elim (by revert c; decide))
    refine lv_iconst (v := (-1)) hx hb dX12_pass_23 (by decide) ?_
    exact rt_i hx hb hr hlocks hK hP hD hS rfl dX12_pass_24 () [] rfl rfl (by show ((-1) : Int32) = _; unfold f_pass; (try simp only [Int32.reduceToInt, not_true_eq_false, false_or, not_false_eq_true, true_or, and_true, true_and]); (try simp only [Int32.le_iff_toInt_le, Int32.lt_iff_toInt_lt, ← Int32.toInt_inj, Int32.reduceToInt] at h4); first | (rw [if_pos (by omega)]; done) | (rw [if_neg (by omega)]; done) | (rw [if_pos (by omega)]; exact Int32.toInt_inj.mp (by (try simp only [Int32.reduceToInt]); omega)))
