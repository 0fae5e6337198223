set_option maxHeartbeats 4000000 in
set_option maxRecDepth 100000 in
/-- X12_isOver -/
theorem c_X12_isOver (l : Launch) (D : va_G) (c : Nat → ClassId) (sz : Nat) (r : Nat → Nat) : Met l yX12_isOver (.code yX12_isOver cX12_isOver 1 (some .boolean) :: Wd) ({ frames := 0, cells := 0, slots := 0, locals := 0 }) (va_Pc [.ref (r 0)] (WB D c [((r 0), .inr (12, fM r 0 0))] sz)) (QI (S := Unit) D c (fun q _ => q = 0) (fun _ => [((r 0), .inr (12, fM r 0 0))]) (va_A [((r 0), .inr (12, fM r 0 0))] sz)) 0 0 (va_A [((r 0), .inr (12, fM r 0 0))] sz) := by
  refine kz_met (Qc := QI (S := Unit) D c (fun q _ => q = 0) (fun _ => [((r 0), .inr (12, fM r 0 0))])) (by decide) (Nat.le_of_ble_eq_true rfl) ?_
  intro p e s m below meth cd A ls H locs hx hb hr hml hts hown hlocks hin hN hO hK hP hD hS hA hl
  have hl : lv_has ls 1 [(0, .ref (r 0))] := hl
  have hown : s.vm.findClass RX12 = some m.cls := hown
  refine lv_aload_n hx hb dX12_isOver_0 rfl (lv_at hl 0 rfl) ?_
  refine va_get (D := D) (ci := 12) (v := .int 0) (C := RX12) (T := TX12) (N := 92) hx hb hts inW_12 hown hK hP 0 rfl rfl 0 (by decide) (hts _ wd_1120) (fun _ h9 => h9) rfl dX12_isOver_1 ?_
  refine lv_sipush (v := 14400) hx hb dX12_isOver_4 (by decide) ?_
  refine lv_icmp_ne (tgt := 14) hx hb dX12_isOver_7 (by decide) (fun _ => ?_) (fun c => False.elim (by revert c; decide))
  refine lv_iconst (v := 0) hx hb dX12_isOver_14 (by decide) ?_
  exact rt_i hx hb hr hlocks hK hP hD hS rfl dX12_isOver_15 () [0] rfl rfl rfl
set_option maxHeartbeats 4000000 in
set_option maxRecDepth 100000 in
/-- X12_seaAt -/
theorem c_X12_seaAt (l : Launch) (D : va_G) (c : Nat → ClassId) (sz : Nat) (r : Nat → Nat) (t : Int32) : Met l yX12_seaAt (.code yX12_seaAt cX12_seaAt 9 (some .int) :: Wd) ({ frames := 0, cells := 0, slots := 0, locals := 0 }) (va_Pc [.ref (r 0), .int t] (WB D c [((r 0), .inr (12, fM r 0 0))] sz)) (QI (S := Unit) D c (fun q _ => q = 0) (fun _ => [((r 0), .inr (12, fM r 0 0))]) (va_A [((r 0), .inr (12, fM r 0 0))] sz)) 0 0 (va_A [((r 0), .inr (12, fM r 0 0))] sz) := by
  refine kz_met (Qc := QI (S := Unit) D c (fun q _ => q = 0) (fun _ => [((r 0), .inr (12, fM r 0 0))])) (by decide) (Nat.le_of_ble_eq_true rfl) ?_
  intro p e s m below meth cd A ls H locs hx hb hr hml hts hown hlocks hin hN hO hK hP hD hS hA hl
  have hl : lv_has ls 9 [(0, .ref (r 0)), (1, .int t)] := hl
  have hown : s.vm.findClass RX12 = some m.cls := hown
  refine lv_aload_n hx hb dX12_seaAt_0 rfl (lv_at hl 0 rfl) ?_
  refine va_get (D := D) (ci := 12) (v := .int 0) (C := RX12) (T := TX12) (N := 92) hx hb hts inW_12 hown hK hP 0 rfl rfl 1 (by decide) (hts _ wd_1121) (fun _ h9 => h9) rfl dX12_seaAt_1 ?_
  refine lv_if_ne (tgt := 9) hx hb dX12_seaAt_4 (by decide) (fun c => False.elim (by revert c; decide)) (fun _ => ?_)
  refine lv_iconst (v := 0) hx hb dX12_seaAt_7 (by decide) ?_
  exact rt_i hx hb hr hlocks hK hP hD hS rfl dX12_seaAt_8 () [0] rfl rfl rfl
set_option maxHeartbeats 4000000 in
set_option maxRecDepth 100000 in
/-- X12_isPool -/
theorem c_X12_isPool (l : Launch) (D : va_G) (c : Nat → ClassId) (sz : Nat) (r : Nat → Nat) (k : Int32) : Met l yX12_isPool (.code yX12_isPool cX12_isPool 2 (some .boolean) :: Wd) ({ frames := 1, cells := 0, slots := 0, locals := 22 }) (va_Pc [.ref (r 0), .int k] (WB D c [((r 0), .inr (12, fM r 0 0))] sz)) (QI (S := Unit) D c (fun q _ => q = 0) (fun _ => [((r 0), .inr (12, fM r 0 0))]) (va_A [((r 0), .inr (12, fM r 0 0))] sz)) 0 0 (va_A [((r 0), .inr (12, fM r 0 0))] sz) := by
  refine kz_met (Qc := QI (S := Unit) D c (fun q _ => q = 0) (fun _ => [((r 0), .inr (12, fM r 0 0))])) (by decide) (Nat.le_of_ble_eq_true rfl) ?_
  intro p e s m below meth cd A ls H locs hx hb hr hml hts hown hlocks hin hN hO hK hP hD hS hA hl
  have hl : lv_has ls 2 [(0, .ref (r 0)), (1, .int k)] := hl
  have hown : s.vm.findClass RX12 = some m.cls := hown
  refine lv_iload_n hx hb dX12_isPool_0 rfl (lv_at hl 1 rfl) ?_
  refine lv_iconst (v := 0) hx hb dX12_isPool_1 (by decide) ?_
  refine lv_aload_n hx hb dX12_isPool_2 rfl (lv_at hl 0 rfl) ?_
  refine va_get (D := D) (ci := 12) (v := .int 0) (C := RX12) (T := TX12) (N := 92) hx hb hts inW_12 hown hK hP 0 rfl rfl 10 (by decide) (hts _ wd_1130) (fun _ h9 => h9) rfl dX12_isPool_3 ?_
  refine lv_iconst (v := 1) hx hb dX12_isPool_6 (by decide) ?_
  refine lv_isub hx hb dX12_isPool_7 ?_
  refine lv_topi (fun v1 e2 => ?_)
  obtain rfl : v1 = (-1) := e2.trans (by decide)
  have hPc := hP.sub (ws' := []) [] rfl
  have hDc := hD.sub (ws' := []) [] (by decide) rfl
  refine cl_i (wr := [((r 0), .inr (12, fM r 0 0))]) (va_runS (As := [.int k, .int 0, .int (-1)]) (rest := []) ⟨hx, hb, hml, hown, hts⟩ (c_X12_in l D c H.size k 0 ((-1))) (kw_S 3 hts wd_1407 wd_1408 wd_90 wd_1409 rfl rfl (by decide +kernel) ⟨Nat.le_of_ble_eq_true rfl, Nat.le_of_ble_eq_true rfl⟩) (pre_S hPc hK hDc hN hO) rfl rfl hl.1 rfl (lv_room (Nat.le_of_ble_eq_true rfl)) dX12_isPool_8 ⟨Nat.le_of_ble_eq_true rfl, Nat.le_of_ble_eq_true rfl⟩) hP hD hS hA [] [0] rfl rfl (by decide) (by decide) (fun r3 u4 H locs h5 hP hD hS => ?_)
  have hP : va_P D vwCl [((r 0), .inr (12, fM r 0 0))] H := hP
  have hD : va_D A [((r 0), .inr (12, fM r 0 0))] := hD
  rcases inB_c h5 with ⟨h6, rfl⟩ | ⟨h6, rfl⟩
  · exact absurd h6 (inB_no (by decide))
  · exact rt_i hx hb hr hlocks hK hP hD hS rfl dX12_isPool_11 () [0] rfl rfl rfl
set_option maxHeartbeats 4000000 in
set_option maxRecDepth 100000 in
/-- X12_see -/
theorem c_X12_see (l : Launch) (D : va_G) (c : Nat → ClassId) (sz : Nat) (r : Nat → Nat) : Met l yX12_see (.code yX12_see cX12_see 1 (some .int) :: Wd) ({ frames := 0, cells := 0, slots := 0, locals := 0 }) (va_Pc [.ref (r 0)] (WB D c [((r 0), .inr (12, fM r 0 0))] sz)) (QI (S := Unit) D c (fun q _ => q = -1) (fun _ => [((r 0), .inr (12, fM r 0 0))]) (va_A [((r 0), .inr (12, fM r 0 0))] sz)) 0 0 (va_A [((r 0), .inr (12, fM r 0 0))] sz) := by
  refine kz_met (Qc := QI (S := Unit) D c (fun q _ => q = -1) (fun _ => [((r 0), .inr (12, fM r 0 0))])) (by decide) (Nat.le_of_ble_eq_true rfl) ?_
  intro p e s m below meth cd A ls H locs hx hb hr hml hts hown hlocks hin hN hO hK hP hD hS hA hl
  have hl : lv_has ls 1 [(0, .ref (r 0))] := hl
  have hown : s.vm.findClass RX12 = some m.cls := hown
  refine lv_aload_n hx hb dX12_see_0 rfl (lv_at hl 0 rfl) ?_
  refine va_get (D := D) (ci := 12) (v := .int 0) (C := RX12) (T := TX12) (N := 92) hx hb hts inW_12 hown hK hP 0 rfl rfl 46 (by decide) (hts _ wd_1166) (fun _ h9 => h9) rfl dX12_see_1 ?_
  refine lv_aload_n hx hb dX12_see_4 rfl (lv_at hl 0 rfl) ?_
  refine va_get (D := D) (ci := 12) (v := .int 0) (C := RX12) (T := TX12) (N := 92) hx hb hts inW_12 hown hK hP 0 rfl rfl 45 (by decide) (hts _ wd_1165) (fun _ h9 => h9) rfl dX12_see_5 ?_
  refine lv_icmp_ge (tgt := 38) hx hb dX12_see_8 (by decide) (fun _ => ?_) (fun c => False.elim (by revert c; decide))
  refine lv_aload_n hx hb dX12_see_38 rfl (lv_at hl 0 rfl) ?_
  refine va_get (D := D) (ci := 12) (v := .int 0) (C := RX12) (T := TX12) (N := 92) hx hb hts inW_12 hown hK hP 0 rfl rfl 46 (by decide) (hts _ wd_1166) (fun _ h9 => h9) rfl dX12_see_39 ?_
  refine lv_aload_n hx hb dX12_see_42 rfl (lv_at hl 0 rfl) ?_
  refine va_get (D := D) (ci := 12) (v := .int 0) (C := RX12) (T := TX12) (N := 92) hx hb hts inW_12 hown hK hP 0 rfl rfl 45 (by decide) (hts _ wd_1165) (fun _ h9 => h9) rfl dX12_see_43 ?_
  refine lv_icmp_ge (tgt := 65) hx hb dX12_see_46 (by decide) (fun _ => ?_) (fun c => False.elim (by revert c; decide))
  refine lv_iconst (v := (-1)) hx hb dX12_see_65 (by decide) ?_
  exact rt_i hx hb hr hlocks hK hP hD hS rfl dX12_see_66 () [0] rfl rfl rfl
set_option maxHeartbeats 4000000 in
set_option maxRecDepth 100000 in
/-- X12_waveAt -/
theorem c_X12_waveAt (l : Launch) (D : va_G) (c : Nat → ClassId) (sz : Nat) (r : Nat → Nat) (now : Int32) (h : Int32) (k : Int32) : Met l yX12_waveAt (.code yX12_waveAt cX12_waveAt 4 (some .int) :: Wd) ({ frames := 0, cells := 0, slots := 0, locals := 0 }) (va_Pc [.ref (r 0), .int h, .int k] (WB D c [((r 0), .inr (12, fM r now 0)), ((r 9), .inl (c 0, 3, .inl (setF)))] sz)) (QI (S := Unit) D c (fun q _ => q = 100) (fun _ => [((r 0), .inr (12, fM r now 0)), ((r 9), .inl (c 0, 3, .inl (setF)))]) (va_A [((r 0), .inr (12, fM r now 0)), ((r 9), .inl (c 0, 3, .inl (setF)))] sz)) 0 0 (va_A [((r 0), .inr (12, fM r now 0)), ((r 9), .inl (c 0, 3, .inl (setF)))] sz) := by
  refine kz_met (Qc := QI (S := Unit) D c (fun q _ => q = 100) (fun _ => [((r 0), .inr (12, fM r now 0)), ((r 9), .inl (c 0, 3, .inl (setF)))])) (by decide) (Nat.le_of_ble_eq_true rfl) ?_
  intro p e s m below meth cd A ls H locs hx hb hr hml hts hown hlocks hin hN hO hK hP hD hS hA hl
  have hl : lv_has ls 4 [(0, .ref (r 0)), (1, .int h), (2, .int k)] := hl
  have hown : s.vm.findClass RX12 = some m.cls := hown
  refine lv_aload_n hx hb dX12_waveAt_0 rfl (lv_at hl 0 rfl) ?_
  refine va_get (D := D) (ci := 12) (v := .int 0) (C := RX12) (T := TX12) (N := 92) hx hb hts inW_12 hown hK hP 0 rfl rfl 4 (by decide) (hts _ wd_1124) (fun _ h9 => h9) rfl dX12_waveAt_1 ?_
  refine lv_iconst (v := 1) hx hb dX12_waveAt_4 (by decide) ?_
  refine lv_isub hx hb dX12_waveAt_5 ?_
  refine lv_topi (fun v1 e2 => ?_)
  obtain rfl : v1 = (-1) := e2.trans (by decide)
  refine lv_istore_n (lv' := [(3, .int (-1)), (0, .ref (r 0)), (1, .int h), (2, .int k)]) hx hb dX12_waveAt_6 rfl hl (by decide) rfl (fun ls hl => ?_)
  refine lv_iload_n hx hb dX12_waveAt_7 rfl (lv_at hl 0 rfl) ?_
  refine lv_if_lt (tgt := 44) hx hb dX12_waveAt_8 (by decide) (fun _ => ?_) (fun c => False.elim (by revert c; decide))
  refine lv_aload_n hx hb dX12_waveAt_44 rfl (lv_at hl 1 rfl) ?_
  refine va_get (D := D) (ci := 12) (v := .ref (r 9)) (C := RX12) (T := TX12) (N := 92) hx hb hts inW_12 hown hK hP 0 rfl rfl 8 (by decide) (hts _ wd_1128) (fun _ h9 => h9) rfl dX12_waveAt_45 ?_
  refine lv_iconst (v := 0) hx hb dX12_waveAt_48 (by decide) ?_
  refine va_iald hx hb hK hP 1 0 rfl rfl (vp_in_iff.mpr (by decide)) dX12_waveAt_49 ?_
  refine lv_topi (fun v3 e4 => ?_)
  obtain rfl : v3 = 100 := (by first | exact e4 | exact e4.trans (by decide))
  exact rt_i hx hb hr hlocks hK hP hD hS rfl dX12_waveAt_50 () [0, 1] rfl rfl rfl
set_option maxHeartbeats 4000000 in
set_option maxRecDepth 100000 in
/-- X12_four -/
theorem c_X12_four (l : Launch) (D : va_G) (c : Nat → ClassId) (sz : Nat) (r : Nat → Nat) (tp : Int32) (f : Nat → Int32) (k0 : vp_in (tp) 300) (k1 : vp_in (tp + 1) 300) (k2 : vp_in (tp + 1 + 1) 300) (k3 : vp_in (tp + 1 + 1 + 1) 300) (v : Int32) : Met l yX12_four (.code yX12_four cX12_four 3 none :: Wd) ({ frames := 0, cells := 0, slots := 0, locals := 0 }) (va_Pc [.ref (r 0), .int v] (WB D c [((r 0), .inr (12, fM r 0 tp)), ((r 45), .inl (c 1, 300, .inl (f)))] sz)) (QV (S := Int32 × (Nat → Int32)) D c (fun u => u.1 = tp + 1 + 1 + 1 + 1) (fun u => [((r 0), .inr (12, fM r 0 u.1)), ((r 45), .inl (c 1, 300, .inl u.2))]) (va_A [((r 0), .inr (12, fM r 0 tp)), ((r 45), .inl (c 1, 300, .inl (f)))] sz)) 0 0 (va_A [((r 0), .inr (12, fM r 0 tp)), ((r 45), .inl (c 1, 300, .inl (f)))] sz) := by
  refine kz_met (Qc := QV (S := Int32 × (Nat → Int32)) D c (fun u => u.1 = tp + 1 + 1 + 1 + 1) (fun u => [((r 0), .inr (12, fM r 0 u.1)), ((r 45), .inl (c 1, 300, .inl u.2))])) (by decide) (Nat.le_of_ble_eq_true rfl) ?_
  intro p e s m below meth cd A ls H locs hx hb hr hml hts hown hlocks hin hN hO hK hP hD hS hA hl
  have hl : lv_has ls 3 [(0, .ref (r 0)), (1, .int v)] := hl
  have hown : s.vm.findClass RX12 = some m.cls := hown
  refine lv_bipush (v := 24) hx hb dX12_four_0 (by decide) ?_
  refine lv_istore_n (lv' := [(2, .int 24), (0, .ref (r 0)), (1, .int v)]) hx hb dX12_four_2 rfl hl (by decide) rfl (fun ls hl => ?_)
  refine lv_iload_n hx hb dX12_four_3 rfl (lv_at hl 0 rfl) ?_
  refine lv_if_lt (tgt := 36) hx hb dX12_four_4 (by decide) (fun c => False.elim (by revert c; decide)) (fun _ => ?_)
  refine lv_aload_n hx hb dX12_four_7 rfl (lv_at hl 1 rfl) ?_
  refine va_get (D := D) (ci := 12) (v := .ref (r 45)) (C := RX12) (T := TX12) (N := 92) hx hb hts inW_12 hown hK hP 0 rfl rfl 44 (by decide) (hts _ wd_1164) (fun _ h9 => h9) rfl dX12_four_8 ?_
  refine lv_aload_n hx hb dX12_four_11 rfl (lv_at hl 1 rfl) ?_
  refine va_get (D := D) (ci := 12) (v := .int tp) (C := RX12) (T := TX12) (N := 92) hx hb hts inW_12 hown hK hP 0 rfl rfl 45 (by decide) (hts _ wd_1165) (fun _ h9 => h9) rfl dX12_four_12 ?_
  refine lv_iload_n hx hb dX12_four_15 rfl (lv_at hl 2 rfl) ?_
  refine lv_iload_n hx hb dX12_four_16 rfl (lv_at hl 0 rfl) ?_
  refine lv_ishr hx hb dX12_four_17 ?_
  refine lv_topi (fun v1 e2 => ?_)
  refine lv_i2b (v := _) hx hb dX12_four_18 rfl ?_
  refine lv_topi (fun v3 e4 => ?_)
  refine va_bast hx hb hK hP hD hS 1 1 rfl rfl (k0) dX12_four_19 (fun H locs hP hD hS => ?_)
  have hP : va_P D vwCl [((r 0), .inr (12, fM r 0 tp)), ((r 45), .inl (c 1, 300, .inl (upd (f) (Int32.toNatClampNeg tp) (vp_nar .byte v3))))] H := hP
  have hD : va_D A [((r 0), .inr (12, fM r 0 tp)), ((r 45), .inl (c 1, 300, .inl (upd (f) (Int32.toNatClampNeg tp) (vp_nar .byte v3))))] := hD
  refine lv_aload_n hx hb dX12_four_20 rfl (lv_at hl 1 rfl) ?_
  refine lv_dup hx hb dX12_four_21 rfl ?_
  refine va_get (D := D) (ci := 12) (v := .int tp) (C := RX12) (T := TX12) (N := 92) hx hb hts inW_12 hown hK hP 0 rfl rfl 45 (by decide) (hts _ wd_1165) (fun _ h9 => h9) rfl dX12_four_22 ?_
  refine lv_iconst (v := 1) hx hb dX12_four_25 (by decide) ?_
  refine lv_iadd hx hb dX12_four_26 ?_
  refine lv_topi (fun v5 e6 => ?_)
  refine va_put (D := D) (ci := 12) (v := .int v5) (ty := .int) (C := RX12) (T := TX12) (N := 92) hx hb hts inW_12 tyX12 tyX12_ok nmX12 hown hK hP hD hS 0 rfl rfl 45 (by decide) (hts _ wd_1165) (fun _ h9 => h9) rfl (by decide +kernel) rfl rfl (Nat.le_of_ble_eq_true rfl) dX12_four_27 (fun H locs hP hD hS => ?_)
  have hP : va_P D vwCl [((r 0), .inr (12, (fM r 0 tp).set 45 (.int v5))), ((r 45), .inl (c 1, 300, .inl (upd (f) (Int32.toNatClampNeg tp) (vp_nar .byte v3))))] H := hP
  have hD : va_D A [((r 0), .inr (12, (fM r 0 tp).set 45 (.int v5))), ((r 45), .inl (c 1, 300, .inl (upd (f) (Int32.toNatClampNeg tp) (vp_nar .byte v3))))] := hD
  refine lv_iinc (v := 16) (lv' := [(2, .int 16), (0, .ref (r 0)), (1, .int v)]) hx hb dX12_four_30 hl (k := 0) rfl (by decide) (by decide) rfl (fun ls hl => ?_)
  refine lv_goto (tgt := 3) hx hb dX12_four_33 (by decide) ?_
  refine lv_iload_n hx hb dX12_four_3 rfl (lv_at hl 0 rfl) ?_
  refine lv_if_lt (tgt := 36) hx hb dX12_four_4 (by decide) (fun c => False.elim (by revert c; decide)) (fun _ => ?_)
  refine lv_aload_n hx hb dX12_four_7 rfl (lv_at hl 1 rfl) ?_
  refine va_get (D := D) (ci := 12) (v := .ref (r 45)) (C := RX12) (T := TX12) (N := 92) hx hb hts inW_12 hown hK hP 0 rfl rfl 44 (by decide) (hts _ wd_1164) (fun _ h9 => h9) rfl dX12_four_8 ?_
  refine lv_aload_n hx hb dX12_four_11 rfl (lv_at hl 1 rfl) ?_
  refine va_get (D := D) (ci := 12) (v := .int v5) (C := RX12) (T := TX12) (N := 92) hx hb hts inW_12 hown hK hP 0 rfl rfl 45 (by decide) (hts _ wd_1165) (fun _ h9 => h9) rfl dX12_four_12 ?_
  refine lv_iload_n hx hb dX12_four_15 rfl (lv_at hl 2 rfl) ?_
  refine lv_iload_n hx hb dX12_four_16 rfl (lv_at hl 0 rfl) ?_
  refine lv_ishr hx hb dX12_four_17 ?_
  refine lv_topi (fun v7 e8 => ?_)
  refine lv_i2b (v := _) hx hb dX12_four_18 rfl ?_
  refine lv_topi (fun v9 e10 => ?_)
  refine va_bast hx hb hK hP hD hS 1 1 rfl rfl (by rw [e6]; exact k1) dX12_four_19 (fun H locs hP hD hS => ?_)
  have hP : va_P D vwCl [((r 0), .inr (12, (fM r 0 tp).set 45 (.int v5))), ((r 45), .inl (c 1, 300, .inl (upd (upd (f) (Int32.toNatClampNeg tp) (vp_nar .byte v3)) (Int32.toNatClampNeg v5) (vp_nar .byte v9))))] H := hP
  have hD : va_D A [((r 0), .inr (12, (fM r 0 tp).set 45 (.int v5))), ((r 45), .inl (c 1, 300, .inl (upd (upd (f) (Int32.toNatClampNeg tp) (vp_nar .byte v3)) (Int32.toNatClampNeg v5) (vp_nar .byte v9))))] := hD
  refine lv_aload_n hx hb dX12_four_20 rfl (lv_at hl 1 rfl) ?_
  refine lv_dup hx hb dX12_four_21 rfl ?_
  refine va_get (D := D) (ci := 12) (v := .int v5) (C := RX12) (T := TX12) (N := 92) hx hb hts inW_12 hown hK hP 0 rfl rfl 45 (by decide) (hts _ wd_1165) (fun _ h9 => h9) rfl dX12_four_22 ?_
  refine lv_iconst (v := 1) hx hb dX12_four_25 (by decide) ?_
  refine lv_iadd hx hb dX12_four_26 ?_
  refine lv_topi (fun v11 e12 => ?_)
  refine va_put (D := D) (ci := 12) (v := .int v11) (ty := .int) (C := RX12) (T := TX12) (N := 92) hx hb hts inW_12 tyX12 tyX12_ok nmX12 hown hK hP hD hS 0 rfl rfl 45 (by decide) (hts _ wd_1165) (fun _ h9 => h9) rfl (by decide +kernel) rfl rfl (Nat.le_of_ble_eq_true rfl) dX12_four_27 (fun H locs hP hD hS => ?_)
  have hP : va_P D vwCl [((r 0), .inr (12, ((fM r 0 tp).set 45 (.int v5)).set 45 (.int v11))), ((r 45), .inl (c 1, 300, .inl (upd (upd (f) (Int32.toNatClampNeg tp) (vp_nar .byte v3)) (Int32.toNatClampNeg v5) (vp_nar .byte v9))))] H := hP
  have hD : va_D A [((r 0), .inr (12, ((fM r 0 tp).set 45 (.int v5)).set 45 (.int v11))), ((r 45), .inl (c 1, 300, .inl (upd (upd (f) (Int32.toNatClampNeg tp) (vp_nar .byte v3)) (Int32.toNatClampNeg v5) (vp_nar .byte v9))))] := hD
  refine lv_iinc (v := 8) (lv' := [(2, .int 8), (0, .ref (r 0)), (1, .int v)]) hx hb dX12_four_30 hl (k := 0) rfl (by decide) (by decide) rfl (fun ls hl => ?_)
  refine lv_goto (tgt := 3) hx hb dX12_four_33 (by decide) ?_
  refine lv_iload_n hx hb dX12_four_3 rfl (lv_at hl 0 rfl) ?_
  refine lv_if_lt (tgt := 36) hx hb dX12_four_4 (by decide) (fun c => False.elim (by revert c; decide)) (fun _ => ?_)
  refine lv_aload_n hx hb dX12_four_7 rfl (lv_at hl 1 rfl) ?_
  refine va_get (D := D) (ci := 12) (v := .ref (r 45)) (C := RX12) (T := TX12) (N := 92) hx hb hts inW_12 hown hK hP 0 rfl rfl 44 (by decide) (hts _ wd_1164) (fun _ h9 => h9) rfl dX12_four_8 ?_
  refine lv_aload_n hx hb dX12_four_11 rfl (lv_at hl 1 rfl) ?_
  refine va_get (D := D) (ci := 12) (v := .int v11) (C := RX12) (T := TX12) (N := 92) hx hb hts inW_12 hown hK hP 0 rfl rfl 45 (by decide) (hts _ wd_1165) (fun _ h9 => h9) rfl dX12_four_12 ?_
  refine lv_iload_n hx hb dX12_four_15 rfl (lv_at hl 2 rfl) ?_
  refine lv_iload_n hx hb dX12_four_16 rfl (lv_at hl 0 rfl) ?_
  refine lv_ishr hx hb dX12_four_17 ?_
  refine lv_topi (fun v13 e14 => ?_)
  refine lv_i2b (v := _) hx hb dX12_four_18 rfl ?_
  refine lv_topi (fun v15 e16 => ?_)
  refine va_bast hx hb hK hP hD hS 1 1 rfl rfl (by rw [e12, e6]; exact k2) dX12_four_19 (fun H locs hP hD hS => ?_)
  have hP : va_P D vwCl [((r 0), .inr (12, ((fM r 0 tp).set 45 (.int v5)).set 45 (.int v11))), ((r 45), .inl (c 1, 300, .inl (upd (upd (upd (f) (Int32.toNatClampNeg tp) (vp_nar .byte v3)) (Int32.toNatClampNeg v5) (vp_nar .byte v9)) (Int32.toNatClampNeg v11) (vp_nar .byte v15))))] H := hP
  have hD : va_D A [((r 0), .inr (12, ((fM r 0 tp).set 45 (.int v5)).set 45 (.int v11))), ((r 45), .inl (c 1, 300, .inl (upd (upd (upd (f) (Int32.toNatClampNeg tp) (vp_nar .byte v3)) (Int32.toNatClampNeg v5) (vp_nar .byte v9)) (Int32.toNatClampNeg v11) (vp_nar .byte v15))))] := hD
  refine lv_aload_n hx hb dX12_four_20 rfl (lv_at hl 1 rfl) ?_
  refine lv_dup hx hb dX12_four_21 rfl ?_
  refine va_get (D := D) (ci := 12) (v := .int v11) (C := RX12) (T := TX12) (N := 92) hx hb hts inW_12 hown hK hP 0 rfl rfl 45 (by decide) (hts _ wd_1165) (fun _ h9 => h9) rfl dX12_four_22 ?_
  refine lv_iconst (v := 1) hx hb dX12_four_25 (by decide) ?_
  refine lv_iadd hx hb dX12_four_26 ?_
  refine lv_topi (fun v17 e18 => ?_)
  refine va_put (D := D) (ci := 12) (v := .int v17) (ty := .int) (C := RX12) (T := TX12) (N := 92) hx hb hts inW_12 tyX12 tyX12_ok nmX12 hown hK hP hD hS 0 rfl rfl 45 (by decide) (hts _ wd_1165) (fun _ h9 => h9) rfl (by decide +kernel) rfl rfl (Nat.le_of_ble_eq_true rfl) dX12_four_27 (fun H locs hP hD hS => ?_)
  have hP : va_P D vwCl [((r 0), .inr (12, (((fM r 0 tp).set 45 (.int v5)).set 45 (.int v11)).set 45 (.int v17))), ((r 45), .inl (c 1, 300, .inl (upd (upd (upd (f) (Int32.toNatClampNeg tp) (vp_nar .byte v3)) (Int32.toNatClampNeg v5) (vp_nar .byte v9)) (Int32.toNatClampNeg v11) (vp_nar .byte v15))))] H := hP
  have hD : va_D A [((r 0), .inr (12, (((fM r 0 tp).set 45 (.int v5)).set 45 (.int v11)).set 45 (.int v17))), ((r 45), .inl (c 1, 300, .inl (upd (upd (upd (f) (Int32.toNatClampNeg tp) (vp_nar .byte v3)) (Int32.toNatClampNeg v5) (vp_nar .byte v9)) (Int32.toNatClampNeg v11) (vp_nar .byte v15))))] := hD
  refine lv_iinc (v := 0) (lv' := [(2, .int 0), (0, .ref (r 0)), (1, .int v)]) hx hb dX12_four_30 hl (k := 0) rfl (by decide) (by decide) rfl (fun ls hl => ?_)
  refine lv_goto (tgt := 3) hx hb dX12_four_33 (by decide) ?_
  refine lv_iload_n hx hb dX12_four_3 rfl (lv_at hl 0 rfl) ?_
  refine lv_if_lt (tgt := 36) hx hb dX12_four_4 (by decide) (fun c => False.elim (by revert c; decide)) (fun _ => ?_)
  refine lv_aload_n hx hb dX12_four_7 rfl (lv_at hl 1 rfl) ?_
  refine va_get (D := D) (ci := 12) (v := .ref (r 45)) (C := RX12) (T := TX12) (N := 92) hx hb hts inW_12 hown hK hP 0 rfl rfl 44 (by decide) (hts _ wd_1164) (fun _ h9 => h9) rfl dX12_four_8 ?_
  refine lv_aload_n hx hb dX12_four_11 rfl (lv_at hl 1 rfl) ?_
  refine va_get (D := D) (ci := 12) (v := .int v17) (C := RX12) (T := TX12) (N := 92) hx hb hts inW_12 hown hK hP 0 rfl rfl 45 (by decide) (hts _ wd_1165) (fun _ h9 => h9) rfl dX12_four_12 ?_
  refine lv_iload_n hx hb dX12_four_15 rfl (lv_at hl 2 rfl) ?_
  refine lv_iload_n hx hb dX12_four_16 rfl (lv_at hl 0 rfl) ?_
  refine lv_ishr hx hb dX12_four_17 ?_
  refine lv_topi (fun v19 e20 => ?_)
  refine lv_i2b (v := _) hx hb dX12_four_18 rfl ?_
  refine lv_topi (fun v21 e22 => ?_)
  refine va_bast hx hb hK hP hD hS 1 1 rfl rfl (by rw [e18, e12, e6]; exact k3) dX12_four_19 (fun H locs hP hD hS => ?_)
  have hP : va_P D vwCl [((r 0), .inr (12, (((fM r 0 tp).set 45 (.int v5)).set 45 (.int v11)).set 45 (.int v17))), ((r 45), .inl (c 1, 300, .inl (upd (upd (upd (upd (f) (Int32.toNatClampNeg tp) (vp_nar .byte v3)) (Int32.toNatClampNeg v5) (vp_nar .byte v9)) (Int32.toNatClampNeg v11) (vp_nar .byte v15)) (Int32.toNatClampNeg v17) (vp_nar .byte v21))))] H := hP
  have hD : va_D A [((r 0), .inr (12, (((fM r 0 tp).set 45 (.int v5)).set 45 (.int v11)).set 45 (.int v17))), ((r 45), .inl (c 1, 300, .inl (upd (upd (upd (upd (f) (Int32.toNatClampNeg tp) (vp_nar .byte v3)) (Int32.toNatClampNeg v5) (vp_nar .byte v9)) (Int32.toNatClampNeg v11) (vp_nar .byte v15)) (Int32.toNatClampNeg v17) (vp_nar .byte v21))))] := hD
  refine lv_aload_n hx hb dX12_four_20 rfl (lv_at hl 1 rfl) ?_
  refine lv_dup hx hb dX12_four_21 rfl ?_
  refine va_get (D := D) (ci := 12) (v := .int v17) (C := RX12) (T := TX12) (N := 92) hx hb hts inW_12 hown hK hP 0 rfl rfl 45 (by decide) (hts _ wd_1165) (fun _ h9 => h9) rfl dX12_four_22 ?_
  refine lv_iconst (v := 1) hx hb dX12_four_25 (by decide) ?_
  refine lv_iadd hx hb dX12_four_26 ?_
  refine lv_topi (fun v23 e24 => ?_)
  refine va_put (D := D) (ci := 12) (v := .int v23) (ty := .int) (C := RX12) (T := TX12) (N := 92) hx hb hts inW_12 tyX12 tyX12_ok nmX12 hown hK hP hD hS 0 rfl rfl 45 (by decide) (hts _ wd_1165) (fun _ h9 => h9) rfl (by decide +kernel) rfl rfl (Nat.le_of_ble_eq_true rfl) dX12_four_27 (fun H locs hP hD hS => ?_)
  have hP : va_P D vwCl [((r 0), .inr (12, ((((fM r 0 tp).set 45 (.int v5)).set 45 (.int v11)).set 45 (.int v17)).set 45 (.int v23))), ((r 45), .inl (c 1, 300, .inl (upd (upd (upd (upd (f) (Int32.toNatClampNeg tp) (vp_nar .byte v3)) (Int32.toNatClampNeg v5) (vp_nar .byte v9)) (Int32.toNatClampNeg v11) (vp_nar .byte v15)) (Int32.toNatClampNeg v17) (vp_nar .byte v21))))] H := hP
  have hD : va_D A [((r 0), .inr (12, ((((fM r 0 tp).set 45 (.int v5)).set 45 (.int v11)).set 45 (.int v17)).set 45 (.int v23))), ((r 45), .inl (c 1, 300, .inl (upd (upd (upd (upd (f) (Int32.toNatClampNeg tp) (vp_nar .byte v3)) (Int32.toNatClampNeg v5) (vp_nar .byte v9)) (Int32.toNatClampNeg v11) (vp_nar .byte v15)) (Int32.toNatClampNeg v17) (vp_nar .byte v21))))] := hD
  refine lv_iinc (v := (-8)) (lv' := [(2, .int (-8)), (0, .ref (r 0)), (1, .int v)]) hx hb dX12_four_30 hl (k := 0) rfl (by decide) (by decide) rfl (fun ls hl => ?_)
  refine lv_goto (tgt := 3) hx hb dX12_four_33 (by decide) ?_
  refine lv_iload_n hx hb dX12_four_3 rfl (lv_at hl 0 rfl) ?_
  refine lv_if_lt (tgt := 36) hx hb dX12_four_4 (by decide) (fun _ => ?_) (fun c => False.elim (by revert c; decide))
  exact rt_v hx hb hr hlocks hK hP hD hS dX12_four_36 (v23, upd (upd (upd (upd (f) (Int32.toNatClampNeg tp) (vp_nar .byte v3)) (Int32.toNatClampNeg v5) (vp_nar .byte v9)) (Int32.toNatClampNeg v11) (vp_nar .byte v15)) (Int32.toNatClampNeg v17) (vp_nar .byte v21)) [0, 1] rfl rfl (by show v23 = _; rw [e24, e18, e12, e6])
