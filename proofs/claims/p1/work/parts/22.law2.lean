set_option maxHeartbeats 4000000 in
set_option maxRecDepth 100000 in
theorem law_18 {p : Program} {l : Launch} {e : Env} {s : State} {m : MethodId} {below : List Frame} {meth : Method} {cd : Code} {b : Nat} {xs : Nat → Int32} {H : Heap} {locs : List Loc} {ls : Array Slot} {A : Nat → Prop} {D : va_G} {c : Nat → ClassId} {rx rm : Nat → Nat} (hx : p.tables.exec = Jvm.exec) (hb : cd.code = cL_law) (hr : meth.sig.returnType = ret) (hml : cd.maxLocals = 4) (hown : s.vm.findClass R_law = some m.cls) (hlocks : meth.locks = false) (hX : va_X b 8 xs s s.heap) (hbl : b < s.heap.size) (hbA : ¬ A b) (hAs : ∀ q, A q → s.heap.size ≤ q) (hts : ∀ w ∈ Wd, w.before #[Value.ref b] s = true) (hN : NW s) (hO : ∀ C ∈ aoL, va_AO C s) (hK : va_K D vwCl (TY c) s) (hA : ∀ q, s.heap.size ≤ q → A q) (hP : va_P D vwCl [((rx 0), .inr (11, fX rx 0 0)), ((rx 3), .inl (c 4, 11, .inr (.inr (.inr (.inr (fun _ => none)))))), ((rx 6), .inr (7, fSm rx)), ((rm 0), .inr (12, fM rm 0 0))] H) (hD : va_D A [((rx 0), .inr (11, fX rx 0 0)), ((rx 3), .inl (c 4, 11, .inr (.inr (.inr (.inr (fun _ => none)))))), ((rx 6), .inr (7, fSm rx)), ((rm 0), .inr (12, fM rm 0 0))]) (hS : va_S A s.heap H locs) (hl : lv_has ls 4 [(3, .int 0), (2, .ref (rm 0)), (1, .ref (rx 0)), (0, .ref b)]) : W p l e room_1 s m #[Value.ref b] below meth cd H locs 95 102698 (lw_Z below #[Value.ref b] s) (F0 m 842 ls []) := by
  refine lv_aload_n hx hb dL_law_842 rfl (lv_at hl 2 rfl) ?_
  refine lv_aload_n hx hb dL_law_843 rfl (lv_at hl 3 rfl) ?_
  refine lv_iload_n hx hb dL_law_844 rfl (lv_at hl 0 rfl) ?_
  refine lv_iconst (v := 1) hx hb dL_law_845 (by decide) ?_
  refine lv_iadd hx hb dL_law_846 ?_
  refine lv_topi (fun v1 e2 => ?_)
  obtain rfl : v1 = 1 := e2.trans (by decide)
  refine va_sld hx hb hX hbl hbA hS (vp_in_iff.mpr (by decide)) dL_law_847 ?_
  refine lv_aload_n hx hb dL_law_848 rfl (lv_at hl 3 rfl) ?_
  refine lv_iload_n hx hb dL_law_849 rfl (lv_at hl 0 rfl) ?_
  refine lv_iconst (v := 2) hx hb dL_law_850 (by decide) ?_
  refine lv_iadd hx hb dL_law_851 ?_
  refine lv_topi (fun v3 e4 => ?_)
  obtain rfl : v3 = 2 := e4.trans (by decide)
  refine va_sld hx hb hX hbl hbA hS (vp_in_iff.mpr (by decide)) dL_law_852 ?_
  refine lv_aload_n hx hb dL_law_853 rfl (lv_at hl 3 rfl) ?_
  refine lv_iload_n hx hb dL_law_854 rfl (lv_at hl 0 rfl) ?_
  refine lv_iconst (v := 3) hx hb dL_law_855 (by decide) ?_
  refine lv_iadd hx hb dL_law_856 ?_
  refine lv_topi (fun v5 e6 => ?_)
  obtain rfl : v5 = 3 := e6.trans (by decide)
  refine va_sld hx hb hX hbl hbA hS (vp_in_iff.mpr (by decide)) dL_law_857 ?_
  have hPc := hP.sub (ws' := [((rx 0), .inr (11, fX rx 0 0)), ((rx 3), .inl (c 4, 11, .inr (.inr (.inr (.inr (fun _ => none)))))), ((rx 6), .inr (7, fSm rx))]) [0, 1, 2] rfl
  have hDc := hD.sub (ws' := [((rx 0), .inr (11, fX rx 0 0)), ((rx 3), .inl (c 4, 11, .inr (.inr (.inr (.inr (fun _ => none)))))), ((rx 6), .inr (7, fSm rx))]) [0, 1, 2] (by decide) rfl
  refine cl_i (wr := [((rm 0), .inr (12, fM rm 0 0))]) (va_runV (As := [.int (xs (Int32.toNatClampNeg 1)), .int (xs (Int32.toNatClampNeg 2)), .int (xs (Int32.toNatClampNeg 3))]) (rest := []) ⟨hx, hb, hml, hown, hts⟩ (c_X11_test l D c H.size rx ((xs (Int32.toNatClampNeg 1))) ((xs (Int32.toNatClampNeg 2))) ((xs (Int32.toNatClampNeg 3)))) (kw_V 3 hts wd_873 wd_874 wd_875 wd_83 wd_876 rfl rfl (by decide +kernel) ⟨Nat.le_of_ble_eq_true rfl, Nat.le_of_ble_eq_true rfl⟩) (pre_V hPc hK hDc hN hO (ci := 11) (q0 := 0) rfl rfl) rfl rfl hl.1 rfl (lv_room (Nat.le_of_ble_eq_true rfl)) dL_law_858 ⟨Nat.le_of_ble_eq_true rfl, Nat.le_of_ble_eq_true rfl⟩) hP hD hS hA [0, 1, 2] [3] rfl rfl (by decide) (by decide) (fun r7 u8 H locs h9 hP hD hS => ?_)
  have hP : va_P D vwCl [((rm 0), .inr (12, fM rm 0 0))] H := hP
  have hD : va_D A [((rm 0), .inr (12, fM rm 0 0))] := hD
  refine lv_aload_n hx hb dL_law_861 rfl (lv_at hl 1 rfl) ?_
  refine lv_aload_n hx hb dL_law_862 rfl (lv_at hl 3 rfl) ?_
  refine lv_iload_n hx hb dL_law_863 rfl (lv_at hl 0 rfl) ?_
  refine lv_iconst (v := 1) hx hb dL_law_864 (by decide) ?_
  refine lv_iadd hx hb dL_law_865 ?_
  refine lv_topi (fun v10 e11 => ?_)
  obtain rfl : v10 = 1 := e11.trans (by decide)
  refine va_sld hx hb hX hbl hbA hS (vp_in_iff.mpr (by decide)) dL_law_866 ?_
  refine lv_aload_n hx hb dL_law_867 rfl (lv_at hl 3 rfl) ?_
  refine lv_iload_n hx hb dL_law_868 rfl (lv_at hl 0 rfl) ?_
  refine lv_iconst (v := 2) hx hb dL_law_869 (by decide) ?_
  refine lv_iadd hx hb dL_law_870 ?_
  refine lv_topi (fun v12 e13 => ?_)
  obtain rfl : v12 = 2 := e13.trans (by decide)
  refine va_sld hx hb hX hbl hbA hS (vp_in_iff.mpr (by decide)) dL_law_871 ?_
  refine lv_aload_n hx hb dL_law_872 rfl (lv_at hl 3 rfl) ?_
  refine lv_iload_n hx hb dL_law_873 rfl (lv_at hl 0 rfl) ?_
  refine lv_iconst (v := 3) hx hb dL_law_874 (by decide) ?_
  refine lv_iadd hx hb dL_law_875 ?_
  refine lv_topi (fun v14 e15 => ?_)
  obtain rfl : v14 = 3 := e15.trans (by decide)
  refine va_sld hx hb hX hbl hbA hS (vp_in_iff.mpr (by decide)) dL_law_876 ?_
  have hPc := hP.sub (ws' := [((rm 0), .inr (12, fM rm 0 0))]) [0] rfl
  have hDc := hD.sub (ws' := [((rm 0), .inr (12, fM rm 0 0))]) [0] (by decide) rfl
  refine cl_i (wr := []) (va_runV (As := [.int (xs (Int32.toNatClampNeg 1)), .int (xs (Int32.toNatClampNeg 2)), .int (xs (Int32.toNatClampNeg 3))]) (rest := [.int r7]) ⟨hx, hb, hml, hown, hts⟩ (c_X12_test l D c H.size rm ((xs (Int32.toNatClampNeg 1))) ((xs (Int32.toNatClampNeg 2))) ((xs (Int32.toNatClampNeg 3)))) (kw_V 3 hts wd_1596 wd_1597 wd_1598 wd_90 wd_1599 rfl rfl (by decide +kernel) ⟨Nat.le_of_ble_eq_true rfl, Nat.le_of_ble_eq_true rfl⟩) (pre_V hPc hK hDc hN hO (ci := 12) (q0 := 0) rfl rfl) rfl rfl hl.1 rfl (lv_room (Nat.le_of_ble_eq_true rfl)) dL_law_877 ⟨Nat.le_of_ble_eq_true rfl, Nat.le_of_ble_eq_true rfl⟩) hP hD hS hA [0] [] rfl rfl (by decide) (by decide) (fun r16 u17 H locs h18 hP hD hS => ?_)
  have hP : va_P D vwCl [] H := hP
  have hD : va_D A [] := hD
  refine lv_icmp_eq (tgt := 1533) hx hb dL_law_880 (by decide) (fun _ => ?_) (fun c => absurd (h9.trans h18.symm) c)
  exact law_fin hx hb hr hml hown hlocks hX hbl hbA hAs (Nat.le_of_ble_eq_true rfl) (Nat.le_of_ble_eq_true rfl) hS (lv_sub hl [0, 3] rfl)
set_option maxHeartbeats 4000000 in
set_option maxRecDepth 100000 in
theorem law_19 {p : Program} {l : Launch} {e : Env} {s : State} {m : MethodId} {below : List Frame} {meth : Method} {cd : Code} {b : Nat} {xs : Nat → Int32} {H : Heap} {locs : List Loc} {ls : Array Slot} {A : Nat → Prop} {D : va_G} {c : Nat → ClassId} {rx rm : Nat → Nat} (hx : p.tables.exec = Jvm.exec) (hb : cd.code = cL_law) (hr : meth.sig.returnType = ret) (hml : cd.maxLocals = 4) (hown : s.vm.findClass R_law = some m.cls) (hlocks : meth.locks = false) (hX : va_X b 8 xs s s.heap) (hbl : b < s.heap.size) (hbA : ¬ A b) (hAs : ∀ q, A q → s.heap.size ≤ q) (hts : ∀ w ∈ Wd, w.before #[Value.ref b] s = true) (hN : NW s) (hO : ∀ C ∈ aoL, va_AO C s) (hK : va_K D vwCl (TY c) s) (hA : ∀ q, s.heap.size ≤ q → A q) (hP : va_P D vwCl [((rx 0), .inr (11, fX rx 0 0)), ((rx 3), .inl (c 4, 11, .inr (.inr (.inr (.inr (fun _ => none)))))), ((rm 0), .inr (12, fM rm 0 0))] H) (hD : va_D A [((rx 0), .inr (11, fX rx 0 0)), ((rx 3), .inl (c 4, 11, .inr (.inr (.inr (.inr (fun _ => none)))))), ((rm 0), .inr (12, fM rm 0 0))]) (hS : va_S A s.heap H locs) (hl : lv_has ls 4 [(3, .int 0), (2, .ref (rm 0)), (1, .ref (rx 0)), (0, .ref b)]) : W p l e room_1 s m #[Value.ref b] below meth cd H locs 95 102698 (lw_Z below #[Value.ref b] s) (F0 m 885 ls []) := by
  refine lv_aload_n hx hb dL_law_885 rfl (lv_at hl 2 rfl) ?_
  refine lv_aload_n hx hb dL_law_886 rfl (lv_at hl 3 rfl) ?_
  refine lv_iload_n hx hb dL_law_887 rfl (lv_at hl 0 rfl) ?_
  refine lv_iconst (v := 1) hx hb dL_law_888 (by decide) ?_
  refine lv_iadd hx hb dL_law_889 ?_
  refine lv_topi (fun v1 e2 => ?_)
  obtain rfl : v1 = 1 := e2.trans (by decide)
  refine va_sld hx hb hX hbl hbA hS (vp_in_iff.mpr (by decide)) dL_law_890 ?_
  refine lv_aload_n hx hb dL_law_891 rfl (lv_at hl 3 rfl) ?_
  refine lv_iload_n hx hb dL_law_892 rfl (lv_at hl 0 rfl) ?_
  refine lv_iconst (v := 2) hx hb dL_law_893 (by decide) ?_
  refine lv_iadd hx hb dL_law_894 ?_
  refine lv_topi (fun v3 e4 => ?_)
  obtain rfl : v3 = 2 := e4.trans (by decide)
  refine va_sld hx hb hX hbl hbA hS (vp_in_iff.mpr (by decide)) dL_law_895 ?_
  refine lv_aload_n hx hb dL_law_896 rfl (lv_at hl 3 rfl) ?_
  refine lv_iload_n hx hb dL_law_897 rfl (lv_at hl 0 rfl) ?_
  refine lv_iconst (v := 3) hx hb dL_law_898 (by decide) ?_
  refine lv_iadd hx hb dL_law_899 ?_
  refine lv_topi (fun v5 e6 => ?_)
  obtain rfl : v5 = 3 := e6.trans (by decide)
  refine va_sld hx hb hX hbl hbA hS (vp_in_iff.mpr (by decide)) dL_law_900 ?_
  have hPc := hP.sub (ws' := [((rx 0), .inr (11, fX rx 0 0)), ((rx 3), .inl (c 4, 11, .inr (.inr (.inr (.inr (fun _ => none))))))]) [0, 1] rfl
  have hDc := hD.sub (ws' := [((rx 0), .inr (11, fX rx 0 0)), ((rx 3), .inl (c 4, 11, .inr (.inr (.inr (.inr (fun _ => none))))))]) [0, 1] (by decide) rfl
  refine cl_i (wr := [((rm 0), .inr (12, fM rm 0 0))]) (va_runV (As := [.int (xs (Int32.toNatClampNeg 1)), .int (xs (Int32.toNatClampNeg 2)), .int (xs (Int32.toNatClampNeg 3))]) (rest := []) ⟨hx, hb, hml, hown, hts⟩ (c_X11_closed l D c H.size rx ((xs (Int32.toNatClampNeg 1))) ((xs (Int32.toNatClampNeg 2))) ((xs (Int32.toNatClampNeg 3)))) (kw_V 3 hts wd_882 wd_883 wd_884 wd_83 wd_885 rfl rfl (by decide +kernel) ⟨Nat.le_of_ble_eq_true rfl, Nat.le_of_ble_eq_true rfl⟩) (pre_V hPc hK hDc hN hO (ci := 11) (q0 := 0) rfl rfl) rfl rfl hl.1 rfl (lv_room (Nat.le_of_ble_eq_true rfl)) dL_law_901 ⟨Nat.le_of_ble_eq_true rfl, Nat.le_of_ble_eq_true rfl⟩) hP hD hS hA [0, 1] [2] rfl rfl (by decide) (by decide) (fun r7 u8 H locs h9 hP hD hS => ?_)
  have hP : va_P D vwCl [((rm 0), .inr (12, fM rm 0 0))] H := hP
  have hD : va_D A [((rm 0), .inr (12, fM rm 0 0))] := hD
  refine lv_aload_n hx hb dL_law_904 rfl (lv_at hl 1 rfl) ?_
  refine lv_aload_n hx hb dL_law_905 rfl (lv_at hl 3 rfl) ?_
  refine lv_iload_n hx hb dL_law_906 rfl (lv_at hl 0 rfl) ?_
  refine lv_iconst (v := 1) hx hb dL_law_907 (by decide) ?_
  refine lv_iadd hx hb dL_law_908 ?_
  refine lv_topi (fun v10 e11 => ?_)
  obtain rfl : v10 = 1 := e11.trans (by decide)
  refine va_sld hx hb hX hbl hbA hS (vp_in_iff.mpr (by decide)) dL_law_909 ?_
  refine lv_aload_n hx hb dL_law_910 rfl (lv_at hl 3 rfl) ?_
  refine lv_iload_n hx hb dL_law_911 rfl (lv_at hl 0 rfl) ?_
  refine lv_iconst (v := 2) hx hb dL_law_912 (by decide) ?_
  refine lv_iadd hx hb dL_law_913 ?_
  refine lv_topi (fun v12 e13 => ?_)
  obtain rfl : v12 = 2 := e13.trans (by decide)
  refine va_sld hx hb hX hbl hbA hS (vp_in_iff.mpr (by decide)) dL_law_914 ?_
  refine lv_aload_n hx hb dL_law_915 rfl (lv_at hl 3 rfl) ?_
  refine lv_iload_n hx hb dL_law_916 rfl (lv_at hl 0 rfl) ?_
  refine lv_iconst (v := 3) hx hb dL_law_917 (by decide) ?_
  refine lv_iadd hx hb dL_law_918 ?_
  refine lv_topi (fun v14 e15 => ?_)
  obtain rfl : v14 = 3 := e15.trans (by decide)
  refine va_sld hx hb hX hbl hbA hS (vp_in_iff.mpr (by decide)) dL_law_919 ?_
  have hPc := hP.sub (ws' := [((rm 0), .inr (12, fM rm 0 0))]) [0] rfl
  have hDc := hD.sub (ws' := [((rm 0), .inr (12, fM rm 0 0))]) [0] (by decide) rfl
  refine cl_i (wr := []) (va_runV (As := [.int (xs (Int32.toNatClampNeg 1)), .int (xs (Int32.toNatClampNeg 2)), .int (xs (Int32.toNatClampNeg 3))]) (rest := [.int r7]) ⟨hx, hb, hml, hown, hts⟩ (c_X12_closed l D c H.size rm ((xs (Int32.toNatClampNeg 1))) ((xs (Int32.toNatClampNeg 2))) ((xs (Int32.toNatClampNeg 3)))) (kw_V 3 hts wd_1600 wd_1601 wd_1602 wd_90 wd_1603 rfl rfl (by decide +kernel) ⟨Nat.le_of_ble_eq_true rfl, Nat.le_of_ble_eq_true rfl⟩) (pre_V hPc hK hDc hN hO (ci := 12) (q0 := 0) rfl rfl) rfl rfl hl.1 rfl (lv_room (Nat.le_of_ble_eq_true rfl)) dL_law_920 ⟨Nat.le_of_ble_eq_true rfl, Nat.le_of_ble_eq_true rfl⟩) hP hD hS hA [0] [] rfl rfl (by decide) (by decide) (fun r16 u17 H locs h18 hP hD hS => ?_)
  have hP : va_P D vwCl [] H := hP
  have hD : va_D A [] := hD
  refine lv_icmp_eq (tgt := 1533) hx hb dL_law_923 (by decide) (fun _ => ?_) (fun c => absurd (h9.trans h18.symm) c)
  exact law_fin hx hb hr hml hown hlocks hX hbl hbA hAs (Nat.le_of_ble_eq_true rfl) (Nat.le_of_ble_eq_true rfl) hS (lv_sub hl [0, 3] rfl)
set_option maxHeartbeats 4000000 in
set_option maxRecDepth 100000 in
theorem law_20 {p : Program} {l : Launch} {e : Env} {s : State} {m : MethodId} {below : List Frame} {meth : Method} {cd : Code} {b : Nat} {xs : Nat → Int32} {H : Heap} {locs : List Loc} {ls : Array Slot} {A : Nat → Prop} {D : va_G} {c : Nat → ClassId} {rx rm : Nat → Nat} (hx : p.tables.exec = Jvm.exec) (hb : cd.code = cL_law) (hr : meth.sig.returnType = ret) (hml : cd.maxLocals = 4) (hown : s.vm.findClass R_law = some m.cls) (hlocks : meth.locks = false) (hX : va_X b 8 xs s s.heap) (hbl : b < s.heap.size) (hbA : ¬ A b) (hAs : ∀ q, A q → s.heap.size ≤ q) (hts : ∀ w ∈ Wd, w.before #[Value.ref b] s = true) (hN : NW s) (hO : ∀ C ∈ aoL, va_AO C s) (hK : va_K D vwCl (TY c) s) (hA : ∀ q, s.heap.size ≤ q → A q) (hP : va_P D vwCl [((rx 0), .inr (11, fX rx 0 0)), ((rx 3), .inl (c 4, 11, .inr (.inr (.inr (.inr (fun _ => none)))))), ((rm 0), .inr (12, fM rm 0 0))] H) (hD : va_D A [((rx 0), .inr (11, fX rx 0 0)), ((rx 3), .inl (c 4, 11, .inr (.inr (.inr (.inr (fun _ => none)))))), ((rm 0), .inr (12, fM rm 0 0))]) (hS : va_S A s.heap H locs) (hl : lv_has ls 4 [(3, .int 0), (2, .ref (rm 0)), (1, .ref (rx 0)), (0, .ref b)]) : W p l e room_1 s m #[Value.ref b] below meth cd H locs 95 102698 (lw_Z below #[Value.ref b] s) (F0 m 928 ls []) := by
  refine lv_aload_n hx hb dL_law_928 rfl (lv_at hl 2 rfl) ?_
  refine lv_aload_n hx hb dL_law_929 rfl (lv_at hl 3 rfl) ?_
  refine lv_iload_n hx hb dL_law_930 rfl (lv_at hl 0 rfl) ?_
  refine lv_iconst (v := 1) hx hb dL_law_931 (by decide) ?_
  refine lv_iadd hx hb dL_law_932 ?_
  refine lv_topi (fun v1 e2 => ?_)
  obtain rfl : v1 = 1 := e2.trans (by decide)
  refine va_sld hx hb hX hbl hbA hS (vp_in_iff.mpr (by decide)) dL_law_933 ?_
  refine lv_aload_n hx hb dL_law_934 rfl (lv_at hl 3 rfl) ?_
  refine lv_iload_n hx hb dL_law_935 rfl (lv_at hl 0 rfl) ?_
  refine lv_iconst (v := 2) hx hb dL_law_936 (by decide) ?_
  refine lv_iadd hx hb dL_law_937 ?_
  refine lv_topi (fun v3 e4 => ?_)
  obtain rfl : v3 = 2 := e4.trans (by decide)
  refine va_sld hx hb hX hbl hbA hS (vp_in_iff.mpr (by decide)) dL_law_938 ?_
  refine lv_aload_n hx hb dL_law_939 rfl (lv_at hl 3 rfl) ?_
  refine lv_iload_n hx hb dL_law_940 rfl (lv_at hl 0 rfl) ?_
  refine lv_iconst (v := 3) hx hb dL_law_941 (by decide) ?_
  refine lv_iadd hx hb dL_law_942 ?_
  refine lv_topi (fun v5 e6 => ?_)
  obtain rfl : v5 = 3 := e6.trans (by decide)
  refine va_sld hx hb hX hbl hbA hS (vp_in_iff.mpr (by decide)) dL_law_943 ?_
  have hPc := hP.sub (ws' := [((rx 0), .inr (11, fX rx 0 0)), ((rx 3), .inl (c 4, 11, .inr (.inr (.inr (.inr (fun _ => none))))))]) [0, 1] rfl
  have hDc := hD.sub (ws' := [((rx 0), .inr (11, fX rx 0 0)), ((rx 3), .inl (c 4, 11, .inr (.inr (.inr (.inr (fun _ => none))))))]) [0, 1] (by decide) rfl
  refine cl_i (wr := [((rm 0), .inr (12, fM rm 0 0))]) (va_runV (As := [.int (xs (Int32.toNatClampNeg 1)), .int (xs (Int32.toNatClampNeg 2)), .int (xs (Int32.toNatClampNeg 3))]) (rest := []) ⟨hx, hb, hml, hown, hts⟩ (c_X11_open l D c H.size rx ((xs (Int32.toNatClampNeg 1))) ((xs (Int32.toNatClampNeg 2))) ((xs (Int32.toNatClampNeg 3)))) (kw_V 3 hts wd_908 wd_909 wd_910 wd_83 wd_911 rfl rfl (by decide +kernel) ⟨Nat.le_of_ble_eq_true rfl, Nat.le_of_ble_eq_true rfl⟩) (pre_V hPc hK hDc hN hO (ci := 11) (q0 := 0) rfl rfl) rfl rfl hl.1 rfl (lv_room (Nat.le_of_ble_eq_true rfl)) dL_law_944 ⟨Nat.le_of_ble_eq_true rfl, Nat.le_of_ble_eq_true rfl⟩) hP hD hS hA [0, 1] [2] rfl rfl (by decide) (by decide) (fun r7 u8 H locs h9 hP hD hS => ?_)
  have hP : va_P D vwCl [((rm 0), .inr (12, fM rm 0 0))] H := hP
  have hD : va_D A [((rm 0), .inr (12, fM rm 0 0))] := hD
  refine lv_aload_n hx hb dL_law_947 rfl (lv_at hl 1 rfl) ?_
  refine lv_aload_n hx hb dL_law_948 rfl (lv_at hl 3 rfl) ?_
  refine lv_iload_n hx hb dL_law_949 rfl (lv_at hl 0 rfl) ?_
  refine lv_iconst (v := 1) hx hb dL_law_950 (by decide) ?_
  refine lv_iadd hx hb dL_law_951 ?_
  refine lv_topi (fun v10 e11 => ?_)
  obtain rfl : v10 = 1 := e11.trans (by decide)
  refine va_sld hx hb hX hbl hbA hS (vp_in_iff.mpr (by decide)) dL_law_952 ?_
  refine lv_aload_n hx hb dL_law_953 rfl (lv_at hl 3 rfl) ?_
  refine lv_iload_n hx hb dL_law_954 rfl (lv_at hl 0 rfl) ?_
  refine lv_iconst (v := 2) hx hb dL_law_955 (by decide) ?_
  refine lv_iadd hx hb dL_law_956 ?_
  refine lv_topi (fun v12 e13 => ?_)
  obtain rfl : v12 = 2 := e13.trans (by decide)
  refine va_sld hx hb hX hbl hbA hS (vp_in_iff.mpr (by decide)) dL_law_957 ?_
  refine lv_aload_n hx hb dL_law_958 rfl (lv_at hl 3 rfl) ?_
  refine lv_iload_n hx hb dL_law_959 rfl (lv_at hl 0 rfl) ?_
  refine lv_iconst (v := 3) hx hb dL_law_960 (by decide) ?_
  refine lv_iadd hx hb dL_law_961 ?_
  refine lv_topi (fun v14 e15 => ?_)
  obtain rfl : v14 = 3 := e15.trans (by decide)
  refine va_sld hx hb hX hbl hbA hS (vp_in_iff.mpr (by decide)) dL_law_962 ?_
  have hPc := hP.sub (ws' := [((rm 0), .inr (12, fM rm 0 0))]) [0] rfl
  have hDc := hD.sub (ws' := [((rm 0), .inr (12, fM rm 0 0))]) [0] (by decide) rfl
  refine cl_i (wr := []) (va_runV (As := [.int (xs (Int32.toNatClampNeg 1)), .int (xs (Int32.toNatClampNeg 2)), .int (xs (Int32.toNatClampNeg 3))]) (rest := [.int r7]) ⟨hx, hb, hml, hown, hts⟩ (c_X12_open l D c H.size rm ((xs (Int32.toNatClampNeg 1))) ((xs (Int32.toNatClampNeg 2))) ((xs (Int32.toNatClampNeg 3)))) (kw_V 3 hts wd_1623 wd_1624 wd_1625 wd_90 wd_1626 rfl rfl (by decide +kernel) ⟨Nat.le_of_ble_eq_true rfl, Nat.le_of_ble_eq_true rfl⟩) (pre_V hPc hK hDc hN hO (ci := 12) (q0 := 0) rfl rfl) rfl rfl hl.1 rfl (lv_room (Nat.le_of_ble_eq_true rfl)) dL_law_963 ⟨Nat.le_of_ble_eq_true rfl, Nat.le_of_ble_eq_true rfl⟩) hP hD hS hA [0] [] rfl rfl (by decide) (by decide) (fun r16 u17 H locs h18 hP hD hS => ?_)
  have hP : va_P D vwCl [] H := hP
  have hD : va_D A [] := hD
  refine lv_icmp_eq (tgt := 1533) hx hb dL_law_966 (by decide) (fun _ => ?_) (fun c => absurd (h9.trans h18.symm) c)
  exact law_fin hx hb hr hml hown hlocks hX hbl hbA hAs (Nat.le_of_ble_eq_true rfl) (Nat.le_of_ble_eq_true rfl) hS (lv_sub hl [0, 3] rfl)
set_option maxHeartbeats 4000000 in
set_option maxRecDepth 100000 in
theorem law_21 {p : Program} {l : Launch} {e : Env} {s : State} {m : MethodId} {below : List Frame} {meth : Method} {cd : Code} {b : Nat} {xs : Nat → Int32} {H : Heap} {locs : List Loc} {ls : Array Slot} {A : Nat → Prop} {D : va_G} {c : Nat → ClassId} {rx rm : Nat → Nat} (hx : p.tables.exec = Jvm.exec) (hb : cd.code = cL_law) (hr : meth.sig.returnType = ret) (hml : cd.maxLocals = 4) (hown : s.vm.findClass R_law = some m.cls) (hlocks : meth.locks = false) (hX : va_X b 8 xs s s.heap) (hbl : b < s.heap.size) (hbA : ¬ A b) (hAs : ∀ q, A q → s.heap.size ≤ q) (hts : ∀ w ∈ Wd, w.before #[Value.ref b] s = true) (hN : NW s) (hO : ∀ C ∈ aoL, va_AO C s) (hK : va_K D vwCl (TY c) s) (hA : ∀ q, s.heap.size ≤ q → A q) (hP : va_P D vwCl [((rx 0), .inr (11, fX rx 0 0)), ((rx 3), .inl (c 4, 11, .inr (.inr (.inr (.inr (fun _ => none)))))), ((rm 0), .inr (12, fM rm 0 0))] H) (hD : va_D A [((rx 0), .inr (11, fX rx 0 0)), ((rx 3), .inl (c 4, 11, .inr (.inr (.inr (.inr (fun _ => none)))))), ((rm 0), .inr (12, fM rm 0 0))]) (hS : va_S A s.heap H locs) (hl : lv_has ls 4 [(3, .int 0), (2, .ref (rm 0)), (1, .ref (rx 0)), (0, .ref b)]) : W p l e room_1 s m #[Value.ref b] below meth cd H locs 95 102698 (lw_Z below #[Value.ref b] s) (F0 m 971 ls []) := by
  refine lv_aload_n hx hb dL_law_971 rfl (lv_at hl 2 rfl) ?_
  refine lv_aload_n hx hb dL_law_972 rfl (lv_at hl 3 rfl) ?_
  refine lv_iload_n hx hb dL_law_973 rfl (lv_at hl 0 rfl) ?_
  refine lv_iconst (v := 1) hx hb dL_law_974 (by decide) ?_
  refine lv_iadd hx hb dL_law_975 ?_
  refine lv_topi (fun v1 e2 => ?_)
  obtain rfl : v1 = 1 := e2.trans (by decide)
  refine va_sld hx hb hX hbl hbA hS (vp_in_iff.mpr (by decide)) dL_law_976 ?_
  refine lv_aload_n hx hb dL_law_977 rfl (lv_at hl 3 rfl) ?_
  refine lv_iload_n hx hb dL_law_978 rfl (lv_at hl 0 rfl) ?_
  refine lv_iconst (v := 2) hx hb dL_law_979 (by decide) ?_
  refine lv_iadd hx hb dL_law_980 ?_
  refine lv_topi (fun v3 e4 => ?_)
  obtain rfl : v3 = 2 := e4.trans (by decide)
  refine va_sld hx hb hX hbl hbA hS (vp_in_iff.mpr (by decide)) dL_law_981 ?_
  refine lv_aload_n hx hb dL_law_982 rfl (lv_at hl 3 rfl) ?_
  refine lv_iload_n hx hb dL_law_983 rfl (lv_at hl 0 rfl) ?_
  refine lv_iconst (v := 3) hx hb dL_law_984 (by decide) ?_
  refine lv_iadd hx hb dL_law_985 ?_
  refine lv_topi (fun v5 e6 => ?_)
  obtain rfl : v5 = 3 := e6.trans (by decide)
  refine va_sld hx hb hX hbl hbA hS (vp_in_iff.mpr (by decide)) dL_law_986 ?_
  refine lv_if_eq (tgt := 994) hx hb dL_law_987 (by decide) (fun c7 => ?_) (fun c7 => ?_)
  · refine lv_iconst (v := 0) hx hb dL_law_994 (by decide) ?_
    have hPc := hP.sub (ws' := [((rx 0), .inr (11, fX rx 0 0)), ((rx 3), .inl (c 4, 11, .inr (.inr (.inr (.inr (fun _ => none))))))]) [0, 1] rfl
    have hDc := hD.sub (ws' := [((rx 0), .inr (11, fX rx 0 0)), ((rx 3), .inl (c 4, 11, .inr (.inr (.inr (.inr (fun _ => none))))))]) [0, 1] (by decide) rfl
    refine cl_i (wr := [((rm 0), .inr (12, fM rm 0 0))]) (va_runV (As := [.int (xs (Int32.toNatClampNeg 1)), .int (xs (Int32.toNatClampNeg 2)), .int 0]) (rest := []) ⟨hx, hb, hml, hown, hts⟩ (c_X11_free l D c H.size rx ((xs (Int32.toNatClampNeg 1))) ((xs (Int32.toNatClampNeg 2))) 0) (kw_V 3 hts wd_919 wd_920 wd_921 wd_83 wd_922 rfl rfl (by decide +kernel) ⟨Nat.le_of_ble_eq_true rfl, Nat.le_of_ble_eq_true rfl⟩) (pre_V hPc hK hDc hN hO (ci := 11) (q0 := 0) rfl rfl) rfl rfl hl.1 rfl (lv_room (Nat.le_of_ble_eq_true rfl)) dL_law_995 ⟨Nat.le_of_ble_eq_true rfl, Nat.le_of_ble_eq_true rfl⟩) hP hD hS hA [0, 1] [2] rfl rfl (by decide) (by decide) (fun r8 u9 H locs h10 hP hD hS => ?_)
    have hP : va_P D vwCl [((rm 0), .inr (12, fM rm 0 0))] H := hP
    have hD : va_D A [((rm 0), .inr (12, fM rm 0 0))] := hD
    refine lv_aload_n hx hb dL_law_998 rfl (lv_at hl 1 rfl) ?_
    refine lv_aload_n hx hb dL_law_999 rfl (lv_at hl 3 rfl) ?_
    refine lv_iload_n hx hb dL_law_1000 rfl (lv_at hl 0 rfl) ?_
    refine lv_iconst (v := 1) hx hb dL_law_1001 (by decide) ?_
    refine lv_iadd hx hb dL_law_1002 ?_
    refine lv_topi (fun v11 e12 => ?_)
    obtain rfl : v11 = 1 := e12.trans (by decide)
    refine va_sld hx hb hX hbl hbA hS (vp_in_iff.mpr (by decide)) dL_law_1003 ?_
    refine lv_aload_n hx hb dL_law_1004 rfl (lv_at hl 3 rfl) ?_
    refine lv_iload_n hx hb dL_law_1005 rfl (lv_at hl 0 rfl) ?_
    refine lv_iconst (v := 2) hx hb dL_law_1006 (by decide) ?_
    refine lv_iadd hx hb dL_law_1007 ?_
    refine lv_topi (fun v13 e14 => ?_)
    obtain rfl : v13 = 2 := e14.trans (by decide)
    refine va_sld hx hb hX hbl hbA hS (vp_in_iff.mpr (by decide)) dL_law_1008 ?_
    refine lv_aload_n hx hb dL_law_1009 rfl (lv_at hl 3 rfl) ?_
    refine lv_iload_n hx hb dL_law_1010 rfl (lv_at hl 0 rfl) ?_
    refine lv_iconst (v := 3) hx hb dL_law_1011 (by decide) ?_
    refine lv_iadd hx hb dL_law_1012 ?_
    refine lv_topi (fun v15 e16 => ?_)
    obtain rfl : v15 = 3 := e16.trans (by decide)
    refine va_sld hx hb hX hbl hbA hS (vp_in_iff.mpr (by decide)) dL_law_1013 ?_
    refine lv_if_eq (tgt := 1021) hx hb dL_law_1014 (by decide) (fun _ => ?_) (fun c => absurd c7 c)
    refine lv_iconst (v := 0) hx hb dL_law_1021 (by decide) ?_
    have hPc := hP.sub (ws' := [((rm 0), .inr (12, fM rm 0 0))]) [0] rfl
    have hDc := hD.sub (ws' := [((rm 0), .inr (12, fM rm 0 0))]) [0] (by decide) rfl
    refine cl_i (wr := []) (va_runV (As := [.int (xs (Int32.toNatClampNeg 1)), .int (xs (Int32.toNatClampNeg 2)), .int 0]) (rest := [.int r8]) ⟨hx, hb, hml, hown, hts⟩ (c_X12_free l D c H.size rm ((xs (Int32.toNatClampNeg 1))) ((xs (Int32.toNatClampNeg 2))) 0) (kw_V 3 hts wd_1634 wd_1635 wd_1636 wd_90 wd_1637 rfl rfl (by decide +kernel) ⟨Nat.le_of_ble_eq_true rfl, Nat.le_of_ble_eq_true rfl⟩) (pre_V hPc hK hDc hN hO (ci := 12) (q0 := 0) rfl rfl) rfl rfl hl.1 rfl (lv_room (Nat.le_of_ble_eq_true rfl)) dL_law_1022 ⟨Nat.le_of_ble_eq_true rfl, Nat.le_of_ble_eq_true rfl⟩) hP hD hS hA [0] [] rfl rfl (by decide) (by decide) (fun r17 u18 H locs h19 hP hD hS => ?_)
    have hP : va_P D vwCl [] H := hP
    have hD : va_D A [] := hD
    refine lv_icmp_eq (tgt := 1533) hx hb dL_law_1025 (by decide) (fun _ => ?_) (fun c => absurd (h10.trans h19.symm) c)
    exact law_fin hx hb hr hml hown hlocks hX hbl hbA hAs (Nat.le_of_ble_eq_true rfl) (Nat.le_of_ble_eq_true rfl) hS (lv_sub hl [0, 3] rfl)
  · refine lv_iconst (v := 1) hx hb dL_law_990 (by decide) ?_
    refine lv_goto (tgt := 995) hx hb dL_law_991 (by decide) ?_
    have hPc := hP.sub (ws' := [((rx 0), .inr (11, fX rx 0 0)), ((rx 3), .inl (c 4, 11, .inr (.inr (.inr (.inr (fun _ => none))))))]) [0, 1] rfl
    have hDc := hD.sub (ws' := [((rx 0), .inr (11, fX rx 0 0)), ((rx 3), .inl (c 4, 11, .inr (.inr (.inr (.inr (fun _ => none))))))]) [0, 1] (by decide) rfl
    refine cl_i (wr := [((rm 0), .inr (12, fM rm 0 0))]) (va_runV (As := [.int (xs (Int32.toNatClampNeg 1)), .int (xs (Int32.toNatClampNeg 2)), .int 1]) (rest := []) ⟨hx, hb, hml, hown, hts⟩ (c_X11_free l D c H.size rx ((xs (Int32.toNatClampNeg 1))) ((xs (Int32.toNatClampNeg 2))) 1) (kw_V 3 hts wd_919 wd_920 wd_921 wd_83 wd_922 rfl rfl (by decide +kernel) ⟨Nat.le_of_ble_eq_true rfl, Nat.le_of_ble_eq_true rfl⟩) (pre_V hPc hK hDc hN hO (ci := 11) (q0 := 0) rfl rfl) rfl rfl hl.1 rfl (lv_room (Nat.le_of_ble_eq_true rfl)) dL_law_995 ⟨Nat.le_of_ble_eq_true rfl, Nat.le_of_ble_eq_true rfl⟩) hP hD hS hA [0, 1] [2] rfl rfl (by decide) (by decide) (fun r20 u21 H locs h22 hP hD hS => ?_)
    have hP : va_P D vwCl [((rm 0), .inr (12, fM rm 0 0))] H := hP
    have hD : va_D A [((rm 0), .inr (12, fM rm 0 0))] := hD
    refine lv_aload_n hx hb dL_law_998 rfl (lv_at hl 1 rfl) ?_
    refine lv_aload_n hx hb dL_law_999 rfl (lv_at hl 3 rfl) ?_
    refine lv_iload_n hx hb dL_law_1000 rfl (lv_at hl 0 rfl) ?_
    refine lv_iconst (v := 1) hx hb dL_law_1001 (by decide) ?_
    refine lv_iadd hx hb dL_law_1002 ?_
    refine lv_topi (fun v23 e24 => ?_)
    obtain rfl : v23 = 1 := e24.trans (by decide)
    refine va_sld hx hb hX hbl hbA hS (vp_in_iff.mpr (by decide)) dL_law_1003 ?_
    refine lv_aload_n hx hb dL_law_1004 rfl (lv_at hl 3 rfl) ?_
    refine lv_iload_n hx hb dL_law_1005 rfl (lv_at hl 0 rfl) ?_
    refine lv_iconst (v := 2) hx hb dL_law_1006 (by decide) ?_
    refine lv_iadd hx hb dL_law_1007 ?_
    refine lv_topi (fun v25 e26 => ?_)
    obtain rfl : v25 = 2 := e26.trans (by decide)
    refine va_sld hx hb hX hbl hbA hS (vp_in_iff.mpr (by decide)) dL_law_1008 ?_
    refine lv_aload_n hx hb dL_law_1009 rfl (lv_at hl 3 rfl) ?_
    refine lv_iload_n hx hb dL_law_1010 rfl (lv_at hl 0 rfl) ?_
    refine lv_iconst (v := 3) hx hb dL_law_1011 (by decide) ?_
    refine lv_iadd hx hb dL_law_1012 ?_
    refine lv_topi (fun v27 e28 => ?_)
    obtain rfl : v27 = 3 := e28.trans (by decide)
    refine va_sld hx hb hX hbl hbA hS (vp_in_iff.mpr (by decide)) dL_law_1013 ?_
    refine lv_if_eq (tgt := 1021) hx hb dL_law_1014 (by decide) (fun c => absurd c c7) (fun _ => ?_)
    refine lv_iconst (v := 1) hx hb dL_law_1017 (by decide) ?_
    refine lv_goto (tgt := 1022) hx hb dL_law_1018 (by decide) ?_
    have hPc := hP.sub (ws' := [((rm 0), .inr (12, fM rm 0 0))]) [0] rfl
    have hDc := hD.sub (ws' := [((rm 0), .inr (12, fM rm 0 0))]) [0] (by decide) rfl
    refine cl_i (wr := []) (va_runV (As := [.int (xs (Int32.toNatClampNeg 1)), .int (xs (Int32.toNatClampNeg 2)), .int 1]) (rest := [.int r20]) ⟨hx, hb, hml, hown, hts⟩ (c_X12_free l D c H.size rm ((xs (Int32.toNatClampNeg 1))) ((xs (Int32.toNatClampNeg 2))) 1) (kw_V 3 hts wd_1634 wd_1635 wd_1636 wd_90 wd_1637 rfl rfl (by decide +kernel) ⟨Nat.le_of_ble_eq_true rfl, Nat.le_of_ble_eq_true rfl⟩) (pre_V hPc hK hDc hN hO (ci := 12) (q0 := 0) rfl rfl) rfl rfl hl.1 rfl (lv_room (Nat.le_of_ble_eq_true rfl)) dL_law_1022 ⟨Nat.le_of_ble_eq_true rfl, Nat.le_of_ble_eq_true rfl⟩) hP hD hS hA [0] [] rfl rfl (by decide) (by decide) (fun r29 u30 H locs h31 hP hD hS => ?_)
    have hP : va_P D vwCl [] H := hP
    have hD : va_D A [] := hD
    refine lv_icmp_eq (tgt := 1533) hx hb dL_law_1025 (by decide) (fun _ => ?_) (fun c => absurd (h22.trans h31.symm) c)
    exact law_fin hx hb hr hml hown hlocks hX hbl hbA hAs (Nat.le_of_ble_eq_true rfl) (Nat.le_of_ble_eq_true rfl) hS (lv_sub hl [0, 3] rfl)
set_option maxHeartbeats 4000000 in
set_option maxRecDepth 100000 in
theorem law_22 {p : Program} {l : Launch} {e : Env} {s : State} {m : MethodId} {below : List Frame} {meth : Method} {cd : Code} {b : Nat} {xs : Nat → Int32} {H : Heap} {locs : List Loc} {ls : Array Slot} {A : Nat → Prop} {D : va_G} {c : Nat → ClassId} {rx rm : Nat → Nat} (hx : p.tables.exec = Jvm.exec) (hb : cd.code = cL_law) (hr : meth.sig.returnType = ret) (hml : cd.maxLocals = 4) (hown : s.vm.findClass R_law = some m.cls) (hlocks : meth.locks = false) (hX : va_X b 8 xs s s.heap) (hbl : b < s.heap.size) (hbA : ¬ A b) (hAs : ∀ q, A q → s.heap.size ≤ q) (hts : ∀ w ∈ Wd, w.before #[Value.ref b] s = true) (hN : NW s) (hO : ∀ C ∈ aoL, va_AO C s) (hK : va_K D vwCl (TY c) s) (hA : ∀ q, s.heap.size ≤ q → A q) (hP : va_P D vwCl [((rx 0), .inr (11, fX rx 0 0)), ((rx 3), .inl (c 4, 11, .inr (.inr (.inr (.inr (fun _ => none)))))), ((rm 0), .inr (12, fM rm 0 0))] H) (hD : va_D A [((rx 0), .inr (11, fX rx 0 0)), ((rx 3), .inl (c 4, 11, .inr (.inr (.inr (.inr (fun _ => none)))))), ((rm 0), .inr (12, fM rm 0 0))]) (hS : va_S A s.heap H locs) (hl : lv_has ls 4 [(3, .int 0), (2, .ref (rm 0)), (1, .ref (rx 0)), (0, .ref b)]) : W p l e room_1 s m #[Value.ref b] below meth cd H locs 95 102698 (lw_Z below #[Value.ref b] s) (F0 m 1030 ls []) := by
  refine lv_aload_n hx hb dL_law_1030 rfl (lv_at hl 2 rfl) ?_
  refine lv_aload_n hx hb dL_law_1031 rfl (lv_at hl 3 rfl) ?_
  refine lv_iload_n hx hb dL_law_1032 rfl (lv_at hl 0 rfl) ?_
  refine lv_iconst (v := 1) hx hb dL_law_1033 (by decide) ?_
  refine lv_iadd hx hb dL_law_1034 ?_
  refine lv_topi (fun v1 e2 => ?_)
  obtain rfl : v1 = 1 := e2.trans (by decide)
  refine va_sld hx hb hX hbl hbA hS (vp_in_iff.mpr (by decide)) dL_law_1035 ?_
  refine lv_aload_n hx hb dL_law_1036 rfl (lv_at hl 3 rfl) ?_
  refine lv_iload_n hx hb dL_law_1037 rfl (lv_at hl 0 rfl) ?_
  refine lv_iconst (v := 2) hx hb dL_law_1038 (by decide) ?_
  refine lv_iadd hx hb dL_law_1039 ?_
  refine lv_topi (fun v3 e4 => ?_)
  obtain rfl : v3 = 2 := e4.trans (by decide)
  refine va_sld hx hb hX hbl hbA hS (vp_in_iff.mpr (by decide)) dL_law_1040 ?_
  have hPc := hP.sub (ws' := [((rx 0), .inr (11, fX rx 0 0)), ((rx 3), .inl (c 4, 11, .inr (.inr (.inr (.inr (fun _ => none))))))]) [0, 1] rfl
  have hDc := hD.sub (ws' := [((rx 0), .inr (11, fX rx 0 0)), ((rx 3), .inl (c 4, 11, .inr (.inr (.inr (.inr (fun _ => none))))))]) [0, 1] (by decide) rfl
  refine cl_i (wr := [((rm 0), .inr (12, fM rm 0 0))]) (va_runV (As := [.int (xs (Int32.toNatClampNeg 1)), .int (xs (Int32.toNatClampNeg 2))]) (rest := []) ⟨hx, hb, hml, hown, hts⟩ (c_X11_low l D c H.size rx ((xs (Int32.toNatClampNeg 1))) ((xs (Int32.toNatClampNeg 2)))) (kw_V 2 hts wd_923 wd_924 wd_925 wd_83 wd_926 rfl rfl (by decide +kernel) ⟨Nat.le_of_ble_eq_true rfl, Nat.le_of_ble_eq_true rfl⟩) (pre_V hPc hK hDc hN hO (ci := 11) (q0 := 0) rfl rfl) rfl rfl hl.1 rfl (lv_room (Nat.le_of_ble_eq_true rfl)) dL_law_1041 ⟨Nat.le_of_ble_eq_true rfl, Nat.le_of_ble_eq_true rfl⟩) hP hD hS hA [0, 1] [2] rfl rfl (by decide) (by decide) (fun r5 u6 H locs h7 hP hD hS => ?_)
  have hP : va_P D vwCl [((rm 0), .inr (12, fM rm 0 0))] H := hP
  have hD : va_D A [((rm 0), .inr (12, fM rm 0 0))] := hD
  refine lv_aload_n hx hb dL_law_1044 rfl (lv_at hl 1 rfl) ?_
  refine lv_aload_n hx hb dL_law_1045 rfl (lv_at hl 3 rfl) ?_
  refine lv_iload_n hx hb dL_law_1046 rfl (lv_at hl 0 rfl) ?_
  refine lv_iconst (v := 1) hx hb dL_law_1047 (by decide) ?_
  refine lv_iadd hx hb dL_law_1048 ?_
  refine lv_topi (fun v8 e9 => ?_)
  obtain rfl : v8 = 1 := e9.trans (by decide)
  refine va_sld hx hb hX hbl hbA hS (vp_in_iff.mpr (by decide)) dL_law_1049 ?_
  refine lv_aload_n hx hb dL_law_1050 rfl (lv_at hl 3 rfl) ?_
  refine lv_iload_n hx hb dL_law_1051 rfl (lv_at hl 0 rfl) ?_
  refine lv_iconst (v := 2) hx hb dL_law_1052 (by decide) ?_
  refine lv_iadd hx hb dL_law_1053 ?_
  refine lv_topi (fun v10 e11 => ?_)
  obtain rfl : v10 = 2 := e11.trans (by decide)
  refine va_sld hx hb hX hbl hbA hS (vp_in_iff.mpr (by decide)) dL_law_1054 ?_
  have hPc := hP.sub (ws' := [((rm 0), .inr (12, fM rm 0 0))]) [0] rfl
  have hDc := hD.sub (ws' := [((rm 0), .inr (12, fM rm 0 0))]) [0] (by decide) rfl
  refine cl_i (wr := []) (va_runV (As := [.int (xs (Int32.toNatClampNeg 1)), .int (xs (Int32.toNatClampNeg 2))]) (rest := [.int r5]) ⟨hx, hb, hml, hown, hts⟩ (c_X12_low l D c H.size rm ((xs (Int32.toNatClampNeg 1))) ((xs (Int32.toNatClampNeg 2)))) (kw_V 2 hts wd_1638 wd_1639 wd_1640 wd_90 wd_1641 rfl rfl (by decide +kernel) ⟨Nat.le_of_ble_eq_true rfl, Nat.le_of_ble_eq_true rfl⟩) (pre_V hPc hK hDc hN hO (ci := 12) (q0 := 0) rfl rfl) rfl rfl hl.1 rfl (lv_room (Nat.le_of_ble_eq_true rfl)) dL_law_1055 ⟨Nat.le_of_ble_eq_true rfl, Nat.le_of_ble_eq_true rfl⟩) hP hD hS hA [0] [] rfl rfl (by decide) (by decide) (fun r12 u13 H locs h14 hP hD hS => ?_)
  have hP : va_P D vwCl [] H := hP
  have hD : va_D A [] := hD
  refine lv_icmp_eq (tgt := 1533) hx hb dL_law_1058 (by decide) (fun _ => ?_) (fun c => absurd (h7.trans h14.symm) c)
  exact law_fin hx hb hr hml hown hlocks hX hbl hbA hAs (Nat.le_of_ble_eq_true rfl) (Nat.le_of_ble_eq_true rfl) hS (lv_sub hl [0, 3] rfl)
set_option maxHeartbeats 4000000 in
set_option maxRecDepth 100000 in
theorem law_23 {p : Program} {l : Launch} {e : Env} {s : State} {m : MethodId} {below : List Frame} {meth : Method} {cd : Code} {b : Nat} {xs : Nat → Int32} {H : Heap} {locs : List Loc} {ls : Array Slot} {A : Nat → Prop} {D : va_G} {c : Nat → ClassId} {rx rm : Nat → Nat} (hx : p.tables.exec = Jvm.exec) (hb : cd.code = cL_law) (hr : meth.sig.returnType = ret) (hml : cd.maxLocals = 4) (hown : s.vm.findClass R_law = some m.cls) (hlocks : meth.locks = false) (hX : va_X b 8 xs s s.heap) (hbl : b < s.heap.size) (hbA : ¬ A b) (hAs : ∀ q, A q → s.heap.size ≤ q) (hts : ∀ w ∈ Wd, w.before #[Value.ref b] s = true) (hN : NW s) (hO : ∀ C ∈ aoL, va_AO C s) (hK : va_K D vwCl (TY c) s) (hA : ∀ q, s.heap.size ≤ q → A q) (hP : va_P D vwCl [((rx 0), .inr (11, fX rx 0 0)), ((rm 0), .inr (12, fM rm 0 0))] H) (hD : va_D A [((rx 0), .inr (11, fX rx 0 0)), ((rm 0), .inr (12, fM rm 0 0))]) (hS : va_S A s.heap H locs) (hl : lv_has ls 4 [(3, .int 0), (2, .ref (rm 0)), (1, .ref (rx 0)), (0, .ref b)]) : W p l e room_1 s m #[Value.ref b] below meth cd H locs 95 102698 (lw_Z below #[Value.ref b] s) (F0 m 1063 ls []) := by
  refine lv_aload_n hx hb dL_law_1063 rfl (lv_at hl 2 rfl) ?_
  refine lv_aload_n hx hb dL_law_1064 rfl (lv_at hl 3 rfl) ?_
  refine lv_iload_n hx hb dL_law_1065 rfl (lv_at hl 0 rfl) ?_
  refine lv_iconst (v := 1) hx hb dL_law_1066 (by decide) ?_
  refine lv_iadd hx hb dL_law_1067 ?_
  refine lv_topi (fun v1 e2 => ?_)
  obtain rfl : v1 = 1 := e2.trans (by decide)
  refine va_sld hx hb hX hbl hbA hS (vp_in_iff.mpr (by decide)) dL_law_1068 ?_
  refine lv_aload_n hx hb dL_law_1069 rfl (lv_at hl 3 rfl) ?_
  refine lv_iload_n hx hb dL_law_1070 rfl (lv_at hl 0 rfl) ?_
  refine lv_iconst (v := 2) hx hb dL_law_1071 (by decide) ?_
  refine lv_iadd hx hb dL_law_1072 ?_
  refine lv_topi (fun v3 e4 => ?_)
  obtain rfl : v3 = 2 := e4.trans (by decide)
  refine va_sld hx hb hX hbl hbA hS (vp_in_iff.mpr (by decide)) dL_law_1073 ?_
  refine lv_aload_n hx hb dL_law_1074 rfl (lv_at hl 3 rfl) ?_
  refine lv_iload_n hx hb dL_law_1075 rfl (lv_at hl 0 rfl) ?_
  refine lv_iconst (v := 3) hx hb dL_law_1076 (by decide) ?_
  refine lv_iadd hx hb dL_law_1077 ?_
  refine lv_topi (fun v5 e6 => ?_)
  obtain rfl : v5 = 3 := e6.trans (by decide)
  refine va_sld hx hb hX hbl hbA hS (vp_in_iff.mpr (by decide)) dL_law_1078 ?_
  refine lv_aload_n hx hb dL_law_1079 rfl (lv_at hl 3 rfl) ?_
  refine lv_iload_n hx hb dL_law_1080 rfl (lv_at hl 0 rfl) ?_
  refine lv_iconst (v := 4) hx hb dL_law_1081 (by decide) ?_
  refine lv_iadd hx hb dL_law_1082 ?_
  refine lv_topi (fun v7 e8 => ?_)
  obtain rfl : v7 = 4 := e8.trans (by decide)
  refine va_sld hx hb hX hbl hbA hS (vp_in_iff.mpr (by decide)) dL_law_1083 ?_
  refine lv_aload_n hx hb dL_law_1084 rfl (lv_at hl 3 rfl) ?_
  refine lv_iload_n hx hb dL_law_1085 rfl (lv_at hl 0 rfl) ?_
  refine lv_iconst (v := 5) hx hb dL_law_1086 (by decide) ?_
  refine lv_iadd hx hb dL_law_1087 ?_
  refine lv_topi (fun v9 e10 => ?_)
  obtain rfl : v9 = 5 := e10.trans (by decide)
  refine va_sld hx hb hX hbl hbA hS (vp_in_iff.mpr (by decide)) dL_law_1088 ?_
  have hPc := hP.sub (ws' := [((rx 0), .inr (11, fX rx 0 0))]) [0] rfl
  have hDc := hD.sub (ws' := [((rx 0), .inr (11, fX rx 0 0))]) [0] (by decide) rfl
  refine cl_i (wr := [((rm 0), .inr (12, fM rm 0 0))]) (va_runV (As := [.int (xs (Int32.toNatClampNeg 1)), .int (xs (Int32.toNatClampNeg 2)), .int (xs (Int32.toNatClampNeg 3)), .int (xs (Int32.toNatClampNeg 4)), .int (xs (Int32.toNatClampNeg 5))]) (rest := []) ⟨hx, hb, hml, hown, hts⟩ (c_X11_plan l D c H.size rx ((xs (Int32.toNatClampNeg 1))) ((xs (Int32.toNatClampNeg 2))) ((xs (Int32.toNatClampNeg 3))) ((xs (Int32.toNatClampNeg 4))) ((xs (Int32.toNatClampNeg 5)))) (kw_V 5 hts wd_931 wd_932 wd_933 wd_83 wd_934 rfl rfl (by decide +kernel) ⟨Nat.le_of_ble_eq_true rfl, Nat.le_of_ble_eq_true rfl⟩) (pre_V hPc hK hDc hN hO (ci := 11) (q0 := 0) rfl rfl) rfl rfl hl.1 rfl (lv_room (Nat.le_of_ble_eq_true rfl)) dL_law_1089 ⟨Nat.le_of_ble_eq_true rfl, Nat.le_of_ble_eq_true rfl⟩) hP hD hS hA [0] [1] rfl rfl (by decide) (by decide) (fun r11 u12 H locs h13 hP hD hS => ?_)
  have hP : va_P D vwCl [((rm 0), .inr (12, fM rm 0 0))] H := hP
  have hD : va_D A [((rm 0), .inr (12, fM rm 0 0))] := hD
  refine lv_aload_n hx hb dL_law_1092 rfl (lv_at hl 1 rfl) ?_
  refine lv_aload_n hx hb dL_law_1093 rfl (lv_at hl 3 rfl) ?_
  refine lv_iload_n hx hb dL_law_1094 rfl (lv_at hl 0 rfl) ?_
  refine lv_iconst (v := 1) hx hb dL_law_1095 (by decide) ?_
  refine lv_iadd hx hb dL_law_1096 ?_
  refine lv_topi (fun v14 e15 => ?_)
  obtain rfl : v14 = 1 := e15.trans (by decide)
  refine va_sld hx hb hX hbl hbA hS (vp_in_iff.mpr (by decide)) dL_law_1097 ?_
  refine lv_aload_n hx hb dL_law_1098 rfl (lv_at hl 3 rfl) ?_
  refine lv_iload_n hx hb dL_law_1099 rfl (lv_at hl 0 rfl) ?_
  refine lv_iconst (v := 2) hx hb dL_law_1100 (by decide) ?_
  refine lv_iadd hx hb dL_law_1101 ?_
  refine lv_topi (fun v16 e17 => ?_)
  obtain rfl : v16 = 2 := e17.trans (by decide)
  refine va_sld hx hb hX hbl hbA hS (vp_in_iff.mpr (by decide)) dL_law_1102 ?_
  refine lv_aload_n hx hb dL_law_1103 rfl (lv_at hl 3 rfl) ?_
  refine lv_iload_n hx hb dL_law_1104 rfl (lv_at hl 0 rfl) ?_
  refine lv_iconst (v := 3) hx hb dL_law_1105 (by decide) ?_
  refine lv_iadd hx hb dL_law_1106 ?_
  refine lv_topi (fun v18 e19 => ?_)
  obtain rfl : v18 = 3 := e19.trans (by decide)
  refine va_sld hx hb hX hbl hbA hS (vp_in_iff.mpr (by decide)) dL_law_1107 ?_
  refine lv_aload_n hx hb dL_law_1108 rfl (lv_at hl 3 rfl) ?_
  refine lv_iload_n hx hb dL_law_1109 rfl (lv_at hl 0 rfl) ?_
  refine lv_iconst (v := 4) hx hb dL_law_1110 (by decide) ?_
  refine lv_iadd hx hb dL_law_1111 ?_
  refine lv_topi (fun v20 e21 => ?_)
  obtain rfl : v20 = 4 := e21.trans (by decide)
  refine va_sld hx hb hX hbl hbA hS (vp_in_iff.mpr (by decide)) dL_law_1112 ?_
  refine lv_aload_n hx hb dL_law_1113 rfl (lv_at hl 3 rfl) ?_
  refine lv_iload_n hx hb dL_law_1114 rfl (lv_at hl 0 rfl) ?_
  refine lv_iconst (v := 5) hx hb dL_law_1115 (by decide) ?_
  refine lv_iadd hx hb dL_law_1116 ?_
  refine lv_topi (fun v22 e23 => ?_)
  obtain rfl : v22 = 5 := e23.trans (by decide)
  refine va_sld hx hb hX hbl hbA hS (vp_in_iff.mpr (by decide)) dL_law_1117 ?_
  have hPc := hP.sub (ws' := [((rm 0), .inr (12, fM rm 0 0))]) [0] rfl
  have hDc := hD.sub (ws' := [((rm 0), .inr (12, fM rm 0 0))]) [0] (by decide) rfl
  refine cl_i (wr := []) (va_runV (As := [.int (xs (Int32.toNatClampNeg 1)), .int (xs (Int32.toNatClampNeg 2)), .int (xs (Int32.toNatClampNeg 3)), .int (xs (Int32.toNatClampNeg 4)), .int (xs (Int32.toNatClampNeg 5))]) (rest := [.int r11]) ⟨hx, hb, hml, hown, hts⟩ (c_X12_plan l D c H.size rm ((xs (Int32.toNatClampNeg 1))) ((xs (Int32.toNatClampNeg 2))) ((xs (Int32.toNatClampNeg 3))) ((xs (Int32.toNatClampNeg 4))) ((xs (Int32.toNatClampNeg 5)))) (kw_V 5 hts wd_1646 wd_1647 wd_1648 wd_90 wd_1649 rfl rfl (by decide +kernel) ⟨Nat.le_of_ble_eq_true rfl, Nat.le_of_ble_eq_true rfl⟩) (pre_V hPc hK hDc hN hO (ci := 12) (q0 := 0) rfl rfl) rfl rfl hl.1 rfl (lv_room (Nat.le_of_ble_eq_true rfl)) dL_law_1118 ⟨Nat.le_of_ble_eq_true rfl, Nat.le_of_ble_eq_true rfl⟩) hP hD hS hA [0] [] rfl rfl (by decide) (by decide) (fun r24 u25 H locs h26 hP hD hS => ?_)
  have hP : va_P D vwCl [] H := hP
  have hD : va_D A [] := hD
  refine lv_icmp_eq (tgt := 1533) hx hb dL_law_1121 (by decide) (fun _ => ?_) (fun c => absurd (h13.trans h26.symm) c)
  exact law_fin hx hb hr hml hown hlocks hX hbl hbA hAs (Nat.le_of_ble_eq_true rfl) (Nat.le_of_ble_eq_true rfl) hS (lv_sub hl [0, 3] rfl)
set_option maxHeartbeats 4000000 in
set_option maxRecDepth 100000 in
theorem law_24 {p : Program} {l : Launch} {e : Env} {s : State} {m : MethodId} {below : List Frame} {meth : Method} {cd : Code} {b : Nat} {xs : Nat → Int32} {H : Heap} {locs : List Loc} {ls : Array Slot} {A : Nat → Prop} {D : va_G} {c : Nat → ClassId} {rx rm : Nat → Nat} (hx : p.tables.exec = Jvm.exec) (hb : cd.code = cL_law) (hr : meth.sig.returnType = ret) (hml : cd.maxLocals = 4) (hown : s.vm.findClass R_law = some m.cls) (hlocks : meth.locks = false) (hX : va_X b 8 xs s s.heap) (hbl : b < s.heap.size) (hbA : ¬ A b) (hAs : ∀ q, A q → s.heap.size ≤ q) (hts : ∀ w ∈ Wd, w.before #[Value.ref b] s = true) (hN : NW s) (hO : ∀ C ∈ aoL, va_AO C s) (hK : va_K D vwCl (TY c) s) (hA : ∀ q, s.heap.size ≤ q → A q) (hP : va_P D vwCl [((rx 0), .inr (11, fX rx 0 0)), ((rm 0), .inr (12, fM rm 0 0))] H) (hD : va_D A [((rx 0), .inr (11, fX rx 0 0)), ((rm 0), .inr (12, fM rm 0 0))]) (hS : va_S A s.heap H locs) (hl : lv_has ls 4 [(3, .int 0), (2, .ref (rm 0)), (1, .ref (rx 0)), (0, .ref b)]) : W p l e room_1 s m #[Value.ref b] below meth cd H locs 95 102698 (lw_Z below #[Value.ref b] s) (F0 m 1126 ls []) := by
  refine lv_aload_n hx hb dL_law_1126 rfl (lv_at hl 2 rfl) ?_
  refine lv_aload_n hx hb dL_law_1127 rfl (lv_at hl 3 rfl) ?_
  refine lv_iload_n hx hb dL_law_1128 rfl (lv_at hl 0 rfl) ?_
  refine lv_iconst (v := 1) hx hb dL_law_1129 (by decide) ?_
  refine lv_iadd hx hb dL_law_1130 ?_
  refine lv_topi (fun v1 e2 => ?_)
  obtain rfl : v1 = 1 := e2.trans (by decide)
  refine va_sld hx hb hX hbl hbA hS (vp_in_iff.mpr (by decide)) dL_law_1131 ?_
  have hPc := hP.sub (ws' := [((rx 0), .inr (11, fX rx 0 0))]) [0] rfl
  have hDc := hD.sub (ws' := [((rx 0), .inr (11, fX rx 0 0))]) [0] (by decide) rfl
  refine cl_i (wr := [((rm 0), .inr (12, fM rm 0 0))]) (va_runV (As := [.int (xs (Int32.toNatClampNeg 1))]) (rest := []) ⟨hx, hb, hml, hown, hts⟩ (c_X11_planned l D c H.size rx ((xs (Int32.toNatClampNeg 1)))) (kw_V 1 hts wd_982 wd_983 wd_984 wd_83 wd_985 rfl rfl (by decide +kernel) ⟨Nat.le_of_ble_eq_true rfl, Nat.le_of_ble_eq_true rfl⟩) (pre_V hPc hK hDc hN hO (ci := 11) (q0 := 0) rfl rfl) rfl rfl hl.1 rfl (lv_room (Nat.le_of_ble_eq_true rfl)) dL_law_1132 ⟨Nat.le_of_ble_eq_true rfl, Nat.le_of_ble_eq_true rfl⟩) hP hD hS hA [0] [1] rfl rfl (by decide) (by decide) (fun r3 u4 H locs h5 hP hD hS => ?_)
  have hP : va_P D vwCl [((rm 0), .inr (12, fM rm 0 0))] H := hP
  have hD : va_D A [((rm 0), .inr (12, fM rm 0 0))] := hD
  refine lv_aload_n hx hb dL_law_1135 rfl (lv_at hl 1 rfl) ?_
  refine lv_aload_n hx hb dL_law_1136 rfl (lv_at hl 3 rfl) ?_
  refine lv_iload_n hx hb dL_law_1137 rfl (lv_at hl 0 rfl) ?_
  refine lv_iconst (v := 1) hx hb dL_law_1138 (by decide) ?_
  refine lv_iadd hx hb dL_law_1139 ?_
  refine lv_topi (fun v6 e7 => ?_)
  obtain rfl : v6 = 1 := e7.trans (by decide)
  refine va_sld hx hb hX hbl hbA hS (vp_in_iff.mpr (by decide)) dL_law_1140 ?_
  have hPc := hP.sub (ws' := [((rm 0), .inr (12, fM rm 0 0))]) [0] rfl
  have hDc := hD.sub (ws' := [((rm 0), .inr (12, fM rm 0 0))]) [0] (by decide) rfl
  refine cl_i (wr := []) (va_runV (As := [.int (xs (Int32.toNatClampNeg 1))]) (rest := [.int r3]) ⟨hx, hb, hml, hown, hts⟩ (c_X12_planned l D c H.size rm ((xs (Int32.toNatClampNeg 1)))) (kw_V 1 hts wd_1658 wd_1659 wd_1660 wd_90 wd_1661 rfl rfl (by decide +kernel) ⟨Nat.le_of_ble_eq_true rfl, Nat.le_of_ble_eq_true rfl⟩) (pre_V hPc hK hDc hN hO (ci := 12) (q0 := 0) rfl rfl) rfl rfl hl.1 rfl (lv_room (Nat.le_of_ble_eq_true rfl)) dL_law_1141 ⟨Nat.le_of_ble_eq_true rfl, Nat.le_of_ble_eq_true rfl⟩) hP hD hS hA [0] [] rfl rfl (by decide) (by decide) (fun r8 u9 H locs h10 hP hD hS => ?_)
  have hP : va_P D vwCl [] H := hP
  have hD : va_D A [] := hD
  refine lv_icmp_eq (tgt := 1533) hx hb dL_law_1144 (by decide) (fun _ => ?_) (fun c => absurd (h5.trans h10.symm) c)
  exact law_fin hx hb hr hml hown hlocks hX hbl hbA hAs (Nat.le_of_ble_eq_true rfl) (Nat.le_of_ble_eq_true rfl) hS (lv_sub hl [0, 3] rfl)
set_option maxHeartbeats 4000000 in
set_option maxRecDepth 100000 in
theorem law_25 {p : Program} {l : Launch} {e : Env} {s : State} {m : MethodId} {below : List Frame} {meth : Method} {cd : Code} {b : Nat} {xs : Nat → Int32} {H : Heap} {locs : List Loc} {ls : Array Slot} {A : Nat → Prop} {D : va_G} {c : Nat → ClassId} {rx rm : Nat → Nat} (hx : p.tables.exec = Jvm.exec) (hb : cd.code = cL_law) (hr : meth.sig.returnType = ret) (hml : cd.maxLocals = 4) (hown : s.vm.findClass R_law = some m.cls) (hlocks : meth.locks = false) (hX : va_X b 8 xs s s.heap) (hbl : b < s.heap.size) (hbA : ¬ A b) (hAs : ∀ q, A q → s.heap.size ≤ q) (hts : ∀ w ∈ Wd, w.before #[Value.ref b] s = true) (hN : NW s) (hO : ∀ C ∈ aoL, va_AO C s) (hK : va_K D vwCl (TY c) s) (hA : ∀ q, s.heap.size ≤ q → A q) (hP : va_P D vwCl [((rx 0), .inr (11, fX rx 0 0)), ((rx 3), .inl (c 4, 11, .inr (.inr (.inr (.inr (fun _ => none)))))), ((rm 0), .inr (12, fM rm 0 0))] H) (hD : va_D A [((rx 0), .inr (11, fX rx 0 0)), ((rx 3), .inl (c 4, 11, .inr (.inr (.inr (.inr (fun _ => none)))))), ((rm 0), .inr (12, fM rm 0 0))]) (hS : va_S A s.heap H locs) (hl : lv_has ls 4 [(3, .int 0), (2, .ref (rm 0)), (1, .ref (rx 0)), (0, .ref b)]) : W p l e room_1 s m #[Value.ref b] below meth cd H locs 95 102698 (lw_Z below #[Value.ref b] s) (F0 m 1149 ls []) := by
  refine lv_aload_n hx hb dL_law_1149 rfl (lv_at hl 2 rfl) ?_
  refine lv_aload_n hx hb dL_law_1150 rfl (lv_at hl 3 rfl) ?_
  refine lv_iload_n hx hb dL_law_1151 rfl (lv_at hl 0 rfl) ?_
  refine lv_iconst (v := 1) hx hb dL_law_1152 (by decide) ?_
  refine lv_iadd hx hb dL_law_1153 ?_
  refine lv_topi (fun v1 e2 => ?_)
  obtain rfl : v1 = 1 := e2.trans (by decide)
  refine va_sld hx hb hX hbl hbA hS (vp_in_iff.mpr (by decide)) dL_law_1154 ?_
  refine lv_aload_n hx hb dL_law_1155 rfl (lv_at hl 3 rfl) ?_
  refine lv_iload_n hx hb dL_law_1156 rfl (lv_at hl 0 rfl) ?_
  refine lv_iconst (v := 2) hx hb dL_law_1157 (by decide) ?_
  refine lv_iadd hx hb dL_law_1158 ?_
  refine lv_topi (fun v3 e4 => ?_)
  obtain rfl : v3 = 2 := e4.trans (by decide)
  refine va_sld hx hb hX hbl hbA hS (vp_in_iff.mpr (by decide)) dL_law_1159 ?_
  refine lv_aload_n hx hb dL_law_1160 rfl (lv_at hl 3 rfl) ?_
  refine lv_iload_n hx hb dL_law_1161 rfl (lv_at hl 0 rfl) ?_
  refine lv_iconst (v := 3) hx hb dL_law_1162 (by decide) ?_
  refine lv_iadd hx hb dL_law_1163 ?_
  refine lv_topi (fun v5 e6 => ?_)
  obtain rfl : v5 = 3 := e6.trans (by decide)
  refine va_sld hx hb hX hbl hbA hS (vp_in_iff.mpr (by decide)) dL_law_1164 ?_
  refine lv_aload_n hx hb dL_law_1165 rfl (lv_at hl 3 rfl) ?_
  refine lv_iload_n hx hb dL_law_1166 rfl (lv_at hl 0 rfl) ?_
  refine lv_iconst (v := 4) hx hb dL_law_1167 (by decide) ?_
  refine lv_iadd hx hb dL_law_1168 ?_
  refine lv_topi (fun v7 e8 => ?_)
  obtain rfl : v7 = 4 := e8.trans (by decide)
  refine va_sld hx hb hX hbl hbA hS (vp_in_iff.mpr (by decide)) dL_law_1169 ?_
  refine lv_aload_n hx hb dL_law_1170 rfl (lv_at hl 3 rfl) ?_
  refine lv_iload_n hx hb dL_law_1171 rfl (lv_at hl 0 rfl) ?_
  refine lv_iconst (v := 5) hx hb dL_law_1172 (by decide) ?_
  refine lv_iadd hx hb dL_law_1173 ?_
  refine lv_topi (fun v9 e10 => ?_)
  obtain rfl : v9 = 5 := e10.trans (by decide)
  refine va_sld hx hb hX hbl hbA hS (vp_in_iff.mpr (by decide)) dL_law_1174 ?_
  refine lv_aload_n hx hb dL_law_1175 rfl (lv_at hl 3 rfl) ?_
  refine lv_iload_n hx hb dL_law_1176 rfl (lv_at hl 0 rfl) ?_
  refine lv_bipush (v := 6) hx hb dL_law_1177 (by decide) ?_
  refine lv_iadd hx hb dL_law_1179 ?_
  refine lv_topi (fun v11 e12 => ?_)
  obtain rfl : v11 = 6 := e12.trans (by decide)
  refine va_sld hx hb hX hbl hbA hS (vp_in_iff.mpr (by decide)) dL_law_1180 ?_
  refine lv_aload_n hx hb dL_law_1181 rfl (lv_at hl 3 rfl) ?_
  refine lv_iload_n hx hb dL_law_1182 rfl (lv_at hl 0 rfl) ?_
  refine lv_bipush (v := 7) hx hb dL_law_1183 (by decide) ?_
  refine lv_iadd hx hb dL_law_1185 ?_
  refine lv_topi (fun v13 e14 => ?_)
  obtain rfl : v13 = 7 := e14.trans (by decide)
  refine va_sld hx hb hX hbl hbA hS (vp_in_iff.mpr (by decide)) dL_law_1186 ?_
  have hPc := hP.sub (ws' := [((rx 0), .inr (11, fX rx 0 0)), ((rx 3), .inl (c 4, 11, .inr (.inr (.inr (.inr (fun _ => none))))))]) [0, 1] rfl
  have hDc := hD.sub (ws' := [((rx 0), .inr (11, fX rx 0 0)), ((rx 3), .inl (c 4, 11, .inr (.inr (.inr (.inr (fun _ => none))))))]) [0, 1] (by decide) rfl
  refine cl_i (wr := [((rm 0), .inr (12, fM rm 0 0))]) (va_runV (As := [.int (xs (Int32.toNatClampNeg 1)), .int (xs (Int32.toNatClampNeg 2)), .int (xs (Int32.toNatClampNeg 3)), .int (xs (Int32.toNatClampNeg 4)), .int (xs (Int32.toNatClampNeg 5)), .int (xs (Int32.toNatClampNeg 6)), .int (xs (Int32.toNatClampNeg 7))]) (rest := []) ⟨hx, hb, hml, hown, hts⟩ (c_X11_race l D c H.size rx ((xs (Int32.toNatClampNeg 1))) ((xs (Int32.toNatClampNeg 2))) ((xs (Int32.toNatClampNeg 3))) ((xs (Int32.toNatClampNeg 4))) ((xs (Int32.toNatClampNeg 5))) ((xs (Int32.toNatClampNeg 6))) ((xs (Int32.toNatClampNeg 7)))) (kw_V 7 hts wd_986 wd_987 wd_988 wd_83 wd_989 rfl rfl (by decide +kernel) ⟨Nat.le_of_ble_eq_true rfl, Nat.le_of_ble_eq_true rfl⟩) (pre_V hPc hK hDc hN hO (ci := 11) (q0 := 0) rfl rfl) rfl rfl hl.1 rfl (lv_room (Nat.le_of_ble_eq_true rfl)) dL_law_1187 ⟨Nat.le_of_ble_eq_true rfl, Nat.le_of_ble_eq_true rfl⟩) hP hD hS hA [0, 1] [2] rfl rfl (by decide) (by decide) (fun r15 u16 H locs h17 hP hD hS => ?_)
  have hP : va_P D vwCl [((rm 0), .inr (12, fM rm 0 0))] H := hP
  have hD : va_D A [((rm 0), .inr (12, fM rm 0 0))] := hD
  refine lv_aload_n hx hb dL_law_1190 rfl (lv_at hl 1 rfl) ?_
  refine lv_aload_n hx hb dL_law_1191 rfl (lv_at hl 3 rfl) ?_
  refine lv_iload_n hx hb dL_law_1192 rfl (lv_at hl 0 rfl) ?_
  refine lv_iconst (v := 1) hx hb dL_law_1193 (by decide) ?_
  refine lv_iadd hx hb dL_law_1194 ?_
  refine lv_topi (fun v18 e19 => ?_)
  obtain rfl : v18 = 1 := e19.trans (by decide)
  refine va_sld hx hb hX hbl hbA hS (vp_in_iff.mpr (by decide)) dL_law_1195 ?_
  refine lv_aload_n hx hb dL_law_1196 rfl (lv_at hl 3 rfl) ?_
  refine lv_iload_n hx hb dL_law_1197 rfl (lv_at hl 0 rfl) ?_
  refine lv_iconst (v := 2) hx hb dL_law_1198 (by decide) ?_
  refine lv_iadd hx hb dL_law_1199 ?_
  refine lv_topi (fun v20 e21 => ?_)
  obtain rfl : v20 = 2 := e21.trans (by decide)
  refine va_sld hx hb hX hbl hbA hS (vp_in_iff.mpr (by decide)) dL_law_1200 ?_
  refine lv_aload_n hx hb dL_law_1201 rfl (lv_at hl 3 rfl) ?_
  refine lv_iload_n hx hb dL_law_1202 rfl (lv_at hl 0 rfl) ?_
  refine lv_iconst (v := 3) hx hb dL_law_1203 (by decide) ?_
  refine lv_iadd hx hb dL_law_1204 ?_
  refine lv_topi (fun v22 e23 => ?_)
  obtain rfl : v22 = 3 := e23.trans (by decide)
  refine va_sld hx hb hX hbl hbA hS (vp_in_iff.mpr (by decide)) dL_law_1205 ?_
  refine lv_aload_n hx hb dL_law_1206 rfl (lv_at hl 3 rfl) ?_
  refine lv_iload_n hx hb dL_law_1207 rfl (lv_at hl 0 rfl) ?_
  refine lv_iconst (v := 4) hx hb dL_law_1208 (by decide) ?_
  refine lv_iadd hx hb dL_law_1209 ?_
  refine lv_topi (fun v24 e25 => ?_)
  obtain rfl : v24 = 4 := e25.trans (by decide)
  refine va_sld hx hb hX hbl hbA hS (vp_in_iff.mpr (by decide)) dL_law_1210 ?_
  refine lv_aload_n hx hb dL_law_1211 rfl (lv_at hl 3 rfl) ?_
  refine lv_iload_n hx hb dL_law_1212 rfl (lv_at hl 0 rfl) ?_
  refine lv_iconst (v := 5) hx hb dL_law_1213 (by decide) ?_
  refine lv_iadd hx hb dL_law_1214 ?_
  refine lv_topi (fun v26 e27 => ?_)
  obtain rfl : v26 = 5 := e27.trans (by decide)
  refine va_sld hx hb hX hbl hbA hS (vp_in_iff.mpr (by decide)) dL_law_1215 ?_
  refine lv_aload_n hx hb dL_law_1216 rfl (lv_at hl 3 rfl) ?_
  refine lv_iload_n hx hb dL_law_1217 rfl (lv_at hl 0 rfl) ?_
  refine lv_bipush (v := 6) hx hb dL_law_1218 (by decide) ?_
  refine lv_iadd hx hb dL_law_1220 ?_
  refine lv_topi (fun v28 e29 => ?_)
  obtain rfl : v28 = 6 := e29.trans (by decide)
  refine va_sld hx hb hX hbl hbA hS (vp_in_iff.mpr (by decide)) dL_law_1221 ?_
  refine lv_aload_n hx hb dL_law_1222 rfl (lv_at hl 3 rfl) ?_
  refine lv_iload_n hx hb dL_law_1223 rfl (lv_at hl 0 rfl) ?_
  refine lv_bipush (v := 7) hx hb dL_law_1224 (by decide) ?_
  refine lv_iadd hx hb dL_law_1226 ?_
  refine lv_topi (fun v30 e31 => ?_)
  obtain rfl : v30 = 7 := e31.trans (by decide)
  refine va_sld hx hb hX hbl hbA hS (vp_in_iff.mpr (by decide)) dL_law_1227 ?_
  have hPc := hP.sub (ws' := [((rm 0), .inr (12, fM rm 0 0))]) [0] rfl
  have hDc := hD.sub (ws' := [((rm 0), .inr (12, fM rm 0 0))]) [0] (by decide) rfl
  refine cl_i (wr := []) (va_runV (As := [.int (xs (Int32.toNatClampNeg 1)), .int (xs (Int32.toNatClampNeg 2)), .int (xs (Int32.toNatClampNeg 3)), .int (xs (Int32.toNatClampNeg 4)), .int (xs (Int32.toNatClampNeg 5)), .int (xs (Int32.toNatClampNeg 6)), .int (xs (Int32.toNatClampNeg 7))]) (rest := [.int r15]) ⟨hx, hb, hml, hown, hts⟩ (c_X12_race l D c H.size rm ((xs (Int32.toNatClampNeg 1))) ((xs (Int32.toNatClampNeg 2))) ((xs (Int32.toNatClampNeg 3))) ((xs (Int32.toNatClampNeg 4))) ((xs (Int32.toNatClampNeg 5))) ((xs (Int32.toNatClampNeg 6))) ((xs (Int32.toNatClampNeg 7)))) (kw_V 7 hts wd_1662 wd_1663 wd_1664 wd_90 wd_1665 rfl rfl (by decide +kernel) ⟨Nat.le_of_ble_eq_true rfl, Nat.le_of_ble_eq_true rfl⟩) (pre_V hPc hK hDc hN hO (ci := 12) (q0 := 0) rfl rfl) rfl rfl hl.1 rfl (lv_room (Nat.le_of_ble_eq_true rfl)) dL_law_1228 ⟨Nat.le_of_ble_eq_true rfl, Nat.le_of_ble_eq_true rfl⟩) hP hD hS hA [0] [] rfl rfl (by decide) (by decide) (fun r32 u33 H locs h34 hP hD hS => ?_)
  have hP : va_P D vwCl [] H := hP
  have hD : va_D A [] := hD
  refine lv_icmp_eq (tgt := 1533) hx hb dL_law_1231 (by decide) (fun _ => ?_) (fun c => absurd (h17.trans h34.symm) c)
  exact law_fin hx hb hr hml hown hlocks hX hbl hbA hAs (Nat.le_of_ble_eq_true rfl) (Nat.le_of_ble_eq_true rfl) hS (lv_sub hl [0, 3] rfl)
set_option maxHeartbeats 4000000 in
set_option maxRecDepth 100000 in
theorem law_26 {p : Program} {l : Launch} {e : Env} {s : State} {m : MethodId} {below : List Frame} {meth : Method} {cd : Code} {b : Nat} {xs : Nat → Int32} {H : Heap} {locs : List Loc} {ls : Array Slot} {A : Nat → Prop} {D : va_G} {c : Nat → ClassId} {rx rm : Nat → Nat} (hx : p.tables.exec = Jvm.exec) (hb : cd.code = cL_law) (hr : meth.sig.returnType = ret) (hml : cd.maxLocals = 4) (hown : s.vm.findClass R_law = some m.cls) (hlocks : meth.locks = false) (hX : va_X b 8 xs s s.heap) (hbl : b < s.heap.size) (hbA : ¬ A b) (hAs : ∀ q, A q → s.heap.size ≤ q) (hts : ∀ w ∈ Wd, w.before #[Value.ref b] s = true) (hN : NW s) (hO : ∀ C ∈ aoL, va_AO C s) (hK : va_K D vwCl (TY c) s) (hA : ∀ q, s.heap.size ≤ q → A q) (hP : va_P D vwCl [((rx 0), .inr (11, fX rx 0 0)), ((rx 3), .inl (c 4, 11, .inr (.inr (.inr (.inr (fun _ => none)))))), ((rm 0), .inr (12, fM rm 0 0))] H) (hD : va_D A [((rx 0), .inr (11, fX rx 0 0)), ((rx 3), .inl (c 4, 11, .inr (.inr (.inr (.inr (fun _ => none)))))), ((rm 0), .inr (12, fM rm 0 0))]) (hS : va_S A s.heap H locs) (hl : lv_has ls 4 [(3, .int 0), (2, .ref (rm 0)), (1, .ref (rx 0)), (0, .ref b)]) : W p l e room_1 s m #[Value.ref b] below meth cd H locs 95 102698 (lw_Z below #[Value.ref b] s) (F0 m 1236 ls []) := by
  refine lv_aload_n hx hb dL_law_1236 rfl (lv_at hl 2 rfl) ?_
  refine lv_aload_n hx hb dL_law_1237 rfl (lv_at hl 3 rfl) ?_
  refine lv_iload_n hx hb dL_law_1238 rfl (lv_at hl 0 rfl) ?_
  refine lv_iconst (v := 1) hx hb dL_law_1239 (by decide) ?_
  refine lv_iadd hx hb dL_law_1240 ?_
  refine lv_topi (fun v1 e2 => ?_)
  obtain rfl : v1 = 1 := e2.trans (by decide)
  refine va_sld hx hb hX hbl hbA hS (vp_in_iff.mpr (by decide)) dL_law_1241 ?_
  refine lv_aload_n hx hb dL_law_1242 rfl (lv_at hl 3 rfl) ?_
  refine lv_iload_n hx hb dL_law_1243 rfl (lv_at hl 0 rfl) ?_
  refine lv_iconst (v := 2) hx hb dL_law_1244 (by decide) ?_
  refine lv_iadd hx hb dL_law_1245 ?_
  refine lv_topi (fun v3 e4 => ?_)
  obtain rfl : v3 = 2 := e4.trans (by decide)
  refine va_sld hx hb hX hbl hbA hS (vp_in_iff.mpr (by decide)) dL_law_1246 ?_
  refine lv_aload_n hx hb dL_law_1247 rfl (lv_at hl 3 rfl) ?_
  refine lv_iload_n hx hb dL_law_1248 rfl (lv_at hl 0 rfl) ?_
  refine lv_iconst (v := 3) hx hb dL_law_1249 (by decide) ?_
  refine lv_iadd hx hb dL_law_1250 ?_
  refine lv_topi (fun v5 e6 => ?_)
  obtain rfl : v5 = 3 := e6.trans (by decide)
  refine va_sld hx hb hX hbl hbA hS (vp_in_iff.mpr (by decide)) dL_law_1251 ?_
  refine lv_aload_n hx hb dL_law_1252 rfl (lv_at hl 3 rfl) ?_
  refine lv_iload_n hx hb dL_law_1253 rfl (lv_at hl 0 rfl) ?_
  refine lv_iconst (v := 4) hx hb dL_law_1254 (by decide) ?_
  refine lv_iadd hx hb dL_law_1255 ?_
  refine lv_topi (fun v7 e8 => ?_)
  obtain rfl : v7 = 4 := e8.trans (by decide)
  refine va_sld hx hb hX hbl hbA hS (vp_in_iff.mpr (by decide)) dL_law_1256 ?_
  have hPc := hP.sub (ws' := [((rx 0), .inr (11, fX rx 0 0)), ((rx 3), .inl (c 4, 11, .inr (.inr (.inr (.inr (fun _ => none))))))]) [0, 1] rfl
  have hDc := hD.sub (ws' := [((rx 0), .inr (11, fX rx 0 0)), ((rx 3), .inl (c 4, 11, .inr (.inr (.inr (.inr (fun _ => none))))))]) [0, 1] (by decide) rfl
  refine cl_i (wr := [((rm 0), .inr (12, fM rm 0 0))]) (va_runV (As := [.int (xs (Int32.toNatClampNeg 1)), .int (xs (Int32.toNatClampNeg 2)), .int (xs (Int32.toNatClampNeg 3)), .int (xs (Int32.toNatClampNeg 4))]) (rest := []) ⟨hx, hb, hml, hown, hts⟩ (c_X11_night l D c H.size rx ((xs (Int32.toNatClampNeg 1))) ((xs (Int32.toNatClampNeg 2))) ((xs (Int32.toNatClampNeg 3))) ((xs (Int32.toNatClampNeg 4)))) (kw_V 4 hts wd_991 wd_992 wd_993 wd_83 wd_994 rfl rfl (by decide +kernel) ⟨Nat.le_of_ble_eq_true rfl, Nat.le_of_ble_eq_true rfl⟩) (pre_V hPc hK hDc hN hO (ci := 11) (q0 := 0) rfl rfl) rfl rfl hl.1 rfl (lv_room (Nat.le_of_ble_eq_true rfl)) dL_law_1257 ⟨Nat.le_of_ble_eq_true rfl, Nat.le_of_ble_eq_true rfl⟩) hP hD hS hA [0, 1] [2] rfl rfl (by decide) (by decide) (fun r9 u10 H locs h11 hP hD hS => ?_)
  have hP : va_P D vwCl [((rm 0), .inr (12, fM rm 0 0))] H := hP
  have hD : va_D A [((rm 0), .inr (12, fM rm 0 0))] := hD
  refine lv_aload_n hx hb dL_law_1260 rfl (lv_at hl 1 rfl) ?_
  refine lv_aload_n hx hb dL_law_1261 rfl (lv_at hl 3 rfl) ?_
  refine lv_iload_n hx hb dL_law_1262 rfl (lv_at hl 0 rfl) ?_
  refine lv_iconst (v := 1) hx hb dL_law_1263 (by decide) ?_
  refine lv_iadd hx hb dL_law_1264 ?_
  refine lv_topi (fun v12 e13 => ?_)
  obtain rfl : v12 = 1 := e13.trans (by decide)
  refine va_sld hx hb hX hbl hbA hS (vp_in_iff.mpr (by decide)) dL_law_1265 ?_
  refine lv_aload_n hx hb dL_law_1266 rfl (lv_at hl 3 rfl) ?_
  refine lv_iload_n hx hb dL_law_1267 rfl (lv_at hl 0 rfl) ?_
  refine lv_iconst (v := 2) hx hb dL_law_1268 (by decide) ?_
  refine lv_iadd hx hb dL_law_1269 ?_
  refine lv_topi (fun v14 e15 => ?_)
  obtain rfl : v14 = 2 := e15.trans (by decide)
  refine va_sld hx hb hX hbl hbA hS (vp_in_iff.mpr (by decide)) dL_law_1270 ?_
  refine lv_aload_n hx hb dL_law_1271 rfl (lv_at hl 3 rfl) ?_
  refine lv_iload_n hx hb dL_law_1272 rfl (lv_at hl 0 rfl) ?_
  refine lv_iconst (v := 3) hx hb dL_law_1273 (by decide) ?_
  refine lv_iadd hx hb dL_law_1274 ?_
  refine lv_topi (fun v16 e17 => ?_)
  obtain rfl : v16 = 3 := e17.trans (by decide)
  refine va_sld hx hb hX hbl hbA hS (vp_in_iff.mpr (by decide)) dL_law_1275 ?_
  refine lv_aload_n hx hb dL_law_1276 rfl (lv_at hl 3 rfl) ?_
  refine lv_iload_n hx hb dL_law_1277 rfl (lv_at hl 0 rfl) ?_
  refine lv_iconst (v := 4) hx hb dL_law_1278 (by decide) ?_
  refine lv_iadd hx hb dL_law_1279 ?_
  refine lv_topi (fun v18 e19 => ?_)
  obtain rfl : v18 = 4 := e19.trans (by decide)
  refine va_sld hx hb hX hbl hbA hS (vp_in_iff.mpr (by decide)) dL_law_1280 ?_
  have hPc := hP.sub (ws' := [((rm 0), .inr (12, fM rm 0 0))]) [0] rfl
  have hDc := hD.sub (ws' := [((rm 0), .inr (12, fM rm 0 0))]) [0] (by decide) rfl
  refine cl_i (wr := []) (va_runV (As := [.int (xs (Int32.toNatClampNeg 1)), .int (xs (Int32.toNatClampNeg 2)), .int (xs (Int32.toNatClampNeg 3)), .int (xs (Int32.toNatClampNeg 4))]) (rest := [.int r9]) ⟨hx, hb, hml, hown, hts⟩ (c_X12_night l D c H.size rm ((xs (Int32.toNatClampNeg 1))) ((xs (Int32.toNatClampNeg 2))) ((xs (Int32.toNatClampNeg 3))) ((xs (Int32.toNatClampNeg 4)))) (kw_V 4 hts wd_1666 wd_1667 wd_1668 wd_90 wd_1669 rfl rfl (by decide +kernel) ⟨Nat.le_of_ble_eq_true rfl, Nat.le_of_ble_eq_true rfl⟩) (pre_V hPc hK hDc hN hO (ci := 12) (q0 := 0) rfl rfl) rfl rfl hl.1 rfl (lv_room (Nat.le_of_ble_eq_true rfl)) dL_law_1281 ⟨Nat.le_of_ble_eq_true rfl, Nat.le_of_ble_eq_true rfl⟩) hP hD hS hA [0] [] rfl rfl (by decide) (by decide) (fun r20 u21 H locs h22 hP hD hS => ?_)
  have hP : va_P D vwCl [] H := hP
  have hD : va_D A [] := hD
  refine lv_icmp_eq (tgt := 1533) hx hb dL_law_1284 (by decide) (fun _ => ?_) (fun c => absurd (h11.trans h22.symm) c)
  exact law_fin hx hb hr hml hown hlocks hX hbl hbA hAs (Nat.le_of_ble_eq_true rfl) (Nat.le_of_ble_eq_true rfl) hS (lv_sub hl [0, 3] rfl)
set_option maxHeartbeats 4000000 in
set_option maxRecDepth 100000 in
theorem law_27 {p : Program} {l : Launch} {e : Env} {s : State} {m : MethodId} {below : List Frame} {meth : Method} {cd : Code} {b : Nat} {xs : Nat → Int32} {H : Heap} {locs : List Loc} {ls : Array Slot} {A : Nat → Prop} {D : va_G} {c : Nat → ClassId} {rx rm : Nat → Nat} (hx : p.tables.exec = Jvm.exec) (hb : cd.code = cL_law) (hr : meth.sig.returnType = ret) (hml : cd.maxLocals = 4) (hown : s.vm.findClass R_law = some m.cls) (hlocks : meth.locks = false) (hX : va_X b 8 xs s s.heap) (hbl : b < s.heap.size) (hbA : ¬ A b) (hAs : ∀ q, A q → s.heap.size ≤ q) (hts : ∀ w ∈ Wd, w.before #[Value.ref b] s = true) (hN : NW s) (hO : ∀ C ∈ aoL, va_AO C s) (hK : va_K D vwCl (TY c) s) (hA : ∀ q, s.heap.size ≤ q → A q) (hP : va_P D vwCl [((rx 0), .inr (11, fX rx 0 0)), ((rx 3), .inl (c 4, 11, .inr (.inr (.inr (.inr (fun _ => none)))))), ((rm 0), .inr (12, fM rm 0 0))] H) (hD : va_D A [((rx 0), .inr (11, fX rx 0 0)), ((rx 3), .inl (c 4, 11, .inr (.inr (.inr (.inr (fun _ => none)))))), ((rm 0), .inr (12, fM rm 0 0))]) (hS : va_S A s.heap H locs) (hl : lv_has ls 4 [(3, .int 0), (2, .ref (rm 0)), (1, .ref (rx 0)), (0, .ref b)]) : W p l e room_1 s m #[Value.ref b] below meth cd H locs 95 102698 (lw_Z below #[Value.ref b] s) (F0 m 1289 ls []) := by
  refine lv_aload_n hx hb dL_law_1289 rfl (lv_at hl 2 rfl) ?_
  refine lv_aload_n hx hb dL_law_1290 rfl (lv_at hl 3 rfl) ?_
  refine lv_iload_n hx hb dL_law_1291 rfl (lv_at hl 0 rfl) ?_
  refine lv_iconst (v := 1) hx hb dL_law_1292 (by decide) ?_
  refine lv_iadd hx hb dL_law_1293 ?_
  refine lv_topi (fun v1 e2 => ?_)
  obtain rfl : v1 = 1 := e2.trans (by decide)
  refine va_sld hx hb hX hbl hbA hS (vp_in_iff.mpr (by decide)) dL_law_1294 ?_
  refine lv_aload_n hx hb dL_law_1295 rfl (lv_at hl 3 rfl) ?_
  refine lv_iload_n hx hb dL_law_1296 rfl (lv_at hl 0 rfl) ?_
  refine lv_iconst (v := 2) hx hb dL_law_1297 (by decide) ?_
  refine lv_iadd hx hb dL_law_1298 ?_
  refine lv_topi (fun v3 e4 => ?_)
  obtain rfl : v3 = 2 := e4.trans (by decide)
  refine va_sld hx hb hX hbl hbA hS (vp_in_iff.mpr (by decide)) dL_law_1299 ?_
  refine lv_aload_n hx hb dL_law_1300 rfl (lv_at hl 3 rfl) ?_
  refine lv_iload_n hx hb dL_law_1301 rfl (lv_at hl 0 rfl) ?_
  refine lv_iconst (v := 3) hx hb dL_law_1302 (by decide) ?_
  refine lv_iadd hx hb dL_law_1303 ?_
  refine lv_topi (fun v5 e6 => ?_)
  obtain rfl : v5 = 3 := e6.trans (by decide)
  refine va_sld hx hb hX hbl hbA hS (vp_in_iff.mpr (by decide)) dL_law_1304 ?_
  have hPc := hP.sub (ws' := [((rx 0), .inr (11, fX rx 0 0)), ((rx 3), .inl (c 4, 11, .inr (.inr (.inr (.inr (fun _ => none))))))]) [0, 1] rfl
  have hDc := hD.sub (ws' := [((rx 0), .inr (11, fX rx 0 0)), ((rx 3), .inl (c 4, 11, .inr (.inr (.inr (.inr (fun _ => none))))))]) [0, 1] (by decide) rfl
  refine cl_i (wr := [((rm 0), .inr (12, fM rm 0 0))]) (va_runV (As := [.int (xs (Int32.toNatClampNeg 1)), .int (xs (Int32.toNatClampNeg 2)), .int (xs (Int32.toNatClampNeg 3))]) (rest := []) ⟨hx, hb, hml, hown, hts⟩ (c_X11_suspect l D c H.size rx ((xs (Int32.toNatClampNeg 1))) ((xs (Int32.toNatClampNeg 2))) ((xs (Int32.toNatClampNeg 3)))) (kw_V 3 hts wd_1005 wd_1006 wd_1007 wd_83 wd_1008 rfl rfl (by decide +kernel) ⟨Nat.le_of_ble_eq_true rfl, Nat.le_of_ble_eq_true rfl⟩) (pre_V hPc hK hDc hN hO (ci := 11) (q0 := 0) rfl rfl) rfl rfl hl.1 rfl (lv_room (Nat.le_of_ble_eq_true rfl)) dL_law_1305 ⟨Nat.le_of_ble_eq_true rfl, Nat.le_of_ble_eq_true rfl⟩) hP hD hS hA [0, 1] [2] rfl rfl (by decide) (by decide) (fun r7 u8 H locs h9 hP hD hS => ?_)
  have hP : va_P D vwCl [((rm 0), .inr (12, fM rm 0 0))] H := hP
  have hD : va_D A [((rm 0), .inr (12, fM rm 0 0))] := hD
  refine lv_aload_n hx hb dL_law_1308 rfl (lv_at hl 1 rfl) ?_
  refine lv_aload_n hx hb dL_law_1309 rfl (lv_at hl 3 rfl) ?_
  refine lv_iload_n hx hb dL_law_1310 rfl (lv_at hl 0 rfl) ?_
  refine lv_iconst (v := 1) hx hb dL_law_1311 (by decide) ?_
  refine lv_iadd hx hb dL_law_1312 ?_
  refine lv_topi (fun v10 e11 => ?_)
  obtain rfl : v10 = 1 := e11.trans (by decide)
  refine va_sld hx hb hX hbl hbA hS (vp_in_iff.mpr (by decide)) dL_law_1313 ?_
  refine lv_aload_n hx hb dL_law_1314 rfl (lv_at hl 3 rfl) ?_
  refine lv_iload_n hx hb dL_law_1315 rfl (lv_at hl 0 rfl) ?_
  refine lv_iconst (v := 2) hx hb dL_law_1316 (by decide) ?_
  refine lv_iadd hx hb dL_law_1317 ?_
  refine lv_topi (fun v12 e13 => ?_)
  obtain rfl : v12 = 2 := e13.trans (by decide)
  refine va_sld hx hb hX hbl hbA hS (vp_in_iff.mpr (by decide)) dL_law_1318 ?_
  refine lv_aload_n hx hb dL_law_1319 rfl (lv_at hl 3 rfl) ?_
  refine lv_iload_n hx hb dL_law_1320 rfl (lv_at hl 0 rfl) ?_
  refine lv_iconst (v := 3) hx hb dL_law_1321 (by decide) ?_
  refine lv_iadd hx hb dL_law_1322 ?_
  refine lv_topi (fun v14 e15 => ?_)
  obtain rfl : v14 = 3 := e15.trans (by decide)
  refine va_sld hx hb hX hbl hbA hS (vp_in_iff.mpr (by decide)) dL_law_1323 ?_
  have hPc := hP.sub (ws' := [((rm 0), .inr (12, fM rm 0 0))]) [0] rfl
  have hDc := hD.sub (ws' := [((rm 0), .inr (12, fM rm 0 0))]) [0] (by decide) rfl
  refine cl_i (wr := []) (va_runV (As := [.int (xs (Int32.toNatClampNeg 1)), .int (xs (Int32.toNatClampNeg 2)), .int (xs (Int32.toNatClampNeg 3))]) (rest := [.int r7]) ⟨hx, hb, hml, hown, hts⟩ (c_X12_suspect l D c H.size rm ((xs (Int32.toNatClampNeg 1))) ((xs (Int32.toNatClampNeg 2))) ((xs (Int32.toNatClampNeg 3)))) (kw_V 3 hts wd_1670 wd_1671 wd_1672 wd_90 wd_1673 rfl rfl (by decide +kernel) ⟨Nat.le_of_ble_eq_true rfl, Nat.le_of_ble_eq_true rfl⟩) (pre_V hPc hK hDc hN hO (ci := 12) (q0 := 0) rfl rfl) rfl rfl hl.1 rfl (lv_room (Nat.le_of_ble_eq_true rfl)) dL_law_1324 ⟨Nat.le_of_ble_eq_true rfl, Nat.le_of_ble_eq_true rfl⟩) hP hD hS hA [0] [] rfl rfl (by decide) (by decide) (fun r16 u17 H locs h18 hP hD hS => ?_)
  have hP : va_P D vwCl [] H := hP
  have hD : va_D A [] := hD
  refine lv_icmp_eq (tgt := 1533) hx hb dL_law_1327 (by decide) (fun _ => ?_) (fun c => absurd (h9.trans h18.symm) c)
  exact law_fin hx hb hr hml hown hlocks hX hbl hbA hAs (Nat.le_of_ble_eq_true rfl) (Nat.le_of_ble_eq_true rfl) hS (lv_sub hl [0, 3] rfl)
set_option maxHeartbeats 4000000 in
set_option maxRecDepth 100000 in
theorem law_28 {p : Program} {l : Launch} {e : Env} {s : State} {m : MethodId} {below : List Frame} {meth : Method} {cd : Code} {b : Nat} {xs : Nat → Int32} {H : Heap} {locs : List Loc} {ls : Array Slot} {A : Nat → Prop} {D : va_G} {c : Nat → ClassId} {rx rm : Nat → Nat} (hx : p.tables.exec = Jvm.exec) (hb : cd.code = cL_law) (hr : meth.sig.returnType = ret) (hml : cd.maxLocals = 4) (hown : s.vm.findClass R_law = some m.cls) (hlocks : meth.locks = false) (hX : va_X b 8 xs s s.heap) (hbl : b < s.heap.size) (hbA : ¬ A b) (hAs : ∀ q, A q → s.heap.size ≤ q) (hts : ∀ w ∈ Wd, w.before #[Value.ref b] s = true) (hN : NW s) (hO : ∀ C ∈ aoL, va_AO C s) (hK : va_K D vwCl (TY c) s) (hA : ∀ q, s.heap.size ≤ q → A q) (hP : va_P D vwCl [((rx 0), .inr (11, fX rx 0 0)), ((rx 3), .inl (c 4, 11, .inr (.inr (.inr (.inr (fun _ => none)))))), ((rm 0), .inr (12, fM rm 0 0))] H) (hD : va_D A [((rx 0), .inr (11, fX rx 0 0)), ((rx 3), .inl (c 4, 11, .inr (.inr (.inr (.inr (fun _ => none)))))), ((rm 0), .inr (12, fM rm 0 0))]) (hS : va_S A s.heap H locs) (hl : lv_has ls 4 [(3, .int 0), (2, .ref (rm 0)), (1, .ref (rx 0)), (0, .ref b)]) : W p l e room_1 s m #[Value.ref b] below meth cd H locs 95 102698 (lw_Z below #[Value.ref b] s) (F0 m 1332 ls []) := by
  refine lv_aload_n hx hb dL_law_1332 rfl (lv_at hl 2 rfl) ?_
  refine lv_aload_n hx hb dL_law_1333 rfl (lv_at hl 3 rfl) ?_
  refine lv_iload_n hx hb dL_law_1334 rfl (lv_at hl 0 rfl) ?_
  refine lv_iconst (v := 1) hx hb dL_law_1335 (by decide) ?_
  refine lv_iadd hx hb dL_law_1336 ?_
  refine lv_topi (fun v1 e2 => ?_)
  obtain rfl : v1 = 1 := e2.trans (by decide)
  refine va_sld hx hb hX hbl hbA hS (vp_in_iff.mpr (by decide)) dL_law_1337 ?_
  have hPc := hP.sub (ws' := [((rx 0), .inr (11, fX rx 0 0)), ((rx 3), .inl (c 4, 11, .inr (.inr (.inr (.inr (fun _ => none))))))]) [0, 1] rfl
  have hDc := hD.sub (ws' := [((rx 0), .inr (11, fX rx 0 0)), ((rx 3), .inl (c 4, 11, .inr (.inr (.inr (.inr (fun _ => none))))))]) [0, 1] (by decide) rfl
  refine cl_i (wr := [((rm 0), .inr (12, fM rm 0 0))]) (va_runV (As := [.int (xs (Int32.toNatClampNeg 1))]) (rest := []) ⟨hx, hb, hml, hown, hts⟩ (c_X11_cause l D c H.size rx ((xs (Int32.toNatClampNeg 1)))) (kw_V 1 hts wd_1017 wd_1018 wd_1019 wd_83 wd_1020 rfl rfl (by decide +kernel) ⟨Nat.le_of_ble_eq_true rfl, Nat.le_of_ble_eq_true rfl⟩) (pre_V hPc hK hDc hN hO (ci := 11) (q0 := 0) rfl rfl) rfl rfl hl.1 rfl (lv_room (Nat.le_of_ble_eq_true rfl)) dL_law_1338 ⟨Nat.le_of_ble_eq_true rfl, Nat.le_of_ble_eq_true rfl⟩) hP hD hS hA [0, 1] [2] rfl rfl (by decide) (by decide) (fun r3 u4 H locs h5 hP hD hS => ?_)
  have hP : va_P D vwCl [((rm 0), .inr (12, fM rm 0 0))] H := hP
  have hD : va_D A [((rm 0), .inr (12, fM rm 0 0))] := hD
  refine lv_aload_n hx hb dL_law_1341 rfl (lv_at hl 1 rfl) ?_
  refine lv_aload_n hx hb dL_law_1342 rfl (lv_at hl 3 rfl) ?_
  refine lv_iload_n hx hb dL_law_1343 rfl (lv_at hl 0 rfl) ?_
  refine lv_iconst (v := 1) hx hb dL_law_1344 (by decide) ?_
  refine lv_iadd hx hb dL_law_1345 ?_
  refine lv_topi (fun v6 e7 => ?_)
  obtain rfl : v6 = 1 := e7.trans (by decide)
  refine va_sld hx hb hX hbl hbA hS (vp_in_iff.mpr (by decide)) dL_law_1346 ?_
  have hPc := hP.sub (ws' := [((rm 0), .inr (12, fM rm 0 0))]) [0] rfl
  have hDc := hD.sub (ws' := [((rm 0), .inr (12, fM rm 0 0))]) [0] (by decide) rfl
  refine cl_i (wr := []) (va_runV (As := [.int (xs (Int32.toNatClampNeg 1))]) (rest := [.int r3]) ⟨hx, hb, hml, hown, hts⟩ (c_X12_cause l D c H.size rm ((xs (Int32.toNatClampNeg 1)))) (kw_V 1 hts wd_1674 wd_1675 wd_1676 wd_90 wd_1677 rfl rfl (by decide +kernel) ⟨Nat.le_of_ble_eq_true rfl, Nat.le_of_ble_eq_true rfl⟩) (pre_V hPc hK hDc hN hO (ci := 12) (q0 := 0) rfl rfl) rfl rfl hl.1 rfl (lv_room (Nat.le_of_ble_eq_true rfl)) dL_law_1347 ⟨Nat.le_of_ble_eq_true rfl, Nat.le_of_ble_eq_true rfl⟩) hP hD hS hA [0] [] rfl rfl (by decide) (by decide) (fun r8 u9 H locs h10 hP hD hS => ?_)
  have hP : va_P D vwCl [] H := hP
  have hD : va_D A [] := hD
  refine lv_icmp_eq (tgt := 1533) hx hb dL_law_1350 (by decide) (fun _ => ?_) (fun c => absurd (h5.trans h10.symm) c)
  exact law_fin hx hb hr hml hown hlocks hX hbl hbA hAs (Nat.le_of_ble_eq_true rfl) (Nat.le_of_ble_eq_true rfl) hS (lv_sub hl [0, 3] rfl)
set_option maxHeartbeats 4000000 in
set_option maxRecDepth 100000 in
theorem law_29 {p : Program} {l : Launch} {e : Env} {s : State} {m : MethodId} {below : List Frame} {meth : Method} {cd : Code} {b : Nat} {xs : Nat → Int32} {H : Heap} {locs : List Loc} {ls : Array Slot} {A : Nat → Prop} {D : va_G} {c : Nat → ClassId} {rx rm : Nat → Nat} (hx : p.tables.exec = Jvm.exec) (hb : cd.code = cL_law) (hr : meth.sig.returnType = ret) (hml : cd.maxLocals = 4) (hown : s.vm.findClass R_law = some m.cls) (hlocks : meth.locks = false) (hX : va_X b 8 xs s s.heap) (hbl : b < s.heap.size) (hbA : ¬ A b) (hAs : ∀ q, A q → s.heap.size ≤ q) (hts : ∀ w ∈ Wd, w.before #[Value.ref b] s = true) (hN : NW s) (hO : ∀ C ∈ aoL, va_AO C s) (hK : va_K D vwCl (TY c) s) (hA : ∀ q, s.heap.size ≤ q → A q) (hP : va_P D vwCl [((rx 0), .inr (11, fX rx 0 0)), ((rm 0), .inr (12, fM rm 0 0))] H) (hD : va_D A [((rx 0), .inr (11, fX rx 0 0)), ((rm 0), .inr (12, fM rm 0 0))]) (hS : va_S A s.heap H locs) (hl : lv_has ls 4 [(3, .int 0), (2, .ref (rm 0)), (1, .ref (rx 0)), (0, .ref b)]) : W p l e room_1 s m #[Value.ref b] below meth cd H locs 95 102698 (lw_Z below #[Value.ref b] s) (F0 m 1355 ls []) := by
  refine lv_aload_n hx hb dL_law_1355 rfl (lv_at hl 2 rfl) ?_
  refine lv_aload_n hx hb dL_law_1356 rfl (lv_at hl 3 rfl) ?_
  refine lv_iload_n hx hb dL_law_1357 rfl (lv_at hl 0 rfl) ?_
  refine lv_iconst (v := 1) hx hb dL_law_1358 (by decide) ?_
  refine lv_iadd hx hb dL_law_1359 ?_
  refine lv_topi (fun v1 e2 => ?_)
  obtain rfl : v1 = 1 := e2.trans (by decide)
  refine va_sld hx hb hX hbl hbA hS (vp_in_iff.mpr (by decide)) dL_law_1360 ?_
  refine lv_aload_n hx hb dL_law_1361 rfl (lv_at hl 3 rfl) ?_
  refine lv_iload_n hx hb dL_law_1362 rfl (lv_at hl 0 rfl) ?_
  refine lv_iconst (v := 2) hx hb dL_law_1363 (by decide) ?_
  refine lv_iadd hx hb dL_law_1364 ?_
  refine lv_topi (fun v3 e4 => ?_)
  obtain rfl : v3 = 2 := e4.trans (by decide)
  refine va_sld hx hb hX hbl hbA hS (vp_in_iff.mpr (by decide)) dL_law_1365 ?_
  have hPc := hP.sub (ws' := [((rx 0), .inr (11, fX rx 0 0))]) [0] rfl
  have hDc := hD.sub (ws' := [((rx 0), .inr (11, fX rx 0 0))]) [0] (by decide) rfl
  refine cl_i (wr := [((rm 0), .inr (12, fM rm 0 0))]) (va_runV (As := [.int (xs (Int32.toNatClampNeg 1)), .int (xs (Int32.toNatClampNeg 2))]) (rest := []) ⟨hx, hb, hml, hown, hts⟩ (c_X11_causes l D c H.size rx ((xs (Int32.toNatClampNeg 1))) ((xs (Int32.toNatClampNeg 2)))) (kw_V 2 hts wd_1039 wd_1040 wd_1041 wd_83 wd_1042 rfl rfl (by decide +kernel) ⟨Nat.le_of_ble_eq_true rfl, Nat.le_of_ble_eq_true rfl⟩) (pre_V hPc hK hDc hN hO (ci := 11) (q0 := 0) rfl rfl) rfl rfl hl.1 rfl (lv_room (Nat.le_of_ble_eq_true rfl)) dL_law_1366 ⟨Nat.le_of_ble_eq_true rfl, Nat.le_of_ble_eq_true rfl⟩) hP hD hS hA [0] [1] rfl rfl (by decide) (by decide) (fun r5 u6 H locs h7 hP hD hS => ?_)
  have hP : va_P D vwCl [((rm 0), .inr (12, fM rm 0 0))] H := hP
  have hD : va_D A [((rm 0), .inr (12, fM rm 0 0))] := hD
  refine lv_aload_n hx hb dL_law_1369 rfl (lv_at hl 1 rfl) ?_
  refine lv_aload_n hx hb dL_law_1370 rfl (lv_at hl 3 rfl) ?_
  refine lv_iload_n hx hb dL_law_1371 rfl (lv_at hl 0 rfl) ?_
  refine lv_iconst (v := 1) hx hb dL_law_1372 (by decide) ?_
  refine lv_iadd hx hb dL_law_1373 ?_
  refine lv_topi (fun v8 e9 => ?_)
  obtain rfl : v8 = 1 := e9.trans (by decide)
  refine va_sld hx hb hX hbl hbA hS (vp_in_iff.mpr (by decide)) dL_law_1374 ?_
  refine lv_aload_n hx hb dL_law_1375 rfl (lv_at hl 3 rfl) ?_
  refine lv_iload_n hx hb dL_law_1376 rfl (lv_at hl 0 rfl) ?_
  refine lv_iconst (v := 2) hx hb dL_law_1377 (by decide) ?_
  refine lv_iadd hx hb dL_law_1378 ?_
  refine lv_topi (fun v10 e11 => ?_)
  obtain rfl : v10 = 2 := e11.trans (by decide)
  refine va_sld hx hb hX hbl hbA hS (vp_in_iff.mpr (by decide)) dL_law_1379 ?_
  have hPc := hP.sub (ws' := [((rm 0), .inr (12, fM rm 0 0))]) [0] rfl
  have hDc := hD.sub (ws' := [((rm 0), .inr (12, fM rm 0 0))]) [0] (by decide) rfl
  refine cl_i (wr := []) (va_runV (As := [.int (xs (Int32.toNatClampNeg 1)), .int (xs (Int32.toNatClampNeg 2))]) (rest := [.int r5]) ⟨hx, hb, hml, hown, hts⟩ (c_X12_causes l D c H.size rm ((xs (Int32.toNatClampNeg 1))) ((xs (Int32.toNatClampNeg 2)))) (kw_V 2 hts wd_1694 wd_1695 wd_1696 wd_90 wd_1697 rfl rfl (by decide +kernel) ⟨Nat.le_of_ble_eq_true rfl, Nat.le_of_ble_eq_true rfl⟩) (pre_V hPc hK hDc hN hO (ci := 12) (q0 := 0) rfl rfl) rfl rfl hl.1 rfl (lv_room (Nat.le_of_ble_eq_true rfl)) dL_law_1380 ⟨Nat.le_of_ble_eq_true rfl, Nat.le_of_ble_eq_true rfl⟩) hP hD hS hA [0] [] rfl rfl (by decide) (by decide) (fun r12 u13 H locs h14 hP hD hS => ?_)
  have hP : va_P D vwCl [] H := hP
  have hD : va_D A [] := hD
  refine lv_icmp_eq (tgt := 1533) hx hb dL_law_1383 (by decide) (fun _ => ?_) (fun c => absurd (h7.trans h14.symm) c)
  exact law_fin hx hb hr hml hown hlocks hX hbl hbA hAs (Nat.le_of_ble_eq_true rfl) (Nat.le_of_ble_eq_true rfl) hS (lv_sub hl [0, 3] rfl)
set_option maxHeartbeats 4000000 in
set_option maxRecDepth 100000 in
theorem law_30 {p : Program} {l : Launch} {e : Env} {s : State} {m : MethodId} {below : List Frame} {meth : Method} {cd : Code} {b : Nat} {xs : Nat → Int32} {H : Heap} {locs : List Loc} {ls : Array Slot} {A : Nat → Prop} {D : va_G} {c : Nat → ClassId} {rx rm : Nat → Nat} (hx : p.tables.exec = Jvm.exec) (hb : cd.code = cL_law) (hr : meth.sig.returnType = ret) (hml : cd.maxLocals = 4) (hown : s.vm.findClass R_law = some m.cls) (hlocks : meth.locks = false) (hX : va_X b 8 xs s s.heap) (hbl : b < s.heap.size) (hbA : ¬ A b) (hAs : ∀ q, A q → s.heap.size ≤ q) (hts : ∀ w ∈ Wd, w.before #[Value.ref b] s = true) (hN : NW s) (hO : ∀ C ∈ aoL, va_AO C s) (hK : va_K D vwCl (TY c) s) (hA : ∀ q, s.heap.size ≤ q → A q) (hP : va_P D vwCl [((rx 0), .inr (11, fX rx 0 0)), ((rm 0), .inr (12, fM rm 0 0))] H) (hD : va_D A [((rx 0), .inr (11, fX rx 0 0)), ((rm 0), .inr (12, fM rm 0 0))]) (hS : va_S A s.heap H locs) (hl : lv_has ls 4 [(3, .int 0), (2, .ref (rm 0)), (1, .ref (rx 0)), (0, .ref b)]) : W p l e room_1 s m #[Value.ref b] below meth cd H locs 95 102698 (lw_Z below #[Value.ref b] s) (F0 m 1388 ls []) := by
  refine lv_aload_n hx hb dL_law_1388 rfl (lv_at hl 2 rfl) ?_
  have hPc := hP.sub (ws' := [((rx 0), .inr (11, fX rx 0 0))]) [0] rfl
  have hDc := hD.sub (ws' := [((rx 0), .inr (11, fX rx 0 0))]) [0] (by decide) rfl
  refine cl_i (wr := [((rm 0), .inr (12, fM rm 0 0))]) (va_runV (As := []) (rest := []) ⟨hx, hb, hml, hown, hts⟩ (c_X11_look l D c H.size rx) (kw_V 0 hts wd_1047 wd_1048 wd_1049 wd_83 wd_1050 rfl rfl (by decide +kernel) ⟨Nat.le_of_ble_eq_true rfl, Nat.le_of_ble_eq_true rfl⟩) (pre_V hPc hK hDc hN hO (ci := 11) (q0 := 0) rfl rfl) rfl rfl hl.1 rfl (lv_room (Nat.le_of_ble_eq_true rfl)) dL_law_1389 ⟨Nat.le_of_ble_eq_true rfl, Nat.le_of_ble_eq_true rfl⟩) hP hD hS hA [0] [1] rfl rfl (by decide) (by decide) (fun r1 u2 H locs h3 hP hD hS => ?_)
  have hP : va_P D vwCl [((rm 0), .inr (12, fM rm 0 0))] H := hP
  have hD : va_D A [((rm 0), .inr (12, fM rm 0 0))] := hD
  refine lv_aload_n hx hb dL_law_1392 rfl (lv_at hl 1 rfl) ?_
  have hPc := hP.sub (ws' := [((rm 0), .inr (12, fM rm 0 0))]) [0] rfl
  have hDc := hD.sub (ws' := [((rm 0), .inr (12, fM rm 0 0))]) [0] (by decide) rfl
  refine cl_i (wr := []) (va_runV (As := []) (rest := [.int r1]) ⟨hx, hb, hml, hown, hts⟩ (c_X12_look l D c H.size rm) (kw_V 0 hts wd_1698 wd_1699 wd_1700 wd_90 wd_1701 rfl rfl (by decide +kernel) ⟨Nat.le_of_ble_eq_true rfl, Nat.le_of_ble_eq_true rfl⟩) (pre_V hPc hK hDc hN hO (ci := 12) (q0 := 0) rfl rfl) rfl rfl hl.1 rfl (lv_room (Nat.le_of_ble_eq_true rfl)) dL_law_1393 ⟨Nat.le_of_ble_eq_true rfl, Nat.le_of_ble_eq_true rfl⟩) hP hD hS hA [0] [] rfl rfl (by decide) (by decide) (fun r4 u5 H locs h6 hP hD hS => ?_)
  have hP : va_P D vwCl [] H := hP
  have hD : va_D A [] := hD
  refine lv_icmp_eq (tgt := 1533) hx hb dL_law_1396 (by decide) (fun _ => ?_) (fun c => absurd (h3.trans h6.symm) c)
  exact law_fin hx hb hr hml hown hlocks hX hbl hbA hAs (Nat.le_of_ble_eq_true rfl) (Nat.le_of_ble_eq_true rfl) hS (lv_sub hl [0, 3] rfl)
set_option maxHeartbeats 4000000 in
set_option maxRecDepth 100000 in
theorem law_31 {p : Program} {l : Launch} {e : Env} {s : State} {m : MethodId} {below : List Frame} {meth : Method} {cd : Code} {b : Nat} {xs : Nat → Int32} {H : Heap} {locs : List Loc} {ls : Array Slot} {A : Nat → Prop} {D : va_G} {c : Nat → ClassId} {rx rm : Nat → Nat} (hx : p.tables.exec = Jvm.exec) (hb : cd.code = cL_law) (hr : meth.sig.returnType = ret) (hml : cd.maxLocals = 4) (hown : s.vm.findClass R_law = some m.cls) (hlocks : meth.locks = false) (hX : va_X b 8 xs s s.heap) (hbl : b < s.heap.size) (hbA : ¬ A b) (hAs : ∀ q, A q → s.heap.size ≤ q) (hts : ∀ w ∈ Wd, w.before #[Value.ref b] s = true) (hN : NW s) (hO : ∀ C ∈ aoL, va_AO C s) (hK : va_K D vwCl (TY c) s) (hA : ∀ q, s.heap.size ≤ q → A q) (hP : va_P D vwCl [((rx 0), .inr (11, fX rx 0 0)), ((rx 3), .inl (c 4, 11, .inr (.inr (.inr (.inr (fun _ => none)))))), ((rx 7), .inl (c 6, 10, .inr (.inr (.inr (.inr (fun _ => none)))))), ((rm 0), .inr (12, fM rm 0 0))] H) (hD : va_D A [((rx 0), .inr (11, fX rx 0 0)), ((rx 3), .inl (c 4, 11, .inr (.inr (.inr (.inr (fun _ => none)))))), ((rx 7), .inl (c 6, 10, .inr (.inr (.inr (.inr (fun _ => none)))))), ((rm 0), .inr (12, fM rm 0 0))]) (hS : va_S A s.heap H locs) (hl : lv_has ls 4 [(3, .int 0), (2, .ref (rm 0)), (1, .ref (rx 0)), (0, .ref b)]) : W p l e room_1 s m #[Value.ref b] below meth cd H locs 95 102698 (lw_Z below #[Value.ref b] s) (F0 m 1401 ls []) := by
  refine lv_aload_n hx hb dL_law_1401 rfl (lv_at hl 2 rfl) ?_
  refine lv_aload_n hx hb dL_law_1402 rfl (lv_at hl 3 rfl) ?_
  refine lv_iload_n hx hb dL_law_1403 rfl (lv_at hl 0 rfl) ?_
  refine lv_iconst (v := 1) hx hb dL_law_1404 (by decide) ?_
  refine lv_iadd hx hb dL_law_1405 ?_
  refine lv_topi (fun v1 e2 => ?_)
  obtain rfl : v1 = 1 := e2.trans (by decide)
  refine va_sld hx hb hX hbl hbA hS (vp_in_iff.mpr (by decide)) dL_law_1406 ?_
  refine lv_aload_n hx hb dL_law_1407 rfl (lv_at hl 3 rfl) ?_
  refine lv_iload_n hx hb dL_law_1408 rfl (lv_at hl 0 rfl) ?_
  refine lv_iconst (v := 2) hx hb dL_law_1409 (by decide) ?_
  refine lv_iadd hx hb dL_law_1410 ?_
  refine lv_topi (fun v3 e4 => ?_)
  obtain rfl : v3 = 2 := e4.trans (by decide)
  refine va_sld hx hb hX hbl hbA hS (vp_in_iff.mpr (by decide)) dL_law_1411 ?_
  refine lv_aload_n hx hb dL_law_1412 rfl (lv_at hl 3 rfl) ?_
  refine lv_iload_n hx hb dL_law_1413 rfl (lv_at hl 0 rfl) ?_
  refine lv_iconst (v := 3) hx hb dL_law_1414 (by decide) ?_
  refine lv_iadd hx hb dL_law_1415 ?_
  refine lv_topi (fun v5 e6 => ?_)
  obtain rfl : v5 = 3 := e6.trans (by decide)
  refine va_sld hx hb hX hbl hbA hS (vp_in_iff.mpr (by decide)) dL_law_1416 ?_
  refine lv_aload_n hx hb dL_law_1417 rfl (lv_at hl 3 rfl) ?_
  refine lv_iload_n hx hb dL_law_1418 rfl (lv_at hl 0 rfl) ?_
  refine lv_iconst (v := 4) hx hb dL_law_1419 (by decide) ?_
  refine lv_iadd hx hb dL_law_1420 ?_
  refine lv_topi (fun v7 e8 => ?_)
  obtain rfl : v7 = 4 := e8.trans (by decide)
  refine va_sld hx hb hX hbl hbA hS (vp_in_iff.mpr (by decide)) dL_law_1421 ?_
  have hPc := hP.sub (ws' := [((rx 0), .inr (11, fX rx 0 0)), ((rx 3), .inl (c 4, 11, .inr (.inr (.inr (.inr (fun _ => none)))))), ((rx 7), .inl (c 6, 10, .inr (.inr (.inr (.inr (fun _ => none))))))]) [0, 1, 2] rfl
  have hDc := hD.sub (ws' := [((rx 0), .inr (11, fX rx 0 0)), ((rx 3), .inl (c 4, 11, .inr (.inr (.inr (.inr (fun _ => none)))))), ((rx 7), .inl (c 6, 10, .inr (.inr (.inr (.inr (fun _ => none))))))]) [0, 1, 2] (by decide) rfl
  refine cl_i (wr := [((rm 0), .inr (12, fM rm 0 0))]) (va_runV (As := [.int (xs (Int32.toNatClampNeg 1)), .int (xs (Int32.toNatClampNeg 2)), .int (xs (Int32.toNatClampNeg 3)), .int (xs (Int32.toNatClampNeg 4))]) (rest := []) ⟨hx, hb, hml, hown, hts⟩ (c_X11_lease l D c H.size rx ((xs (Int32.toNatClampNeg 1))) ((xs (Int32.toNatClampNeg 2))) ((xs (Int32.toNatClampNeg 3))) ((xs (Int32.toNatClampNeg 4)))) (kw_V 4 hts wd_1060 wd_1061 wd_1062 wd_83 wd_1063 rfl rfl (by decide +kernel) ⟨Nat.le_of_ble_eq_true rfl, Nat.le_of_ble_eq_true rfl⟩) (pre_V hPc hK hDc hN hO (ci := 11) (q0 := 0) rfl rfl) rfl rfl hl.1 rfl (lv_room (Nat.le_of_ble_eq_true rfl)) dL_law_1422 ⟨Nat.le_of_ble_eq_true rfl, Nat.le_of_ble_eq_true rfl⟩) hP hD hS hA [0, 1, 2] [3] rfl rfl (by decide) (by decide) (fun r9 u10 H locs h11 hP hD hS => ?_)
  have hP : va_P D vwCl [((rm 0), .inr (12, fM rm 0 0))] H := hP
  have hD : va_D A [((rm 0), .inr (12, fM rm 0 0))] := hD
  refine lv_aload_n hx hb dL_law_1425 rfl (lv_at hl 1 rfl) ?_
  refine lv_aload_n hx hb dL_law_1426 rfl (lv_at hl 3 rfl) ?_
  refine lv_iload_n hx hb dL_law_1427 rfl (lv_at hl 0 rfl) ?_
  refine lv_iconst (v := 1) hx hb dL_law_1428 (by decide) ?_
  refine lv_iadd hx hb dL_law_1429 ?_
  refine lv_topi (fun v12 e13 => ?_)
  obtain rfl : v12 = 1 := e13.trans (by decide)
  refine va_sld hx hb hX hbl hbA hS (vp_in_iff.mpr (by decide)) dL_law_1430 ?_
  refine lv_aload_n hx hb dL_law_1431 rfl (lv_at hl 3 rfl) ?_
  refine lv_iload_n hx hb dL_law_1432 rfl (lv_at hl 0 rfl) ?_
  refine lv_iconst (v := 2) hx hb dL_law_1433 (by decide) ?_
  refine lv_iadd hx hb dL_law_1434 ?_
  refine lv_topi (fun v14 e15 => ?_)
  obtain rfl : v14 = 2 := e15.trans (by decide)
  refine va_sld hx hb hX hbl hbA hS (vp_in_iff.mpr (by decide)) dL_law_1435 ?_
  refine lv_aload_n hx hb dL_law_1436 rfl (lv_at hl 3 rfl) ?_
  refine lv_iload_n hx hb dL_law_1437 rfl (lv_at hl 0 rfl) ?_
  refine lv_iconst (v := 3) hx hb dL_law_1438 (by decide) ?_
  refine lv_iadd hx hb dL_law_1439 ?_
  refine lv_topi (fun v16 e17 => ?_)
  obtain rfl : v16 = 3 := e17.trans (by decide)
  refine va_sld hx hb hX hbl hbA hS (vp_in_iff.mpr (by decide)) dL_law_1440 ?_
  refine lv_aload_n hx hb dL_law_1441 rfl (lv_at hl 3 rfl) ?_
  refine lv_iload_n hx hb dL_law_1442 rfl (lv_at hl 0 rfl) ?_
  refine lv_iconst (v := 4) hx hb dL_law_1443 (by decide) ?_
  refine lv_iadd hx hb dL_law_1444 ?_
  refine lv_topi (fun v18 e19 => ?_)
  obtain rfl : v18 = 4 := e19.trans (by decide)
  refine va_sld hx hb hX hbl hbA hS (vp_in_iff.mpr (by decide)) dL_law_1445 ?_
  have hPc := hP.sub (ws' := [((rm 0), .inr (12, fM rm 0 0))]) [0] rfl
  have hDc := hD.sub (ws' := [((rm 0), .inr (12, fM rm 0 0))]) [0] (by decide) rfl
  refine cl_i (wr := []) (va_runV (As := [.int (xs (Int32.toNatClampNeg 1)), .int (xs (Int32.toNatClampNeg 2)), .int (xs (Int32.toNatClampNeg 3)), .int (xs (Int32.toNatClampNeg 4))]) (rest := [.int r9]) ⟨hx, hb, hml, hown, hts⟩ (c_X12_lease l D c H.size rm ((xs (Int32.toNatClampNeg 1))) ((xs (Int32.toNatClampNeg 2))) ((xs (Int32.toNatClampNeg 3))) ((xs (Int32.toNatClampNeg 4)))) (kw_V 4 hts wd_1702 wd_1703 wd_1704 wd_90 wd_1705 rfl rfl (by decide +kernel) ⟨Nat.le_of_ble_eq_true rfl, Nat.le_of_ble_eq_true rfl⟩) (pre_V hPc hK hDc hN hO (ci := 12) (q0 := 0) rfl rfl) rfl rfl hl.1 rfl (lv_room (Nat.le_of_ble_eq_true rfl)) dL_law_1446 ⟨Nat.le_of_ble_eq_true rfl, Nat.le_of_ble_eq_true rfl⟩) hP hD hS hA [0] [] rfl rfl (by decide) (by decide) (fun r20 u21 H locs h22 hP hD hS => ?_)
  have hP : va_P D vwCl [] H := hP
  have hD : va_D A [] := hD
  refine lv_icmp_eq (tgt := 1533) hx hb dL_law_1449 (by decide) (fun _ => ?_) (fun c => absurd (h11.trans h22.symm) c)
  exact law_fin hx hb hr hml hown hlocks hX hbl hbA hAs (Nat.le_of_ble_eq_true rfl) (Nat.le_of_ble_eq_true rfl) hS (lv_sub hl [0, 3] rfl)
set_option maxHeartbeats 4000000 in
set_option maxRecDepth 100000 in
theorem law_32 {p : Program} {l : Launch} {e : Env} {s : State} {m : MethodId} {below : List Frame} {meth : Method} {cd : Code} {b : Nat} {xs : Nat → Int32} {H : Heap} {locs : List Loc} {ls : Array Slot} {A : Nat → Prop} {D : va_G} {c : Nat → ClassId} {rx rm : Nat → Nat} (hx : p.tables.exec = Jvm.exec) (hb : cd.code = cL_law) (hr : meth.sig.returnType = ret) (hml : cd.maxLocals = 4) (hown : s.vm.findClass R_law = some m.cls) (hlocks : meth.locks = false) (hX : va_X b 8 xs s s.heap) (hbl : b < s.heap.size) (hbA : ¬ A b) (hAs : ∀ q, A q → s.heap.size ≤ q) (hts : ∀ w ∈ Wd, w.before #[Value.ref b] s = true) (hN : NW s) (hO : ∀ C ∈ aoL, va_AO C s) (hK : va_K D vwCl (TY c) s) (hA : ∀ q, s.heap.size ≤ q → A q) (hP : va_P D vwCl [((rx 0), .inr (11, fX rx 0 0)), ((rx 7), .inl (c 6, 10, .inr (.inr (.inr (.inr (fun _ => none)))))), ((rm 0), .inr (12, fM rm 0 0))] H) (hD : va_D A [((rx 0), .inr (11, fX rx 0 0)), ((rx 7), .inl (c 6, 10, .inr (.inr (.inr (.inr (fun _ => none)))))), ((rm 0), .inr (12, fM rm 0 0))]) (hS : va_S A s.heap H locs) (hl : lv_has ls 4 [(3, .int 0), (2, .ref (rm 0)), (1, .ref (rx 0)), (0, .ref b)]) : W p l e room_1 s m #[Value.ref b] below meth cd H locs 95 102698 (lw_Z below #[Value.ref b] s) (F0 m 1454 ls []) := by
  refine lv_aload_n hx hb dL_law_1454 rfl (lv_at hl 2 rfl) ?_
  refine lv_aload_n hx hb dL_law_1455 rfl (lv_at hl 3 rfl) ?_
  refine lv_iload_n hx hb dL_law_1456 rfl (lv_at hl 0 rfl) ?_
  refine lv_iconst (v := 1) hx hb dL_law_1457 (by decide) ?_
  refine lv_iadd hx hb dL_law_1458 ?_
  refine lv_topi (fun v1 e2 => ?_)
  obtain rfl : v1 = 1 := e2.trans (by decide)
  refine va_sld hx hb hX hbl hbA hS (vp_in_iff.mpr (by decide)) dL_law_1459 ?_
  refine lv_aload_n hx hb dL_law_1460 rfl (lv_at hl 3 rfl) ?_
  refine lv_iload_n hx hb dL_law_1461 rfl (lv_at hl 0 rfl) ?_
  refine lv_iconst (v := 2) hx hb dL_law_1462 (by decide) ?_
  refine lv_iadd hx hb dL_law_1463 ?_
  refine lv_topi (fun v3 e4 => ?_)
  obtain rfl : v3 = 2 := e4.trans (by decide)
  refine va_sld hx hb hX hbl hbA hS (vp_in_iff.mpr (by decide)) dL_law_1464 ?_
  have hPc := hP.sub (ws' := [((rx 0), .inr (11, fX rx 0 0)), ((rx 7), .inl (c 6, 10, .inr (.inr (.inr (.inr (fun _ => none))))))]) [0, 1] rfl
  have hDc := hD.sub (ws' := [((rx 0), .inr (11, fX rx 0 0)), ((rx 7), .inl (c 6, 10, .inr (.inr (.inr (.inr (fun _ => none))))))]) [0, 1] (by decide) rfl
  refine cl_i (wr := [((rm 0), .inr (12, fM rm 0 0))]) (va_runV (As := [.int (xs (Int32.toNatClampNeg 1)), .int (xs (Int32.toNatClampNeg 2))]) (rest := []) ⟨hx, hb, hml, hown, hts⟩ (c_X11_due l D c H.size rx ((xs (Int32.toNatClampNeg 1))) ((xs (Int32.toNatClampNeg 2)))) (kw_V 2 hts wd_1089 wd_1090 wd_1091 wd_83 wd_1092 rfl rfl (by decide +kernel) ⟨Nat.le_of_ble_eq_true rfl, Nat.le_of_ble_eq_true rfl⟩) (pre_V hPc hK hDc hN hO (ci := 11) (q0 := 0) rfl rfl) rfl rfl hl.1 rfl (lv_room (Nat.le_of_ble_eq_true rfl)) dL_law_1465 ⟨Nat.le_of_ble_eq_true rfl, Nat.le_of_ble_eq_true rfl⟩) hP hD hS hA [0, 1] [2] rfl rfl (by decide) (by decide) (fun r5 u6 H locs h7 hP hD hS => ?_)
  have hP : va_P D vwCl [((rm 0), .inr (12, fM rm 0 0))] H := hP
  have hD : va_D A [((rm 0), .inr (12, fM rm 0 0))] := hD
  refine lv_aload_n hx hb dL_law_1468 rfl (lv_at hl 1 rfl) ?_
  refine lv_aload_n hx hb dL_law_1469 rfl (lv_at hl 3 rfl) ?_
  refine lv_iload_n hx hb dL_law_1470 rfl (lv_at hl 0 rfl) ?_
  refine lv_iconst (v := 1) hx hb dL_law_1471 (by decide) ?_
  refine lv_iadd hx hb dL_law_1472 ?_
  refine lv_topi (fun v8 e9 => ?_)
  obtain rfl : v8 = 1 := e9.trans (by decide)
  refine va_sld hx hb hX hbl hbA hS (vp_in_iff.mpr (by decide)) dL_law_1473 ?_
  refine lv_aload_n hx hb dL_law_1474 rfl (lv_at hl 3 rfl) ?_
  refine lv_iload_n hx hb dL_law_1475 rfl (lv_at hl 0 rfl) ?_
  refine lv_iconst (v := 2) hx hb dL_law_1476 (by decide) ?_
  refine lv_iadd hx hb dL_law_1477 ?_
  refine lv_topi (fun v10 e11 => ?_)
  obtain rfl : v10 = 2 := e11.trans (by decide)
  refine va_sld hx hb hX hbl hbA hS (vp_in_iff.mpr (by decide)) dL_law_1478 ?_
  have hPc := hP.sub (ws' := [((rm 0), .inr (12, fM rm 0 0))]) [0] rfl
  have hDc := hD.sub (ws' := [((rm 0), .inr (12, fM rm 0 0))]) [0] (by decide) rfl
  refine cl_i (wr := []) (va_runV (As := [.int (xs (Int32.toNatClampNeg 1)), .int (xs (Int32.toNatClampNeg 2))]) (rest := [.int r5]) ⟨hx, hb, hml, hown, hts⟩ (c_X12_due l D c H.size rm ((xs (Int32.toNatClampNeg 1))) ((xs (Int32.toNatClampNeg 2)))) (kw_V 2 hts wd_1706 wd_1707 wd_1708 wd_90 wd_1709 rfl rfl (by decide +kernel) ⟨Nat.le_of_ble_eq_true rfl, Nat.le_of_ble_eq_true rfl⟩) (pre_V hPc hK hDc hN hO (ci := 12) (q0 := 0) rfl rfl) rfl rfl hl.1 rfl (lv_room (Nat.le_of_ble_eq_true rfl)) dL_law_1479 ⟨Nat.le_of_ble_eq_true rfl, Nat.le_of_ble_eq_true rfl⟩) hP hD hS hA [0] [] rfl rfl (by decide) (by decide) (fun r12 u13 H locs h14 hP hD hS => ?_)
  have hP : va_P D vwCl [] H := hP
  have hD : va_D A [] := hD
  refine lv_icmp_eq (tgt := 1533) hx hb dL_law_1482 (by decide) (fun _ => ?_) (fun c => absurd (h7.trans h14.symm) c)
  exact law_fin hx hb hr hml hown hlocks hX hbl hbA hAs (Nat.le_of_ble_eq_true rfl) (Nat.le_of_ble_eq_true rfl) hS (lv_sub hl [0, 3] rfl)
set_option maxHeartbeats 4000000 in
set_option maxRecDepth 100000 in
theorem law_33 {p : Program} {l : Launch} {e : Env} {s : State} {m : MethodId} {below : List Frame} {meth : Method} {cd : Code} {b : Nat} {xs : Nat → Int32} {H : Heap} {locs : List Loc} {ls : Array Slot} {A : Nat → Prop} {D : va_G} {c : Nat → ClassId} {rx rm : Nat → Nat} (hx : p.tables.exec = Jvm.exec) (hb : cd.code = cL_law) (hr : meth.sig.returnType = ret) (hml : cd.maxLocals = 4) (hown : s.vm.findClass R_law = some m.cls) (hlocks : meth.locks = false) (hX : va_X b 8 xs s s.heap) (hbl : b < s.heap.size) (hbA : ¬ A b) (hAs : ∀ q, A q → s.heap.size ≤ q) (hts : ∀ w ∈ Wd, w.before #[Value.ref b] s = true) (hN : NW s) (hO : ∀ C ∈ aoL, va_AO C s) (hK : va_K D vwCl (TY c) s) (hA : ∀ q, s.heap.size ≤ q → A q) (hP : va_P D vwCl [((rx 0), .inr (11, fX rx 0 0)), ((rx 7), .inl (c 6, 10, .inr (.inr (.inr (.inr (fun _ => none)))))), ((rm 0), .inr (12, fM rm 0 0))] H) (hD : va_D A [((rx 0), .inr (11, fX rx 0 0)), ((rx 7), .inl (c 6, 10, .inr (.inr (.inr (.inr (fun _ => none)))))), ((rm 0), .inr (12, fM rm 0 0))]) (hS : va_S A s.heap H locs) (hl : lv_has ls 4 [(3, .int 0), (2, .ref (rm 0)), (1, .ref (rx 0)), (0, .ref b)]) : W p l e room_1 s m #[Value.ref b] below meth cd H locs 95 102698 (lw_Z below #[Value.ref b] s) (F0 m 1487 ls []) := by
  refine lv_aload_n hx hb dL_law_1487 rfl (lv_at hl 2 rfl) ?_
  refine lv_aload_n hx hb dL_law_1488 rfl (lv_at hl 3 rfl) ?_
  refine lv_iload_n hx hb dL_law_1489 rfl (lv_at hl 0 rfl) ?_
  refine lv_iconst (v := 1) hx hb dL_law_1490 (by decide) ?_
  refine lv_iadd hx hb dL_law_1491 ?_
  refine lv_topi (fun v1 e2 => ?_)
  obtain rfl : v1 = 1 := e2.trans (by decide)
  refine va_sld hx hb hX hbl hbA hS (vp_in_iff.mpr (by decide)) dL_law_1492 ?_
  have hPc := hP.sub (ws' := [((rx 0), .inr (11, fX rx 0 0)), ((rx 7), .inl (c 6, 10, .inr (.inr (.inr (.inr (fun _ => none))))))]) [0, 1] rfl
  have hDc := hD.sub (ws' := [((rx 0), .inr (11, fX rx 0 0)), ((rx 7), .inl (c 6, 10, .inr (.inr (.inr (.inr (fun _ => none))))))]) [0, 1] (by decide) rfl
  refine cl_i (wr := [((rm 0), .inr (12, fM rm 0 0))]) (va_runV (As := [.int (xs (Int32.toNatClampNeg 1))]) (rest := []) ⟨hx, hb, hml, hown, hts⟩ (c_X11_pay l D c H.size rx ((xs (Int32.toNatClampNeg 1)))) (kw_V 1 hts wd_1101 wd_1102 wd_1103 wd_83 wd_1104 rfl rfl (by decide +kernel) ⟨Nat.le_of_ble_eq_true rfl, Nat.le_of_ble_eq_true rfl⟩) (pre_V hPc hK hDc hN hO (ci := 11) (q0 := 0) rfl rfl) rfl rfl hl.1 rfl (lv_room (Nat.le_of_ble_eq_true rfl)) dL_law_1493 ⟨Nat.le_of_ble_eq_true rfl, Nat.le_of_ble_eq_true rfl⟩) hP hD hS hA [0, 1] [2] rfl rfl (by decide) (by decide) (fun r3 u4 H locs h5 hP hD hS => ?_)
  have hP : va_P D vwCl [((rm 0), .inr (12, fM rm 0 0))] H := hP
  have hD : va_D A [((rm 0), .inr (12, fM rm 0 0))] := hD
  refine lv_aload_n hx hb dL_law_1496 rfl (lv_at hl 1 rfl) ?_
  refine lv_aload_n hx hb dL_law_1497 rfl (lv_at hl 3 rfl) ?_
  refine lv_iload_n hx hb dL_law_1498 rfl (lv_at hl 0 rfl) ?_
  refine lv_iconst (v := 1) hx hb dL_law_1499 (by decide) ?_
  refine lv_iadd hx hb dL_law_1500 ?_
  refine lv_topi (fun v6 e7 => ?_)
  obtain rfl : v6 = 1 := e7.trans (by decide)
  refine va_sld hx hb hX hbl hbA hS (vp_in_iff.mpr (by decide)) dL_law_1501 ?_
  have hPc := hP.sub (ws' := [((rm 0), .inr (12, fM rm 0 0))]) [0] rfl
  have hDc := hD.sub (ws' := [((rm 0), .inr (12, fM rm 0 0))]) [0] (by decide) rfl
  refine cl_i (wr := []) (va_runV (As := [.int (xs (Int32.toNatClampNeg 1))]) (rest := [.int r3]) ⟨hx, hb, hml, hown, hts⟩ (c_X12_pay l D c H.size rm ((xs (Int32.toNatClampNeg 1)))) (kw_V 1 hts wd_1714 wd_1715 wd_1716 wd_90 wd_1717 rfl rfl (by decide +kernel) ⟨Nat.le_of_ble_eq_true rfl, Nat.le_of_ble_eq_true rfl⟩) (pre_V hPc hK hDc hN hO (ci := 12) (q0 := 0) rfl rfl) rfl rfl hl.1 rfl (lv_room (Nat.le_of_ble_eq_true rfl)) dL_law_1502 ⟨Nat.le_of_ble_eq_true rfl, Nat.le_of_ble_eq_true rfl⟩) hP hD hS hA [0] [] rfl rfl (by decide) (by decide) (fun r8 u9 H locs h10 hP hD hS => ?_)
  have hP : va_P D vwCl [] H := hP
  have hD : va_D A [] := hD
  refine lv_icmp_eq (tgt := 1533) hx hb dL_law_1505 (by decide) (fun _ => ?_) (fun c => absurd (h5.trans h10.symm) c)
  exact law_fin hx hb hr hml hown hlocks hX hbl hbA hAs (Nat.le_of_ble_eq_true rfl) (Nat.le_of_ble_eq_true rfl) hS (lv_sub hl [0, 3] rfl)
set_option maxHeartbeats 4000000 in
set_option maxRecDepth 100000 in
theorem law_34 {p : Program} {l : Launch} {e : Env} {s : State} {m : MethodId} {below : List Frame} {meth : Method} {cd : Code} {b : Nat} {xs : Nat → Int32} {H : Heap} {locs : List Loc} {ls : Array Slot} {A : Nat → Prop} {D : va_G} {c : Nat → ClassId} {rx rm : Nat → Nat} (hx : p.tables.exec = Jvm.exec) (hb : cd.code = cL_law) (hr : meth.sig.returnType = ret) (hml : cd.maxLocals = 4) (hown : s.vm.findClass R_law = some m.cls) (hlocks : meth.locks = false) (hX : va_X b 8 xs s s.heap) (hbl : b < s.heap.size) (hbA : ¬ A b) (hAs : ∀ q, A q → s.heap.size ≤ q) (hts : ∀ w ∈ Wd, w.before #[Value.ref b] s = true) (hN : NW s) (hO : ∀ C ∈ aoL, va_AO C s) (hK : va_K D vwCl (TY c) s) (hA : ∀ q, s.heap.size ≤ q → A q) (hP : va_P D vwCl [((rx 0), .inr (11, fX rx 0 0)), ((rx 1), .inr (8, fTd rx)), ((rx 2), .inr (10, fWv rx)), ((rx 4), .inr (5, fRd rx 0)), ((rx 6), .inr (7, fSm rx)), ((rx 7), .inl (c 6, 10, .inr (.inr (.inr (.inr (fun _ => none)))))), ((rm 0), .inr (12, fM rm 0 0)), ((rm 9), .inl (c 0, 3, .inl (setF)))] H) (hD : va_D A [((rx 0), .inr (11, fX rx 0 0)), ((rx 1), .inr (8, fTd rx)), ((rx 2), .inr (10, fWv rx)), ((rx 4), .inr (5, fRd rx 0)), ((rx 6), .inr (7, fSm rx)), ((rx 7), .inl (c 6, 10, .inr (.inr (.inr (.inr (fun _ => none)))))), ((rm 0), .inr (12, fM rm 0 0)), ((rm 9), .inl (c 0, 3, .inl (setF)))]) (hS : va_S A s.heap H locs) (hl : lv_has ls 4 [(3, .int 0), (2, .ref (rm 0)), (1, .ref (rx 0)), (0, .ref b)]) : W p l e room_1 s m #[Value.ref b] below meth cd H locs 95 102698 (lw_Z below #[Value.ref b] s) (F0 m 1510 ls []) := by
  refine lv_aload_n hx hb dL_law_1510 rfl (lv_at hl 2 rfl) ?_
  refine lv_aload_n hx hb dL_law_1511 rfl (lv_at hl 3 rfl) ?_
  refine lv_iload_n hx hb dL_law_1512 rfl (lv_at hl 0 rfl) ?_
  refine lv_iconst (v := 1) hx hb dL_law_1513 (by decide) ?_
  refine lv_iadd hx hb dL_law_1514 ?_
  refine lv_topi (fun v1 e2 => ?_)
  obtain rfl : v1 = 1 := e2.trans (by decide)
  refine va_sld hx hb hX hbl hbA hS (vp_in_iff.mpr (by decide)) dL_law_1515 ?_
  have hPc := hP.sub (ws' := [((rx 0), .inr (11, fX rx 0 0)), ((rx 1), .inr (8, fTd rx)), ((rx 2), .inr (10, fWv rx)), ((rx 4), .inr (5, fRd rx 0)), ((rx 6), .inr (7, fSm rx)), ((rx 7), .inl (c 6, 10, .inr (.inr (.inr (.inr (fun _ => none))))))]) [0, 1, 2, 3, 4, 5] rfl
  have hDc := hD.sub (ws' := [((rx 0), .inr (11, fX rx 0 0)), ((rx 1), .inr (8, fTd rx)), ((rx 2), .inr (10, fWv rx)), ((rx 4), .inr (5, fRd rx 0)), ((rx 6), .inr (7, fSm rx)), ((rx 7), .inl (c 6, 10, .inr (.inr (.inr (.inr (fun _ => none))))))]) [0, 1, 2, 3, 4, 5] (by decide) rfl
  refine cl_i (wr := [((rm 0), .inr (12, fM rm 0 0)), ((rm 9), .inl (c 0, 3, .inl (setF)))]) (va_runV (As := [.int (xs (Int32.toNatClampNeg 1))]) (rest := []) ⟨hx, hb, hml, hown, hts⟩ (c_X11_count l D c H.size rx ((xs (Int32.toNatClampNeg 1)))) (kw_V 1 hts wd_1106 wd_1107 wd_1108 wd_83 wd_1109 rfl rfl (by decide +kernel) ⟨Nat.le_of_ble_eq_true rfl, Nat.le_of_ble_eq_true rfl⟩) (pre_V hPc hK hDc hN hO (ci := 11) (q0 := 0) rfl rfl) rfl rfl hl.1 rfl (lv_room (Nat.le_of_ble_eq_true rfl)) dL_law_1516 ⟨Nat.le_of_ble_eq_true rfl, Nat.le_of_ble_eq_true rfl⟩) hP hD hS hA [0, 1, 2, 3, 4, 5] [6, 7] rfl rfl (by decide) (by decide) (fun r3 u4 H locs h5 hP hD hS => ?_)
  have hP : va_P D vwCl [((rm 0), .inr (12, fM rm 0 0)), ((rm 9), .inl (c 0, 3, .inl (setF)))] H := hP
  have hD : va_D A [((rm 0), .inr (12, fM rm 0 0)), ((rm 9), .inl (c 0, 3, .inl (setF)))] := hD
  refine lv_aload_n hx hb dL_law_1519 rfl (lv_at hl 1 rfl) ?_
  refine lv_aload_n hx hb dL_law_1520 rfl (lv_at hl 3 rfl) ?_
  refine lv_iload_n hx hb dL_law_1521 rfl (lv_at hl 0 rfl) ?_
  refine lv_iconst (v := 1) hx hb dL_law_1522 (by decide) ?_
  refine lv_iadd hx hb dL_law_1523 ?_
  refine lv_topi (fun v6 e7 => ?_)
  obtain rfl : v6 = 1 := e7.trans (by decide)
  refine va_sld hx hb hX hbl hbA hS (vp_in_iff.mpr (by decide)) dL_law_1524 ?_
  have hPc := hP.sub (ws' := [((rm 0), .inr (12, fM rm 0 0)), ((rm 9), .inl (c 0, 3, .inl (setF)))]) [0, 1] rfl
  have hDc := hD.sub (ws' := [((rm 0), .inr (12, fM rm 0 0)), ((rm 9), .inl (c 0, 3, .inl (setF)))]) [0, 1] (by decide) rfl
  refine cl_i (wr := []) (va_runV (As := [.int (xs (Int32.toNatClampNeg 1))]) (rest := [.int r3]) ⟨hx, hb, hml, hown, hts⟩ (c_X12_count l D c H.size rm ((xs (Int32.toNatClampNeg 1)))) (kw_V 1 hts wd_1719 wd_1720 wd_1721 wd_90 wd_1722 rfl rfl (by decide +kernel) ⟨Nat.le_of_ble_eq_true rfl, Nat.le_of_ble_eq_true rfl⟩) (pre_V hPc hK hDc hN hO (ci := 12) (q0 := 0) rfl rfl) rfl rfl hl.1 rfl (lv_room (Nat.le_of_ble_eq_true rfl)) dL_law_1525 ⟨Nat.le_of_ble_eq_true rfl, Nat.le_of_ble_eq_true rfl⟩) hP hD hS hA [0, 1] [] rfl rfl (by decide) (by decide) (fun r8 u9 H locs h10 hP hD hS => ?_)
  have hP : va_P D vwCl [] H := hP
  have hD : va_D A [] := hD
  refine lv_icmp_eq (tgt := 1533) hx hb dL_law_1528 (by decide) (fun _ => ?_) (fun c => absurd (h5.trans h10.symm) c)
  exact law_fin hx hb hr hml hown hlocks hX hbl hbA hAs (Nat.le_of_ble_eq_true rfl) (Nat.le_of_ble_eq_true rfl) hS (lv_sub hl [0, 3] rfl)
