set_option maxHeartbeats 4000000 in
set_option maxRecDepth 100000 in
/-- the law from its entry -/
theorem whole_start {p : Program} {e : Env} {s : State} {m : MethodId} {below : List Frame} {meth : Method} {c : Code} (l : Launch) (hflags : l.flags = flags0) {b L : Nat} {xs : Nat → Int32} (hL : L ≤ 8) (C0 : lw_At p s m meth c b L xs) : W p l e room_1 s m #[Value.ref b] below meth c s.heap [] 0 0 (lw_Z below #[Value.ref b] s) (entryFrame m ([Value.ref b] : List Value).toArray 4) := by
  obtain ⟨hx, hb, hr, hml, hown, hts0, hX, hbl, hlocks, hgv⟩ := id C0
  have hts : ∀ w ∈ Wd, w.before #[Value.ref b] s = true := fun w hw => hts0 w (List.mem_filter.mp hw).1
  have hN : NW s := nw_at hts0
  have hO : ∀ C ∈ aoL, va_AO C s := ao_at hts0
  obtain ⟨A, hAe⟩ : ∃ A : Nat → Prop, A = fun q => s.heap.size ≤ q := ⟨_, rfl⟩
  have hA : ∀ q, s.heap.size ≤ q → A q := fun q h => by rw [hAe]; exact h
  have hAs : ∀ q, A q → s.heap.size ≤ q := fun q h => by rw [hAe] at h; exact h
  have hbA : ¬ A b := fun h => absurd (hAs _ h) (Nat.not_le.mpr hbl)
  obtain ⟨D, cc, hK⟩ := start_K hts0
  generalize hcd : c = cd at hb hml ⊢
  clear hcd C0
  obtain ⟨c, rfl⟩ : ∃ z, z = cc := ⟨_, rfl⟩
  have hS : va_S A s.heap s.heap [] := va_S.rf
  have hP : va_P D vwCl [] s.heap := fun k q h => by simp at h
  have hD : va_D A [] := ⟨fun i j p q h => by simp at h, fun k q h => by simp at h⟩
  have hl := lv_entry ([.ref b]) (n := 4) (Nat.le_of_ble_eq_true rfl)
  rw [lg_entry_eq]
  generalize (lg_sl ([.ref b]) ++ List.replicate (4 - (lg_sl ([.ref b])).length) Slot.unset).toArray = ls at hl ⊢
  have hl : lv_has ls 4 [(0, .ref b)] := hl
  obtain ⟨H, hH⟩ : ∃ H : Heap, H = s.heap := ⟨_, rfl⟩
  have hS : va_S A s.heap H [] := by rw [hH]; exact hS
  have hP : va_P D vwCl [] H := by rw [hH]; exact hP
  rw [show W p l e room_1 s m #[Value.ref b] below meth cd s.heap [] 0 0 (lw_Z below #[Value.ref b] s) (F0 m 0 ls []) = W p l e room_1 s m #[Value.ref b] below meth cd H [] 0 0 (lw_Z below #[Value.ref b] s) (F0 m 0 ls []) by rw [hH]]
  refine va_new (ci := 11) (fs := nwX11) (C := RX11) (T := TX11) (N := 16) hx hb hts inW_11 tyX11 tyX11_ok hown (hts _ wd_104) (hts _ wd_105) (hts _ wd_83) hK hP hD hS hA rfl nwX11_ok (Nat.le_of_ble_eq_true rfl) (Nat.le_of_ble_eq_true rfl) dL_law_0 (fun q1 H hP hD hS => ?_)
  have hP : va_P D vwCl [(q1, .inr (11, nwX11))] H := hP
  have hD : va_D A [(q1, .inr (11, nwX11))] := hD
  refine W.widen (k := 1) (n := 16) (Nat.le_of_ble_eq_true rfl) (Nat.le_of_ble_eq_true rfl) ?_
  refine lv_dup hx hb dL_law_3 rfl ?_
  have hPc := hP.sub (ws' := [(q1, .inr (11, nwX11))]) [0] rfl
  have hDc := hD.sub (ws' := [(q1, .inr (11, nwX11))]) [0] (by decide) rfl
  refine cl_v (wr := []) (va_runI (As := []) (rest := [.ref q1]) ⟨hx, hb, hml, hown, hts⟩ (c_X11_init l D c H.size q1) (kw_I 0 hts wd_106 wd_107 wd_83 wd_108 rfl rfl rfl (by decide +kernel) ⟨Nat.le_of_ble_eq_true rfl, Nat.le_of_ble_eq_true rfl⟩) (pre_S hPc hK hDc hN hO) rfl rfl hl.1 rfl (lv_room (Nat.le_of_ble_eq_true rfl)) dL_law_4 ⟨Nat.le_of_ble_eq_true rfl, Nat.le_of_ble_eq_true rfl⟩) hP hD hS hA [0] [] rfl rfl (by decide) (by decide) (fun u3 H locs h4 hP hD hS => ?_)
  refine W.widen (k := 28) (n := 10667) (Nat.le_of_ble_eq_true rfl) (Nat.le_of_ble_eq_true rfl) ?_
  obtain ⟨rx, errx⟩ : ∃ z : Nat → Nat, z = u3 := ⟨_, rfl⟩
  rw [← errx] at hP hD h4
  have hhrx : rx 0 = q1 := h4
  have hP : va_P D vwCl [((rx 0), .inr (11, fX rx 0 0)), ((rx 1), .inr (8, fTd rx)), ((rx 20), .inl (c 0, 500, .inl (fun _ => 0))), ((rx 21), .inl (c 0, 500, .inl (fun _ => 0))), ((rx 2), .inr (10, fWv rx)), ((rx 22), .inl (c 0, 2400, .inl (fun _ => 0))), ((rx 23), .inl (c 0, 1500, .inl (fun _ => 0))), ((rx 24), .inl (c 0, 1500, .inl (fun _ => 0))), ((rx 25), .inl (c 0, 1500, .inl (fun _ => 0))), ((rx 3), .inl (c 4, 11, .inr (.inr (.inr (.inr (fun _ => none)))))), ((rx 4), .inr (5, fRd rx 0)), ((rx 26), .inl (c 0, 320, .inl (fun _ => 0))), ((rx 27), .inl (c 0, 300, .inl (fun _ => 0))), ((rx 5), .inl (c 5, 10, .inr (.inr (.inr (.inr (fun _ => none)))))), ((rx 6), .inr (7, fSm rx)), ((rx 7), .inl (c 6, 10, .inr (.inr (.inr (.inr (fun _ => none))))))] H := hP
  have hD : va_D A [((rx 0), .inr (11, fX rx 0 0)), ((rx 1), .inr (8, fTd rx)), ((rx 20), .inl (c 0, 500, .inl (fun _ => 0))), ((rx 21), .inl (c 0, 500, .inl (fun _ => 0))), ((rx 2), .inr (10, fWv rx)), ((rx 22), .inl (c 0, 2400, .inl (fun _ => 0))), ((rx 23), .inl (c 0, 1500, .inl (fun _ => 0))), ((rx 24), .inl (c 0, 1500, .inl (fun _ => 0))), ((rx 25), .inl (c 0, 1500, .inl (fun _ => 0))), ((rx 3), .inl (c 4, 11, .inr (.inr (.inr (.inr (fun _ => none)))))), ((rx 4), .inr (5, fRd rx 0)), ((rx 26), .inl (c 0, 320, .inl (fun _ => 0))), ((rx 27), .inl (c 0, 300, .inl (fun _ => 0))), ((rx 5), .inl (c 5, 10, .inr (.inr (.inr (.inr (fun _ => none)))))), ((rx 6), .inr (7, fSm rx)), ((rx 7), .inl (c 6, 10, .inr (.inr (.inr (.inr (fun _ => none))))))] := hD
  rw [← hhrx]
  refine lv_astore_n (lv' := [(1, .ref (rx 0)), (0, .ref b)]) hx hb dL_law_7 rfl hl (by decide) rfl (fun ls hl => ?_)
  refine va_new (ci := 12) (fs := nwX12) (C := RX12) (T := TX12) (N := 92) hx hb hts inW_12 tyX12 tyX12_ok hown (hts _ wd_1114) (hts _ wd_1115) (hts _ wd_90) hK hP hD hS hA rfl nwX12_ok (Nat.le_of_ble_eq_true rfl) (Nat.le_of_ble_eq_true rfl) dL_law_8 (fun q5 H hP hD hS => ?_)
  have hP : va_P D vwCl [((rx 0), .inr (11, fX rx 0 0)), ((rx 1), .inr (8, fTd rx)), ((rx 20), .inl (c 0, 500, .inl (fun _ => 0))), ((rx 21), .inl (c 0, 500, .inl (fun _ => 0))), ((rx 2), .inr (10, fWv rx)), ((rx 22), .inl (c 0, 2400, .inl (fun _ => 0))), ((rx 23), .inl (c 0, 1500, .inl (fun _ => 0))), ((rx 24), .inl (c 0, 1500, .inl (fun _ => 0))), ((rx 25), .inl (c 0, 1500, .inl (fun _ => 0))), ((rx 3), .inl (c 4, 11, .inr (.inr (.inr (.inr (fun _ => none)))))), ((rx 4), .inr (5, fRd rx 0)), ((rx 26), .inl (c 0, 320, .inl (fun _ => 0))), ((rx 27), .inl (c 0, 300, .inl (fun _ => 0))), ((rx 5), .inl (c 5, 10, .inr (.inr (.inr (.inr (fun _ => none)))))), ((rx 6), .inr (7, fSm rx)), ((rx 7), .inl (c 6, 10, .inr (.inr (.inr (.inr (fun _ => none)))))), (q5, .inr (12, nwX12))] H := hP
  have hD : va_D A [((rx 0), .inr (11, fX rx 0 0)), ((rx 1), .inr (8, fTd rx)), ((rx 20), .inl (c 0, 500, .inl (fun _ => 0))), ((rx 21), .inl (c 0, 500, .inl (fun _ => 0))), ((rx 2), .inr (10, fWv rx)), ((rx 22), .inl (c 0, 2400, .inl (fun _ => 0))), ((rx 23), .inl (c 0, 1500, .inl (fun _ => 0))), ((rx 24), .inl (c 0, 1500, .inl (fun _ => 0))), ((rx 25), .inl (c 0, 1500, .inl (fun _ => 0))), ((rx 3), .inl (c 4, 11, .inr (.inr (.inr (.inr (fun _ => none)))))), ((rx 4), .inr (5, fRd rx 0)), ((rx 26), .inl (c 0, 320, .inl (fun _ => 0))), ((rx 27), .inl (c 0, 300, .inl (fun _ => 0))), ((rx 5), .inl (c 5, 10, .inr (.inr (.inr (.inr (fun _ => none)))))), ((rx 6), .inr (7, fSm rx)), ((rx 7), .inl (c 6, 10, .inr (.inr (.inr (.inr (fun _ => none)))))), (q5, .inr (12, nwX12))] := hD
  refine W.widen (k := 29) (n := 10759) (Nat.le_of_ble_eq_true rfl) (Nat.le_of_ble_eq_true rfl) ?_
  refine lv_dup hx hb dL_law_11 rfl ?_
  have hPc := hP.sub (ws' := [(q5, .inr (12, nwX12))]) [16] rfl
  have hDc := hD.sub (ws' := [(q5, .inr (12, nwX12))]) [16] (by decide) rfl
  refine cl_v (wr := [((rx 0), .inr (11, fX rx 0 0)), ((rx 1), .inr (8, fTd rx)), ((rx 20), .inl (c 0, 500, .inl (fun _ => 0))), ((rx 21), .inl (c 0, 500, .inl (fun _ => 0))), ((rx 2), .inr (10, fWv rx)), ((rx 22), .inl (c 0, 2400, .inl (fun _ => 0))), ((rx 23), .inl (c 0, 1500, .inl (fun _ => 0))), ((rx 24), .inl (c 0, 1500, .inl (fun _ => 0))), ((rx 25), .inl (c 0, 1500, .inl (fun _ => 0))), ((rx 3), .inl (c 4, 11, .inr (.inr (.inr (.inr (fun _ => none)))))), ((rx 4), .inr (5, fRd rx 0)), ((rx 26), .inl (c 0, 320, .inl (fun _ => 0))), ((rx 27), .inl (c 0, 300, .inl (fun _ => 0))), ((rx 5), .inl (c 5, 10, .inr (.inr (.inr (.inr (fun _ => none)))))), ((rx 6), .inr (7, fSm rx)), ((rx 7), .inl (c 6, 10, .inr (.inr (.inr (.inr (fun _ => none))))))]) (va_runI (As := []) (rest := [.ref q5]) ⟨hx, hb, hml, hown, hts⟩ (c_X12_init l D c H.size q5) (kw_I 0 hts wd_1116 wd_1117 wd_90 wd_1118 rfl rfl rfl (by decide +kernel) ⟨Nat.le_of_ble_eq_true rfl, Nat.le_of_ble_eq_true rfl⟩) (pre_S hPc hK hDc hN hO) rfl rfl hl.1 rfl (lv_room (Nat.le_of_ble_eq_true rfl)) dL_law_12 ⟨Nat.le_of_ble_eq_true rfl, Nat.le_of_ble_eq_true rfl⟩) hP hD hS hA [16] [0, 1, 2, 3, 4, 5, 6, 7, 8, 9, 10, 11, 12, 13, 14, 15] rfl rfl (by decide) (by decide) (fun u7 H locs h8 hP hD hS => ?_)
  refine W.widen (k := 95) (n := 102698) (Nat.le_of_ble_eq_true rfl) (Nat.le_of_ble_eq_true rfl) ?_
  obtain ⟨rm, errm⟩ : ∃ z : Nat → Nat, z = u7 := ⟨_, rfl⟩
  rw [← errm] at hP hD h8
  have hhrm : rm 0 = q5 := h8
  have hP : va_P D vwCl ([((rx 0), .inr (11, fX rx 0 0)), ((rx 1), .inr (8, fTd rx)), ((rx 20), .inl (c 0, 500, .inl (fun _ => 0))), ((rx 21), .inl (c 0, 500, .inl (fun _ => 0))), ((rx 2), .inr (10, fWv rx)), ((rx 22), .inl (c 0, 2400, .inl (fun _ => 0))), ((rx 23), .inl (c 0, 1500, .inl (fun _ => 0))), ((rx 24), .inl (c 0, 1500, .inl (fun _ => 0))), ((rx 25), .inl (c 0, 1500, .inl (fun _ => 0))), ((rx 3), .inl (c 4, 11, .inr (.inr (.inr (.inr (fun _ => none)))))), ((rx 4), .inr (5, fRd rx 0)), ((rx 26), .inl (c 0, 320, .inl (fun _ => 0))), ((rx 27), .inl (c 0, 300, .inl (fun _ => 0))), ((rx 5), .inl (c 5, 10, .inr (.inr (.inr (.inr (fun _ => none)))))), ((rx 6), .inr (7, fSm rx)), ((rx 7), .inl (c 6, 10, .inr (.inr (.inr (.inr (fun _ => none))))))] ++ [((rm 0), .inr (12, fM rm 0 0)), ((rm 3), .inl (c 0, 500, .inl (fun _ => 0))), ((rm 4), .inl (c 0, 500, .inl (fun _ => 0))), ((rm 6), .inl (c 0, 1500, .inl (fun _ => 0))), ((rm 7), .inl (c 0, 1500, .inl (fun _ => 0))), ((rm 8), .inl (c 0, 1500, .inl (fun _ => 0))), ((rm 9), .inl (c 0, 3, .inl (setF))), ((rm 12), .inl (c 0, 11, .inl (fun _ => 0))), ((rm 13), .inl (c 0, 11, .inl (fun _ => 0))), ((rm 14), .inl (c 0, 11, .inl (fun _ => 0))), ((rm 15), .inl (c 0, 11, .inl (fun _ => 0))), ((rm 16), .inl (c 0, 11, .inl (fun _ => 0))), ((rm 17), .inl (c 0, 11, .inl (fun _ => 0))), ((rm 22), .inl (c 0, 11, .inl (fun _ => 0))), ((rm 26), .inl (c 0, 11, .inl (fun _ => 0))), ((rm 45), .inl (c 1, 300, .inl (fun _ => 0))), ((rm 59), .inl (c 0, 10, .inl (fun _ => 0))), ((rm 60), .inl (c 0, 10, .inl (fun _ => 0)))]) H := hP
  have hD : va_D A ([((rx 0), .inr (11, fX rx 0 0)), ((rx 1), .inr (8, fTd rx)), ((rx 20), .inl (c 0, 500, .inl (fun _ => 0))), ((rx 21), .inl (c 0, 500, .inl (fun _ => 0))), ((rx 2), .inr (10, fWv rx)), ((rx 22), .inl (c 0, 2400, .inl (fun _ => 0))), ((rx 23), .inl (c 0, 1500, .inl (fun _ => 0))), ((rx 24), .inl (c 0, 1500, .inl (fun _ => 0))), ((rx 25), .inl (c 0, 1500, .inl (fun _ => 0))), ((rx 3), .inl (c 4, 11, .inr (.inr (.inr (.inr (fun _ => none)))))), ((rx 4), .inr (5, fRd rx 0)), ((rx 26), .inl (c 0, 320, .inl (fun _ => 0))), ((rx 27), .inl (c 0, 300, .inl (fun _ => 0))), ((rx 5), .inl (c 5, 10, .inr (.inr (.inr (.inr (fun _ => none)))))), ((rx 6), .inr (7, fSm rx)), ((rx 7), .inl (c 6, 10, .inr (.inr (.inr (.inr (fun _ => none))))))] ++ [((rm 0), .inr (12, fM rm 0 0)), ((rm 3), .inl (c 0, 500, .inl (fun _ => 0))), ((rm 4), .inl (c 0, 500, .inl (fun _ => 0))), ((rm 6), .inl (c 0, 1500, .inl (fun _ => 0))), ((rm 7), .inl (c 0, 1500, .inl (fun _ => 0))), ((rm 8), .inl (c 0, 1500, .inl (fun _ => 0))), ((rm 9), .inl (c 0, 3, .inl (setF))), ((rm 12), .inl (c 0, 11, .inl (fun _ => 0))), ((rm 13), .inl (c 0, 11, .inl (fun _ => 0))), ((rm 14), .inl (c 0, 11, .inl (fun _ => 0))), ((rm 15), .inl (c 0, 11, .inl (fun _ => 0))), ((rm 16), .inl (c 0, 11, .inl (fun _ => 0))), ((rm 17), .inl (c 0, 11, .inl (fun _ => 0))), ((rm 22), .inl (c 0, 11, .inl (fun _ => 0))), ((rm 26), .inl (c 0, 11, .inl (fun _ => 0))), ((rm 45), .inl (c 1, 300, .inl (fun _ => 0))), ((rm 59), .inl (c 0, 10, .inl (fun _ => 0))), ((rm 60), .inl (c 0, 10, .inl (fun _ => 0)))]) := hD
  rw [← hhrm]
  refine lv_astore_n (lv' := [(2, .ref (rm 0)), (1, .ref (rx 0)), (0, .ref b)]) hx hb dL_law_15 rfl hl (by decide) rfl (fun ls hl => ?_)
  refine lv_iconst (v := 0) hx hb dL_law_16 (by decide) ?_
  refine lv_istore_n (lv' := [(3, .int 0), (2, .ref (rm 0)), (1, .ref (rx 0)), (0, .ref b)]) hx hb dL_law_17 rfl hl (by decide) rfl (fun ls hl => ?_)
  rcases Nat.lt_or_ge L 8 with hL8 | hL8
  · refine lv_iload_n hx hb dL_law_18 rfl (lv_at hl 0 rfl) ?_
    refine lv_aload_n hx hb dL_law_19 rfl (lv_at hl 3 rfl) ?_
    refine va_slen hx hb hX hbl hbA hS dL_law_20 ?_
    refine lv_bipush (v := 8) hx hb dL_law_21 (by decide) ?_
    refine lv_isub hx hb dL_law_23 ?_
    refine lv_icmp_gt (tgt := 1539) hx hb dL_law_24 (by decide) (fun _ => ?_) (fun c => absurd (i32_lt8 L hL8) c)
    refine lv_iconst (v := 1) hx hb dL_law_1539 (by decide) ?_
    refine va_forget (fun q hq => hAs _ (hS.2.2 q hq)) ?_
    refine W.widen (k := 600000) (n := 7302250) (Nat.le_of_ble_eq_true rfl) (Nat.le_of_ble_eq_true rfl) ?_
    exact lw_ret hx hb hr hlocks dL_law_1540
  · obtain rfl : L = 8 := Nat.le_antisymm hL hL8
    refine lv_iload_n hx hb dL_law_18 rfl (lv_at hl 0 rfl) ?_
    refine lv_aload_n hx hb dL_law_19 rfl (lv_at hl 3 rfl) ?_
    refine va_slen hx hb hX hbl hbA hS dL_law_20 ?_
    refine lv_topi (fun v9 e10 => ?_)
    obtain rfl : v9 = 8 := e10.trans (by decide)
    refine lv_bipush (v := 8) hx hb dL_law_21 (by decide) ?_
    refine lv_isub hx hb dL_law_23 ?_
    refine lv_topi (fun v11 e12 => ?_)
    obtain rfl : v11 = 0 := e12.trans (by decide)
    refine lv_icmp_gt (tgt := 1539) hx hb dL_law_24 (by decide) (fun c => False.elim (by revert c; decide)) (fun _ => ?_)
    refine lv_aload_n hx hb dL_law_27 rfl (lv_at hl 3 rfl) ?_
    refine lv_iload_n hx hb dL_law_28 rfl (lv_at hl 0 rfl) ?_
    refine va_sld hx hb hX hbl hbA hS (vp_in_iff.mpr (by decide)) dL_law_29 ?_
    refine lv_bipush (v := 63) hx hb dL_law_30 (by decide) ?_
    refine lv_iand hx hb dL_law_32 ?_
    refine lv_topi (fun v13 e14 => ?_)
    by_cases c15 : v13 = 0
    · subst c15
      refine lv_tableIn (tgt := 188) hx hb dL_law_33 (by decide) (by decide) rfl (by decide) ?_
      exact law_0 hx hb hr hml hown hlocks hX hbl hbA hAs hts hN hO hK hA (hP.sub (ws' := [((rx 0), .inr (11, fX rx 0 0)), ((rx 1), .inr (8, fTd rx)), ((rx 20), .inl (c 0, 500, .inl (fun _ => 0))), ((rx 21), .inl (c 0, 500, .inl (fun _ => 0))), ((rm 0), .inr (12, fM rm 0 0)), ((rm 3), .inl (c 0, 500, .inl (fun _ => 0))), ((rm 4), .inl (c 0, 500, .inl (fun _ => 0)))]) [0, 1, 2, 3, 16, 17, 18] rfl) (hD.sub (ws' := [((rx 0), .inr (11, fX rx 0 0)), ((rx 1), .inr (8, fTd rx)), ((rx 20), .inl (c 0, 500, .inl (fun _ => 0))), ((rx 21), .inl (c 0, 500, .inl (fun _ => 0))), ((rm 0), .inr (12, fM rm 0 0)), ((rm 3), .inl (c 0, 500, .inl (fun _ => 0))), ((rm 4), .inl (c 0, 500, .inl (fun _ => 0)))]) [0, 1, 2, 3, 16, 17, 18] (by decide) rfl) hS (lv_sub hl [0, 1, 2, 3] rfl)
    · by_cases c16 : v13 = 1
      · subst c16
        refine lv_tableIn (tgt := 221) hx hb dL_law_33 (by decide) (by decide) rfl (by decide) ?_
        exact law_1 hx hb hr hml hown hlocks hX hbl hbA hAs hts hN hO hK hA (hP.sub (ws' := [((rx 0), .inr (11, fX rx 0 0)), ((rx 1), .inr (8, fTd rx)), ((rm 0), .inr (12, fM rm 0 0))]) [0, 1, 16] rfl) (hD.sub (ws' := [((rx 0), .inr (11, fX rx 0 0)), ((rx 1), .inr (8, fTd rx)), ((rm 0), .inr (12, fM rm 0 0))]) [0, 1, 16] (by decide) rfl) hS (lv_sub hl [0, 1, 2, 3] rfl)
      · by_cases c17 : v13 = 2
        · subst c17
          refine lv_tableIn (tgt := 244) hx hb dL_law_33 (by decide) (by decide) rfl (by decide) ?_
          exact law_2 hx hb hr hml hown hlocks hX hbl hbA hAs hts hN hO hK hA (hP.sub (ws' := [((rx 0), .inr (11, fX rx 0 0)), ((rx 2), .inr (10, fWv rx)), ((rx 22), .inl (c 0, 2400, .inl (fun _ => 0))), ((rx 23), .inl (c 0, 1500, .inl (fun _ => 0))), ((rx 24), .inl (c 0, 1500, .inl (fun _ => 0))), ((rx 25), .inl (c 0, 1500, .inl (fun _ => 0))), ((rm 0), .inr (12, fM rm 0 0)), ((rm 6), .inl (c 0, 1500, .inl (fun _ => 0))), ((rm 7), .inl (c 0, 1500, .inl (fun _ => 0))), ((rm 8), .inl (c 0, 1500, .inl (fun _ => 0)))]) [0, 4, 5, 6, 7, 8, 16, 19, 20, 21] rfl) (hD.sub (ws' := [((rx 0), .inr (11, fX rx 0 0)), ((rx 2), .inr (10, fWv rx)), ((rx 22), .inl (c 0, 2400, .inl (fun _ => 0))), ((rx 23), .inl (c 0, 1500, .inl (fun _ => 0))), ((rx 24), .inl (c 0, 1500, .inl (fun _ => 0))), ((rx 25), .inl (c 0, 1500, .inl (fun _ => 0))), ((rm 0), .inr (12, fM rm 0 0)), ((rm 6), .inl (c 0, 1500, .inl (fun _ => 0))), ((rm 7), .inl (c 0, 1500, .inl (fun _ => 0))), ((rm 8), .inl (c 0, 1500, .inl (fun _ => 0)))]) [0, 4, 5, 6, 7, 8, 16, 19, 20, 21] (by decide) rfl) hS (lv_sub hl [0, 1, 2, 3] rfl)
        · by_cases c18 : v13 = 3
          · subst c18
            refine lv_tableIn (tgt := 277) hx hb dL_law_33 (by decide) (by decide) rfl (by decide) ?_
            exact law_3 hx hb hr hml hown hlocks hX hbl hbA hAs hts hN hO hK hA (hP.sub (ws' := [((rx 0), .inr (11, fX rx 0 0)), ((rx 2), .inr (10, fWv rx)), ((rx 22), .inl (c 0, 2400, .inl (fun _ => 0))), ((rm 0), .inr (12, fM rm 0 0)), ((rm 9), .inl (c 0, 3, .inl (setF)))]) [0, 4, 5, 16, 22] rfl) (hD.sub (ws' := [((rx 0), .inr (11, fX rx 0 0)), ((rx 2), .inr (10, fWv rx)), ((rx 22), .inl (c 0, 2400, .inl (fun _ => 0))), ((rm 0), .inr (12, fM rm 0 0)), ((rm 9), .inl (c 0, 3, .inl (setF)))]) [0, 4, 5, 16, 22] (by decide) rfl) hS (lv_sub hl [0, 1, 2, 3] rfl)
          · by_cases c19 : v13 = 4
            · subst c19
              refine lv_tableIn (tgt := 310) hx hb dL_law_33 (by decide) (by decide) rfl (by decide) ?_
              exact law_4 hx hb hr hml hown hlocks hX hbl hbA hAs hts hN hO hK hA (hP.sub (ws' := [((rx 0), .inr (11, fX rx 0 0)), ((rx 2), .inr (10, fWv rx)), ((rm 0), .inr (12, fM rm 0 0)), ((rm 9), .inl (c 0, 3, .inl (setF)))]) [0, 4, 16, 22] rfl) (hD.sub (ws' := [((rx 0), .inr (11, fX rx 0 0)), ((rx 2), .inr (10, fWv rx)), ((rm 0), .inr (12, fM rm 0 0)), ((rm 9), .inl (c 0, 3, .inl (setF)))]) [0, 4, 16, 22] (by decide) rfl) hS (lv_sub hl [0, 1, 2, 3] rfl)
            · by_cases c20 : v13 = 5
              · subst c20
                refine lv_tableIn (tgt := 343) hx hb dL_law_33 (by decide) (by decide) rfl (by decide) ?_
                exact law_5 hx hb hr hml hown hlocks hX hbl hbA hAs hts hN hO hK hA (hP.sub (ws' := [((rx 0), .inr (11, fX rx 0 0)), ((rx 3), .inl (c 4, 11, .inr (.inr (.inr (.inr (fun _ => none)))))), ((rm 0), .inr (12, fM rm 0 0)), ((rm 12), .inl (c 0, 11, .inl (fun _ => 0))), ((rm 13), .inl (c 0, 11, .inl (fun _ => 0))), ((rm 14), .inl (c 0, 11, .inl (fun _ => 0))), ((rm 15), .inl (c 0, 11, .inl (fun _ => 0))), ((rm 16), .inl (c 0, 11, .inl (fun _ => 0))), ((rm 17), .inl (c 0, 11, .inl (fun _ => 0))), ((rm 22), .inl (c 0, 11, .inl (fun _ => 0))), ((rm 26), .inl (c 0, 11, .inl (fun _ => 0)))]) [0, 9, 16, 23, 24, 25, 26, 27, 28, 29, 30] rfl) (hD.sub (ws' := [((rx 0), .inr (11, fX rx 0 0)), ((rx 3), .inl (c 4, 11, .inr (.inr (.inr (.inr (fun _ => none)))))), ((rm 0), .inr (12, fM rm 0 0)), ((rm 12), .inl (c 0, 11, .inl (fun _ => 0))), ((rm 13), .inl (c 0, 11, .inl (fun _ => 0))), ((rm 14), .inl (c 0, 11, .inl (fun _ => 0))), ((rm 15), .inl (c 0, 11, .inl (fun _ => 0))), ((rm 16), .inl (c 0, 11, .inl (fun _ => 0))), ((rm 17), .inl (c 0, 11, .inl (fun _ => 0))), ((rm 22), .inl (c 0, 11, .inl (fun _ => 0))), ((rm 26), .inl (c 0, 11, .inl (fun _ => 0)))]) [0, 9, 16, 23, 24, 25, 26, 27, 28, 29, 30] (by decide) rfl) hS (lv_sub hl [0, 1, 2, 3] rfl)
              · by_cases c21 : v13 = 6
                · subst c21
                  refine lv_tableIn (tgt := 430) hx hb dL_law_33 (by decide) (by decide) rfl (by decide) ?_
                  exact law_6 hx hb hr hml hown hlocks hX hbl hbA hAs hts hN hO hK hA (hP.sub (ws' := [((rx 0), .inr (11, fX rx 0 0)), ((rx 3), .inl (c 4, 11, .inr (.inr (.inr (.inr (fun _ => none)))))), ((rm 0), .inr (12, fM rm 0 0))]) [0, 9, 16] rfl) (hD.sub (ws' := [((rx 0), .inr (11, fX rx 0 0)), ((rx 3), .inl (c 4, 11, .inr (.inr (.inr (.inr (fun _ => none)))))), ((rm 0), .inr (12, fM rm 0 0))]) [0, 9, 16] (by decide) rfl) hS (lv_sub hl [0, 1, 2, 3] rfl)
                · by_cases c22 : v13 = 7
                  · subst c22
                    refine lv_tableIn (tgt := 473) hx hb dL_law_33 (by decide) (by decide) rfl (by decide) ?_
                    exact law_7 hx hb hr hml hown hlocks hX hbl hbA hAs hts hN hO hK hA (hP.sub (ws' := [((rx 0), .inr (11, fX rx 0 0)), ((rx 3), .inl (c 4, 11, .inr (.inr (.inr (.inr (fun _ => none)))))), ((rm 0), .inr (12, fM rm 0 0))]) [0, 9, 16] rfl) (hD.sub (ws' := [((rx 0), .inr (11, fX rx 0 0)), ((rx 3), .inl (c 4, 11, .inr (.inr (.inr (.inr (fun _ => none)))))), ((rm 0), .inr (12, fM rm 0 0))]) [0, 9, 16] (by decide) rfl) hS (lv_sub hl [0, 1, 2, 3] rfl)
                  · by_cases c23 : v13 = 8
                    · subst c23
                      refine lv_tableIn (tgt := 516) hx hb dL_law_33 (by decide) (by decide) rfl (by decide) ?_
                      exact law_8 hx hb hr hml hown hlocks hX hbl hbA hAs hts hN hO hK hA (hP.sub (ws' := [((rx 0), .inr (11, fX rx 0 0)), ((rx 3), .inl (c 4, 11, .inr (.inr (.inr (.inr (fun _ => none)))))), ((rm 0), .inr (12, fM rm 0 0))]) [0, 9, 16] rfl) (hD.sub (ws' := [((rx 0), .inr (11, fX rx 0 0)), ((rx 3), .inl (c 4, 11, .inr (.inr (.inr (.inr (fun _ => none)))))), ((rm 0), .inr (12, fM rm 0 0))]) [0, 9, 16] (by decide) rfl) hS (lv_sub hl [0, 1, 2, 3] rfl)
                    · by_cases c24 : v13 = 9
                      · subst c24
                        refine lv_tableIn (tgt := 539) hx hb dL_law_33 (by decide) (by decide) rfl (by decide) ?_
                        exact law_9 hx hb hr hml hown hlocks hX hbl hbA hAs hts hN hO hK hA (hP.sub (ws' := [((rx 0), .inr (11, fX rx 0 0)), ((rx 3), .inl (c 4, 11, .inr (.inr (.inr (.inr (fun _ => none)))))), ((rm 0), .inr (12, fM rm 0 0))]) [0, 9, 16] rfl) (hD.sub (ws' := [((rx 0), .inr (11, fX rx 0 0)), ((rx 3), .inl (c 4, 11, .inr (.inr (.inr (.inr (fun _ => none)))))), ((rm 0), .inr (12, fM rm 0 0))]) [0, 9, 16] (by decide) rfl) hS (lv_sub hl [0, 1, 2, 3] rfl)
                      · by_cases c25 : v13 = 10
                        · subst c25
                          refine lv_tableIn (tgt := 588) hx hb dL_law_33 (by decide) (by decide) rfl (by decide) ?_
                          exact law_10 hx hb hr hml hown hlocks hX hbl hbA hAs hts hN hO hK hA (hP.sub (ws' := [((rx 0), .inr (11, fX rx 0 0)), ((rx 3), .inl (c 4, 11, .inr (.inr (.inr (.inr (fun _ => none)))))), ((rm 0), .inr (12, fM rm 0 0))]) [0, 9, 16] rfl) (hD.sub (ws' := [((rx 0), .inr (11, fX rx 0 0)), ((rx 3), .inl (c 4, 11, .inr (.inr (.inr (.inr (fun _ => none)))))), ((rm 0), .inr (12, fM rm 0 0))]) [0, 9, 16] (by decide) rfl) hS (lv_sub hl [0, 1, 2, 3] rfl)
                        · by_cases c26 : v13 = 11
                          · subst c26
                            refine lv_tableIn (tgt := 621) hx hb dL_law_33 (by decide) (by decide) rfl (by decide) ?_
                            exact law_11 hx hb hr hml hown hlocks hX hbl hbA hAs hts hN hO hK hA (hP.sub (ws' := [((rx 0), .inr (11, fX rx 0 0)), ((rx 3), .inl (c 4, 11, .inr (.inr (.inr (.inr (fun _ => none)))))), ((rm 0), .inr (12, fM rm 0 0))]) [0, 9, 16] rfl) (hD.sub (ws' := [((rx 0), .inr (11, fX rx 0 0)), ((rx 3), .inl (c 4, 11, .inr (.inr (.inr (.inr (fun _ => none)))))), ((rm 0), .inr (12, fM rm 0 0))]) [0, 9, 16] (by decide) rfl) hS (lv_sub hl [0, 1, 2, 3] rfl)
                          · by_cases c27 : v13 = 12
                            · subst c27
                              refine lv_tableIn (tgt := 644) hx hb dL_law_33 (by decide) (by decide) rfl (by decide) ?_
                              exact law_12 hx hb hr hml hown hlocks hX hbl hbA hAs hts hN hO hK hA (hP.sub (ws' := [((rx 0), .inr (11, fX rx 0 0)), ((rx 3), .inl (c 4, 11, .inr (.inr (.inr (.inr (fun _ => none)))))), ((rm 0), .inr (12, fM rm 0 0)), ((rm 9), .inl (c 0, 3, .inl (setF)))]) [0, 9, 16, 22] rfl) (hD.sub (ws' := [((rx 0), .inr (11, fX rx 0 0)), ((rx 3), .inl (c 4, 11, .inr (.inr (.inr (.inr (fun _ => none)))))), ((rm 0), .inr (12, fM rm 0 0)), ((rm 9), .inl (c 0, 3, .inl (setF)))]) [0, 9, 16, 22] (by decide) rfl) hS (lv_sub hl [0, 1, 2, 3] rfl)
                            · by_cases c28 : v13 = 13
                              · subst c28
                                refine lv_tableIn (tgt := 667) hx hb dL_law_33 (by decide) (by decide) rfl (by decide) ?_
                                exact law_13 hx hb hr hml hown hlocks hX hbl hbA hAs hts hN hO hK hA (hP.sub (ws' := [((rx 0), .inr (11, fX rx 0 0)), ((rx 3), .inl (c 4, 11, .inr (.inr (.inr (.inr (fun _ => none)))))), ((rm 0), .inr (12, fM rm 0 0))]) [0, 9, 16] rfl) (hD.sub (ws' := [((rx 0), .inr (11, fX rx 0 0)), ((rx 3), .inl (c 4, 11, .inr (.inr (.inr (.inr (fun _ => none)))))), ((rm 0), .inr (12, fM rm 0 0))]) [0, 9, 16] (by decide) rfl) hS (lv_sub hl [0, 1, 2, 3] rfl)
                              · by_cases c29 : v13 = 14
                                · subst c29
                                  refine lv_tableIn (tgt := 700) hx hb dL_law_33 (by decide) (by decide) rfl (by decide) ?_
                                  exact law_14 hx hb hr hml hown hlocks hX hbl hbA hAs hts hN hO hK hA (hP.sub (ws' := [((rx 0), .inr (11, fX rx 0 0)), ((rx 3), .inl (c 4, 11, .inr (.inr (.inr (.inr (fun _ => none)))))), ((rm 0), .inr (12, fM rm 0 0))]) [0, 9, 16] rfl) (hD.sub (ws' := [((rx 0), .inr (11, fX rx 0 0)), ((rx 3), .inl (c 4, 11, .inr (.inr (.inr (.inr (fun _ => none)))))), ((rm 0), .inr (12, fM rm 0 0))]) [0, 9, 16] (by decide) rfl) hS (lv_sub hl [0, 1, 2, 3] rfl)
                                · by_cases c30 : v13 = 15
                                  · subst c30
                                    refine lv_tableIn (tgt := 743) hx hb dL_law_33 (by decide) (by decide) rfl (by decide) ?_
                                    exact law_15 hx hb hr hml hown hlocks hX hbl hbA hAs hts hN hO hK hA (hP.sub (ws' := [((rx 0), .inr (11, fX rx 0 0)), ((rx 4), .inr (5, fRd rx 0)), ((rx 27), .inl (c 0, 300, .inl (fun _ => 0))), ((rm 0), .inr (12, fM rm 0 0)), ((rm 45), .inl (c 1, 300, .inl (fun _ => 0)))]) [0, 10, 12, 16, 31] rfl) (hD.sub (ws' := [((rx 0), .inr (11, fX rx 0 0)), ((rx 4), .inr (5, fRd rx 0)), ((rx 27), .inl (c 0, 300, .inl (fun _ => 0))), ((rm 0), .inr (12, fM rm 0 0)), ((rm 45), .inl (c 1, 300, .inl (fun _ => 0)))]) [0, 10, 12, 16, 31] (by decide) rfl) hS (lv_sub hl [0, 1, 2, 3] rfl)
                                  · by_cases c31 : v13 = 16
                                    · subst c31
                                      refine lv_tableIn (tgt := 806) hx hb dL_law_33 (by decide) (by decide) rfl (by decide) ?_
                                      exact law_16 hx hb hr hml hown hlocks hX hbl hbA hAs hts hN hO hK hA (hP.sub (ws' := [((rx 0), .inr (11, fX rx 0 0)), ((rx 4), .inr (5, fRd rx 0)), ((rm 0), .inr (12, fM rm 0 0))]) [0, 10, 16] rfl) (hD.sub (ws' := [((rx 0), .inr (11, fX rx 0 0)), ((rx 4), .inr (5, fRd rx 0)), ((rm 0), .inr (12, fM rm 0 0))]) [0, 10, 16] (by decide) rfl) hS (lv_sub hl [0, 1, 2, 3] rfl)
                                    · by_cases c32 : v13 = 17
                                      · subst c32
                                        refine lv_tableIn (tgt := 829) hx hb dL_law_33 (by decide) (by decide) rfl (by decide) ?_
                                        exact law_17 hx hb hr hml hown hlocks hX hbl hbA hAs hts hN hO hK hA (hP.sub (ws' := [((rx 0), .inr (11, fX rx 0 0)), ((rx 4), .inr (5, fRd rx 0)), ((rx 26), .inl (c 0, 320, .inl (fun _ => 0))), ((rx 5), .inl (c 5, 10, .inr (.inr (.inr (.inr (fun _ => none)))))), ((rm 0), .inr (12, fM rm 0 0)), ((rm 59), .inl (c 0, 10, .inl (fun _ => 0))), ((rm 60), .inl (c 0, 10, .inl (fun _ => 0)))]) [0, 10, 11, 13, 16, 32, 33] rfl) (hD.sub (ws' := [((rx 0), .inr (11, fX rx 0 0)), ((rx 4), .inr (5, fRd rx 0)), ((rx 26), .inl (c 0, 320, .inl (fun _ => 0))), ((rx 5), .inl (c 5, 10, .inr (.inr (.inr (.inr (fun _ => none)))))), ((rm 0), .inr (12, fM rm 0 0)), ((rm 59), .inl (c 0, 10, .inl (fun _ => 0))), ((rm 60), .inl (c 0, 10, .inl (fun _ => 0)))]) [0, 10, 11, 13, 16, 32, 33] (by decide) rfl) hS (lv_sub hl [0, 1, 2, 3] rfl)
                                      · by_cases c33 : v13 = 18
                                        · subst c33
                                          refine lv_tableIn (tgt := 842) hx hb dL_law_33 (by decide) (by decide) rfl (by decide) ?_
                                          exact law_18 hx hb hr hml hown hlocks hX hbl hbA hAs hts hN hO hK hA (hP.sub (ws' := [((rx 0), .inr (11, fX rx 0 0)), ((rx 3), .inl (c 4, 11, .inr (.inr (.inr (.inr (fun _ => none)))))), ((rx 6), .inr (7, fSm rx)), ((rm 0), .inr (12, fM rm 0 0))]) [0, 9, 14, 16] rfl) (hD.sub (ws' := [((rx 0), .inr (11, fX rx 0 0)), ((rx 3), .inl (c 4, 11, .inr (.inr (.inr (.inr (fun _ => none)))))), ((rx 6), .inr (7, fSm rx)), ((rm 0), .inr (12, fM rm 0 0))]) [0, 9, 14, 16] (by decide) rfl) hS (lv_sub hl [0, 1, 2, 3] rfl)
                                        · by_cases c34 : v13 = 19
                                          · subst c34
                                            refine lv_tableIn (tgt := 885) hx hb dL_law_33 (by decide) (by decide) rfl (by decide) ?_
                                            exact law_19 hx hb hr hml hown hlocks hX hbl hbA hAs hts hN hO hK hA (hP.sub (ws' := [((rx 0), .inr (11, fX rx 0 0)), ((rx 3), .inl (c 4, 11, .inr (.inr (.inr (.inr (fun _ => none)))))), ((rm 0), .inr (12, fM rm 0 0))]) [0, 9, 16] rfl) (hD.sub (ws' := [((rx 0), .inr (11, fX rx 0 0)), ((rx 3), .inl (c 4, 11, .inr (.inr (.inr (.inr (fun _ => none)))))), ((rm 0), .inr (12, fM rm 0 0))]) [0, 9, 16] (by decide) rfl) hS (lv_sub hl [0, 1, 2, 3] rfl)
                                          · by_cases c35 : v13 = 20
                                            · subst c35
                                              refine lv_tableIn (tgt := 928) hx hb dL_law_33 (by decide) (by decide) rfl (by decide) ?_
                                              exact law_20 hx hb hr hml hown hlocks hX hbl hbA hAs hts hN hO hK hA (hP.sub (ws' := [((rx 0), .inr (11, fX rx 0 0)), ((rx 3), .inl (c 4, 11, .inr (.inr (.inr (.inr (fun _ => none)))))), ((rm 0), .inr (12, fM rm 0 0))]) [0, 9, 16] rfl) (hD.sub (ws' := [((rx 0), .inr (11, fX rx 0 0)), ((rx 3), .inl (c 4, 11, .inr (.inr (.inr (.inr (fun _ => none)))))), ((rm 0), .inr (12, fM rm 0 0))]) [0, 9, 16] (by decide) rfl) hS (lv_sub hl [0, 1, 2, 3] rfl)
                                            · by_cases c36 : v13 = 21
                                              · subst c36
                                                refine lv_tableIn (tgt := 971) hx hb dL_law_33 (by decide) (by decide) rfl (by decide) ?_
                                                exact law_21 hx hb hr hml hown hlocks hX hbl hbA hAs hts hN hO hK hA (hP.sub (ws' := [((rx 0), .inr (11, fX rx 0 0)), ((rx 3), .inl (c 4, 11, .inr (.inr (.inr (.inr (fun _ => none)))))), ((rm 0), .inr (12, fM rm 0 0))]) [0, 9, 16] rfl) (hD.sub (ws' := [((rx 0), .inr (11, fX rx 0 0)), ((rx 3), .inl (c 4, 11, .inr (.inr (.inr (.inr (fun _ => none)))))), ((rm 0), .inr (12, fM rm 0 0))]) [0, 9, 16] (by decide) rfl) hS (lv_sub hl [0, 1, 2, 3] rfl)
                                              · by_cases c37 : v13 = 22
                                                · subst c37
                                                  refine lv_tableIn (tgt := 1030) hx hb dL_law_33 (by decide) (by decide) rfl (by decide) ?_
                                                  exact law_22 hx hb hr hml hown hlocks hX hbl hbA hAs hts hN hO hK hA (hP.sub (ws' := [((rx 0), .inr (11, fX rx 0 0)), ((rx 3), .inl (c 4, 11, .inr (.inr (.inr (.inr (fun _ => none)))))), ((rm 0), .inr (12, fM rm 0 0))]) [0, 9, 16] rfl) (hD.sub (ws' := [((rx 0), .inr (11, fX rx 0 0)), ((rx 3), .inl (c 4, 11, .inr (.inr (.inr (.inr (fun _ => none)))))), ((rm 0), .inr (12, fM rm 0 0))]) [0, 9, 16] (by decide) rfl) hS (lv_sub hl [0, 1, 2, 3] rfl)
                                                · by_cases c38 : v13 = 23
                                                  · subst c38
                                                    refine lv_tableIn (tgt := 1063) hx hb dL_law_33 (by decide) (by decide) rfl (by decide) ?_
                                                    exact law_23 hx hb hr hml hown hlocks hX hbl hbA hAs hts hN hO hK hA (hP.sub (ws' := [((rx 0), .inr (11, fX rx 0 0)), ((rm 0), .inr (12, fM rm 0 0))]) [0, 16] rfl) (hD.sub (ws' := [((rx 0), .inr (11, fX rx 0 0)), ((rm 0), .inr (12, fM rm 0 0))]) [0, 16] (by decide) rfl) hS (lv_sub hl [0, 1, 2, 3] rfl)
                                                  · by_cases c39 : v13 = 24
                                                    · subst c39
                                                      refine lv_tableIn (tgt := 1126) hx hb dL_law_33 (by decide) (by decide) rfl (by decide) ?_
                                                      exact law_24 hx hb hr hml hown hlocks hX hbl hbA hAs hts hN hO hK hA (hP.sub (ws' := [((rx 0), .inr (11, fX rx 0 0)), ((rm 0), .inr (12, fM rm 0 0))]) [0, 16] rfl) (hD.sub (ws' := [((rx 0), .inr (11, fX rx 0 0)), ((rm 0), .inr (12, fM rm 0 0))]) [0, 16] (by decide) rfl) hS (lv_sub hl [0, 1, 2, 3] rfl)
                                                    · by_cases c40 : v13 = 25
                                                      · subst c40
                                                        refine lv_tableIn (tgt := 1149) hx hb dL_law_33 (by decide) (by decide) rfl (by decide) ?_
                                                        exact law_25 hx hb hr hml hown hlocks hX hbl hbA hAs hts hN hO hK hA (hP.sub (ws' := [((rx 0), .inr (11, fX rx 0 0)), ((rx 3), .inl (c 4, 11, .inr (.inr (.inr (.inr (fun _ => none)))))), ((rm 0), .inr (12, fM rm 0 0))]) [0, 9, 16] rfl) (hD.sub (ws' := [((rx 0), .inr (11, fX rx 0 0)), ((rx 3), .inl (c 4, 11, .inr (.inr (.inr (.inr (fun _ => none)))))), ((rm 0), .inr (12, fM rm 0 0))]) [0, 9, 16] (by decide) rfl) hS (lv_sub hl [0, 1, 2, 3] rfl)
                                                      · by_cases c41 : v13 = 26
                                                        · subst c41
                                                          refine lv_tableIn (tgt := 1236) hx hb dL_law_33 (by decide) (by decide) rfl (by decide) ?_
                                                          exact law_26 hx hb hr hml hown hlocks hX hbl hbA hAs hts hN hO hK hA (hP.sub (ws' := [((rx 0), .inr (11, fX rx 0 0)), ((rx 3), .inl (c 4, 11, .inr (.inr (.inr (.inr (fun _ => none)))))), ((rm 0), .inr (12, fM rm 0 0))]) [0, 9, 16] rfl) (hD.sub (ws' := [((rx 0), .inr (11, fX rx 0 0)), ((rx 3), .inl (c 4, 11, .inr (.inr (.inr (.inr (fun _ => none)))))), ((rm 0), .inr (12, fM rm 0 0))]) [0, 9, 16] (by decide) rfl) hS (lv_sub hl [0, 1, 2, 3] rfl)
                                                        · by_cases c42 : v13 = 27
                                                          · subst c42
                                                            refine lv_tableIn (tgt := 1289) hx hb dL_law_33 (by decide) (by decide) rfl (by decide) ?_
                                                            exact law_27 hx hb hr hml hown hlocks hX hbl hbA hAs hts hN hO hK hA (hP.sub (ws' := [((rx 0), .inr (11, fX rx 0 0)), ((rx 3), .inl (c 4, 11, .inr (.inr (.inr (.inr (fun _ => none)))))), ((rm 0), .inr (12, fM rm 0 0))]) [0, 9, 16] rfl) (hD.sub (ws' := [((rx 0), .inr (11, fX rx 0 0)), ((rx 3), .inl (c 4, 11, .inr (.inr (.inr (.inr (fun _ => none)))))), ((rm 0), .inr (12, fM rm 0 0))]) [0, 9, 16] (by decide) rfl) hS (lv_sub hl [0, 1, 2, 3] rfl)
                                                          · by_cases c43 : v13 = 28
                                                            · subst c43
                                                              refine lv_tableIn (tgt := 1332) hx hb dL_law_33 (by decide) (by decide) rfl (by decide) ?_
                                                              exact law_28 hx hb hr hml hown hlocks hX hbl hbA hAs hts hN hO hK hA (hP.sub (ws' := [((rx 0), .inr (11, fX rx 0 0)), ((rx 3), .inl (c 4, 11, .inr (.inr (.inr (.inr (fun _ => none)))))), ((rm 0), .inr (12, fM rm 0 0))]) [0, 9, 16] rfl) (hD.sub (ws' := [((rx 0), .inr (11, fX rx 0 0)), ((rx 3), .inl (c 4, 11, .inr (.inr (.inr (.inr (fun _ => none)))))), ((rm 0), .inr (12, fM rm 0 0))]) [0, 9, 16] (by decide) rfl) hS (lv_sub hl [0, 1, 2, 3] rfl)
                                                            · by_cases c44 : v13 = 29
                                                              · subst c44
                                                                refine lv_tableIn (tgt := 1355) hx hb dL_law_33 (by decide) (by decide) rfl (by decide) ?_
                                                                exact law_29 hx hb hr hml hown hlocks hX hbl hbA hAs hts hN hO hK hA (hP.sub (ws' := [((rx 0), .inr (11, fX rx 0 0)), ((rm 0), .inr (12, fM rm 0 0))]) [0, 16] rfl) (hD.sub (ws' := [((rx 0), .inr (11, fX rx 0 0)), ((rm 0), .inr (12, fM rm 0 0))]) [0, 16] (by decide) rfl) hS (lv_sub hl [0, 1, 2, 3] rfl)
                                                              · by_cases c45 : v13 = 30
                                                                · subst c45
                                                                  refine lv_tableIn (tgt := 1388) hx hb dL_law_33 (by decide) (by decide) rfl (by decide) ?_
                                                                  exact law_30 hx hb hr hml hown hlocks hX hbl hbA hAs hts hN hO hK hA (hP.sub (ws' := [((rx 0), .inr (11, fX rx 0 0)), ((rm 0), .inr (12, fM rm 0 0))]) [0, 16] rfl) (hD.sub (ws' := [((rx 0), .inr (11, fX rx 0 0)), ((rm 0), .inr (12, fM rm 0 0))]) [0, 16] (by decide) rfl) hS (lv_sub hl [0, 1, 2, 3] rfl)
                                                                · by_cases c46 : v13 = 31
                                                                  · subst c46
                                                                    refine lv_tableIn (tgt := 1401) hx hb dL_law_33 (by decide) (by decide) rfl (by decide) ?_
                                                                    exact law_31 hx hb hr hml hown hlocks hX hbl hbA hAs hts hN hO hK hA (hP.sub (ws' := [((rx 0), .inr (11, fX rx 0 0)), ((rx 3), .inl (c 4, 11, .inr (.inr (.inr (.inr (fun _ => none)))))), ((rx 7), .inl (c 6, 10, .inr (.inr (.inr (.inr (fun _ => none)))))), ((rm 0), .inr (12, fM rm 0 0))]) [0, 9, 15, 16] rfl) (hD.sub (ws' := [((rx 0), .inr (11, fX rx 0 0)), ((rx 3), .inl (c 4, 11, .inr (.inr (.inr (.inr (fun _ => none)))))), ((rx 7), .inl (c 6, 10, .inr (.inr (.inr (.inr (fun _ => none)))))), ((rm 0), .inr (12, fM rm 0 0))]) [0, 9, 15, 16] (by decide) rfl) hS (lv_sub hl [0, 1, 2, 3] rfl)
                                                                  · by_cases c47 : v13 = 32
                                                                    · subst c47
                                                                      refine lv_tableIn (tgt := 1454) hx hb dL_law_33 (by decide) (by decide) rfl (by decide) ?_
                                                                      exact law_32 hx hb hr hml hown hlocks hX hbl hbA hAs hts hN hO hK hA (hP.sub (ws' := [((rx 0), .inr (11, fX rx 0 0)), ((rx 7), .inl (c 6, 10, .inr (.inr (.inr (.inr (fun _ => none)))))), ((rm 0), .inr (12, fM rm 0 0))]) [0, 15, 16] rfl) (hD.sub (ws' := [((rx 0), .inr (11, fX rx 0 0)), ((rx 7), .inl (c 6, 10, .inr (.inr (.inr (.inr (fun _ => none)))))), ((rm 0), .inr (12, fM rm 0 0))]) [0, 15, 16] (by decide) rfl) hS (lv_sub hl [0, 1, 2, 3] rfl)
                                                                    · by_cases c48 : v13 = 33
                                                                      · subst c48
                                                                        refine lv_tableIn (tgt := 1487) hx hb dL_law_33 (by decide) (by decide) rfl (by decide) ?_
                                                                        exact law_33 hx hb hr hml hown hlocks hX hbl hbA hAs hts hN hO hK hA (hP.sub (ws' := [((rx 0), .inr (11, fX rx 0 0)), ((rx 7), .inl (c 6, 10, .inr (.inr (.inr (.inr (fun _ => none)))))), ((rm 0), .inr (12, fM rm 0 0))]) [0, 15, 16] rfl) (hD.sub (ws' := [((rx 0), .inr (11, fX rx 0 0)), ((rx 7), .inl (c 6, 10, .inr (.inr (.inr (.inr (fun _ => none)))))), ((rm 0), .inr (12, fM rm 0 0))]) [0, 15, 16] (by decide) rfl) hS (lv_sub hl [0, 1, 2, 3] rfl)
                                                                      · by_cases c49 : v13 = 34
                                                                        · subst c49
                                                                          refine lv_tableIn (tgt := 1510) hx hb dL_law_33 (by decide) (by decide) rfl (by decide) ?_
                                                                          exact law_34 hx hb hr hml hown hlocks hX hbl hbA hAs hts hN hO hK hA (hP.sub (ws' := [((rx 0), .inr (11, fX rx 0 0)), ((rx 1), .inr (8, fTd rx)), ((rx 2), .inr (10, fWv rx)), ((rx 4), .inr (5, fRd rx 0)), ((rx 6), .inr (7, fSm rx)), ((rx 7), .inl (c 6, 10, .inr (.inr (.inr (.inr (fun _ => none)))))), ((rm 0), .inr (12, fM rm 0 0)), ((rm 9), .inl (c 0, 3, .inl (setF)))]) [0, 1, 4, 10, 14, 15, 16, 22] rfl) (hD.sub (ws' := [((rx 0), .inr (11, fX rx 0 0)), ((rx 1), .inr (8, fTd rx)), ((rx 2), .inr (10, fWv rx)), ((rx 4), .inr (5, fRd rx 0)), ((rx 6), .inr (7, fSm rx)), ((rx 7), .inl (c 6, 10, .inr (.inr (.inr (.inr (fun _ => none)))))), ((rm 0), .inr (12, fM rm 0 0)), ((rm 9), .inl (c 0, 3, .inl (setF)))]) [0, 1, 4, 10, 14, 15, 16, 22] (by decide) rfl) hS (lv_sub hl [0, 1, 2, 3] rfl)
                                                                        · refine lv_tableOut (tgt := 1533) hx hb dL_law_33 (by simp only [← Int32.toInt_inj, Int32.reduceToInt] at c15 c16 c17 c18 c19 c20 c21 c22 c23 c24 c25 c26 c27 c28 c29 c30 c31 c32 c33 c34 c35 c36 c37 c38 c39 c40 c41 c42 c43 c44 c45 c46 c47 c48 c49; omega) (by decide) ?_
                                                                          exact law_fin hx hb hr hml hown hlocks hX hbl hbA hAs (Nat.le_of_ble_eq_true rfl) (Nat.le_of_ble_eq_true rfl) hS (lv_sub hl [0, 3] rfl)
