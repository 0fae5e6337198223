
def fX (r : Nat → Nat) (now ch : Int32) : List Value := [.ref (r 1), .ref (r 2), .ref (r 3), .ref (r 4), .ref (r 5), .ref (r 6), .ref (r 7), .ref (r 8), .ref (r 9), .null, .int 0, .int 0, .int 0, .int now, .int 8, .int ch]
def fTd (r : Nat → Nat) : List Value := [.ref (r 20), .ref (r 21), .int 0]
def fWv (r : Nat → Nat) : List Value := [.ref (r 22), .ref (r 23), .ref (r 24), .ref (r 25), .int 0, .int 100, .int 150]
def fRd (r : Nat → Nat) (len : Int32) : List Value := [.ref (r 26), .int len, .int 0, .int 0, .ref (r 27), .int 0, .int 0, .int 0, .int 0]
def fSm (r : Nat → Nat) : List Value := [.ref (r 28), .ref (r 29), .ref (r 30), .ref (r 31), .int 0]
def fM (r : Nat → Nat) (now tp : Int32) : List Value := [.int now, .int 0, .ref (r 3), .ref (r 4), .int 0, .ref (r 6), .ref (r 7), .ref (r 8), .ref (r 9), .ref (r 10), .int 0, .ref (r 12), .ref (r 13), .ref (r 14), .ref (r 15), .ref (r 16), .ref (r 17), .ref (r 18), .ref (r 19), .ref (r 20), .ref (r 21), .ref (r 22), .ref (r 23), .ref (r 24), .ref (r 25), .ref (r 26), .ref (r 27), .ref (r 28), .ref (r 29), .ref (r 30), .ref (r 31), .ref (r 32), .ref (r 33), .int 0, .long 0, .int 0, .int 0, .int 0, .ref (r 39), .ref (r 40), .ref (r 41), .int 0, .int 0, .int 0, .ref (r 45), .int tp, .int 0, .int 0, .int 0, .ref (r 50), .int 0, .int 0, .int 0, .ref (r 54), .ref (r 55), .ref (r 56), .int 0, .int 0, .ref (r 59), .ref (r 60), .ref (r 61), .ref (r 62), .int 0, .ref (r 64), .ref (r 65), .ref (r 66), .ref (r 67), .ref (r 68), .ref (r 69), .ref (r 70), .int 0, .ref (r 72), .ref (r 73), .ref (r 74), .ref (r 75), .ref (r 76), .ref (r 77), .ref (r 78), .ref (r 79), .ref (r 80), .ref (r 81), .ref (r 82), .int 0, .int 0, .ref (r 85), .ref (r 86), .int 0, .ref (r 88), .ref (r 89), .ref (r 90), .ref (r 91), .ref (r 92)]
def setF : Nat → Int32 := upd (upd (upd (fun _ => 0) (Int32.toNatClampNeg 0) 100) (Int32.toNatClampNeg 1) 150) (Int32.toNatClampNeg 2) 8

def f_so (w : Int32) : Int32 := if w = 0 then 100 else if w = 1 then 150 else 8
theorem setF_at {w : Int32} (h : 0 ≤ w ∧ w ≤ 2) : setF w.toNatClampNeg = f_so w := by
  obtain ⟨j, hj, rfl⟩ := vp_in_of (vin_le (n := 3) h (by decide)) (by decide)
  match j, hj with
  | 0, _ => decide
  | 1, _ => decide
  | 2, _ => decide
def f_takes (t v : Int32) : Int32 := if 0 ≤ t.toInt ∧ t.toInt ≤ 14399 ∧ -500 ≤ v.toInt ∧ v.toInt ≤ 900 then 1 else 0
def f_turn (t v : Int32) : Int32 := if 0 ≤ t.toInt ∧ t.toInt ≤ 14399 ∧ -500 ≤ v.toInt ∧ v.toInt ≤ 900 then 1 else -1
theorem takes_c {t v r : Int32} (h : r = f_takes t v) : ((0 ≤ t.toInt ∧ t.toInt ≤ 14399 ∧ -500 ≤ v.toInt ∧ v.toInt ≤ 900) ∧ r = 1) ∨ (¬ (0 ≤ t.toInt ∧ t.toInt ≤ 14399 ∧ -500 ≤ v.toInt ∧ v.toInt ≤ 900) ∧ r = 0) := by
  unfold f_takes at h
  by_cases q : 0 ≤ t.toInt ∧ t.toInt ≤ 14399 ∧ -500 ≤ v.toInt ∧ v.toInt ≤ 900
  · exact Or.inl ⟨q, by rw [h, if_pos q]⟩
  · exact Or.inr ⟨q, by rw [h, if_neg q]⟩
def f_sea (t : Int32) : Int32 := if 0 ≤ t.toInt ∧ t.toInt ≤ 14399 then 0 else -1000
def f_wave (h x : Int32) : Int32 := if 0 ≤ h.toInt ∧ h.toInt ≤ 240 ∧ 0 ≤ x.toInt ∧ x.toInt ≤ 500 then 1 else -1
def f_waved (h k : Int32) : Int32 := if 0 ≤ h.toInt ∧ h.toInt ≤ 2399 ∧ 0 ≤ k.toInt ∧ k.toInt ≤ 2399 then 100 else -1
def f_set (w v : Int32) : Int32 := if 0 ≤ w.toInt ∧ w.toInt ≤ 2 ∧ 0 ≤ v.toInt ∧ v.toInt ≤ 500 ∧ (¬ w.toInt = 2 ∨ (1 ≤ v.toInt ∧ v.toInt ≤ 24)) then f_so w else -1
def f_pool (a f w s sl ov d : Int32) : Int32 := if 1 ≤ a.toInt ∧ a.toInt ≤ 2000 ∧ -300 ≤ f.toInt ∧ f.toInt ≤ 800 ∧ f.toInt < w.toInt ∧ w.toInt ≤ 900 ∧ f.toInt ≤ s.toInt ∧ s.toInt ≤ w.toInt ∧ 0 ≤ sl.toInt ∧ sl.toInt ≤ 100 ∧ 0 ≤ ov.toInt ∧ ov.toInt ≤ 100 ∧ 0 ≤ d.toInt ∧ d.toInt ≤ w.toInt - f.toInt then 0 else -1
def f_pass (n : Int32) : Int32 := if 1 ≤ n.toInt ∧ n.toInt ≤ 288 then n else -1
def f_end (n : Int32) : Int32 := if n.toInt = 0 then 0 else -1
def f_count (w : Int32) : Int32 := if w = 8 then 100 else if w = 9 then 150 else if w = 10 then 8 else if 0 ≤ w.toInt ∧ w.toInt ≤ 7 then 0 else -1
set_option maxHeartbeats 4000000 in
set_option maxRecDepth 100000 in
/-- lo ≤ v ≤ hi -/
theorem c_X11_within (l : Launch) (D : va_G) (c : Nat → ClassId) (sz : Nat) (v : Int32) (lo : Int32) (hi : Int32) : Met l yX11_within (.code yX11_within cX11_within 3 (some .boolean) :: Wd) ({ frames := 0, cells := 0, slots := 0, locals := 0 }) (va_Pc [.int v, .int lo, .int hi] (WB D c [] sz)) (QI (S := Unit) D c (fun q _ => q = inB v lo hi) (fun _ => []) (va_A [] sz)) 0 0 (va_A [] sz) := by
  refine kz_met (Qc := QI (S := Unit) D c (fun q _ => q = inB v lo hi) (fun _ => [])) (by decide) (Nat.le_of_ble_eq_true rfl) ?_
  intro p e s m below meth cd A ls H locs hx hb hr hml hts hown hlocks hin hN hO hK hP hD hS hA hl
  have hl : lv_has ls 3 [(0, .int v), (1, .int lo), (2, .int hi)] := hl
  have hown : s.vm.findClass RX11 = some m.cls := hown
  refine lv_iload_n hx hb dX11_within_0 rfl (lv_at hl 0 rfl) ?_
  refine lv_iload_n hx hb dX11_within_1 rfl (lv_at hl 1 rfl) ?_
  refine lv_icmp_lt (tgt := 14) hx hb dX11_within_2 (by decide) (fun c1 => ?_) (fun c1 => ?_)
  · refine lv_iconst (v := 0) hx hb dX11_within_14 (by decide) ?_
    exact rt_i hx hb hr hlocks hK hP hD hS rfl dX11_within_15 () [] rfl rfl (by show (0 : Int32) = _; unfold inB; (try simp only [Int32.le_iff_toInt_le, Int32.reduceToInt]); (try simp only [Int32.le_iff_toInt_le, Int32.lt_iff_toInt_lt, ← Int32.toInt_inj, Int32.reduceToInt] at c1); first | (rw [if_pos (by omega)]; done) | (rw [if_neg (by omega)]; done) | (rw [if_pos (by omega)]; exact Int32.toInt_inj.mp (by (try simp only [Int32.reduceToInt]); omega)))
  · refine lv_iload_n hx hb dX11_within_5 rfl (lv_at hl 0 rfl) ?_
    refine lv_iload_n hx hb dX11_within_6 rfl (lv_at hl 2 rfl) ?_
    refine lv_icmp_gt (tgt := 14) hx hb dX11_within_7 (by decide) (fun c2 => ?_) (fun c2 => ?_)
    · refine lv_iconst (v := 0) hx hb dX11_within_14 (by decide) ?_
      exact rt_i hx hb hr hlocks hK hP hD hS rfl dX11_within_15 () [] rfl rfl (by show (0 : Int32) = _; unfold inB; (try simp only [Int32.le_iff_toInt_le, Int32.reduceToInt]); (try simp only [Int32.le_iff_toInt_le, Int32.lt_iff_toInt_lt, ← Int32.toInt_inj, Int32.reduceToInt] at c1); (try simp only [Int32.le_iff_toInt_le, Int32.lt_iff_toInt_lt, ← Int32.toInt_inj, Int32.reduceToInt] at c2); first | (rw [if_pos (by omega)]; done) | (rw [if_neg (by omega)]; done) | (rw [if_pos (by omega)]; exact Int32.toInt_inj.mp (by (try simp only [Int32.reduceToInt]); omega)))
    · refine lv_iconst (v := 1) hx hb dX11_within_10 (by decide) ?_
      refine lv_goto (tgt := 15) hx hb dX11_within_11 (by decide) ?_
      exact rt_i hx hb hr hlocks hK hP hD hS rfl dX11_within_15 () [] rfl rfl (by show (1 : Int32) = _; unfold inB; (try simp only [Int32.le_iff_toInt_le, Int32.reduceToInt]); (try simp only [Int32.le_iff_toInt_le, Int32.lt_iff_toInt_lt, ← Int32.toInt_inj, Int32.reduceToInt] at c1); (try simp only [Int32.le_iff_toInt_le, Int32.lt_iff_toInt_lt, ← Int32.toInt_inj, Int32.reduceToInt] at c2); first | (rw [if_pos (by omega)]; done) | (rw [if_neg (by omega)]; done) | (rw [if_pos (by omega)]; exact Int32.toInt_inj.mp (by (try simp only [Int32.reduceToInt]); omega)))
set_option maxHeartbeats 4000000 in
set_option maxRecDepth 100000 in
/-- lo ≤ v ≤ hi -/
theorem c_X12_in (l : Launch) (D : va_G) (c : Nat → ClassId) (sz : Nat) (v : Int32) (lo : Int32) (hi : Int32) : Met l yX12_in (.code yX12_in cX12_in 3 (some .boolean) :: Wd) ({ frames := 0, cells := 0, slots := 0, locals := 0 }) (va_Pc [.int v, .int lo, .int hi] (WB D c [] sz)) (QI (S := Unit) D c (fun q _ => q = inB v lo hi) (fun _ => []) (va_A [] sz)) 0 0 (va_A [] sz) := by
  refine kz_met (Qc := QI (S := Unit) D c (fun q _ => q = inB v lo hi) (fun _ => [])) (by decide) (Nat.le_of_ble_eq_true rfl) ?_
  intro p e s m below meth cd A ls H locs hx hb hr hml hts hown hlocks hin hN hO hK hP hD hS hA hl
  have hl : lv_has ls 3 [(0, .int v), (1, .int lo), (2, .int hi)] := hl
  have hown : s.vm.findClass RX12 = some m.cls := hown
  refine lv_iload_n hx hb dX12_in_0 rfl (lv_at hl 0 rfl) ?_
  refine lv_iload_n hx hb dX12_in_1 rfl (lv_at hl 1 rfl) ?_
  refine lv_icmp_lt (tgt := 14) hx hb dX12_in_2 (by decide) (fun c1 => ?_) (fun c1 => ?_)
  · refine lv_iconst (v := 0) hx hb dX12_in_14 (by decide) ?_
    exact rt_i hx hb hr hlocks hK hP hD hS rfl dX12_in_15 () [] rfl rfl (by show (0 : Int32) = _; unfold inB; (try simp only [Int32.le_iff_toInt_le, Int32.reduceToInt]); (try simp only [Int32.le_iff_toInt_le, Int32.lt_iff_toInt_lt, ← Int32.toInt_inj, Int32.reduceToInt] at c1); first | (rw [if_pos (by omega)]; done) | (rw [if_neg (by omega)]; done) | (rw [if_pos (by omega)]; exact Int32.toInt_inj.mp (by (try simp only [Int32.reduceToInt]); omega)))
  · refine lv_iload_n hx hb dX12_in_5 rfl (lv_at hl 0 rfl) ?_
    refine lv_iload_n hx hb dX12_in_6 rfl (lv_at hl 2 rfl) ?_
    refine lv_icmp_gt (tgt := 14) hx hb dX12_in_7 (by decide) (fun c2 => ?_) (fun c2 => ?_)
    · refine lv_iconst (v := 0) hx hb dX12_in_14 (by decide) ?_
      exact rt_i hx hb hr hlocks hK hP hD hS rfl dX12_in_15 () [] rfl rfl (by show (0 : Int32) = _; unfold inB; (try simp only [Int32.le_iff_toInt_le, Int32.reduceToInt]); (try simp only [Int32.le_iff_toInt_le, Int32.lt_iff_toInt_lt, ← Int32.toInt_inj, Int32.reduceToInt] at c1); (try simp only [Int32.le_iff_toInt_le, Int32.lt_iff_toInt_lt, ← Int32.toInt_inj, Int32.reduceToInt] at c2); first | (rw [if_pos (by omega)]; done) | (rw [if_neg (by omega)]; done) | (rw [if_pos (by omega)]; exact Int32.toInt_inj.mp (by (try simp only [Int32.reduceToInt]); omega)))
    · refine lv_iconst (v := 1) hx hb dX12_in_10 (by decide) ?_
      refine lv_goto (tgt := 15) hx hb dX12_in_11 (by decide) ?_
      exact rt_i hx hb hr hlocks hK hP hD hS rfl dX12_in_15 () [] rfl rfl (by show (1 : Int32) = _; unfold inB; (try simp only [Int32.le_iff_toInt_le, Int32.reduceToInt]); (try simp only [Int32.le_iff_toInt_le, Int32.lt_iff_toInt_lt, ← Int32.toInt_inj, Int32.reduceToInt] at c1); (try simp only [Int32.le_iff_toInt_le, Int32.lt_iff_toInt_lt, ← Int32.toInt_inj, Int32.reduceToInt] at c2); first | (rw [if_pos (by omega)]; done) | (rw [if_neg (by omega)]; done) | (rw [if_pos (by omega)]; exact Int32.toInt_inj.mp (by (try simp only [Int32.reduceToInt]); omega)))
set_option maxHeartbeats 4000000 in
set_option maxRecDepth 100000 in
/-- X11_isHour -/
theorem c_X11_isHour (l : Launch) (D : va_G) (c : Nat → ClassId) (sz : Nat) (v : Int32) : Met l yX11_isHour (.code yX11_isHour cX11_isHour 1 (some .boolean) :: Wd) ({ frames := 1, cells := 0, slots := 0, locals := 22 }) (va_Pc [.int v] (WB D c [] sz)) (QI (S := Unit) D c (fun q _ => q = inB v 0 2399) (fun _ => []) (va_A [] sz)) 0 0 (va_A [] sz) := by
  refine kz_met (Qc := QI (S := Unit) D c (fun q _ => q = inB v 0 2399) (fun _ => [])) (by decide) (Nat.le_of_ble_eq_true rfl) ?_
  intro p e s m below meth cd A ls H locs hx hb hr hml hts hown hlocks hin hN hO hK hP hD hS hA hl
  have hl : lv_has ls 1 [(0, .int v)] := hl
  have hown : s.vm.findClass RX11 = some m.cls := hown
  refine lv_iload_n hx hb dX11_isHour_0 rfl (lv_at hl 0 rfl) ?_
  refine lv_iconst (v := 0) hx hb dX11_isHour_1 (by decide) ?_
  refine lv_sipush (v := 2399) hx hb dX11_isHour_2 (by decide) ?_
  have hPc := hP.sub (ws' := []) [] rfl
  have hDc := hD.sub (ws' := []) [] (by decide) rfl
  refine cl_i (wr := []) (va_runS (As := [.int v, .int 0, .int 2399]) (rest := []) ⟨hx, hb, hml, hown, hts⟩ (c_X11_within l D c H.size v 0 2399) (kw_S 3 hts wd_347 wd_331 wd_83 wd_332 rfl rfl (by decide +kernel) ⟨Nat.le_of_ble_eq_true rfl, Nat.le_of_ble_eq_true rfl⟩) (pre_S hPc hK hDc hN hO) rfl rfl hl.1 rfl (lv_room (Nat.le_of_ble_eq_true rfl)) dX11_isHour_5 ⟨Nat.le_of_ble_eq_true rfl, Nat.le_of_ble_eq_true rfl⟩) hP hD hS hA [] [] rfl rfl (by decide) (by decide) (fun r1 u2 H locs h3 hP hD hS => ?_)
  have hP : va_P D vwCl [] H := hP
  have hD : va_D A [] := hD
  rcases inB_c h3 with ⟨h4, rfl⟩ | ⟨h4, rfl⟩
  · exact rt_i hx hb hr hlocks hK hP hD hS rfl dX11_isHour_8 () [] rfl rfl (by show (1 : Int32) = _; unfold inB; (try simp only [Int32.le_iff_toInt_le, Int32.reduceToInt]); (try simp only [Int32.le_iff_toInt_le, Int32.lt_iff_toInt_lt, ← Int32.toInt_inj, Int32.reduceToInt] at h4); first | (rw [if_pos (by omega)]; done) | (rw [if_neg (by omega)]; done) | (rw [if_pos (by omega)]; exact Int32.toInt_inj.mp (by (try simp only [Int32.reduceToInt]); omega)))
  · exact rt_i hx hb hr hlocks hK hP hD hS rfl dX11_isHour_8 () [] rfl rfl (by show (0 : Int32) = _; unfold inB; (try simp only [Int32.le_iff_toInt_le, Int32.reduceToInt]); (try simp only [Int32.le_iff_toInt_le, Int32.lt_iff_toInt_lt, ← Int32.toInt_inj, Int32.reduceToInt] at h4); first | (rw [if_pos (by omega)]; done) | (rw [if_neg (by omega)]; done) | (rw [if_pos (by omega)]; exact Int32.toInt_inj.mp (by (try simp only [Int32.reduceToInt]); omega)))
set_option maxHeartbeats 4000000 in
set_option maxRecDepth 100000 in
/-- X11_isDay -/
theorem c_X11_isDay (l : Launch) (D : va_G) (c : Nat → ClassId) (sz : Nat) (v : Int32) : Met l yX11_isDay (.code yX11_isDay cX11_isDay 1 (some .boolean) :: Wd) ({ frames := 1, cells := 0, slots := 0, locals := 22 }) (va_Pc [.int v] (WB D c [] sz)) (QI (S := Unit) D c (fun q _ => q = inB v 0 99) (fun _ => []) (va_A [] sz)) 0 0 (va_A [] sz) := by
  refine kz_met (Qc := QI (S := Unit) D c (fun q _ => q = inB v 0 99) (fun _ => [])) (by decide) (Nat.le_of_ble_eq_true rfl) ?_
  intro p e s m below meth cd A ls H locs hx hb hr hml hts hown hlocks hin hN hO hK hP hD hS hA hl
  have hl : lv_has ls 1 [(0, .int v)] := hl
  have hown : s.vm.findClass RX11 = some m.cls := hown
  refine lv_iload_n hx hb dX11_isDay_0 rfl (lv_at hl 0 rfl) ?_
  refine lv_iconst (v := 0) hx hb dX11_isDay_1 (by decide) ?_
  refine lv_bipush (v := 99) hx hb dX11_isDay_2 (by decide) ?_
  have hPc := hP.sub (ws' := []) [] rfl
  have hDc := hD.sub (ws' := []) [] (by decide) rfl
  refine cl_i (wr := []) (va_runS (As := [.int v, .int 0, .int 99]) (rest := []) ⟨hx, hb, hml, hown, hts⟩ (c_X11_within l D c H.size v 0 99) (kw_S 3 hts wd_347 wd_331 wd_83 wd_332 rfl rfl (by decide +kernel) ⟨Nat.le_of_ble_eq_true rfl, Nat.le_of_ble_eq_true rfl⟩) (pre_S hPc hK hDc hN hO) rfl rfl hl.1 rfl (lv_room (Nat.le_of_ble_eq_true rfl)) dX11_isDay_4 ⟨Nat.le_of_ble_eq_true rfl, Nat.le_of_ble_eq_true rfl⟩) hP hD hS hA [] [] rfl rfl (by decide) (by decide) (fun r1 u2 H locs h3 hP hD hS => ?_)
  have hP : va_P D vwCl [] H := hP
  have hD : va_D A [] := hD
  rcases inB_c h3 with ⟨h4, rfl⟩ | ⟨h4, rfl⟩
  · exact rt_i hx hb hr hlocks hK hP hD hS rfl dX11_isDay_7 () [] rfl rfl (by show (1 : Int32) = _; unfold inB; (try simp only [Int32.le_iff_toInt_le, Int32.reduceToInt]); (try simp only [Int32.le_iff_toInt_le, Int32.lt_iff_toInt_lt, ← Int32.toInt_inj, Int32.reduceToInt] at h4); first | (rw [if_pos (by omega)]; done) | (rw [if_neg (by omega)]; done) | (rw [if_pos (by omega)]; exact Int32.toInt_inj.mp (by (try simp only [Int32.reduceToInt]); omega)))
  · exact rt_i hx hb hr hlocks hK hP hD hS rfl dX11_isDay_7 () [] rfl rfl (by show (0 : Int32) = _; unfold inB; (try simp only [Int32.le_iff_toInt_le, Int32.reduceToInt]); (try simp only [Int32.le_iff_toInt_le, Int32.lt_iff_toInt_lt, ← Int32.toInt_inj, Int32.reduceToInt] at h4); first | (rw [if_pos (by omega)]; done) | (rw [if_neg (by omega)]; done) | (rw [if_pos (by omega)]; exact Int32.toInt_inj.mp (by (try simp only [Int32.reduceToInt]); omega)))
set_option maxHeartbeats 4000000 in
set_option maxRecDepth 100000 in
/-- X12_isHour -/
theorem c_X12_isHour (l : Launch) (D : va_G) (c : Nat → ClassId) (sz : Nat) (v : Int32) : Met l yX12_isHour (.code yX12_isHour cX12_isHour 1 (some .boolean) :: Wd) ({ frames := 1, cells := 0, slots := 0, locals := 22 }) (va_Pc [.int v] (WB D c [] sz)) (QI (S := Unit) D c (fun q _ => q = inB v 0 2399) (fun _ => []) (va_A [] sz)) 0 0 (va_A [] sz) := by
  refine kz_met (Qc := QI (S := Unit) D c (fun q _ => q = inB v 0 2399) (fun _ => [])) (by decide) (Nat.le_of_ble_eq_true rfl) ?_
  intro p e s m below meth cd A ls H locs hx hb hr hml hts hown hlocks hin hN hO hK hP hD hS hA hl
  have hl : lv_has ls 1 [(0, .int v)] := hl
  have hown : s.vm.findClass RX12 = some m.cls := hown
  refine lv_iload_n hx hb dX12_isHour_0 rfl (lv_at hl 0 rfl) ?_
  refine lv_iconst (v := 0) hx hb dX12_isHour_1 (by decide) ?_
  refine lv_sipush (v := 2399) hx hb dX12_isHour_2 (by decide) ?_
  have hPc := hP.sub (ws' := []) [] rfl
  have hDc := hD.sub (ws' := []) [] (by decide) rfl
  refine cl_i (wr := []) (va_runS (As := [.int v, .int 0, .int 2399]) (rest := []) ⟨hx, hb, hml, hown, hts⟩ (c_X12_in l D c H.size v 0 2399) (kw_S 3 hts wd_1407 wd_1408 wd_90 wd_1409 rfl rfl (by decide +kernel) ⟨Nat.le_of_ble_eq_true rfl, Nat.le_of_ble_eq_true rfl⟩) (pre_S hPc hK hDc hN hO) rfl rfl hl.1 rfl (lv_room (Nat.le_of_ble_eq_true rfl)) dX12_isHour_5 ⟨Nat.le_of_ble_eq_true rfl, Nat.le_of_ble_eq_true rfl⟩) hP hD hS hA [] [] rfl rfl (by decide) (by decide) (fun r1 u2 H locs h3 hP hD hS => ?_)
  have hP : va_P D vwCl [] H := hP
  have hD : va_D A [] := hD
  rcases inB_c h3 with ⟨h4, rfl⟩ | ⟨h4, rfl⟩
  · exact rt_i hx hb hr hlocks hK hP hD hS rfl dX12_isHour_8 () [] rfl rfl (by show (1 : Int32) = _; unfold inB; (try simp only [Int32.le_iff_toInt_le, Int32.reduceToInt]); (try simp only [Int32.le_iff_toInt_le, Int32.lt_iff_toInt_lt, ← Int32.toInt_inj, Int32.reduceToInt] at h4); first | (rw [if_pos (by omega)]; done) | (rw [if_neg (by omega)]; done) | (rw [if_pos (by omega)]; exact Int32.toInt_inj.mp (by (try simp only [Int32.reduceToInt]); omega)))
  · exact rt_i hx hb hr hlocks hK hP hD hS rfl dX12_isHour_8 () [] rfl rfl (by show (0 : Int32) = _; unfold inB; (try simp only [Int32.le_iff_toInt_le, Int32.reduceToInt]); (try simp only [Int32.le_iff_toInt_le, Int32.lt_iff_toInt_lt, ← Int32.toInt_inj, Int32.reduceToInt] at h4); first | (rw [if_pos (by omega)]; done) | (rw [if_neg (by omega)]; done) | (rw [if_pos (by omega)]; exact Int32.toInt_inj.mp (by (try simp only [Int32.reduceToInt]); omega)))
set_option maxHeartbeats 4000000 in
set_option maxRecDepth 100000 in
/-- X12_isDay -/
theorem c_X12_isDay (l : Launch) (D : va_G) (c : Nat → ClassId) (sz : Nat) (v : Int32) : Met l yX12_isDay (.code yX12_isDay cX12_isDay 1 (some .boolean) :: Wd) ({ frames := 1, cells := 0, slots := 0, locals := 22 }) (va_Pc [.int v] (WB D c [] sz)) (QI (S := Unit) D c (fun q _ => q = inB v 0 99) (fun _ => []) (va_A [] sz)) 0 0 (va_A [] sz) := by
  refine kz_met (Qc := QI (S := Unit) D c (fun q _ => q = inB v 0 99) (fun _ => [])) (by decide) (Nat.le_of_ble_eq_true rfl) ?_
  intro p e s m below meth cd A ls H locs hx hb hr hml hts hown hlocks hin hN hO hK hP hD hS hA hl
  have hl : lv_has ls 1 [(0, .int v)] := hl
  have hown : s.vm.findClass RX12 = some m.cls := hown
  refine lv_iload_n hx hb dX12_isDay_0 rfl (lv_at hl 0 rfl) ?_
  refine lv_iconst (v := 0) hx hb dX12_isDay_1 (by decide) ?_
  refine lv_bipush (v := 99) hx hb dX12_isDay_2 (by decide) ?_
  have hPc := hP.sub (ws' := []) [] rfl
  have hDc := hD.sub (ws' := []) [] (by decide) rfl
  refine cl_i (wr := []) (va_runS (As := [.int v, .int 0, .int 99]) (rest := []) ⟨hx, hb, hml, hown, hts⟩ (c_X12_in l D c H.size v 0 99) (kw_S 3 hts wd_1407 wd_1408 wd_90 wd_1409 rfl rfl (by decide +kernel) ⟨Nat.le_of_ble_eq_true rfl, Nat.le_of_ble_eq_true rfl⟩) (pre_S hPc hK hDc hN hO) rfl rfl hl.1 rfl (lv_room (Nat.le_of_ble_eq_true rfl)) dX12_isDay_4 ⟨Nat.le_of_ble_eq_true rfl, Nat.le_of_ble_eq_true rfl⟩) hP hD hS hA [] [] rfl rfl (by decide) (by decide) (fun r1 u2 H locs h3 hP hD hS => ?_)
  have hP : va_P D vwCl [] H := hP
  have hD : va_D A [] := hD
  rcases inB_c h3 with ⟨h4, rfl⟩ | ⟨h4, rfl⟩
  · exact rt_i hx hb hr hlocks hK hP hD hS rfl dX12_isDay_7 () [] rfl rfl (by show (1 : Int32) = _; unfold inB; (try simp only [Int32.le_iff_toInt_le, Int32.reduceToInt]); (try simp only [Int32.le_iff_toInt_le, Int32.lt_iff_toInt_lt, ← Int32.toInt_inj, Int32.reduceToInt] at h4); first | (rw [if_pos (by omega)]; done) | (rw [if_neg (by omega)]; done) | (rw [if_pos (by omega)]; exact Int32.toInt_inj.mp (by (try simp only [Int32.reduceToInt]); omega)))
  · exact rt_i hx hb hr hlocks hK hP hD hS rfl dX12_isDay_7 () [] rfl rfl (by show (0 : Int32) = _; unfold inB; (try simp only [Int32.le_iff_toInt_le, Int32.reduceToInt]); (try simp only [Int32.le_iff_toInt_le, Int32.lt_iff_toInt_lt, ← Int32.toInt_inj, Int32.reduceToInt] at h4); first | (rw [if_pos (by omega)]; done) | (rw [if_neg (by omega)]; done) | (rw [if_pos (by omega)]; exact Int32.toInt_inj.mp (by (try simp only [Int32.reduceToInt]); omega)))
set_option maxHeartbeats 4000000 in
set_option maxRecDepth 100000 in
/-- a place of a row of noughts -/
theorem c_X11_at (l : Launch) (D : va_G) (c : Nat → ClassId) (sz : Nat) (q : Nat) (n : Nat) (hn : n < 2 ^ 31) (k : Int32) : Met l yX11_at (.code yX11_at cX11_at 2 (some .int) :: Wd) ({ frames := 0, cells := 0, slots := 0, locals := 0 }) (va_Pc [.ref q, .int k] (WB D c [(q, .inl (c 0, n, .inl (fun _ => 0)))] sz)) (QI (S := Unit) D c (fun r _ => r = 0) (fun _ => [(q, .inl (c 0, n, .inl (fun _ => 0)))]) (va_A [(q, .inl (c 0, n, .inl (fun _ => 0)))] sz)) 0 0 (va_A [(q, .inl (c 0, n, .inl (fun _ => 0)))] sz) := by
  refine kz_met (Qc := QI (S := Unit) D c (fun r _ => r = 0) (fun _ => [(q, .inl (c 0, n, .inl (fun _ => 0)))])) (by decide) (Nat.le_of_ble_eq_true rfl) ?_
  intro p e s m below meth cd A ls H locs hx hb hr hml hts hown hlocks hin hN hO hK hP hD hS hA hl
  have hl : lv_has ls 2 [(0, .ref q), (1, .int k)] := hl
  have hown : s.vm.findClass RX11 = some m.cls := hown
  refine lv_iload_n hx hb dX11_at_0 rfl (lv_at hl 1 rfl) ?_
  refine lv_if_lt (tgt := 16) hx hb dX11_at_1 (by decide) (fun c1 => ?_) (fun c1 => ?_)
  · refine lv_iconst (v := 0) hx hb dX11_at_16 (by decide) ?_
    exact rt_i hx hb hr hlocks hK hP hD hS rfl dX11_at_17 () [0] rfl rfl rfl
  · refine lv_iload_n hx hb dX11_at_4 rfl (lv_at hl 1 rfl) ?_
    refine lv_aload_n hx hb dX11_at_5 rfl (lv_at hl 0 rfl) ?_
    refine va_alen (v := (Int32.ofNat n)) hx hb hK hP 0 0 rfl rfl (rfl) dX11_at_6 ?_
    refine lv_icmp_ge (tgt := 16) hx hb dX11_at_7 (by decide) (fun c2 => ?_) (fun c2 => ?_)
    · refine lv_iconst (v := 0) hx hb dX11_at_16 (by decide) ?_
      exact rt_i hx hb hr hlocks hK hP hD hS rfl dX11_at_17 () [0] rfl rfl rfl
    · refine lv_aload_n hx hb dX11_at_10 rfl (lv_at hl 0 rfl) ?_
      refine lv_iload_n hx hb dX11_at_11 rfl (lv_at hl 1 rfl) ?_
      refine va_iald hx hb hK hP 0 0 rfl rfl (vin_2 hn c1 c2) dX11_at_12 ?_
      refine lv_topi (fun v3 e4 => ?_)
      obtain rfl : v3 = 0 := (by first | exact e4 | exact e4.trans (by decide))
      refine lv_goto (tgt := 17) hx hb dX11_at_13 (by decide) ?_
      exact rt_i hx hb hr hlocks hK hP hD hS rfl dX11_at_17 () [0] rfl rfl rfl
set_option maxHeartbeats 4000000 in
set_option maxRecDepth 100000 in
/-- a row is written, or not -/
theorem c_X11_put (l : Launch) (D : va_G) (c : Nat → ClassId) (sz : Nat) (q : Nat) (n : Nat) (hn : n < 2 ^ 31) (f : Nat → Int32) (k : Int32) (x : Int32) : Met l yX11_put (.code yX11_put cX11_put 3 none :: Wd) ({ frames := 0, cells := 0, slots := 0, locals := 0 }) (va_Pc [.ref q, .int k, .int x] (WB D c [(q, .inl (c 0, n, .inl (f)))] sz)) (QV (S := Nat → Int32) D c (fun _ => True) (fun u => [(q, .inl (c 0, n, .inl u))]) (va_A [(q, .inl (c 0, n, .inl (f)))] sz)) 0 0 (va_A [(q, .inl (c 0, n, .inl (f)))] sz) := by
  refine kz_met (Qc := QV (S := Nat → Int32) D c (fun _ => True) (fun u => [(q, .inl (c 0, n, .inl u))])) (by decide) (Nat.le_of_ble_eq_true rfl) ?_
  intro p e s m below meth cd A ls H locs hx hb hr hml hts hown hlocks hin hN hO hK hP hD hS hA hl
  have hl : lv_has ls 3 [(0, .ref q), (1, .int k), (2, .int x)] := hl
  have hown : s.vm.findClass RX11 = some m.cls := hown
  refine lv_iload_n hx hb dX11_put_0 rfl (lv_at hl 1 rfl) ?_
  refine lv_if_lt (tgt := 14) hx hb dX11_put_1 (by decide) (fun c1 => ?_) (fun c1 => ?_)
  · exact rt_v hx hb hr hlocks hK hP hD hS dX11_put_14 (f) [0] rfl rfl trivial
  · refine lv_iload_n hx hb dX11_put_4 rfl (lv_at hl 1 rfl) ?_
    refine lv_aload_n hx hb dX11_put_5 rfl (lv_at hl 0 rfl) ?_
    refine va_alen (v := (Int32.ofNat n)) hx hb hK hP 0 0 rfl rfl (rfl) dX11_put_6 ?_
    refine lv_icmp_ge (tgt := 14) hx hb dX11_put_7 (by decide) (fun c2 => ?_) (fun c2 => ?_)
    · exact rt_v hx hb hr hlocks hK hP hD hS dX11_put_14 (f) [0] rfl rfl trivial
    · refine lv_aload_n hx hb dX11_put_10 rfl (lv_at hl 0 rfl) ?_
      refine lv_iload_n hx hb dX11_put_11 rfl (lv_at hl 1 rfl) ?_
      refine lv_iload_n hx hb dX11_put_12 rfl (lv_at hl 2 rfl) ?_
      refine va_iast hx hb hK hP hD hS 0 0 rfl rfl (vin_2 hn c1 c2) dX11_put_13 (fun H locs hP hD hS => ?_)
      have hP : va_P D vwCl [(q, .inl (c 0, n, .inl (upd (f) (Int32.toNatClampNeg k) x)))] H := hP
      have hD : va_D A [(q, .inl (c 0, n, .inl (upd (f) (Int32.toNatClampNeg k) x)))] := hD
      exact rt_v hx hb hr hlocks hK hP hD hS dX11_put_14 (upd (f) (Int32.toNatClampNeg k) x) [0] rfl rfl trivial
