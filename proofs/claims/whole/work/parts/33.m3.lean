theorem ex_lt {rN : Nat} {x : Int32} (h8 : rN ≤ 8) (h : ∃ j, j < rN ∧ x = nI j) : ∃ j, j < 8 ∧ x = nI j := by
  obtain ⟨j, hj, e⟩ := h
  exact ⟨j, by omega, e⟩
theorem row_in {rN : Nat} {x : Int32} (h8 : rN ≤ 8) (h : ∃ j, j < rN ∧ x = nI j) : vp_in x 8 := by
  obtain ⟨j, hj, rfl⟩ := h
  exact vp_in_nI (by omega) (by decide)
/-- the bins emptied, the first n -/
def mE (n : Nat) (f : Nat → Int32) : Nat → Int32 := fun j => if 72 ≤ j ∧ j < 72 + n then 0 else f j
theorem mE_0 (f : Nat → Int32) : mE 0 f = f := funext fun j => if_neg (by omega)
theorem mE_s (n : Nat) (f : Nat → Int32) : upd (mE n f) (72 + n) 0 = mE (n + 1) f := by
  funext j
  unfold upd mE
  by_cases e : j = 72 + n
  · rw [if_pos e, if_pos (by omega)]
  · rw [if_neg e]
    by_cases h : 72 ≤ j ∧ j < 72 + n
    · rw [if_pos h, if_pos (by omega)]
    · rw [if_neg h, if_neg (by omega)]
theorem iw_X2_columns_X2 : ∀ w ∈ wsX20, w ∈ wsX2_columns := mem_pos [8, 9, 10, 11, 12, 13, 14, 15, 16, 17] (by decide +kernel)
set_option maxHeartbeats 4000000 in
set_option maxRecDepth 100000 in
theorem mX2_columns_0 (l : Launch) (D : va_G) (cI : ClassId) (a : Nat → Nat) (pt pd ab nw kp wy : Nat → Int32) (th : Int32) (cN rN : Nat) (tn : Int32) (sz : Nat) : Met l yX2_columns wsX2_columns ({ frames := 1, cells := 0, slots := 0, locals := 21 } : Room) (va_Pc [.ref (a 0)] (wPQ D [(cI, .int)] sz (wN cI a pt pd ab nw kp wy th (nI cN) (nI rN) tn))) (va_Qi (fun (zz : Int32) (_ : Unit) => zz = nI cN) (wB D [(cI, .int)] (va_A (wN cI a pt pd ab nw kp wy th (nI cN) (nI rN) tn) sz) (fun _ : Unit => (wN cI a pt pd ab nw kp wy 0 (nI cN) (nI rN) tn))) (va_A (wN cI a pt pd ab nw kp wy th (nI cN) (nI rN) tn) sz)) 0 0 (va_A (wN cI a pt pd ab nw kp wy th (nI cN) (nI rN) tn) sz) := by
  refine mQ_of (by decide) rfl (Nat.le_of_ble_eq_true rfl) ?_
  intro p e s m below meth c hx hb hr hml hown hin hts hlocks hsz hP hK hN hD hA hS ls hl
  have hown : s.vm.findClass RX2 = some m.cls := hown
  have hl : lv_has ls 1 [(0, .ref (a 0))] := hl
  have hP : va_P D vwCl (wN cI a pt pd ab nw kp wy th (nI cN) (nI rN) tn) s.heap := hP
  refine lv_aload_n hx hb dX2_columns_0 rfl (lv_at hl 0 rfl) ?_
  refine lv_aload_n hx hb dX2_columns_1 rfl (lv_at hl 0 rfl) ?_
  refine va_get (D := D) (ci := 2) (v := .int (nI cN)) (C := RX2) (T := TX2) (N := 10) hx hb hts iw_X2_columns_X2 hown hK hP 0 rfl rfl 1 (by decide) (hts (.fieldLink RX2 9 "MarbleRampsModel" "columns" "I") (mg 1 rfl)) (fun _ h9 => h9) rfl dX2_columns_2 ?_
  refine kQVi (As := [.int (nI cN)]) (rest := []) (wr := []) (W2 := (fun _ => (wN cI a pt pd ab nw kp wy 0 (nI cN) (nI rN) tn))) ⟨hx, hb, hml, hown, hts⟩ (mX2_ok l D cI a pt pd ab nw kp wy th cN rN tn (nI cN) _) (cwV 1 hts gX2_columns_X2_ok rfl rfl rfl (by decide +kernel) ⟨Nat.le_of_ble_eq_true rfl, Nat.le_of_ble_eq_true rfl⟩) hP hD hK hN hS hA [0, 1, 2, 3, 4, 5, 6] (by decide) rfl [] (by decide) rfl (by decide) [0, 1, 2, 3, 4, 5, 6] (by decide) (fun _ => rfl) [0] rfl rfl rfl rfl hl.1 rfl (Nat.le_of_ble_eq_true rfl) dX2_columns_5 ⟨Nat.le_of_ble_eq_true rfl, Nat.le_of_ble_eq_true rfl⟩ (fun r_1 u_1 H locs hr_1 hP hD hS => ?_)
  subst r_1
  have hP : va_P D vwCl (wN cI a pt pd ab nw kp wy 0 (nI cN) (nI rN) tn) H := hP
  have hD : va_D (va_A (wN cI a pt pd ab nw kp wy th (nI cN) (nI rN) tn) sz) (wN cI a pt pd ab nw kp wy 0 (nI cN) (nI rN) tn) := hD
  exact eQi () hx hb hr hlocks hP hD hK hS dX2_columns_8 (rfl)
theorem iw_X2_rows_X2 : ∀ w ∈ wsX20, w ∈ wsX2_rows := mem_pos [8, 9, 10, 11, 12, 13, 14, 15, 16, 17] (by decide +kernel)
set_option maxHeartbeats 4000000 in
set_option maxRecDepth 100000 in
theorem mX2_rows_0 (l : Launch) (D : va_G) (cI : ClassId) (a : Nat → Nat) (pt pd ab nw kp wy : Nat → Int32) (th : Int32) (cN rN : Nat) (tn : Int32) (sz : Nat) : Met l yX2_rows wsX2_rows ({ frames := 1, cells := 0, slots := 0, locals := 21 } : Room) (va_Pc [.ref (a 0)] (wPQ D [(cI, .int)] sz (wN cI a pt pd ab nw kp wy th (nI cN) (nI rN) tn))) (va_Qi (fun (zz : Int32) (_ : Unit) => zz = nI rN) (wB D [(cI, .int)] (va_A (wN cI a pt pd ab nw kp wy th (nI cN) (nI rN) tn) sz) (fun _ : Unit => (wN cI a pt pd ab nw kp wy 0 (nI cN) (nI rN) tn))) (va_A (wN cI a pt pd ab nw kp wy th (nI cN) (nI rN) tn) sz)) 0 0 (va_A (wN cI a pt pd ab nw kp wy th (nI cN) (nI rN) tn) sz) := by
  refine mQ_of (by decide) rfl (Nat.le_of_ble_eq_true rfl) ?_
  intro p e s m below meth c hx hb hr hml hown hin hts hlocks hsz hP hK hN hD hA hS ls hl
  have hown : s.vm.findClass RX2 = some m.cls := hown
  have hl : lv_has ls 1 [(0, .ref (a 0))] := hl
  have hP : va_P D vwCl (wN cI a pt pd ab nw kp wy th (nI cN) (nI rN) tn) s.heap := hP
  refine lv_aload_n hx hb dX2_rows_0 rfl (lv_at hl 0 rfl) ?_
  refine lv_aload_n hx hb dX2_rows_1 rfl (lv_at hl 0 rfl) ?_
  refine va_get (D := D) (ci := 2) (v := .int (nI rN)) (C := RX2) (T := TX2) (N := 10) hx hb hts iw_X2_rows_X2 hown hK hP 0 rfl rfl 2 (by decide) (hts (.fieldLink RX2 13 "MarbleRampsModel" "rows" "I") (mg 1 rfl)) (fun _ h9 => h9) rfl dX2_rows_2 ?_
  refine kQVi (As := [.int (nI rN)]) (rest := []) (wr := []) (W2 := (fun _ => (wN cI a pt pd ab nw kp wy 0 (nI cN) (nI rN) tn))) ⟨hx, hb, hml, hown, hts⟩ (mX2_ok l D cI a pt pd ab nw kp wy th cN rN tn (nI rN) _) (cwV 1 hts gX2_rows_X2_ok rfl rfl rfl (by decide +kernel) ⟨Nat.le_of_ble_eq_true rfl, Nat.le_of_ble_eq_true rfl⟩) hP hD hK hN hS hA [0, 1, 2, 3, 4, 5, 6] (by decide) rfl [] (by decide) rfl (by decide) [0, 1, 2, 3, 4, 5, 6] (by decide) (fun _ => rfl) [0] rfl rfl rfl rfl hl.1 rfl (Nat.le_of_ble_eq_true rfl) dX2_rows_5 ⟨Nat.le_of_ble_eq_true rfl, Nat.le_of_ble_eq_true rfl⟩ (fun r_1 u_1 H locs hr_1 hP hD hS => ?_)
  subst r_1
  have hP : va_P D vwCl (wN cI a pt pd ab nw kp wy 0 (nI cN) (nI rN) tn) H := hP
  have hD : va_D (va_A (wN cI a pt pd ab nw kp wy th (nI cN) (nI rN) tn) sz) (wN cI a pt pd ab nw kp wy 0 (nI cN) (nI rN) tn) := hD
  exact eQi () hx hb hr hlocks hP hD hK hS dX2_rows_8 (rfl)
theorem iw_X2_lost_X2 : ∀ w ∈ wsX20, w ∈ wsX2_lost := mem_pos [8, 9, 10, 11, 12, 13, 14, 15, 16, 17] (by decide +kernel)
set_option maxHeartbeats 4000000 in
set_option maxRecDepth 100000 in
theorem mX2_lost_0 (l : Launch) (D : va_G) (cI : ClassId) (a : Nat → Nat) (pt pd ab nw kp wy : Nat → Int32) (th : Int32) (cN rN : Nat) (tn : Int32) (sz : Nat) : Met l yX2_lost wsX2_lost ({ frames := 1, cells := 0, slots := 0, locals := 21 } : Room) (va_Pc [.ref (a 0)] (wPQ D [(cI, .int)] sz (wN cI a pt pd ab nw kp wy th (nI cN) (nI rN) tn))) (va_Qi (fun (zz : Int32) (_ : Unit) => zz = nw 83) (wB D [(cI, .int)] (va_A (wN cI a pt pd ab nw kp wy th (nI cN) (nI rN) tn) sz) (fun _ : Unit => (wN cI a pt pd ab nw kp wy 0 (nI cN) (nI rN) tn))) (va_A (wN cI a pt pd ab nw kp wy th (nI cN) (nI rN) tn) sz)) 0 0 (va_A (wN cI a pt pd ab nw kp wy th (nI cN) (nI rN) tn) sz) := by
  refine mQ_of (by decide) rfl (Nat.le_of_ble_eq_true rfl) ?_
  intro p e s m below meth c hx hb hr hml hown hin hts hlocks hsz hP hK hN hD hA hS ls hl
  have hown : s.vm.findClass RX2 = some m.cls := hown
  have hl : lv_has ls 1 [(0, .ref (a 0))] := hl
  have hP : va_P D vwCl (wN cI a pt pd ab nw kp wy th (nI cN) (nI rN) tn) s.heap := hP
  refine lv_aload_n hx hb dX2_lost_0 rfl (lv_at hl 0 rfl) ?_
  refine lv_aload_n hx hb dX2_lost_1 rfl (lv_at hl 0 rfl) ?_
  refine va_get (D := D) (ci := 2) (v := .ref (a 4)) (C := RX2) (T := TX2) (N := 10) hx hb hts iw_X2_lost_X2 hown hK hP 0 rfl rfl 6 (by decide) (hts (.fieldLink RX2 26 "MarbleRampsModel" "now" "[I") (mg 1 rfl)) (fun _ h9 => h9) rfl dX2_lost_2 ?_
  refine lv_bipush (v := 83) hx hb dX2_lost_5 (by decide) ?_
  refine va_iald hx hb hK hP 4 0 rfl rfl (vp_in_nI (n := 83) (by decide) (by decide)) dX2_lost_7 ?_
  rw [show (83 : Int32).toNatClampNeg = 83 from by decide]
  refine kQVi (As := [.int (nw 83)]) (rest := []) (wr := []) (W2 := (fun _ => (wN cI a pt pd ab nw kp wy 0 (nI cN) (nI rN) tn))) ⟨hx, hb, hml, hown, hts⟩ (mX2_ok l D cI a pt pd ab nw kp wy th cN rN tn (nw 83) _) (cwV 1 hts gX2_lost_X2_ok rfl rfl rfl (by decide +kernel) ⟨Nat.le_of_ble_eq_true rfl, Nat.le_of_ble_eq_true rfl⟩) hP hD hK hN hS hA [0, 1, 2, 3, 4, 5, 6] (by decide) rfl [] (by decide) rfl (by decide) [0, 1, 2, 3, 4, 5, 6] (by decide) (fun _ => rfl) [0] rfl rfl rfl rfl hl.1 rfl (Nat.le_of_ble_eq_true rfl) dX2_lost_8 ⟨Nat.le_of_ble_eq_true rfl, Nat.le_of_ble_eq_true rfl⟩ (fun r_1 u_1 H locs hr_1 hP hD hS => ?_)
  subst r_1
  have hP : va_P D vwCl (wN cI a pt pd ab nw kp wy 0 (nI cN) (nI rN) tn) H := hP
  have hD : va_D (va_A (wN cI a pt pd ab nw kp wy th (nI cN) (nI rN) tn) sz) (wN cI a pt pd ab nw kp wy 0 (nI cN) (nI rN) tn) := hD
  exact eQi () hx hb hr hlocks hP hD hK hS dX2_lost_11 (rfl)
set_option maxHeartbeats 4000000 in
set_option maxRecDepth 100000 in
theorem mX2_toggles_0 (l : Launch) (D : va_G) (cI : ClassId) (a : Nat → Nat) (pt pd ab nw kp wy : Nat → Int32) (th : Int32) (cN rN : Nat) (tn : Int32) (sz : Nat) : Met l yX2_toggles wsX2_toggles ({ frames := 1, cells := 0, slots := 0, locals := 22 } : Room) (va_Pc [.ref (a 0)] (wPQ D [(cI, .int)] sz (wN cI a pt pd ab nw kp wy th (nI cN) (nI rN) tn))) (va_Qi (fun (zz : Int32) (_ : Unit) => zz = mTog pt) (wB D [(cI, .int)] (va_A (wN cI a pt pd ab nw kp wy th (nI cN) (nI rN) tn) sz) (fun _ : Unit => (wN cI a pt pd ab nw kp wy 0 (nI cN) (nI rN) tn))) (va_A (wN cI a pt pd ab nw kp wy th (nI cN) (nI rN) tn) sz)) 0 0 (va_A (wN cI a pt pd ab nw kp wy th (nI cN) (nI rN) tn) sz) := by
  refine mQ_of (by decide) rfl (Nat.le_of_ble_eq_true rfl) ?_
  intro p e s m below meth c hx hb hr hml hown hin hts hlocks hsz hP hK hN hD hA hS ls hl
  have hown : s.vm.findClass RX2 = some m.cls := hown
  have hl : lv_has ls 1 [(0, .ref (a 0))] := hl
  have hP : va_P D vwCl (wN cI a pt pd ab nw kp wy th (nI cN) (nI rN) tn) s.heap := hP
  refine lv_aload_n hx hb dX2_toggles_0 rfl (lv_at hl 0 rfl) ?_
  refine lv_aload_n hx hb dX2_toggles_1 rfl (lv_at hl 0 rfl) ?_
  refine kRVi (As := []) (rest := [.ref (a 0)]) ⟨hx, hb, hml, hown, hts⟩ (mX2_togglesNow l D cI a pt pd ab nw kp wy th cN rN tn) (cwV 0 hts gX2_toggles_X2_togglesNow rfl rfl rfl (by decide +kernel) ⟨Nat.le_of_ble_eq_true rfl, Nat.le_of_ble_eq_true rfl⟩) hP hK hN [0, 1, 2, 3, 4, 5, 6] rfl [0] rfl rfl rfl rfl hl.1 rfl (Nat.le_of_ble_eq_true rfl) dX2_toggles_2 ⟨Nat.zero_le _, Nat.zero_le _⟩ (fun r_1 hr_1 => ?_)
  subst r_1
  refine kQVi (As := [.int (mTog pt)]) (rest := []) (wr := []) (W2 := (fun _ => (wN cI a pt pd ab nw kp wy 0 (nI cN) (nI rN) tn))) ⟨hx, hb, hml, hown, hts⟩ (mX2_ok l D cI a pt pd ab nw kp wy th cN rN tn (mTog pt) _) (cwV 1 hts gX2_toggles_X2_ok rfl rfl rfl (by decide +kernel) ⟨Nat.le_of_ble_eq_true rfl, Nat.le_of_ble_eq_true rfl⟩) hP hD hK hN hS hA [0, 1, 2, 3, 4, 5, 6] (by decide) rfl [] (by decide) rfl (by decide) [0, 1, 2, 3, 4, 5, 6] (by decide) (fun _ => rfl) [0] rfl rfl rfl rfl hl.1 rfl (Nat.le_of_ble_eq_true rfl) dX2_toggles_5 ⟨Nat.le_of_ble_eq_true rfl, Nat.le_of_ble_eq_true rfl⟩ (fun r_2 u_2 H locs hr_2 hP hD hS => ?_)
  subst r_2
  have hP : va_P D vwCl (wN cI a pt pd ab nw kp wy 0 (nI cN) (nI rN) tn) H := hP
  have hD : va_D (va_A (wN cI a pt pd ab nw kp wy th (nI cN) (nI rN) tn) sz) (wN cI a pt pd ab nw kp wy 0 (nI cN) (nI rN) tn) := hD
  exact eQi () hx hb hr hlocks hP hD hK hS dX2_toggles_8 (rfl)
set_option maxHeartbeats 4000000 in
set_option maxRecDepth 100000 in
theorem mX2_bestColumn_0 (l : Launch) (D : va_G) (cI : ClassId) (a : Nat → Nat) (pt pd ab nw kp wy : Nat → Int32) (th : Int32) (cN rN : Nat) (tn : Int32) (hI : mInv cN rN pt pd ab) (sz : Nat) : Met l yX2_bestColumn wsX2_bestColumn ({ frames := 6, cells := 0, slots := 0, locals := 136 } : Room) (va_Pc [.ref (a 0)] (wPQ D [(cI, .int)] sz (wN cI a pt pd ab nw kp wy th (nI cN) (nI rN) tn))) (va_Qi (fun (zz : Int32) (u : MJ) => zz = mBest pt pd cN rN nw) (wB D [(cI, .int)] (va_A (wN cI a pt pd ab nw kp wy th (nI cN) (nI rN) tn) sz) (fun u : MJ => (wN cI a pt pd ab nw u.1 u.2.1 0 (nI cN) (nI rN) u.2.2))) (va_A (wN cI a pt pd ab nw kp wy th (nI cN) (nI rN) tn) sz)) 0 0 (va_A (wN cI a pt pd ab nw kp wy th (nI cN) (nI rN) tn) sz) := by
  refine mQ_of (by decide) rfl (Nat.le_of_ble_eq_true rfl) ?_
  intro p e s m below meth c hx hb hr hml hown hin hts hlocks hsz hP hK hN hD hA hS ls hl
  have hown : s.vm.findClass RX2 = some m.cls := hown
  have hl : lv_has ls 1 [(0, .ref (a 0))] := hl
  obtain ⟨⟨hc1, hc9⟩, hr8, hz, hab⟩ := id hI
  have hP : va_P D vwCl (wN cI a pt pd ab nw kp wy th (nI cN) (nI rN) tn) s.heap := hP
  refine lv_aload_n hx hb dX2_bestColumn_0 rfl (lv_at hl 0 rfl) ?_
  refine lv_aload_n hx hb dX2_bestColumn_1 rfl (lv_at hl 0 rfl) ?_
  refine kQVi (As := []) (rest := [.ref (a 0)]) (wr := []) (W2 := (fun u : MJ => (wN cI a pt pd ab nw u.1 u.2.1 th (nI cN) (nI rN) u.2.2))) ⟨hx, hb, hml, hown, hts⟩ (mX2_best l D cI a pt pd ab nw kp wy th cN rN tn hI _) (cwV 0 hts gX2_bestColumn_X2_best rfl rfl rfl (by decide +kernel) ⟨Nat.le_of_ble_eq_true rfl, Nat.le_of_ble_eq_true rfl⟩) hP hD hK hN hS hA [0, 1, 2, 3, 4, 5, 6] (by decide) rfl [] (by decide) rfl (by decide) [0, 1, 2, 3, 4, 5, 6] (by decide) (fun _ => rfl) [0] rfl rfl rfl rfl hl.1 rfl (Nat.le_of_ble_eq_true rfl) dX2_bestColumn_2 ⟨Nat.le_of_ble_eq_true rfl, Nat.le_of_ble_eq_true rfl⟩ (fun r_1 u_1 H locs hr_1 hP hD hS => ?_)
  subst r_1
  have hP : va_P D vwCl (wN cI a pt pd ab nw u_1.1 u_1.2.1 th (nI cN) (nI rN) u_1.2.2) H := hP
  have hD : va_D (va_A (wN cI a pt pd ab nw kp wy th (nI cN) (nI rN) tn) sz) (wN cI a pt pd ab nw u_1.1 u_1.2.1 th (nI cN) (nI rN) u_1.2.2) := hD
  refine kQVi (As := [.int (mBest pt pd cN rN nw)]) (rest := []) (wr := []) (W2 := (fun _ => (wN cI a pt pd ab nw u_1.1 u_1.2.1 0 (nI cN) (nI rN) u_1.2.2))) ⟨hx, hb, hml, hown, hts⟩ (mX2_ok l D cI a pt pd ab nw u_1.1 u_1.2.1 th cN rN u_1.2.2 (mBest pt pd cN rN nw) _) (cwV 1 hts gX2_bestColumn_X2_ok rfl rfl rfl (by decide +kernel) ⟨Nat.le_of_ble_eq_true rfl, Nat.le_of_ble_eq_true rfl⟩) hP hD hK hN hS hA [0, 1, 2, 3, 4, 5, 6] (by decide) rfl [] (by decide) rfl (by decide) [0, 1, 2, 3, 4, 5, 6] (by decide) (fun _ => rfl) [0] rfl rfl rfl rfl hl.1 rfl (Nat.le_of_ble_eq_true rfl) dX2_bestColumn_5 ⟨Nat.le_of_ble_eq_true rfl, Nat.le_of_ble_eq_true rfl⟩ (fun r_2 u_2 H locs hr_2 hP hD hS => ?_)
  subst r_2
  have hP : va_P D vwCl (wN cI a pt pd ab nw u_1.1 u_1.2.1 0 (nI cN) (nI rN) u_1.2.2) H := hP
  have hD : va_D (va_A (wN cI a pt pd ab nw kp wy th (nI cN) (nI rN) tn) sz) (wN cI a pt pd ab nw u_1.1 u_1.2.1 0 (nI cN) (nI rN) u_1.2.2) := hD
  exact eQi (u_1.1, u_1.2.1, u_1.2.2) hx hb hr hlocks hP hD hK hS dX2_bestColumn_8 (rfl)
theorem iw_X2_partAt_X2 : ∀ w ∈ wsX20, w ∈ wsX2_partAt := mem_pos [25, 26, 27, 28, 29, 30, 31, 32, 33, 34] (by decide +kernel)
set_option maxHeartbeats 4000000 in
set_option maxRecDepth 100000 in
theorem mX2_partAt_0 (l : Launch) (D : va_G) (cI : ClassId) (a : Nat → Nat) (pt pd ab nw kp wy : Nat → Int32) (th : Int32) (cN rN : Nat) (tn : Int32) (rr kk : Int32) (hI : mInv cN rN pt pd ab) (hp : mPlace (nI rN) (nI cN) rr kk = true) (sz : Nat) : Met l yX2_partAt wsX2_partAt ({ frames := 3, cells := 0, slots := 0, locals := 65 } : Room) (va_Pc [.ref (a 0), .int rr, .int kk] (wPQ D [(cI, .int)] sz (wN cI a pt pd ab nw kp wy th (nI cN) (nI rN) tn))) (va_Qi (fun (zz : Int32) (_ : Unit) => zz = pt (9 * rr + kk).toNatClampNeg) (wB D [(cI, .int)] (va_A (wN cI a pt pd ab nw kp wy th (nI cN) (nI rN) tn) sz) (fun _ : Unit => (wN cI a pt pd ab nw kp wy 0 (nI cN) (nI rN) tn))) (va_A (wN cI a pt pd ab nw kp wy th (nI cN) (nI rN) tn) sz)) 0 0 (va_A (wN cI a pt pd ab nw kp wy th (nI cN) (nI rN) tn) sz) := by
  refine mQ_of (by decide) rfl (Nat.le_of_ble_eq_true rfl) ?_
  intro p e s m below meth c hx hb hr hml hown hin hts hlocks hsz hP hK hN hD hA hS ls hl
  have hown : s.vm.findClass RX2 = some m.cls := hown
  have hl : lv_has ls 3 [(0, .ref (a 0)), (1, .int rr), (2, .int kk)] := hl
  obtain ⟨⟨hc1, hc9⟩, hr8, hz, hab⟩ := id hI
  have hP : va_P D vwCl (wN cI a pt pd ab nw kp wy th (nI cN) (nI rN) tn) s.heap := hP
  refine lv_aload_n hx hb dX2_partAt_0 rfl (lv_at hl 0 rfl) ?_
  refine lv_iconst (v := 0) hx hb dX2_partAt_1 (by decide) ?_
  refine va_put (D := D) (ci := 2) (v := .int 0) (ty := .int) (C := RX2) (T := TX2) (N := 10) hx hb hts iw_X2_partAt_X2 tyX2 tyX2_ok nmX2 hown hK hP hD hS 0 rfl rfl 0 (by decide) (hts (.fieldLink RX2 35 "MarbleRampsModel" "thrown" "I") (mg 1 rfl)) (fun _ h9 => h9) rfl (by decide +kernel) rfl rfl (Nat.le_of_ble_eq_true rfl) dX2_partAt_2 (fun H locs hP hD hS => ?_)
  have hP : va_P D vwCl (wN cI a pt pd ab nw kp wy 0 (nI cN) (nI rN) tn) H := hP
  have hD : va_D (va_A (wN cI a pt pd ab nw kp wy th (nI cN) (nI rN) tn) sz) (wN cI a pt pd ab nw kp wy 0 (nI cN) (nI rN) tn) := hD
  refine lv_aload_n hx hb dX2_partAt_5 rfl (lv_at hl 0 rfl) ?_
  refine lv_iload_n hx hb dX2_partAt_6 rfl (lv_at hl 1 rfl) ?_
  refine lv_iload_n hx hb dX2_partAt_7 rfl (lv_at hl 2 rfl) ?_
  refine kRVi (As := [.int rr, .int kk]) (rest := []) ⟨hx, hb, hml, hown, hts⟩ (mX2_isPlace l D cI a pt pd ab nw kp wy 0 cN rN tn rr kk) (cwV 2 hts gX2_partAt_X2_isPlace rfl rfl rfl (by decide +kernel) ⟨Nat.le_of_ble_eq_true rfl, Nat.le_of_ble_eq_true rfl⟩) hP hK hN [0, 1, 2, 3, 4, 5, 6] rfl [0] rfl rfl rfl rfl hl.1 rfl (Nat.le_of_ble_eq_true rfl) dX2_partAt_8 ⟨Nat.zero_le _, Nat.zero_le _⟩ (fun r_1 hr_1 => ?_)
  subst r_1
  refine lv_if_eq (tgt := 28) hx hb dX2_partAt_11 (by decide) (fun c9 => absurd c9 (by rw [hp]; decide)) (fun c_2 => ?_)
  refine lv_aload_n hx hb dX2_partAt_14 rfl (lv_at hl 0 rfl) ?_
  refine va_get (D := D) (ci := 2) (v := .ref (a 1)) (C := RX2) (T := TX2) (N := 10) hx hb hts iw_X2_partAt_X2 hown hK hP 0 rfl rfl 3 (by decide) (hts (.fieldLink RX2 16 "MarbleRampsModel" "part" "[I") (mg 2 rfl)) (fun _ h9 => h9) rfl dX2_partAt_15 ?_
  refine lv_bipush (v := 9) hx hb dX2_partAt_18 (by decide) ?_
  refine lv_iload_n hx hb dX2_partAt_20 rfl (lv_at hl 1 rfl) ?_
  refine lv_imul hx hb dX2_partAt_21 ?_
  refine lv_iload_n hx hb dX2_partAt_22 rfl (lv_at hl 2 rfl) ?_
  refine lv_iadd hx hb dX2_partAt_23 ?_
  refine va_iald hx hb hK hP 1 0 rfl rfl (in72 (mPlace_at hp ⟨hc1, hc9⟩ hr8)) dX2_partAt_24 ?_
  refine lv_goto (tgt := 33) hx hb dX2_partAt_25 (by decide) ?_
  exact eQi () hx hb hr hlocks hP hD hK hS dX2_partAt_33 (rfl)
set_option maxHeartbeats 4000000 in
set_option maxRecDepth 100000 in
theorem mX2_partAt_1 (l : Launch) (D : va_G) (cI : ClassId) (a : Nat → Nat) (pt pd ab nw kp wy : Nat → Int32) (th : Int32) (cN rN : Nat) (tn : Int32) (rr kk : Int32) (hp : mPlace (nI rN) (nI cN) rr kk = false) (sz : Nat) : Met l yX2_partAt wsX2_partAt ({ frames := 3, cells := 0, slots := 0, locals := 65 } : Room) (va_Pc [.ref (a 0), .int rr, .int kk] (wPQ D [(cI, .int)] sz (wN cI a pt pd ab nw kp wy th (nI cN) (nI rN) tn))) (va_Qi (fun (zz : Int32) (_ : Unit) => zz = 0) (wB D [(cI, .int)] (va_A (wN cI a pt pd ab nw kp wy th (nI cN) (nI rN) tn) sz) (fun _ : Unit => (wN cI a pt pd ab nw kp wy 1 (nI cN) (nI rN) tn))) (va_A (wN cI a pt pd ab nw kp wy th (nI cN) (nI rN) tn) sz)) 0 0 (va_A (wN cI a pt pd ab nw kp wy th (nI cN) (nI rN) tn) sz) := by
  refine mQ_of (by decide) rfl (Nat.le_of_ble_eq_true rfl) ?_
  intro p e s m below meth c hx hb hr hml hown hin hts hlocks hsz hP hK hN hD hA hS ls hl
  have hown : s.vm.findClass RX2 = some m.cls := hown
  have hl : lv_has ls 3 [(0, .ref (a 0)), (1, .int rr), (2, .int kk)] := hl
  have hP : va_P D vwCl (wN cI a pt pd ab nw kp wy th (nI cN) (nI rN) tn) s.heap := hP
  refine lv_aload_n hx hb dX2_partAt_0 rfl (lv_at hl 0 rfl) ?_
  refine lv_iconst (v := 0) hx hb dX2_partAt_1 (by decide) ?_
  refine va_put (D := D) (ci := 2) (v := .int 0) (ty := .int) (C := RX2) (T := TX2) (N := 10) hx hb hts iw_X2_partAt_X2 tyX2 tyX2_ok nmX2 hown hK hP hD hS 0 rfl rfl 0 (by decide) (hts (.fieldLink RX2 35 "MarbleRampsModel" "thrown" "I") (mg 1 rfl)) (fun _ h9 => h9) rfl (by decide +kernel) rfl rfl (Nat.le_of_ble_eq_true rfl) dX2_partAt_2 (fun H locs hP hD hS => ?_)
  have hP : va_P D vwCl (wN cI a pt pd ab nw kp wy 0 (nI cN) (nI rN) tn) H := hP
  have hD : va_D (va_A (wN cI a pt pd ab nw kp wy th (nI cN) (nI rN) tn) sz) (wN cI a pt pd ab nw kp wy 0 (nI cN) (nI rN) tn) := hD
  refine lv_aload_n hx hb dX2_partAt_5 rfl (lv_at hl 0 rfl) ?_
  refine lv_iload_n hx hb dX2_partAt_6 rfl (lv_at hl 1 rfl) ?_
  refine lv_iload_n hx hb dX2_partAt_7 rfl (lv_at hl 2 rfl) ?_
  refine kRVi (As := [.int rr, .int kk]) (rest := []) ⟨hx, hb, hml, hown, hts⟩ (mX2_isPlace l D cI a pt pd ab nw kp wy 0 cN rN tn rr kk) (cwV 2 hts gX2_partAt_X2_isPlace rfl rfl rfl (by decide +kernel) ⟨Nat.le_of_ble_eq_true rfl, Nat.le_of_ble_eq_true rfl⟩) hP hK hN [0, 1, 2, 3, 4, 5, 6] rfl [0] rfl rfl rfl rfl hl.1 rfl (Nat.le_of_ble_eq_true rfl) dX2_partAt_8 ⟨Nat.zero_le _, Nat.zero_le _⟩ (fun r_1 hr_1 => ?_)
  subst r_1
  refine lv_if_eq (tgt := 28) hx hb dX2_partAt_11 (by decide) (fun c_2 => ?_) (fun c9 => absurd (by rw [hp]; decide) c9)
  refine lv_aload_n hx hb dX2_partAt_28 rfl (lv_at hl 0 rfl) ?_
  refine lv_iconst (v := 1) hx hb dX2_partAt_29 (by decide) ?_
  refine kQVi (As := [.int 1]) (rest := []) (wr := []) (W2 := (fun _ => (wN cI a pt pd ab nw kp wy 1 (nI cN) (nI rN) tn))) ⟨hx, hb, hml, hown, hts⟩ (mX2_no l D cI a pt pd ab nw kp wy 0 cN rN tn 1 _) (cwV 1 hts gX2_partAt_X2_no rfl rfl rfl (by decide +kernel) ⟨Nat.le_of_ble_eq_true rfl, Nat.le_of_ble_eq_true rfl⟩) hP hD hK hN hS hA [0, 1, 2, 3, 4, 5, 6] (by decide) rfl [] (by decide) rfl (by decide) [0, 1, 2, 3, 4, 5, 6] (by decide) (fun _ => rfl) [0] rfl rfl rfl rfl hl.1 rfl (Nat.le_of_ble_eq_true rfl) dX2_partAt_30 ⟨Nat.le_of_ble_eq_true rfl, Nat.le_of_ble_eq_true rfl⟩ (fun r_3 u_3 H locs hr_3 hP hD hS => ?_)
  subst r_3
  have hP : va_P D vwCl (wN cI a pt pd ab nw kp wy 1 (nI cN) (nI rN) tn) H := hP
  have hD : va_D (va_A (wN cI a pt pd ab nw kp wy th (nI cN) (nI rN) tn) sz) (wN cI a pt pd ab nw kp wy 1 (nI cN) (nI rN) tn) := hD
  exact eQi () hx hb hr hlocks hP hD hK hS dX2_partAt_33 (rfl)
theorem iw_X2_leadsRight_X2 : ∀ w ∈ wsX20, w ∈ wsX2_leadsRight := mem_pos [30, 31, 32, 33, 34, 35, 36, 37, 38, 39] (by decide +kernel)
set_option maxHeartbeats 4000000 in
set_option maxRecDepth 100000 in
theorem mX2_leadsRight_0 (l : Launch) (D : va_G) (cI : ClassId) (a : Nat → Nat) (pt pd ab nw kp wy : Nat → Int32) (th : Int32) (cN rN : Nat) (tn : Int32) (rr kk : Int32) (hI : mInv cN rN pt pd ab) (hp : mPlace (nI rN) (nI cN) rr kk = true) (sz : Nat) : Met l yX2_leadsRight wsX2_leadsRight ({ frames := 3, cells := 0, slots := 0, locals := 65 } : Room) (va_Pc [.ref (a 0), .int rr, .int kk] (wPQ D [(cI, .int)] sz (wN cI a pt pd ab nw kp wy th (nI cN) (nI rN) tn))) (va_Qi (fun (zz : Int32) (_ : Unit) => zz = bi (mRight pt nw (9 * rr + kk))) (wB D [(cI, .int)] (va_A (wN cI a pt pd ab nw kp wy th (nI cN) (nI rN) tn) sz) (fun _ : Unit => (wN cI a pt pd ab nw kp wy 0 (nI cN) (nI rN) tn))) (va_A (wN cI a pt pd ab nw kp wy th (nI cN) (nI rN) tn) sz)) 0 0 (va_A (wN cI a pt pd ab nw kp wy th (nI cN) (nI rN) tn) sz) := by
  refine mQ_of (by decide) rfl (Nat.le_of_ble_eq_true rfl) ?_
  intro p e s m below meth c hx hb hr hml hown hin hts hlocks hsz hP hK hN hD hA hS ls hl
  have hown : s.vm.findClass RX2 = some m.cls := hown
  have hl : lv_has ls 3 [(0, .ref (a 0)), (1, .int rr), (2, .int kk)] := hl
  obtain ⟨⟨hc1, hc9⟩, hr8, hz, hab⟩ := id hI
  have hP : va_P D vwCl (wN cI a pt pd ab nw kp wy th (nI cN) (nI rN) tn) s.heap := hP
  refine lv_aload_n hx hb dX2_leadsRight_0 rfl (lv_at hl 0 rfl) ?_
  refine lv_iconst (v := 0) hx hb dX2_leadsRight_1 (by decide) ?_
  refine va_put (D := D) (ci := 2) (v := .int 0) (ty := .int) (C := RX2) (T := TX2) (N := 10) hx hb hts iw_X2_leadsRight_X2 tyX2 tyX2_ok nmX2 hown hK hP hD hS 0 rfl rfl 0 (by decide) (hts (.fieldLink RX2 35 "MarbleRampsModel" "thrown" "I") (mg 1 rfl)) (fun _ h9 => h9) rfl (by decide +kernel) rfl rfl (Nat.le_of_ble_eq_true rfl) dX2_leadsRight_2 (fun H locs hP hD hS => ?_)
  have hP : va_P D vwCl (wN cI a pt pd ab nw kp wy 0 (nI cN) (nI rN) tn) H := hP
  have hD : va_D (va_A (wN cI a pt pd ab nw kp wy th (nI cN) (nI rN) tn) sz) (wN cI a pt pd ab nw kp wy 0 (nI cN) (nI rN) tn) := hD
  refine lv_aload_n hx hb dX2_leadsRight_5 rfl (lv_at hl 0 rfl) ?_
  refine lv_iload_n hx hb dX2_leadsRight_6 rfl (lv_at hl 1 rfl) ?_
  refine lv_iload_n hx hb dX2_leadsRight_7 rfl (lv_at hl 2 rfl) ?_
  refine kRVi (As := [.int rr, .int kk]) (rest := []) ⟨hx, hb, hml, hown, hts⟩ (mX2_isPlace l D cI a pt pd ab nw kp wy 0 cN rN tn rr kk) (cwV 2 hts gX2_leadsRight_X2_isPlace rfl rfl rfl (by decide +kernel) ⟨Nat.le_of_ble_eq_true rfl, Nat.le_of_ble_eq_true rfl⟩) hP hK hN [0, 1, 2, 3, 4, 5, 6] rfl [0] rfl rfl rfl rfl hl.1 rfl (Nat.le_of_ble_eq_true rfl) dX2_leadsRight_8 ⟨Nat.zero_le _, Nat.zero_le _⟩ (fun r_1 hr_1 => ?_)
  subst r_1
  refine lv_if_eq (tgt := 23) hx hb dX2_leadsRight_11 (by decide) (fun c9 => absurd c9 (by rw [hp]; decide)) (fun c_2 => ?_)
  refine lv_aload_n hx hb dX2_leadsRight_14 rfl (lv_at hl 0 rfl) ?_
  refine lv_iload_n hx hb dX2_leadsRight_15 rfl (lv_at hl 1 rfl) ?_
  refine lv_iload_n hx hb dX2_leadsRight_16 rfl (lv_at hl 2 rfl) ?_
  refine kRVi (As := [.int rr, .int kk]) (rest := []) ⟨hx, hb, hml, hown, hts⟩ (mX2_isRight l D cI a pt pd ab nw kp wy 0 cN rN tn rr kk (mPlace_at hp ⟨hc1, hc9⟩ hr8)) (cwV 2 hts gX2_leadsRight_X2_isRight rfl rfl rfl (by decide +kernel) ⟨Nat.le_of_ble_eq_true rfl, Nat.le_of_ble_eq_true rfl⟩) hP hK hN [0, 1, 2, 3, 4, 5, 6] rfl [0] rfl rfl rfl rfl hl.1 rfl (Nat.le_of_ble_eq_true rfl) dX2_leadsRight_17 ⟨Nat.zero_le _, Nat.zero_le _⟩ (fun r_3 hr_3 => ?_)
  subst r_3
  refine lv_goto (tgt := 28) hx hb dX2_leadsRight_20 (by decide) ?_
  exact eQz () hx hb hr hlocks hP hD hK hS dX2_leadsRight_28 (bi01 _) (rfl)
set_option maxHeartbeats 4000000 in
set_option maxRecDepth 100000 in
theorem mX2_leadsRight_1 (l : Launch) (D : va_G) (cI : ClassId) (a : Nat → Nat) (pt pd ab nw kp wy : Nat → Int32) (th : Int32) (cN rN : Nat) (tn : Int32) (rr kk : Int32) (hp : mPlace (nI rN) (nI cN) rr kk = false) (sz : Nat) : Met l yX2_leadsRight wsX2_leadsRight ({ frames := 3, cells := 0, slots := 0, locals := 65 } : Room) (va_Pc [.ref (a 0), .int rr, .int kk] (wPQ D [(cI, .int)] sz (wN cI a pt pd ab nw kp wy th (nI cN) (nI rN) tn))) (va_Qi (fun (zz : Int32) (_ : Unit) => zz = 0) (wB D [(cI, .int)] (va_A (wN cI a pt pd ab nw kp wy th (nI cN) (nI rN) tn) sz) (fun _ : Unit => (wN cI a pt pd ab nw kp wy 1 (nI cN) (nI rN) tn))) (va_A (wN cI a pt pd ab nw kp wy th (nI cN) (nI rN) tn) sz)) 0 0 (va_A (wN cI a pt pd ab nw kp wy th (nI cN) (nI rN) tn) sz) := by
  refine mQ_of (by decide) rfl (Nat.le_of_ble_eq_true rfl) ?_
  intro p e s m below meth c hx hb hr hml hown hin hts hlocks hsz hP hK hN hD hA hS ls hl
  have hown : s.vm.findClass RX2 = some m.cls := hown
  have hl : lv_has ls 3 [(0, .ref (a 0)), (1, .int rr), (2, .int kk)] := hl
  have hP : va_P D vwCl (wN cI a pt pd ab nw kp wy th (nI cN) (nI rN) tn) s.heap := hP
  refine lv_aload_n hx hb dX2_leadsRight_0 rfl (lv_at hl 0 rfl) ?_
  refine lv_iconst (v := 0) hx hb dX2_leadsRight_1 (by decide) ?_
  refine va_put (D := D) (ci := 2) (v := .int 0) (ty := .int) (C := RX2) (T := TX2) (N := 10) hx hb hts iw_X2_leadsRight_X2 tyX2 tyX2_ok nmX2 hown hK hP hD hS 0 rfl rfl 0 (by decide) (hts (.fieldLink RX2 35 "MarbleRampsModel" "thrown" "I") (mg 1 rfl)) (fun _ h9 => h9) rfl (by decide +kernel) rfl rfl (Nat.le_of_ble_eq_true rfl) dX2_leadsRight_2 (fun H locs hP hD hS => ?_)
  have hP : va_P D vwCl (wN cI a pt pd ab nw kp wy 0 (nI cN) (nI rN) tn) H := hP
  have hD : va_D (va_A (wN cI a pt pd ab nw kp wy th (nI cN) (nI rN) tn) sz) (wN cI a pt pd ab nw kp wy 0 (nI cN) (nI rN) tn) := hD
  refine lv_aload_n hx hb dX2_leadsRight_5 rfl (lv_at hl 0 rfl) ?_
  refine lv_iload_n hx hb dX2_leadsRight_6 rfl (lv_at hl 1 rfl) ?_
  refine lv_iload_n hx hb dX2_leadsRight_7 rfl (lv_at hl 2 rfl) ?_
  refine kRVi (As := [.int rr, .int kk]) (rest := []) ⟨hx, hb, hml, hown, hts⟩ (mX2_isPlace l D cI a pt pd ab nw kp wy 0 cN rN tn rr kk) (cwV 2 hts gX2_leadsRight_X2_isPlace rfl rfl rfl (by decide +kernel) ⟨Nat.le_of_ble_eq_true rfl, Nat.le_of_ble_eq_true rfl⟩) hP hK hN [0, 1, 2, 3, 4, 5, 6] rfl [0] rfl rfl rfl rfl hl.1 rfl (Nat.le_of_ble_eq_true rfl) dX2_leadsRight_8 ⟨Nat.zero_le _, Nat.zero_le _⟩ (fun r_1 hr_1 => ?_)
  subst r_1
  refine lv_if_eq (tgt := 23) hx hb dX2_leadsRight_11 (by decide) (fun c_2 => ?_) (fun c9 => absurd (by rw [hp]; decide) c9)
  refine lv_aload_n hx hb dX2_leadsRight_23 rfl (lv_at hl 0 rfl) ?_
  refine lv_iconst (v := 1) hx hb dX2_leadsRight_24 (by decide) ?_
  refine kQVi (As := [.int 1]) (rest := []) (wr := []) (W2 := (fun _ => (wN cI a pt pd ab nw kp wy 1 (nI cN) (nI rN) tn))) ⟨hx, hb, hml, hown, hts⟩ (mX2_isNot l D cI a pt pd ab nw kp wy 0 cN rN tn 1 _) (cwV 1 hts gX2_leadsRight_X2_isNot rfl rfl rfl (by decide +kernel) ⟨Nat.le_of_ble_eq_true rfl, Nat.le_of_ble_eq_true rfl⟩) hP hD hK hN hS hA [0, 1, 2, 3, 4, 5, 6] (by decide) rfl [] (by decide) rfl (by decide) [0, 1, 2, 3, 4, 5, 6] (by decide) (fun _ => rfl) [0] rfl rfl rfl rfl hl.1 rfl (Nat.le_of_ble_eq_true rfl) dX2_leadsRight_25 ⟨Nat.le_of_ble_eq_true rfl, Nat.le_of_ble_eq_true rfl⟩ (fun r_3 u_3 H locs hr_3 hP hD hS => ?_)
  subst r_3
  have hP : va_P D vwCl (wN cI a pt pd ab nw kp wy 1 (nI cN) (nI rN) tn) H := hP
  have hD : va_D (va_A (wN cI a pt pd ab nw kp wy th (nI cN) (nI rN) tn) sz) (wN cI a pt pd ab nw kp wy 1 (nI cN) (nI rN) tn) := hD
  exact eQz () hx hb hr hlocks hP hD hK hS dX2_leadsRight_28 (Or.inl rfl) (rfl)
theorem iw_X2_countAt_X2 : ∀ w ∈ wsX20, w ∈ wsX2_countAt := mem_pos [30, 31, 32, 33, 34, 35, 36, 37, 38, 39] (by decide +kernel)
set_option maxHeartbeats 4000000 in
set_option maxRecDepth 100000 in
theorem mX2_countAt_0 (l : Launch) (D : va_G) (cI : ClassId) (a : Nat → Nat) (pt pd ab nw kp wy : Nat → Int32) (th : Int32) (cN rN : Nat) (tn : Int32) (rr kk : Int32) (hI : mInv cN rN pt pd ab) (hp : mPlace (nI rN) (nI cN) rr kk = true) (sz : Nat) : Met l yX2_countAt wsX2_countAt ({ frames := 3, cells := 0, slots := 0, locals := 65 } : Room) (va_Pc [.ref (a 0), .int rr, .int kk] (wPQ D [(cI, .int)] sz (wN cI a pt pd ab nw kp wy th (nI cN) (nI rN) tn))) (va_Qi (fun (zz : Int32) (_ : Unit) => zz = mCnt pt nw (9 * rr + kk)) (wB D [(cI, .int)] (va_A (wN cI a pt pd ab nw kp wy th (nI cN) (nI rN) tn) sz) (fun _ : Unit => (wN cI a pt pd ab nw kp wy 0 (nI cN) (nI rN) tn))) (va_A (wN cI a pt pd ab nw kp wy th (nI cN) (nI rN) tn) sz)) 0 0 (va_A (wN cI a pt pd ab nw kp wy th (nI cN) (nI rN) tn) sz) := by
  refine mQ_of (by decide) rfl (Nat.le_of_ble_eq_true rfl) ?_
  intro p e s m below meth c hx hb hr hml hown hin hts hlocks hsz hP hK hN hD hA hS ls hl
  have hown : s.vm.findClass RX2 = some m.cls := hown
  have hl : lv_has ls 3 [(0, .ref (a 0)), (1, .int rr), (2, .int kk)] := hl
  obtain ⟨⟨hc1, hc9⟩, hr8, hz, hab⟩ := id hI
  have hP : va_P D vwCl (wN cI a pt pd ab nw kp wy th (nI cN) (nI rN) tn) s.heap := hP
  refine lv_aload_n hx hb dX2_countAt_0 rfl (lv_at hl 0 rfl) ?_
  refine lv_iconst (v := 0) hx hb dX2_countAt_1 (by decide) ?_
  refine va_put (D := D) (ci := 2) (v := .int 0) (ty := .int) (C := RX2) (T := TX2) (N := 10) hx hb hts iw_X2_countAt_X2 tyX2 tyX2_ok nmX2 hown hK hP hD hS 0 rfl rfl 0 (by decide) (hts (.fieldLink RX2 35 "MarbleRampsModel" "thrown" "I") (mg 1 rfl)) (fun _ h9 => h9) rfl (by decide +kernel) rfl rfl (Nat.le_of_ble_eq_true rfl) dX2_countAt_2 (fun H locs hP hD hS => ?_)
  have hP : va_P D vwCl (wN cI a pt pd ab nw kp wy 0 (nI cN) (nI rN) tn) H := hP
  have hD : va_D (va_A (wN cI a pt pd ab nw kp wy th (nI cN) (nI rN) tn) sz) (wN cI a pt pd ab nw kp wy 0 (nI cN) (nI rN) tn) := hD
  refine lv_aload_n hx hb dX2_countAt_5 rfl (lv_at hl 0 rfl) ?_
  refine lv_iload_n hx hb dX2_countAt_6 rfl (lv_at hl 1 rfl) ?_
  refine lv_iload_n hx hb dX2_countAt_7 rfl (lv_at hl 2 rfl) ?_
  refine kRVi (As := [.int rr, .int kk]) (rest := []) ⟨hx, hb, hml, hown, hts⟩ (mX2_isPlace l D cI a pt pd ab nw kp wy 0 cN rN tn rr kk) (cwV 2 hts gX2_countAt_X2_isPlace rfl rfl rfl (by decide +kernel) ⟨Nat.le_of_ble_eq_true rfl, Nat.le_of_ble_eq_true rfl⟩) hP hK hN [0, 1, 2, 3, 4, 5, 6] rfl [0] rfl rfl rfl rfl hl.1 rfl (Nat.le_of_ble_eq_true rfl) dX2_countAt_8 ⟨Nat.zero_le _, Nat.zero_le _⟩ (fun r_1 hr_1 => ?_)
  subst r_1
  refine lv_if_eq (tgt := 23) hx hb dX2_countAt_11 (by decide) (fun c9 => absurd c9 (by rw [hp]; decide)) (fun c_2 => ?_)
  refine lv_aload_n hx hb dX2_countAt_14 rfl (lv_at hl 0 rfl) ?_
  refine lv_iload_n hx hb dX2_countAt_15 rfl (lv_at hl 1 rfl) ?_
  refine lv_iload_n hx hb dX2_countAt_16 rfl (lv_at hl 2 rfl) ?_
  refine kRVi (As := [.int rr, .int kk]) (rest := []) ⟨hx, hb, hml, hown, hts⟩ (mX2_counted l D cI a pt pd ab nw kp wy 0 cN rN tn rr kk (mPlace_at hp ⟨hc1, hc9⟩ hr8)) (cwV 2 hts gX2_countAt_X2_counted rfl rfl rfl (by decide +kernel) ⟨Nat.le_of_ble_eq_true rfl, Nat.le_of_ble_eq_true rfl⟩) hP hK hN [0, 1, 2, 3, 4, 5, 6] rfl [0] rfl rfl rfl rfl hl.1 rfl (Nat.le_of_ble_eq_true rfl) dX2_countAt_17 ⟨Nat.zero_le _, Nat.zero_le _⟩ (fun r_3 hr_3 => ?_)
  subst r_3
  refine lv_goto (tgt := 28) hx hb dX2_countAt_20 (by decide) ?_
  exact eQi () hx hb hr hlocks hP hD hK hS dX2_countAt_28 (rfl)
set_option maxHeartbeats 4000000 in
set_option maxRecDepth 100000 in
theorem mX2_countAt_1 (l : Launch) (D : va_G) (cI : ClassId) (a : Nat → Nat) (pt pd ab nw kp wy : Nat → Int32) (th : Int32) (cN rN : Nat) (tn : Int32) (rr kk : Int32) (hp : mPlace (nI rN) (nI cN) rr kk = false) (sz : Nat) : Met l yX2_countAt wsX2_countAt ({ frames := 3, cells := 0, slots := 0, locals := 65 } : Room) (va_Pc [.ref (a 0), .int rr, .int kk] (wPQ D [(cI, .int)] sz (wN cI a pt pd ab nw kp wy th (nI cN) (nI rN) tn))) (va_Qi (fun (zz : Int32) (_ : Unit) => zz = 0) (wB D [(cI, .int)] (va_A (wN cI a pt pd ab nw kp wy th (nI cN) (nI rN) tn) sz) (fun _ : Unit => (wN cI a pt pd ab nw kp wy 1 (nI cN) (nI rN) tn))) (va_A (wN cI a pt pd ab nw kp wy th (nI cN) (nI rN) tn) sz)) 0 0 (va_A (wN cI a pt pd ab nw kp wy th (nI cN) (nI rN) tn) sz) := by
  refine mQ_of (by decide) rfl (Nat.le_of_ble_eq_true rfl) ?_
  intro p e s m below meth c hx hb hr hml hown hin hts hlocks hsz hP hK hN hD hA hS ls hl
  have hown : s.vm.findClass RX2 = some m.cls := hown
  have hl : lv_has ls 3 [(0, .ref (a 0)), (1, .int rr), (2, .int kk)] := hl
  have hP : va_P D vwCl (wN cI a pt pd ab nw kp wy th (nI cN) (nI rN) tn) s.heap := hP
  refine lv_aload_n hx hb dX2_countAt_0 rfl (lv_at hl 0 rfl) ?_
  refine lv_iconst (v := 0) hx hb dX2_countAt_1 (by decide) ?_
  refine va_put (D := D) (ci := 2) (v := .int 0) (ty := .int) (C := RX2) (T := TX2) (N := 10) hx hb hts iw_X2_countAt_X2 tyX2 tyX2_ok nmX2 hown hK hP hD hS 0 rfl rfl 0 (by decide) (hts (.fieldLink RX2 35 "MarbleRampsModel" "thrown" "I") (mg 1 rfl)) (fun _ h9 => h9) rfl (by decide +kernel) rfl rfl (Nat.le_of_ble_eq_true rfl) dX2_countAt_2 (fun H locs hP hD hS => ?_)
  have hP : va_P D vwCl (wN cI a pt pd ab nw kp wy 0 (nI cN) (nI rN) tn) H := hP
  have hD : va_D (va_A (wN cI a pt pd ab nw kp wy th (nI cN) (nI rN) tn) sz) (wN cI a pt pd ab nw kp wy 0 (nI cN) (nI rN) tn) := hD
  refine lv_aload_n hx hb dX2_countAt_5 rfl (lv_at hl 0 rfl) ?_
  refine lv_iload_n hx hb dX2_countAt_6 rfl (lv_at hl 1 rfl) ?_
  refine lv_iload_n hx hb dX2_countAt_7 rfl (lv_at hl 2 rfl) ?_
  refine kRVi (As := [.int rr, .int kk]) (rest := []) ⟨hx, hb, hml, hown, hts⟩ (mX2_isPlace l D cI a pt pd ab nw kp wy 0 cN rN tn rr kk) (cwV 2 hts gX2_countAt_X2_isPlace rfl rfl rfl (by decide +kernel) ⟨Nat.le_of_ble_eq_true rfl, Nat.le_of_ble_eq_true rfl⟩) hP hK hN [0, 1, 2, 3, 4, 5, 6] rfl [0] rfl rfl rfl rfl hl.1 rfl (Nat.le_of_ble_eq_true rfl) dX2_countAt_8 ⟨Nat.zero_le _, Nat.zero_le _⟩ (fun r_1 hr_1 => ?_)
  subst r_1
  refine lv_if_eq (tgt := 23) hx hb dX2_countAt_11 (by decide) (fun c_2 => ?_) (fun c9 => absurd (by rw [hp]; decide) c9)
  refine lv_aload_n hx hb dX2_countAt_23 rfl (lv_at hl 0 rfl) ?_
  refine lv_iconst (v := 1) hx hb dX2_countAt_24 (by decide) ?_
  refine kQVi (As := [.int 1]) (rest := []) (wr := []) (W2 := (fun _ => (wN cI a pt pd ab nw kp wy 1 (nI cN) (nI rN) tn))) ⟨hx, hb, hml, hown, hts⟩ (mX2_no l D cI a pt pd ab nw kp wy 0 cN rN tn 1 _) (cwV 1 hts gX2_countAt_X2_no rfl rfl rfl (by decide +kernel) ⟨Nat.le_of_ble_eq_true rfl, Nat.le_of_ble_eq_true rfl⟩) hP hD hK hN hS hA [0, 1, 2, 3, 4, 5, 6] (by decide) rfl [] (by decide) rfl (by decide) [0, 1, 2, 3, 4, 5, 6] (by decide) (fun _ => rfl) [0] rfl rfl rfl rfl hl.1 rfl (Nat.le_of_ble_eq_true rfl) dX2_countAt_25 ⟨Nat.le_of_ble_eq_true rfl, Nat.le_of_ble_eq_true rfl⟩ (fun r_3 u_3 H locs hr_3 hP hD hS => ?_)
  subst r_3
  have hP : va_P D vwCl (wN cI a pt pd ab nw kp wy 1 (nI cN) (nI rN) tn) H := hP
  have hD : va_D (va_A (wN cI a pt pd ab nw kp wy th (nI cN) (nI rN) tn) sz) (wN cI a pt pd ab nw kp wy 1 (nI cN) (nI rN) tn) := hD
  exact eQi () hx hb hr hlocks hP hD hK hS dX2_countAt_28 (rfl)
theorem iw_X2_put_X2 : ∀ w ∈ wsX20, w ∈ wsX2_put := mem_pos [30, 31, 32, 33, 34, 35, 36, 37, 38, 39] (by decide +kernel)
set_option maxHeartbeats 4000000 in
set_option maxRecDepth 100000 in
theorem mX2_put_0 (l : Launch) (D : va_G) (cI : ClassId) (a : Nat → Nat) (pt pd ab nw kp wy : Nat → Int32) (th : Int32) (cN rN : Nat) (tn : Int32) (rr kk np : Int32) (hI : mInv cN rN pt pd ab) (hp : mPlace (nI rN) (nI cN) rr kk = true) (hq : mFrom np 0 4 = true) (sz : Nat) : Met l yX2_put wsX2_put ({ frames := 3, cells := 0, slots := 0, locals := 65 } : Room) (va_Pc [.ref (a 0), .int rr, .int kk, .int np] (wPQ D [(cI, .int)] sz (wN cI a pt pd ab nw kp wy th (nI cN) (nI rN) tn))) (va_Qi (fun (zz : Int32) (_ : Unit) => zz = pt (9 * rr + kk).toNatClampNeg) (wB D [(cI, .int)] (va_A (wN cI a pt pd ab nw kp wy th (nI cN) (nI rN) tn) sz) (fun _ : Unit => (wN cI a ((upd pt (9 * rr + kk).toNatClampNeg np)) pd ab ((upd nw (9 * rr + kk).toNatClampNeg 0)) kp wy 0 (nI cN) (nI rN) tn))) (va_A (wN cI a pt pd ab nw kp wy th (nI cN) (nI rN) tn) sz)) 0 0 (va_A (wN cI a pt pd ab nw kp wy th (nI cN) (nI rN) tn) sz) := by
  refine mQ_of (by decide) rfl (Nat.le_of_ble_eq_true rfl) ?_
  intro p e s m below meth c hx hb hr hml hown hin hts hlocks hsz hP hK hN hD hA hS ls hl
  have hown : s.vm.findClass RX2 = some m.cls := hown
  have hl : lv_has ls 4 [(0, .ref (a 0)), (1, .int rr), (2, .int kk), (3, .int np)] := hl
  obtain ⟨⟨hc1, hc9⟩, hr8, hz, hab⟩ := id hI
  have hP : va_P D vwCl (wN cI a pt pd ab nw kp wy th (nI cN) (nI rN) tn) s.heap := hP
  refine lv_aload_n hx hb dX2_put_0 rfl (lv_at hl 0 rfl) ?_
  refine lv_iconst (v := 0) hx hb dX2_put_1 (by decide) ?_
  refine va_put (D := D) (ci := 2) (v := .int 0) (ty := .int) (C := RX2) (T := TX2) (N := 10) hx hb hts iw_X2_put_X2 tyX2 tyX2_ok nmX2 hown hK hP hD hS 0 rfl rfl 0 (by decide) (hts (.fieldLink RX2 35 "MarbleRampsModel" "thrown" "I") (mg 1 rfl)) (fun _ h9 => h9) rfl (by decide +kernel) rfl rfl (Nat.le_of_ble_eq_true rfl) dX2_put_2 (fun H locs hP hD hS => ?_)
  have hP : va_P D vwCl (wN cI a pt pd ab nw kp wy 0 (nI cN) (nI rN) tn) H := hP
  have hD : va_D (va_A (wN cI a pt pd ab nw kp wy th (nI cN) (nI rN) tn) sz) (wN cI a pt pd ab nw kp wy 0 (nI cN) (nI rN) tn) := hD
  refine lv_aload_n hx hb dX2_put_5 rfl (lv_at hl 0 rfl) ?_
  refine lv_iload_n hx hb dX2_put_6 rfl (lv_at hl 1 rfl) ?_
  refine lv_iload_n hx hb dX2_put_7 rfl (lv_at hl 2 rfl) ?_
  refine kRVi (As := [.int rr, .int kk]) (rest := []) ⟨hx, hb, hml, hown, hts⟩ (mX2_isPlace l D cI a pt pd ab nw kp wy 0 cN rN tn rr kk) (cwV 2 hts gX2_put_X2_isPlace rfl rfl rfl (by decide +kernel) ⟨Nat.le_of_ble_eq_true rfl, Nat.le_of_ble_eq_true rfl⟩) hP hK hN [0, 1, 2, 3, 4, 5, 6] rfl [0] rfl rfl rfl rfl hl.1 rfl (Nat.le_of_ble_eq_true rfl) dX2_put_8 ⟨Nat.zero_le _, Nat.zero_le _⟩ (fun r_1 hr_1 => ?_)
  subst r_1
  refine lv_if_ne (tgt := 20) hx hb dX2_put_11 (by decide) (fun c_2 => ?_) (fun c9 => absurd c9 (by rw [hp]; decide))
  refine lv_iload_n hx hb dX2_put_20 rfl (lv_at hl 3 rfl) ?_
  refine lv_iconst (v := 0) hx hb dX2_put_21 (by decide) ?_
  refine lv_iconst (v := 4) hx hb dX2_put_22 (by decide) ?_
  refine kRSi (As := [.int np, .int 0, .int 4]) (rest := []) ⟨hx, hb, hml, hown, hts⟩ (mX2_isFrom l D cI np 0 4) (va_cwS 3 hts gX2_put_X2_isFrom rfl rfl rfl (by decide +kernel) ⟨Nat.le_of_ble_eq_true rfl, Nat.le_of_ble_eq_true rfl⟩) hP hK hN [] rfl [0] rfl rfl hl.1 rfl (Nat.le_of_ble_eq_true rfl) dX2_put_23 ⟨Nat.zero_le _, Nat.zero_le _⟩ (fun r_3 hr_3 => ?_)
  subst r_3
  refine lv_if_eq (tgt := 39) hx hb dX2_put_26 (by decide) (fun c9 => absurd c9 (by rw [hq]; decide)) (fun c_4 => ?_)
  refine lv_aload_n hx hb dX2_put_29 rfl (lv_at hl 0 rfl) ?_
  refine lv_iload_n hx hb dX2_put_30 rfl (lv_at hl 1 rfl) ?_
  refine lv_iload_n hx hb dX2_put_31 rfl (lv_at hl 2 rfl) ?_
  refine lv_iload_n hx hb dX2_put_32 rfl (lv_at hl 3 rfl) ?_
  refine kQVi (As := [.int rr, .int kk, .int np]) (rest := []) (wr := []) (W2 := (fun _ => (wN cI a ((upd pt (9 * rr + kk).toNatClampNeg np)) pd ab ((upd nw (9 * rr + kk).toNatClampNeg 0)) kp wy 0 (nI cN) (nI rN) tn))) ⟨hx, hb, hml, hown, hts⟩ (mX2_placed l D cI a pt pd ab nw kp wy 0 cN rN tn rr kk np (mPlace_at hp ⟨hc1, hc9⟩ hr8) _) (cwV 3 hts gX2_put_X2_placed rfl rfl rfl (by decide +kernel) ⟨Nat.le_of_ble_eq_true rfl, Nat.le_of_ble_eq_true rfl⟩) hP hD hK hN hS hA [0, 1, 2, 3, 4, 5, 6] (by decide) rfl [] (by decide) rfl (by decide) [0, 1, 2, 3, 4, 5, 6] (by decide) (fun _ => rfl) [0] rfl rfl rfl rfl hl.1 rfl (Nat.le_of_ble_eq_true rfl) dX2_put_33 ⟨Nat.le_of_ble_eq_true rfl, Nat.le_of_ble_eq_true rfl⟩ (fun r_5 u_5 H locs hr_5 hP hD hS => ?_)
  subst r_5
  have hP : va_P D vwCl (wN cI a ((upd pt (9 * rr + kk).toNatClampNeg np)) pd ab ((upd nw (9 * rr + kk).toNatClampNeg 0)) kp wy 0 (nI cN) (nI rN) tn) H := hP
  have hD : va_D (va_A (wN cI a pt pd ab nw kp wy th (nI cN) (nI rN) tn) sz) (wN cI a ((upd pt (9 * rr + kk).toNatClampNeg np)) pd ab ((upd nw (9 * rr + kk).toNatClampNeg 0)) kp wy 0 (nI cN) (nI rN) tn) := hD
  refine lv_goto (tgt := 44) hx hb dX2_put_36 (by decide) ?_
  exact eQi () hx hb hr hlocks hP hD hK hS dX2_put_44 (rfl)
set_option maxHeartbeats 4000000 in
set_option maxRecDepth 100000 in
theorem mX2_put_1 (l : Launch) (D : va_G) (cI : ClassId) (a : Nat → Nat) (pt pd ab nw kp wy : Nat → Int32) (th : Int32) (cN rN : Nat) (tn : Int32) (rr kk np : Int32) (hp : mPlace (nI rN) (nI cN) rr kk = false) (sz : Nat) : Met l yX2_put wsX2_put ({ frames := 3, cells := 0, slots := 0, locals := 65 } : Room) (va_Pc [.ref (a 0), .int rr, .int kk, .int np] (wPQ D [(cI, .int)] sz (wN cI a pt pd ab nw kp wy th (nI cN) (nI rN) tn))) (va_Qi (fun (zz : Int32) (_ : Unit) => zz = 0) (wB D [(cI, .int)] (va_A (wN cI a pt pd ab nw kp wy th (nI cN) (nI rN) tn) sz) (fun _ : Unit => (wN cI a pt pd ab nw kp wy 1 (nI cN) (nI rN) tn))) (va_A (wN cI a pt pd ab nw kp wy th (nI cN) (nI rN) tn) sz)) 0 0 (va_A (wN cI a pt pd ab nw kp wy th (nI cN) (nI rN) tn) sz) := by
  refine mQ_of (by decide) rfl (Nat.le_of_ble_eq_true rfl) ?_
  intro p e s m below meth c hx hb hr hml hown hin hts hlocks hsz hP hK hN hD hA hS ls hl
  have hown : s.vm.findClass RX2 = some m.cls := hown
  have hl : lv_has ls 4 [(0, .ref (a 0)), (1, .int rr), (2, .int kk), (3, .int np)] := hl
  have hP : va_P D vwCl (wN cI a pt pd ab nw kp wy th (nI cN) (nI rN) tn) s.heap := hP
  refine lv_aload_n hx hb dX2_put_0 rfl (lv_at hl 0 rfl) ?_
  refine lv_iconst (v := 0) hx hb dX2_put_1 (by decide) ?_
  refine va_put (D := D) (ci := 2) (v := .int 0) (ty := .int) (C := RX2) (T := TX2) (N := 10) hx hb hts iw_X2_put_X2 tyX2 tyX2_ok nmX2 hown hK hP hD hS 0 rfl rfl 0 (by decide) (hts (.fieldLink RX2 35 "MarbleRampsModel" "thrown" "I") (mg 1 rfl)) (fun _ h9 => h9) rfl (by decide +kernel) rfl rfl (Nat.le_of_ble_eq_true rfl) dX2_put_2 (fun H locs hP hD hS => ?_)
  have hP : va_P D vwCl (wN cI a pt pd ab nw kp wy 0 (nI cN) (nI rN) tn) H := hP
  have hD : va_D (va_A (wN cI a pt pd ab nw kp wy th (nI cN) (nI rN) tn) sz) (wN cI a pt pd ab nw kp wy 0 (nI cN) (nI rN) tn) := hD
  refine lv_aload_n hx hb dX2_put_5 rfl (lv_at hl 0 rfl) ?_
  refine lv_iload_n hx hb dX2_put_6 rfl (lv_at hl 1 rfl) ?_
  refine lv_iload_n hx hb dX2_put_7 rfl (lv_at hl 2 rfl) ?_
  refine kRVi (As := [.int rr, .int kk]) (rest := []) ⟨hx, hb, hml, hown, hts⟩ (mX2_isPlace l D cI a pt pd ab nw kp wy 0 cN rN tn rr kk) (cwV 2 hts gX2_put_X2_isPlace rfl rfl rfl (by decide +kernel) ⟨Nat.le_of_ble_eq_true rfl, Nat.le_of_ble_eq_true rfl⟩) hP hK hN [0, 1, 2, 3, 4, 5, 6] rfl [0] rfl rfl rfl rfl hl.1 rfl (Nat.le_of_ble_eq_true rfl) dX2_put_8 ⟨Nat.zero_le _, Nat.zero_le _⟩ (fun r_1 hr_1 => ?_)
  subst r_1
  refine lv_if_ne (tgt := 20) hx hb dX2_put_11 (by decide) (fun c9 => absurd (by rw [hp]; decide) c9) (fun c_2 => ?_)
  refine lv_aload_n hx hb dX2_put_14 rfl (lv_at hl 0 rfl) ?_
  refine lv_iconst (v := 1) hx hb dX2_put_15 (by decide) ?_
  refine kQVi (As := [.int 1]) (rest := []) (wr := []) (W2 := (fun _ => (wN cI a pt pd ab nw kp wy 1 (nI cN) (nI rN) tn))) ⟨hx, hb, hml, hown, hts⟩ (mX2_no l D cI a pt pd ab nw kp wy 0 cN rN tn 1 _) (cwV 1 hts gX2_put_X2_no rfl rfl rfl (by decide +kernel) ⟨Nat.le_of_ble_eq_true rfl, Nat.le_of_ble_eq_true rfl⟩) hP hD hK hN hS hA [0, 1, 2, 3, 4, 5, 6] (by decide) rfl [] (by decide) rfl (by decide) [0, 1, 2, 3, 4, 5, 6] (by decide) (fun _ => rfl) [0] rfl rfl rfl rfl hl.1 rfl (Nat.le_of_ble_eq_true rfl) dX2_put_16 ⟨Nat.le_of_ble_eq_true rfl, Nat.le_of_ble_eq_true rfl⟩ (fun r_3 u_3 H locs hr_3 hP hD hS => ?_)
  subst r_3
  have hP : va_P D vwCl (wN cI a pt pd ab nw kp wy 1 (nI cN) (nI rN) tn) H := hP
  have hD : va_D (va_A (wN cI a pt pd ab nw kp wy th (nI cN) (nI rN) tn) sz) (wN cI a pt pd ab nw kp wy 1 (nI cN) (nI rN) tn) := hD
  exact eQi () hx hb hr hlocks hP hD hK hS dX2_put_19 (rfl)
set_option maxHeartbeats 4000000 in
set_option maxRecDepth 100000 in
theorem mX2_put_2 (l : Launch) (D : va_G) (cI : ClassId) (a : Nat → Nat) (pt pd ab nw kp wy : Nat → Int32) (th : Int32) (cN rN : Nat) (tn : Int32) (rr kk np : Int32) (hp : mPlace (nI rN) (nI cN) rr kk = true) (hq : mFrom np 0 4 = false) (sz : Nat) : Met l yX2_put wsX2_put ({ frames := 3, cells := 0, slots := 0, locals := 65 } : Room) (va_Pc [.ref (a 0), .int rr, .int kk, .int np] (wPQ D [(cI, .int)] sz (wN cI a pt pd ab nw kp wy th (nI cN) (nI rN) tn))) (va_Qi (fun (zz : Int32) (_ : Unit) => zz = 0) (wB D [(cI, .int)] (va_A (wN cI a pt pd ab nw kp wy th (nI cN) (nI rN) tn) sz) (fun _ : Unit => (wN cI a pt pd ab nw kp wy 2 (nI cN) (nI rN) tn))) (va_A (wN cI a pt pd ab nw kp wy th (nI cN) (nI rN) tn) sz)) 0 0 (va_A (wN cI a pt pd ab nw kp wy th (nI cN) (nI rN) tn) sz) := by
  refine mQ_of (by decide) rfl (Nat.le_of_ble_eq_true rfl) ?_
  intro p e s m below meth c hx hb hr hml hown hin hts hlocks hsz hP hK hN hD hA hS ls hl
  have hown : s.vm.findClass RX2 = some m.cls := hown
  have hl : lv_has ls 4 [(0, .ref (a 0)), (1, .int rr), (2, .int kk), (3, .int np)] := hl
  have hP : va_P D vwCl (wN cI a pt pd ab nw kp wy th (nI cN) (nI rN) tn) s.heap := hP
  refine lv_aload_n hx hb dX2_put_0 rfl (lv_at hl 0 rfl) ?_
  refine lv_iconst (v := 0) hx hb dX2_put_1 (by decide) ?_
  refine va_put (D := D) (ci := 2) (v := .int 0) (ty := .int) (C := RX2) (T := TX2) (N := 10) hx hb hts iw_X2_put_X2 tyX2 tyX2_ok nmX2 hown hK hP hD hS 0 rfl rfl 0 (by decide) (hts (.fieldLink RX2 35 "MarbleRampsModel" "thrown" "I") (mg 1 rfl)) (fun _ h9 => h9) rfl (by decide +kernel) rfl rfl (Nat.le_of_ble_eq_true rfl) dX2_put_2 (fun H locs hP hD hS => ?_)
  have hP : va_P D vwCl (wN cI a pt pd ab nw kp wy 0 (nI cN) (nI rN) tn) H := hP
  have hD : va_D (va_A (wN cI a pt pd ab nw kp wy th (nI cN) (nI rN) tn) sz) (wN cI a pt pd ab nw kp wy 0 (nI cN) (nI rN) tn) := hD
  refine lv_aload_n hx hb dX2_put_5 rfl (lv_at hl 0 rfl) ?_
  refine lv_iload_n hx hb dX2_put_6 rfl (lv_at hl 1 rfl) ?_
  refine lv_iload_n hx hb dX2_put_7 rfl (lv_at hl 2 rfl) ?_
  refine kRVi (As := [.int rr, .int kk]) (rest := []) ⟨hx, hb, hml, hown, hts⟩ (mX2_isPlace l D cI a pt pd ab nw kp wy 0 cN rN tn rr kk) (cwV 2 hts gX2_put_X2_isPlace rfl rfl rfl (by decide +kernel) ⟨Nat.le_of_ble_eq_true rfl, Nat.le_of_ble_eq_true rfl⟩) hP hK hN [0, 1, 2, 3, 4, 5, 6] rfl [0] rfl rfl rfl rfl hl.1 rfl (Nat.le_of_ble_eq_true rfl) dX2_put_8 ⟨Nat.zero_le _, Nat.zero_le _⟩ (fun r_1 hr_1 => ?_)
  subst r_1
  refine lv_if_ne (tgt := 20) hx hb dX2_put_11 (by decide) (fun c_2 => ?_) (fun c9 => absurd c9 (by rw [hp]; decide))
  refine lv_iload_n hx hb dX2_put_20 rfl (lv_at hl 3 rfl) ?_
  refine lv_iconst (v := 0) hx hb dX2_put_21 (by decide) ?_
  refine lv_iconst (v := 4) hx hb dX2_put_22 (by decide) ?_
  refine kRSi (As := [.int np, .int 0, .int 4]) (rest := []) ⟨hx, hb, hml, hown, hts⟩ (mX2_isFrom l D cI np 0 4) (va_cwS 3 hts gX2_put_X2_isFrom rfl rfl rfl (by decide +kernel) ⟨Nat.le_of_ble_eq_true rfl, Nat.le_of_ble_eq_true rfl⟩) hP hK hN [] rfl [0] rfl rfl hl.1 rfl (Nat.le_of_ble_eq_true rfl) dX2_put_23 ⟨Nat.zero_le _, Nat.zero_le _⟩ (fun r_3 hr_3 => ?_)
  subst r_3
  refine lv_if_eq (tgt := 39) hx hb dX2_put_26 (by decide) (fun c_4 => ?_) (fun c9 => absurd (by rw [hq]; decide) c9)
  refine lv_aload_n hx hb dX2_put_39 rfl (lv_at hl 0 rfl) ?_
  refine lv_iconst (v := 2) hx hb dX2_put_40 (by decide) ?_
  refine kQVi (As := [.int 2]) (rest := []) (wr := []) (W2 := (fun _ => (wN cI a pt pd ab nw kp wy 2 (nI cN) (nI rN) tn))) ⟨hx, hb, hml, hown, hts⟩ (mX2_no l D cI a pt pd ab nw kp wy 0 cN rN tn 2 _) (cwV 1 hts gX2_put_X2_no rfl rfl rfl (by decide +kernel) ⟨Nat.le_of_ble_eq_true rfl, Nat.le_of_ble_eq_true rfl⟩) hP hD hK hN hS hA [0, 1, 2, 3, 4, 5, 6] (by decide) rfl [] (by decide) rfl (by decide) [0, 1, 2, 3, 4, 5, 6] (by decide) (fun _ => rfl) [0] rfl rfl rfl rfl hl.1 rfl (Nat.le_of_ble_eq_true rfl) dX2_put_41 ⟨Nat.le_of_ble_eq_true rfl, Nat.le_of_ble_eq_true rfl⟩ (fun r_5 u_5 H locs hr_5 hP hD hS => ?_)
  subst r_5
  have hP : va_P D vwCl (wN cI a pt pd ab nw kp wy 2 (nI cN) (nI rN) tn) H := hP
  have hD : va_D (va_A (wN cI a pt pd ab nw kp wy th (nI cN) (nI rN) tn) sz) (wN cI a pt pd ab nw kp wy 2 (nI cN) (nI rN) tn) := hD
  exact eQi () hx hb hr hlocks hP hD hK hS dX2_put_44 (rfl)
theorem iw_X2_putCounter_X2 : ∀ w ∈ wsX20, w ∈ wsX2_putCounter := mem_pos [31, 32, 33, 34, 35, 36, 37, 38, 39, 40] (by decide +kernel)
set_option maxHeartbeats 4000000 in
set_option maxRecDepth 100000 in
theorem mX2_putCounter_0 (l : Launch) (D : va_G) (cI : ClassId) (a : Nat → Nat) (pt pd ab nw kp wy : Nat → Int32) (th : Int32) (cN rN : Nat) (tn : Int32) (rr kk np : Int32) (hI : mInv cN rN pt pd ab) (hp : mPlace (nI rN) (nI cN) rr kk = true) (hq : mFrom np 2 9 = true) (sz : Nat) : Met l yX2_putCounter wsX2_putCounter ({ frames := 3, cells := 0, slots := 0, locals := 65 } : Room) (va_Pc [.ref (a 0), .int rr, .int kk, .int np] (wPQ D [(cI, .int)] sz (wN cI a pt pd ab nw kp wy th (nI cN) (nI rN) tn))) (va_Qi (fun (zz : Int32) (_ : Unit) => zz = pt (9 * rr + kk).toNatClampNeg) (wB D [(cI, .int)] (va_A (wN cI a pt pd ab nw kp wy th (nI cN) (nI rN) tn) sz) (fun _ : Unit => (wN cI a ((upd pt (9 * rr + kk).toNatClampNeg 5)) ((upd pd (9 * rr + kk).toNatClampNeg np)) ab ((upd nw (9 * rr + kk).toNatClampNeg 0)) kp wy 0 (nI cN) (nI rN) tn))) (va_A (wN cI a pt pd ab nw kp wy th (nI cN) (nI rN) tn) sz)) 0 0 (va_A (wN cI a pt pd ab nw kp wy th (nI cN) (nI rN) tn) sz) := by
  refine mQ_of (by decide) rfl (Nat.le_of_ble_eq_true rfl) ?_
  intro p e s m below meth c hx hb hr hml hown hin hts hlocks hsz hP hK hN hD hA hS ls hl
  have hown : s.vm.findClass RX2 = some m.cls := hown
  have hl : lv_has ls 4 [(0, .ref (a 0)), (1, .int rr), (2, .int kk), (3, .int np)] := hl
  obtain ⟨⟨hc1, hc9⟩, hr8, hz, hab⟩ := id hI
  have hP : va_P D vwCl (wN cI a pt pd ab nw kp wy th (nI cN) (nI rN) tn) s.heap := hP
  refine lv_aload_n hx hb dX2_putCounter_0 rfl (lv_at hl 0 rfl) ?_
  refine lv_iconst (v := 0) hx hb dX2_putCounter_1 (by decide) ?_
  refine va_put (D := D) (ci := 2) (v := .int 0) (ty := .int) (C := RX2) (T := TX2) (N := 10) hx hb hts iw_X2_putCounter_X2 tyX2 tyX2_ok nmX2 hown hK hP hD hS 0 rfl rfl 0 (by decide) (hts (.fieldLink RX2 35 "MarbleRampsModel" "thrown" "I") (mg 1 rfl)) (fun _ h9 => h9) rfl (by decide +kernel) rfl rfl (Nat.le_of_ble_eq_true rfl) dX2_putCounter_2 (fun H locs hP hD hS => ?_)
  have hP : va_P D vwCl (wN cI a pt pd ab nw kp wy 0 (nI cN) (nI rN) tn) H := hP
  have hD : va_D (va_A (wN cI a pt pd ab nw kp wy th (nI cN) (nI rN) tn) sz) (wN cI a pt pd ab nw kp wy 0 (nI cN) (nI rN) tn) := hD
  refine lv_aload_n hx hb dX2_putCounter_5 rfl (lv_at hl 0 rfl) ?_
  refine lv_iload_n hx hb dX2_putCounter_6 rfl (lv_at hl 1 rfl) ?_
  refine lv_iload_n hx hb dX2_putCounter_7 rfl (lv_at hl 2 rfl) ?_
  refine kRVi (As := [.int rr, .int kk]) (rest := []) ⟨hx, hb, hml, hown, hts⟩ (mX2_isPlace l D cI a pt pd ab nw kp wy 0 cN rN tn rr kk) (cwV 2 hts gX2_putCounter_X2_isPlace rfl rfl rfl (by decide +kernel) ⟨Nat.le_of_ble_eq_true rfl, Nat.le_of_ble_eq_true rfl⟩) hP hK hN [0, 1, 2, 3, 4, 5, 6] rfl [0] rfl rfl rfl rfl hl.1 rfl (Nat.le_of_ble_eq_true rfl) dX2_putCounter_8 ⟨Nat.zero_le _, Nat.zero_le _⟩ (fun r_1 hr_1 => ?_)
  subst r_1
  refine lv_if_ne (tgt := 20) hx hb dX2_putCounter_11 (by decide) (fun c_2 => ?_) (fun c9 => absurd c9 (by rw [hp]; decide))
  refine lv_iload_n hx hb dX2_putCounter_20 rfl (lv_at hl 3 rfl) ?_
  refine lv_iconst (v := 2) hx hb dX2_putCounter_21 (by decide) ?_
  refine lv_bipush (v := 9) hx hb dX2_putCounter_22 (by decide) ?_
  refine kRSi (As := [.int np, .int 2, .int 9]) (rest := []) ⟨hx, hb, hml, hown, hts⟩ (mX2_isFrom l D cI np 2 9) (va_cwS 3 hts gX2_putCounter_X2_isFrom rfl rfl rfl (by decide +kernel) ⟨Nat.le_of_ble_eq_true rfl, Nat.le_of_ble_eq_true rfl⟩) hP hK hN [] rfl [0] rfl rfl hl.1 rfl (Nat.le_of_ble_eq_true rfl) dX2_putCounter_24 ⟨Nat.zero_le _, Nat.zero_le _⟩ (fun r_3 hr_3 => ?_)
  subst r_3
  refine lv_if_ne (tgt := 36) hx hb dX2_putCounter_27 (by decide) (fun c_4 => ?_) (fun c9 => absurd c9 (by rw [hq]; decide))
  refine lv_aload_n hx hb dX2_putCounter_36 rfl (lv_at hl 0 rfl) ?_
  refine va_get (D := D) (ci := 2) (v := .ref (a 2)) (C := RX2) (T := TX2) (N := 10) hx hb hts iw_X2_putCounter_X2 hown hK hP 0 rfl rfl 4 (by decide) (hts (.fieldLink RX2 20 "MarbleRampsModel" "period" "[I") (mg 2 rfl)) (fun _ h9 => h9) rfl dX2_putCounter_37 ?_
  refine lv_bipush (v := 9) hx hb dX2_putCounter_40 (by decide) ?_
  refine lv_iload_n hx hb dX2_putCounter_42 rfl (lv_at hl 1 rfl) ?_
  refine lv_imul hx hb dX2_putCounter_43 ?_
  refine lv_iload_n hx hb dX2_putCounter_44 rfl (lv_at hl 2 rfl) ?_
  refine lv_iadd hx hb dX2_putCounter_45 ?_
  refine lv_iload_n hx hb dX2_putCounter_46 rfl (lv_at hl 3 rfl) ?_
  refine va_iast hx hb hK hP hD hS 2 0 rfl rfl (in72 (mPlace_at hp ⟨hc1, hc9⟩ hr8)) dX2_putCounter_47 (fun H locs hP hD hS => ?_)
  have hP : va_P D vwCl (wN cI a pt ((upd pd ((9 * rr) + kk).toNatClampNeg np)) ab nw kp wy 0 (nI cN) (nI rN) tn) H := hP
  have hD : va_D (va_A (wN cI a pt pd ab nw kp wy th (nI cN) (nI rN) tn) sz) (wN cI a pt ((upd pd ((9 * rr) + kk).toNatClampNeg np)) ab nw kp wy 0 (nI cN) (nI rN) tn) := hD
  refine lv_aload_n hx hb dX2_putCounter_48 rfl (lv_at hl 0 rfl) ?_
  refine lv_iload_n hx hb dX2_putCounter_49 rfl (lv_at hl 1 rfl) ?_
  refine lv_iload_n hx hb dX2_putCounter_50 rfl (lv_at hl 2 rfl) ?_
  refine lv_iconst (v := 5) hx hb dX2_putCounter_51 (by decide) ?_
  refine kQVi (As := [.int rr, .int kk, .int 5]) (rest := []) (wr := []) (W2 := (fun _ => (wN cI a ((upd pt (9 * rr + kk).toNatClampNeg 5)) ((upd pd ((9 * rr) + kk).toNatClampNeg np)) ab ((upd nw (9 * rr + kk).toNatClampNeg 0)) kp wy 0 (nI cN) (nI rN) tn))) ⟨hx, hb, hml, hown, hts⟩ (mX2_placed l D cI a pt (upd pd ((9 * rr) + kk).toNatClampNeg np) ab nw kp wy 0 cN rN tn rr kk 5 (mPlace_at hp ⟨hc1, hc9⟩ hr8) _) (cwV 3 hts gX2_putCounter_X2_placed rfl rfl rfl (by decide +kernel) ⟨Nat.le_of_ble_eq_true rfl, Nat.le_of_ble_eq_true rfl⟩) hP hD hK hN hS hA [0, 1, 2, 3, 4, 5, 6] (by decide) rfl [] (by decide) rfl (by decide) [0, 1, 2, 3, 4, 5, 6] (by decide) (fun _ => rfl) [0] rfl rfl rfl rfl hl.1 rfl (Nat.le_of_ble_eq_true rfl) dX2_putCounter_52 ⟨Nat.le_of_ble_eq_true rfl, Nat.le_of_ble_eq_true rfl⟩ (fun r_5 u_5 H locs hr_5 hP hD hS => ?_)
  subst r_5
  have hP : va_P D vwCl (wN cI a ((upd pt (9 * rr + kk).toNatClampNeg 5)) ((upd pd ((9 * rr) + kk).toNatClampNeg np)) ab ((upd nw (9 * rr + kk).toNatClampNeg 0)) kp wy 0 (nI cN) (nI rN) tn) H := hP
  have hD : va_D (va_A (wN cI a pt pd ab nw kp wy th (nI cN) (nI rN) tn) sz) (wN cI a ((upd pt (9 * rr + kk).toNatClampNeg 5)) ((upd pd ((9 * rr) + kk).toNatClampNeg np)) ab ((upd nw (9 * rr + kk).toNatClampNeg 0)) kp wy 0 (nI cN) (nI rN) tn) := hD
  exact eQi () hx hb hr hlocks hP hD hK hS dX2_putCounter_55 (rfl)
set_option maxHeartbeats 4000000 in
set_option maxRecDepth 100000 in
theorem mX2_putCounter_1 (l : Launch) (D : va_G) (cI : ClassId) (a : Nat → Nat) (pt pd ab nw kp wy : Nat → Int32) (th : Int32) (cN rN : Nat) (tn : Int32) (rr kk np : Int32) (hp : mPlace (nI rN) (nI cN) rr kk = false) (sz : Nat) : Met l yX2_putCounter wsX2_putCounter ({ frames := 3, cells := 0, slots := 0, locals := 65 } : Room) (va_Pc [.ref (a 0), .int rr, .int kk, .int np] (wPQ D [(cI, .int)] sz (wN cI a pt pd ab nw kp wy th (nI cN) (nI rN) tn))) (va_Qi (fun (zz : Int32) (_ : Unit) => zz = 0) (wB D [(cI, .int)] (va_A (wN cI a pt pd ab nw kp wy th (nI cN) (nI rN) tn) sz) (fun _ : Unit => (wN cI a pt pd ab nw kp wy 1 (nI cN) (nI rN) tn))) (va_A (wN cI a pt pd ab nw kp wy th (nI cN) (nI rN) tn) sz)) 0 0 (va_A (wN cI a pt pd ab nw kp wy th (nI cN) (nI rN) tn) sz) := by
  refine mQ_of (by decide) rfl (Nat.le_of_ble_eq_true rfl) ?_
  intro p e s m below meth c hx hb hr hml hown hin hts hlocks hsz hP hK hN hD hA hS ls hl
  have hown : s.vm.findClass RX2 = some m.cls := hown
  have hl : lv_has ls 4 [(0, .ref (a 0)), (1, .int rr), (2, .int kk), (3, .int np)] := hl
  have hP : va_P D vwCl (wN cI a pt pd ab nw kp wy th (nI cN) (nI rN) tn) s.heap := hP
  refine lv_aload_n hx hb dX2_putCounter_0 rfl (lv_at hl 0 rfl) ?_
  refine lv_iconst (v := 0) hx hb dX2_putCounter_1 (by decide) ?_
  refine va_put (D := D) (ci := 2) (v := .int 0) (ty := .int) (C := RX2) (T := TX2) (N := 10) hx hb hts iw_X2_putCounter_X2 tyX2 tyX2_ok nmX2 hown hK hP hD hS 0 rfl rfl 0 (by decide) (hts (.fieldLink RX2 35 "MarbleRampsModel" "thrown" "I") (mg 1 rfl)) (fun _ h9 => h9) rfl (by decide +kernel) rfl rfl (Nat.le_of_ble_eq_true rfl) dX2_putCounter_2 (fun H locs hP hD hS => ?_)
  have hP : va_P D vwCl (wN cI a pt pd ab nw kp wy 0 (nI cN) (nI rN) tn) H := hP
  have hD : va_D (va_A (wN cI a pt pd ab nw kp wy th (nI cN) (nI rN) tn) sz) (wN cI a pt pd ab nw kp wy 0 (nI cN) (nI rN) tn) := hD
  refine lv_aload_n hx hb dX2_putCounter_5 rfl (lv_at hl 0 rfl) ?_
  refine lv_iload_n hx hb dX2_putCounter_6 rfl (lv_at hl 1 rfl) ?_
  refine lv_iload_n hx hb dX2_putCounter_7 rfl (lv_at hl 2 rfl) ?_
  refine kRVi (As := [.int rr, .int kk]) (rest := []) ⟨hx, hb, hml, hown, hts⟩ (mX2_isPlace l D cI a pt pd ab nw kp wy 0 cN rN tn rr kk) (cwV 2 hts gX2_putCounter_X2_isPlace rfl rfl rfl (by decide +kernel) ⟨Nat.le_of_ble_eq_true rfl, Nat.le_of_ble_eq_true rfl⟩) hP hK hN [0, 1, 2, 3, 4, 5, 6] rfl [0] rfl rfl rfl rfl hl.1 rfl (Nat.le_of_ble_eq_true rfl) dX2_putCounter_8 ⟨Nat.zero_le _, Nat.zero_le _⟩ (fun r_1 hr_1 => ?_)
  subst r_1
  refine lv_if_ne (tgt := 20) hx hb dX2_putCounter_11 (by decide) (fun c9 => absurd (by rw [hp]; decide) c9) (fun c_2 => ?_)
  refine lv_aload_n hx hb dX2_putCounter_14 rfl (lv_at hl 0 rfl) ?_
  refine lv_iconst (v := 1) hx hb dX2_putCounter_15 (by decide) ?_
  refine kQVi (As := [.int 1]) (rest := []) (wr := []) (W2 := (fun _ => (wN cI a pt pd ab nw kp wy 1 (nI cN) (nI rN) tn))) ⟨hx, hb, hml, hown, hts⟩ (mX2_no l D cI a pt pd ab nw kp wy 0 cN rN tn 1 _) (cwV 1 hts gX2_putCounter_X2_no rfl rfl rfl (by decide +kernel) ⟨Nat.le_of_ble_eq_true rfl, Nat.le_of_ble_eq_true rfl⟩) hP hD hK hN hS hA [0, 1, 2, 3, 4, 5, 6] (by decide) rfl [] (by decide) rfl (by decide) [0, 1, 2, 3, 4, 5, 6] (by decide) (fun _ => rfl) [0] rfl rfl rfl rfl hl.1 rfl (Nat.le_of_ble_eq_true rfl) dX2_putCounter_16 ⟨Nat.le_of_ble_eq_true rfl, Nat.le_of_ble_eq_true rfl⟩ (fun r_3 u_3 H locs hr_3 hP hD hS => ?_)
  subst r_3
  have hP : va_P D vwCl (wN cI a pt pd ab nw kp wy 1 (nI cN) (nI rN) tn) H := hP
  have hD : va_D (va_A (wN cI a pt pd ab nw kp wy th (nI cN) (nI rN) tn) sz) (wN cI a pt pd ab nw kp wy 1 (nI cN) (nI rN) tn) := hD
  exact eQi () hx hb hr hlocks hP hD hK hS dX2_putCounter_19 (rfl)
set_option maxHeartbeats 4000000 in
set_option maxRecDepth 100000 in
theorem mX2_putCounter_2 (l : Launch) (D : va_G) (cI : ClassId) (a : Nat → Nat) (pt pd ab nw kp wy : Nat → Int32) (th : Int32) (cN rN : Nat) (tn : Int32) (rr kk np : Int32) (hp : mPlace (nI rN) (nI cN) rr kk = true) (hq : mFrom np 2 9 = false) (sz : Nat) : Met l yX2_putCounter wsX2_putCounter ({ frames := 3, cells := 0, slots := 0, locals := 65 } : Room) (va_Pc [.ref (a 0), .int rr, .int kk, .int np] (wPQ D [(cI, .int)] sz (wN cI a pt pd ab nw kp wy th (nI cN) (nI rN) tn))) (va_Qi (fun (zz : Int32) (_ : Unit) => zz = 0) (wB D [(cI, .int)] (va_A (wN cI a pt pd ab nw kp wy th (nI cN) (nI rN) tn) sz) (fun _ : Unit => (wN cI a pt pd ab nw kp wy 2 (nI cN) (nI rN) tn))) (va_A (wN cI a pt pd ab nw kp wy th (nI cN) (nI rN) tn) sz)) 0 0 (va_A (wN cI a pt pd ab nw kp wy th (nI cN) (nI rN) tn) sz) := by
  refine mQ_of (by decide) rfl (Nat.le_of_ble_eq_true rfl) ?_
  intro p e s m below meth c hx hb hr hml hown hin hts hlocks hsz hP hK hN hD hA hS ls hl
  have hown : s.vm.findClass RX2 = some m.cls := hown
  have hl : lv_has ls 4 [(0, .ref (a 0)), (1, .int rr), (2, .int kk), (3, .int np)] := hl
  have hP : va_P D vwCl (wN cI a pt pd ab nw kp wy th (nI cN) (nI rN) tn) s.heap := hP
  refine lv_aload_n hx hb dX2_putCounter_0 rfl (lv_at hl 0 rfl) ?_
  refine lv_iconst (v := 0) hx hb dX2_putCounter_1 (by decide) ?_
  refine va_put (D := D) (ci := 2) (v := .int 0) (ty := .int) (C := RX2) (T := TX2) (N := 10) hx hb hts iw_X2_putCounter_X2 tyX2 tyX2_ok nmX2 hown hK hP hD hS 0 rfl rfl 0 (by decide) (hts (.fieldLink RX2 35 "MarbleRampsModel" "thrown" "I") (mg 1 rfl)) (fun _ h9 => h9) rfl (by decide +kernel) rfl rfl (Nat.le_of_ble_eq_true rfl) dX2_putCounter_2 (fun H locs hP hD hS => ?_)
  have hP : va_P D vwCl (wN cI a pt pd ab nw kp wy 0 (nI cN) (nI rN) tn) H := hP
  have hD : va_D (va_A (wN cI a pt pd ab nw kp wy th (nI cN) (nI rN) tn) sz) (wN cI a pt pd ab nw kp wy 0 (nI cN) (nI rN) tn) := hD
  refine lv_aload_n hx hb dX2_putCounter_5 rfl (lv_at hl 0 rfl) ?_
  refine lv_iload_n hx hb dX2_putCounter_6 rfl (lv_at hl 1 rfl) ?_
  refine lv_iload_n hx hb dX2_putCounter_7 rfl (lv_at hl 2 rfl) ?_
  refine kRVi (As := [.int rr, .int kk]) (rest := []) ⟨hx, hb, hml, hown, hts⟩ (mX2_isPlace l D cI a pt pd ab nw kp wy 0 cN rN tn rr kk) (cwV 2 hts gX2_putCounter_X2_isPlace rfl rfl rfl (by decide +kernel) ⟨Nat.le_of_ble_eq_true rfl, Nat.le_of_ble_eq_true rfl⟩) hP hK hN [0, 1, 2, 3, 4, 5, 6] rfl [0] rfl rfl rfl rfl hl.1 rfl (Nat.le_of_ble_eq_true rfl) dX2_putCounter_8 ⟨Nat.zero_le _, Nat.zero_le _⟩ (fun r_1 hr_1 => ?_)
  subst r_1
  refine lv_if_ne (tgt := 20) hx hb dX2_putCounter_11 (by decide) (fun c_2 => ?_) (fun c9 => absurd c9 (by rw [hp]; decide))
  refine lv_iload_n hx hb dX2_putCounter_20 rfl (lv_at hl 3 rfl) ?_
  refine lv_iconst (v := 2) hx hb dX2_putCounter_21 (by decide) ?_
  refine lv_bipush (v := 9) hx hb dX2_putCounter_22 (by decide) ?_
  refine kRSi (As := [.int np, .int 2, .int 9]) (rest := []) ⟨hx, hb, hml, hown, hts⟩ (mX2_isFrom l D cI np 2 9) (va_cwS 3 hts gX2_putCounter_X2_isFrom rfl rfl rfl (by decide +kernel) ⟨Nat.le_of_ble_eq_true rfl, Nat.le_of_ble_eq_true rfl⟩) hP hK hN [] rfl [0] rfl rfl hl.1 rfl (Nat.le_of_ble_eq_true rfl) dX2_putCounter_24 ⟨Nat.zero_le _, Nat.zero_le _⟩ (fun r_3 hr_3 => ?_)
  subst r_3
  refine lv_if_ne (tgt := 36) hx hb dX2_putCounter_27 (by decide) (fun c9 => absurd (by rw [hq]; decide) c9) (fun c_4 => ?_)
  refine lv_aload_n hx hb dX2_putCounter_30 rfl (lv_at hl 0 rfl) ?_
  refine lv_iconst (v := 2) hx hb dX2_putCounter_31 (by decide) ?_
  refine kQVi (As := [.int 2]) (rest := []) (wr := []) (W2 := (fun _ => (wN cI a pt pd ab nw kp wy 2 (nI cN) (nI rN) tn))) ⟨hx, hb, hml, hown, hts⟩ (mX2_no l D cI a pt pd ab nw kp wy 0 cN rN tn 2 _) (cwV 1 hts gX2_putCounter_X2_no rfl rfl rfl (by decide +kernel) ⟨Nat.le_of_ble_eq_true rfl, Nat.le_of_ble_eq_true rfl⟩) hP hD hK hN hS hA [0, 1, 2, 3, 4, 5, 6] (by decide) rfl [] (by decide) rfl (by decide) [0, 1, 2, 3, 4, 5, 6] (by decide) (fun _ => rfl) [0] rfl rfl rfl rfl hl.1 rfl (Nat.le_of_ble_eq_true rfl) dX2_putCounter_32 ⟨Nat.le_of_ble_eq_true rfl, Nat.le_of_ble_eq_true rfl⟩ (fun r_5 u_5 H locs hr_5 hP hD hS => ?_)
  subst r_5
  have hP : va_P D vwCl (wN cI a pt pd ab nw kp wy 2 (nI cN) (nI rN) tn) H := hP
  have hD : va_D (va_A (wN cI a pt pd ab nw kp wy th (nI cN) (nI rN) tn) sz) (wN cI a pt pd ab nw kp wy 2 (nI cN) (nI rN) tn) := hD
  exact eQi () hx hb hr hlocks hP hD hK hS dX2_putCounter_35 (rfl)
theorem iw_X2_turn_X2 : ∀ w ∈ wsX20, w ∈ wsX2_turn := mem_pos [26, 27, 28, 29, 30, 31, 32, 33, 34, 35] (by decide +kernel)
set_option maxHeartbeats 4000000 in
set_option maxRecDepth 100000 in
theorem mX2_turn_0 (l : Launch) (D : va_G) (cI : ClassId) (a : Nat → Nat) (pt pd ab nw kp wy : Nat → Int32) (th : Int32) (cN rN : Nat) (tn : Int32) (rr kk : Int32) (hI : mInv cN rN pt pd ab) (hp : mPlace (nI rN) (nI cN) rr kk = true) (hq : pt (9 * rr + kk).toNatClampNeg = 3) (sz : Nat) : Met l yX2_turn wsX2_turn ({ frames := 3, cells := 0, slots := 0, locals := 65 } : Room) (va_Pc [.ref (a 0), .int rr, .int kk] (wPQ D [(cI, .int)] sz (wN cI a pt pd ab nw kp wy th (nI cN) (nI rN) tn))) (va_Qi (fun (zz : Int32) (_ : Unit) => zz = bi (if 1 - nw (9 * rr + kk).toNatClampNeg = 1 then true else false)) (wB D [(cI, .int)] (va_A (wN cI a pt pd ab nw kp wy th (nI cN) (nI rN) tn) sz) (fun _ : Unit => (wN cI a pt pd ab ((upd nw (9 * rr + kk).toNatClampNeg (1 - nw (9 * rr + kk).toNatClampNeg))) kp wy 0 (nI cN) (nI rN) tn))) (va_A (wN cI a pt pd ab nw kp wy th (nI cN) (nI rN) tn) sz)) 0 0 (va_A (wN cI a pt pd ab nw kp wy th (nI cN) (nI rN) tn) sz) := by
  refine mQ_of (by decide) rfl (Nat.le_of_ble_eq_true rfl) ?_
  intro p e s m below meth c hx hb hr hml hown hin hts hlocks hsz hP hK hN hD hA hS ls hl
  have hown : s.vm.findClass RX2 = some m.cls := hown
  have hl : lv_has ls 4 [(0, .ref (a 0)), (1, .int rr), (2, .int kk)] := hl
  obtain ⟨⟨hc1, hc9⟩, hr8, hz, hab⟩ := id hI
  have hP : va_P D vwCl (wN cI a pt pd ab nw kp wy th (nI cN) (nI rN) tn) s.heap := hP
  refine lv_aload_n hx hb dX2_turn_0 rfl (lv_at hl 0 rfl) ?_
  refine lv_iconst (v := 0) hx hb dX2_turn_1 (by decide) ?_
  refine va_put (D := D) (ci := 2) (v := .int 0) (ty := .int) (C := RX2) (T := TX2) (N := 10) hx hb hts iw_X2_turn_X2 tyX2 tyX2_ok nmX2 hown hK hP hD hS 0 rfl rfl 0 (by decide) (hts (.fieldLink RX2 35 "MarbleRampsModel" "thrown" "I") (mg 1 rfl)) (fun _ h9 => h9) rfl (by decide +kernel) rfl rfl (Nat.le_of_ble_eq_true rfl) dX2_turn_2 (fun H locs hP hD hS => ?_)
  have hP : va_P D vwCl (wN cI a pt pd ab nw kp wy 0 (nI cN) (nI rN) tn) H := hP
  have hD : va_D (va_A (wN cI a pt pd ab nw kp wy th (nI cN) (nI rN) tn) sz) (wN cI a pt pd ab nw kp wy 0 (nI cN) (nI rN) tn) := hD
  refine lv_aload_n hx hb dX2_turn_5 rfl (lv_at hl 0 rfl) ?_
  refine lv_iload_n hx hb dX2_turn_6 rfl (lv_at hl 1 rfl) ?_
  refine lv_iload_n hx hb dX2_turn_7 rfl (lv_at hl 2 rfl) ?_
  refine kRVi (As := [.int rr, .int kk]) (rest := []) ⟨hx, hb, hml, hown, hts⟩ (mX2_isPlace l D cI a pt pd ab nw kp wy 0 cN rN tn rr kk) (cwV 2 hts gX2_turn_X2_isPlace rfl rfl rfl (by decide +kernel) ⟨Nat.le_of_ble_eq_true rfl, Nat.le_of_ble_eq_true rfl⟩) hP hK hN [0, 1, 2, 3, 4, 5, 6] rfl [0] rfl rfl rfl rfl hl.1 rfl (Nat.le_of_ble_eq_true rfl) dX2_turn_8 ⟨Nat.zero_le _, Nat.zero_le _⟩ (fun r_1 hr_1 => ?_)
  subst r_1
  refine lv_if_ne (tgt := 20) hx hb dX2_turn_11 (by decide) (fun c_2 => ?_) (fun c9 => absurd c9 (by rw [hp]; decide))
  refine lv_bipush (v := 9) hx hb dX2_turn_20 (by decide) ?_
  refine lv_iload_n hx hb dX2_turn_22 rfl (lv_at hl 1 rfl) ?_
  refine lv_imul hx hb dX2_turn_23 ?_
  refine lv_iload_n hx hb dX2_turn_24 rfl (lv_at hl 2 rfl) ?_
  refine lv_iadd hx hb dX2_turn_25 ?_
  refine lv_istore_n (lv' := [(3, .int ((9 * rr) + kk)), (0, .ref (a 0)), (1, .int rr), (2, .int kk)]) hx hb dX2_turn_26 rfl hl (by decide) rfl (fun ls hl => ?_)
  refine lv_aload_n hx hb dX2_turn_27 rfl (lv_at hl 1 rfl) ?_
  refine va_get (D := D) (ci := 2) (v := .ref (a 1)) (C := RX2) (T := TX2) (N := 10) hx hb hts iw_X2_turn_X2 hown hK hP 0 rfl rfl 3 (by decide) (hts (.fieldLink RX2 16 "MarbleRampsModel" "part" "[I") (mg 2 rfl)) (fun _ h9 => h9) rfl dX2_turn_28 ?_
  refine lv_iload_n hx hb dX2_turn_31 rfl (lv_at hl 0 rfl) ?_
  refine va_iald hx hb hK hP 1 0 rfl rfl (in72 (mPlace_at hp ⟨hc1, hc9⟩ hr8)) dX2_turn_32 ?_
  refine lv_iconst (v := 3) hx hb dX2_turn_33 (by decide) ?_
  refine lv_icmp_eq (tgt := 43) hx hb dX2_turn_34 (by decide) (fun c_3 => ?_) (fun c9 => absurd hq c9)
  refine lv_aload_n hx hb dX2_turn_43 rfl (lv_at hl 1 rfl) ?_
  refine va_get (D := D) (ci := 2) (v := .ref (a 4)) (C := RX2) (T := TX2) (N := 10) hx hb hts iw_X2_turn_X2 hown hK hP 0 rfl rfl 6 (by decide) (hts (.fieldLink RX2 26 "MarbleRampsModel" "now" "[I") (mg 3 rfl)) (fun _ h9 => h9) rfl dX2_turn_44 ?_
  refine lv_iload_n hx hb dX2_turn_47 rfl (lv_at hl 0 rfl) ?_
  refine lv_iconst (v := 1) hx hb dX2_turn_48 (by decide) ?_
  refine lv_aload_n hx hb dX2_turn_49 rfl (lv_at hl 1 rfl) ?_
  refine va_get (D := D) (ci := 2) (v := .ref (a 4)) (C := RX2) (T := TX2) (N := 10) hx hb hts iw_X2_turn_X2 hown hK hP 0 rfl rfl 6 (by decide) (hts (.fieldLink RX2 26 "MarbleRampsModel" "now" "[I") (mg 3 rfl)) (fun _ h9 => h9) rfl dX2_turn_50 ?_
  refine lv_iload_n hx hb dX2_turn_53 rfl (lv_at hl 0 rfl) ?_
  refine va_iald hx hb hK hP 4 0 rfl rfl (in84 (mPlace_at hp ⟨hc1, hc9⟩ hr8)) dX2_turn_54 ?_
  refine lv_isub hx hb dX2_turn_55 ?_
  refine va_iast hx hb hK hP hD hS 4 0 rfl rfl (in84 (mPlace_at hp ⟨hc1, hc9⟩ hr8)) dX2_turn_56 (fun H locs hP hD hS => ?_)
  have hP : va_P D vwCl (wN cI a pt pd ab ((upd nw ((9 * rr) + kk).toNatClampNeg (1 - (nw ((9 * rr) + kk).toNatClampNeg)))) kp wy 0 (nI cN) (nI rN) tn) H := hP
  have hD : va_D (va_A (wN cI a pt pd ab nw kp wy th (nI cN) (nI rN) tn) sz) (wN cI a pt pd ab ((upd nw ((9 * rr) + kk).toNatClampNeg (1 - (nw ((9 * rr) + kk).toNatClampNeg)))) kp wy 0 (nI cN) (nI rN) tn) := hD
  refine lv_aload_n hx hb dX2_turn_57 rfl (lv_at hl 1 rfl) ?_
  refine va_get (D := D) (ci := 2) (v := .ref (a 4)) (C := RX2) (T := TX2) (N := 10) hx hb hts iw_X2_turn_X2 hown hK hP 0 rfl rfl 6 (by decide) (hts (.fieldLink RX2 26 "MarbleRampsModel" "now" "[I") (mg 3 rfl)) (fun _ h9 => h9) rfl dX2_turn_58 ?_
  refine lv_iload_n hx hb dX2_turn_61 rfl (lv_at hl 0 rfl) ?_
  refine va_iald hx hb hK hP 4 0 rfl rfl (in84 (mPlace_at hp ⟨hc1, hc9⟩ hr8)) dX2_turn_62 ?_
  rw [pk_us]
  refine lv_iconst (v := 1) hx hb dX2_turn_63 (by decide) ?_
  refine lv_icmp_ne (tgt := 71) hx hb dX2_turn_64 (by decide) (fun c_4 => ?_) (fun c_4 => ?_)
  · refine lv_iconst (v := 0) hx hb dX2_turn_71 (by decide) ?_
    exact eQz () hx hb hr hlocks hP hD hK hS dX2_turn_72 (Or.inl rfl) (by simp [bi, c_4])
  · refine lv_iconst (v := 1) hx hb dX2_turn_67 (by decide) ?_
    refine lv_goto (tgt := 72) hx hb dX2_turn_68 (by decide) ?_
    exact eQz () hx hb hr hlocks hP hD hK hS dX2_turn_72 (Or.inr rfl) (by simp [bi, c_4])
set_option maxHeartbeats 4000000 in
set_option maxRecDepth 100000 in
theorem mX2_turn_1 (l : Launch) (D : va_G) (cI : ClassId) (a : Nat → Nat) (pt pd ab nw kp wy : Nat → Int32) (th : Int32) (cN rN : Nat) (tn : Int32) (rr kk : Int32) (hp : mPlace (nI rN) (nI cN) rr kk = false) (sz : Nat) : Met l yX2_turn wsX2_turn ({ frames := 3, cells := 0, slots := 0, locals := 65 } : Room) (va_Pc [.ref (a 0), .int rr, .int kk] (wPQ D [(cI, .int)] sz (wN cI a pt pd ab nw kp wy th (nI cN) (nI rN) tn))) (va_Qi (fun (zz : Int32) (_ : Unit) => zz = 0) (wB D [(cI, .int)] (va_A (wN cI a pt pd ab nw kp wy th (nI cN) (nI rN) tn) sz) (fun _ : Unit => (wN cI a pt pd ab nw kp wy 1 (nI cN) (nI rN) tn))) (va_A (wN cI a pt pd ab nw kp wy th (nI cN) (nI rN) tn) sz)) 0 0 (va_A (wN cI a pt pd ab nw kp wy th (nI cN) (nI rN) tn) sz) := by
  refine mQ_of (by decide) rfl (Nat.le_of_ble_eq_true rfl) ?_
  intro p e s m below meth c hx hb hr hml hown hin hts hlocks hsz hP hK hN hD hA hS ls hl
  have hown : s.vm.findClass RX2 = some m.cls := hown
  have hl : lv_has ls 4 [(0, .ref (a 0)), (1, .int rr), (2, .int kk)] := hl
  have hP : va_P D vwCl (wN cI a pt pd ab nw kp wy th (nI cN) (nI rN) tn) s.heap := hP
  refine lv_aload_n hx hb dX2_turn_0 rfl (lv_at hl 0 rfl) ?_
  refine lv_iconst (v := 0) hx hb dX2_turn_1 (by decide) ?_
  refine va_put (D := D) (ci := 2) (v := .int 0) (ty := .int) (C := RX2) (T := TX2) (N := 10) hx hb hts iw_X2_turn_X2 tyX2 tyX2_ok nmX2 hown hK hP hD hS 0 rfl rfl 0 (by decide) (hts (.fieldLink RX2 35 "MarbleRampsModel" "thrown" "I") (mg 1 rfl)) (fun _ h9 => h9) rfl (by decide +kernel) rfl rfl (Nat.le_of_ble_eq_true rfl) dX2_turn_2 (fun H locs hP hD hS => ?_)
  have hP : va_P D vwCl (wN cI a pt pd ab nw kp wy 0 (nI cN) (nI rN) tn) H := hP
  have hD : va_D (va_A (wN cI a pt pd ab nw kp wy th (nI cN) (nI rN) tn) sz) (wN cI a pt pd ab nw kp wy 0 (nI cN) (nI rN) tn) := hD
  refine lv_aload_n hx hb dX2_turn_5 rfl (lv_at hl 0 rfl) ?_
  refine lv_iload_n hx hb dX2_turn_6 rfl (lv_at hl 1 rfl) ?_
  refine lv_iload_n hx hb dX2_turn_7 rfl (lv_at hl 2 rfl) ?_
  refine kRVi (As := [.int rr, .int kk]) (rest := []) ⟨hx, hb, hml, hown, hts⟩ (mX2_isPlace l D cI a pt pd ab nw kp wy 0 cN rN tn rr kk) (cwV 2 hts gX2_turn_X2_isPlace rfl rfl rfl (by decide +kernel) ⟨Nat.le_of_ble_eq_true rfl, Nat.le_of_ble_eq_true rfl⟩) hP hK hN [0, 1, 2, 3, 4, 5, 6] rfl [0] rfl rfl rfl rfl hl.1 rfl (Nat.le_of_ble_eq_true rfl) dX2_turn_8 ⟨Nat.zero_le _, Nat.zero_le _⟩ (fun r_1 hr_1 => ?_)
  subst r_1
  refine lv_if_ne (tgt := 20) hx hb dX2_turn_11 (by decide) (fun c9 => absurd (by rw [hp]; decide) c9) (fun c_2 => ?_)
  refine lv_aload_n hx hb dX2_turn_14 rfl (lv_at hl 0 rfl) ?_
  refine lv_iconst (v := 1) hx hb dX2_turn_15 (by decide) ?_
  refine kQVi (As := [.int 1]) (rest := []) (wr := []) (W2 := (fun _ => (wN cI a pt pd ab nw kp wy 1 (nI cN) (nI rN) tn))) ⟨hx, hb, hml, hown, hts⟩ (mX2_isNot l D cI a pt pd ab nw kp wy 0 cN rN tn 1 _) (cwV 1 hts gX2_turn_X2_isNot rfl rfl rfl (by decide +kernel) ⟨Nat.le_of_ble_eq_true rfl, Nat.le_of_ble_eq_true rfl⟩) hP hD hK hN hS hA [0, 1, 2, 3, 4, 5, 6] (by decide) rfl [] (by decide) rfl (by decide) [0, 1, 2, 3, 4, 5, 6] (by decide) (fun _ => rfl) [0] rfl rfl rfl rfl hl.1 rfl (Nat.le_of_ble_eq_true rfl) dX2_turn_16 ⟨Nat.le_of_ble_eq_true rfl, Nat.le_of_ble_eq_true rfl⟩ (fun r_3 u_3 H locs hr_3 hP hD hS => ?_)
  subst r_3
  have hP : va_P D vwCl (wN cI a pt pd ab nw kp wy 1 (nI cN) (nI rN) tn) H := hP
  have hD : va_D (va_A (wN cI a pt pd ab nw kp wy th (nI cN) (nI rN) tn) sz) (wN cI a pt pd ab nw kp wy 1 (nI cN) (nI rN) tn) := hD
  exact eQz () hx hb hr hlocks hP hD hK hS dX2_turn_19 (Or.inl rfl) (rfl)
set_option maxHeartbeats 4000000 in
set_option maxRecDepth 100000 in
theorem mX2_turn_2 (l : Launch) (D : va_G) (cI : ClassId) (a : Nat → Nat) (pt pd ab nw kp wy : Nat → Int32) (th : Int32) (cN rN : Nat) (tn : Int32) (rr kk : Int32) (hI : mInv cN rN pt pd ab) (hp : mPlace (nI rN) (nI cN) rr kk = true) (hq : ¬ pt (9 * rr + kk).toNatClampNeg = 3) (sz : Nat) : Met l yX2_turn wsX2_turn ({ frames := 3, cells := 0, slots := 0, locals := 65 } : Room) (va_Pc [.ref (a 0), .int rr, .int kk] (wPQ D [(cI, .int)] sz (wN cI a pt pd ab nw kp wy th (nI cN) (nI rN) tn))) (va_Qi (fun (zz : Int32) (_ : Unit) => zz = 0) (wB D [(cI, .int)] (va_A (wN cI a pt pd ab nw kp wy th (nI cN) (nI rN) tn) sz) (fun _ : Unit => (wN cI a pt pd ab nw kp wy 2 (nI cN) (nI rN) tn))) (va_A (wN cI a pt pd ab nw kp wy th (nI cN) (nI rN) tn) sz)) 0 0 (va_A (wN cI a pt pd ab nw kp wy th (nI cN) (nI rN) tn) sz) := by
  refine mQ_of (by decide) rfl (Nat.le_of_ble_eq_true rfl) ?_
  intro p e s m below meth c hx hb hr hml hown hin hts hlocks hsz hP hK hN hD hA hS ls hl
  have hown : s.vm.findClass RX2 = some m.cls := hown
  have hl : lv_has ls 4 [(0, .ref (a 0)), (1, .int rr), (2, .int kk)] := hl
  obtain ⟨⟨hc1, hc9⟩, hr8, hz, hab⟩ := id hI
  have hP : va_P D vwCl (wN cI a pt pd ab nw kp wy th (nI cN) (nI rN) tn) s.heap := hP
  refine lv_aload_n hx hb dX2_turn_0 rfl (lv_at hl 0 rfl) ?_
  refine lv_iconst (v := 0) hx hb dX2_turn_1 (by decide) ?_
  refine va_put (D := D) (ci := 2) (v := .int 0) (ty := .int) (C := RX2) (T := TX2) (N := 10) hx hb hts iw_X2_turn_X2 tyX2 tyX2_ok nmX2 hown hK hP hD hS 0 rfl rfl 0 (by decide) (hts (.fieldLink RX2 35 "MarbleRampsModel" "thrown" "I") (mg 1 rfl)) (fun _ h9 => h9) rfl (by decide +kernel) rfl rfl (Nat.le_of_ble_eq_true rfl) dX2_turn_2 (fun H locs hP hD hS => ?_)
  have hP : va_P D vwCl (wN cI a pt pd ab nw kp wy 0 (nI cN) (nI rN) tn) H := hP
  have hD : va_D (va_A (wN cI a pt pd ab nw kp wy th (nI cN) (nI rN) tn) sz) (wN cI a pt pd ab nw kp wy 0 (nI cN) (nI rN) tn) := hD
  refine lv_aload_n hx hb dX2_turn_5 rfl (lv_at hl 0 rfl) ?_
  refine lv_iload_n hx hb dX2_turn_6 rfl (lv_at hl 1 rfl) ?_
  refine lv_iload_n hx hb dX2_turn_7 rfl (lv_at hl 2 rfl) ?_
  refine kRVi (As := [.int rr, .int kk]) (rest := []) ⟨hx, hb, hml, hown, hts⟩ (mX2_isPlace l D cI a pt pd ab nw kp wy 0 cN rN tn rr kk) (cwV 2 hts gX2_turn_X2_isPlace rfl rfl rfl (by decide +kernel) ⟨Nat.le_of_ble_eq_true rfl, Nat.le_of_ble_eq_true rfl⟩) hP hK hN [0, 1, 2, 3, 4, 5, 6] rfl [0] rfl rfl rfl rfl hl.1 rfl (Nat.le_of_ble_eq_true rfl) dX2_turn_8 ⟨Nat.zero_le _, Nat.zero_le _⟩ (fun r_1 hr_1 => ?_)
  subst r_1
  refine lv_if_ne (tgt := 20) hx hb dX2_turn_11 (by decide) (fun c_2 => ?_) (fun c9 => absurd c9 (by rw [hp]; decide))
  refine lv_bipush (v := 9) hx hb dX2_turn_20 (by decide) ?_
  refine lv_iload_n hx hb dX2_turn_22 rfl (lv_at hl 1 rfl) ?_
  refine lv_imul hx hb dX2_turn_23 ?_
  refine lv_iload_n hx hb dX2_turn_24 rfl (lv_at hl 2 rfl) ?_
  refine lv_iadd hx hb dX2_turn_25 ?_
  refine lv_istore_n (lv' := [(3, .int ((9 * rr) + kk)), (0, .ref (a 0)), (1, .int rr), (2, .int kk)]) hx hb dX2_turn_26 rfl hl (by decide) rfl (fun ls hl => ?_)
  refine lv_aload_n hx hb dX2_turn_27 rfl (lv_at hl 1 rfl) ?_
  refine va_get (D := D) (ci := 2) (v := .ref (a 1)) (C := RX2) (T := TX2) (N := 10) hx hb hts iw_X2_turn_X2 hown hK hP 0 rfl rfl 3 (by decide) (hts (.fieldLink RX2 16 "MarbleRampsModel" "part" "[I") (mg 2 rfl)) (fun _ h9 => h9) rfl dX2_turn_28 ?_
  refine lv_iload_n hx hb dX2_turn_31 rfl (lv_at hl 0 rfl) ?_
  refine va_iald hx hb hK hP 1 0 rfl rfl (in72 (mPlace_at hp ⟨hc1, hc9⟩ hr8)) dX2_turn_32 ?_
  refine lv_iconst (v := 3) hx hb dX2_turn_33 (by decide) ?_
  refine lv_icmp_eq (tgt := 43) hx hb dX2_turn_34 (by decide) (fun c9 => absurd c9 hq) (fun c_3 => ?_)
  refine lv_aload_n hx hb dX2_turn_37 rfl (lv_at hl 1 rfl) ?_
  refine lv_iconst (v := 2) hx hb dX2_turn_38 (by decide) ?_
  refine kQVi (As := [.int 2]) (rest := []) (wr := []) (W2 := (fun _ => (wN cI a pt pd ab nw kp wy 2 (nI cN) (nI rN) tn))) ⟨hx, hb, hml, hown, hts⟩ (mX2_isNot l D cI a pt pd ab nw kp wy 0 cN rN tn 2 _) (cwV 1 hts gX2_turn_X2_isNot rfl rfl rfl (by decide +kernel) ⟨Nat.le_of_ble_eq_true rfl, Nat.le_of_ble_eq_true rfl⟩) hP hD hK hN hS hA [0, 1, 2, 3, 4, 5, 6] (by decide) rfl [] (by decide) rfl (by decide) [0, 1, 2, 3, 4, 5, 6] (by decide) (fun _ => rfl) [0] rfl rfl rfl rfl hl.1 rfl (Nat.le_of_ble_eq_true rfl) dX2_turn_39 ⟨Nat.le_of_ble_eq_true rfl, Nat.le_of_ble_eq_true rfl⟩ (fun r_4 u_4 H locs hr_4 hP hD hS => ?_)
  subst r_4
  have hP : va_P D vwCl (wN cI a pt pd ab nw kp wy 2 (nI cN) (nI rN) tn) H := hP
  have hD : va_D (va_A (wN cI a pt pd ab nw kp wy th (nI cN) (nI rN) tn) sz) (wN cI a pt pd ab nw kp wy 2 (nI cN) (nI rN) tn) := hD
  exact eQz () hx hb hr hlocks hP hD hK hS dX2_turn_42 (Or.inl rfl) (rfl)
theorem iw_X2_setHopper_X2 : ∀ w ∈ wsX20, w ∈ wsX2_setHopper := mem_pos [17, 18, 19, 20, 21, 22, 23, 24, 25, 26] (by decide +kernel)
set_option maxHeartbeats 4000000 in
set_option maxRecDepth 100000 in
theorem mX2_setHopper_0 (l : Launch) (D : va_G) (cI : ClassId) (a : Nat → Nat) (pt pd ab nw kp wy : Nat → Int32) (th : Int32) (cN rN : Nat) (tn : Int32) (hv kk mm : Int32) (hI : mInv cN rN pt pd ab) (hp : mFrom hv 0 1 = true) (hq : mFrom kk 0 (nI cN - 1) = true) (hs : mFrom mm 0 99 = true) (sz : Nat) : Met l yX2_setHopper wsX2_setHopper ({ frames := 2, cells := 0, slots := 0, locals := 43 } : Room) (va_Pc [.ref (a 0), .int hv, .int kk, .int mm] (wPQ D [(cI, .int)] sz (wN cI a pt pd ab nw kp wy th (nI cN) (nI rN) tn))) (va_Qi (fun (zz : Int32) (_ : Unit) => zz = nw (81 + hv).toNatClampNeg) (wB D [(cI, .int)] (va_A (wN cI a pt pd ab nw kp wy th (nI cN) (nI rN) tn) sz) (fun _ : Unit => (wN cI a pt pd ((upd ab hv.toNatClampNeg kk)) ((upd nw (81 + hv).toNatClampNeg mm)) kp wy 0 (nI cN) (nI rN) tn))) (va_A (wN cI a pt pd ab nw kp wy th (nI cN) (nI rN) tn) sz)) 0 0 (va_A (wN cI a pt pd ab nw kp wy th (nI cN) (nI rN) tn) sz) := by
  refine mQ_of (by decide) rfl (Nat.le_of_ble_eq_true rfl) ?_
  intro p e s m below meth c hx hb hr hml hown hin hts hlocks hsz hP hK hN hD hA hS ls hl
  have hown : s.vm.findClass RX2 = some m.cls := hown
  have hl : lv_has ls 5 [(0, .ref (a 0)), (1, .int hv), (2, .int kk), (3, .int mm)] := hl
  obtain ⟨⟨hc1, hc9⟩, hr8, hz, hab⟩ := id hI
  have hP : va_P D vwCl (wN cI a pt pd ab nw kp wy th (nI cN) (nI rN) tn) s.heap := hP
  refine lv_aload_n hx hb dX2_setHopper_0 rfl (lv_at hl 0 rfl) ?_
  refine lv_iconst (v := 0) hx hb dX2_setHopper_1 (by decide) ?_
  refine va_put (D := D) (ci := 2) (v := .int 0) (ty := .int) (C := RX2) (T := TX2) (N := 10) hx hb hts iw_X2_setHopper_X2 tyX2 tyX2_ok nmX2 hown hK hP hD hS 0 rfl rfl 0 (by decide) (hts (.fieldLink RX2 35 "MarbleRampsModel" "thrown" "I") (mg 1 rfl)) (fun _ h9 => h9) rfl (by decide +kernel) rfl rfl (Nat.le_of_ble_eq_true rfl) dX2_setHopper_2 (fun H locs hP hD hS => ?_)
  have hP : va_P D vwCl (wN cI a pt pd ab nw kp wy 0 (nI cN) (nI rN) tn) H := hP
  have hD : va_D (va_A (wN cI a pt pd ab nw kp wy th (nI cN) (nI rN) tn) sz) (wN cI a pt pd ab nw kp wy 0 (nI cN) (nI rN) tn) := hD
  refine lv_iload_n hx hb dX2_setHopper_5 rfl (lv_at hl 1 rfl) ?_
  refine lv_iconst (v := 0) hx hb dX2_setHopper_6 (by decide) ?_
  refine lv_iconst (v := 1) hx hb dX2_setHopper_7 (by decide) ?_
  refine kRSi (As := [.int hv, .int 0, .int 1]) (rest := []) ⟨hx, hb, hml, hown, hts⟩ (mX2_isFrom l D cI hv 0 1) (va_cwS 3 hts gX2_setHopper_X2_isFrom rfl rfl rfl (by decide +kernel) ⟨Nat.le_of_ble_eq_true rfl, Nat.le_of_ble_eq_true rfl⟩) hP hK hN [] rfl [0] rfl rfl hl.1 rfl (Nat.le_of_ble_eq_true rfl) dX2_setHopper_8 ⟨Nat.zero_le _, Nat.zero_le _⟩ (fun r_1 hr_1 => ?_)
  subst r_1
  refine lv_if_eq (tgt := 22) hx hb dX2_setHopper_11 (by decide) (fun c9 => absurd c9 (by rw [hp]; decide)) (fun c_2 => ?_)
  refine lv_aload_n hx hb dX2_setHopper_14 rfl (lv_at hl 0 rfl) ?_
  refine lv_iload_n hx hb dX2_setHopper_15 rfl (lv_at hl 2 rfl) ?_
  refine kRVi (As := [.int kk]) (rest := []) ⟨hx, hb, hml, hown, hts⟩ (mX2_isColumn l D cI a pt pd ab nw kp wy 0 cN rN tn kk) (cwV 1 hts gX2_setHopper_X2_isColumn rfl rfl rfl (by decide +kernel) ⟨Nat.le_of_ble_eq_true rfl, Nat.le_of_ble_eq_true rfl⟩) hP hK hN [0, 1, 2, 3, 4, 5, 6] rfl [0] rfl rfl rfl rfl hl.1 rfl (Nat.le_of_ble_eq_true rfl) dX2_setHopper_16 ⟨Nat.zero_le _, Nat.zero_le _⟩ (fun r_3 hr_3 => ?_)
  subst r_3
  refine lv_if_ne (tgt := 28) hx hb dX2_setHopper_19 (by decide) (fun c_4 => ?_) (fun c9 => absurd c9 (by rw [hq]; decide))
  refine lv_iload_n hx hb dX2_setHopper_28 rfl (lv_at hl 3 rfl) ?_
  refine lv_iconst (v := 0) hx hb dX2_setHopper_29 (by decide) ?_
  refine lv_bipush (v := 99) hx hb dX2_setHopper_30 (by decide) ?_
  refine kRSi (As := [.int mm, .int 0, .int 99]) (rest := []) ⟨hx, hb, hml, hown, hts⟩ (mX2_isFrom l D cI mm 0 99) (va_cwS 3 hts gX2_setHopper_X2_isFrom rfl rfl rfl (by decide +kernel) ⟨Nat.le_of_ble_eq_true rfl, Nat.le_of_ble_eq_true rfl⟩) hP hK hN [] rfl [0] rfl rfl hl.1 rfl (Nat.le_of_ble_eq_true rfl) dX2_setHopper_32 ⟨Nat.zero_le _, Nat.zero_le _⟩ (fun r_5 hr_5 => ?_)
  subst r_5
  refine lv_if_ne (tgt := 44) hx hb dX2_setHopper_35 (by decide) (fun c_6 => ?_) (fun c9 => absurd c9 (by rw [hs]; decide))
  refine lv_aload_n hx hb dX2_setHopper_44 rfl (lv_at hl 0 rfl) ?_
  refine va_get (D := D) (ci := 2) (v := .ref (a 4)) (C := RX2) (T := TX2) (N := 10) hx hb hts iw_X2_setHopper_X2 hown hK hP 0 rfl rfl 6 (by decide) (hts (.fieldLink RX2 26 "MarbleRampsModel" "now" "[I") (mg 2 rfl)) (fun _ h9 => h9) rfl dX2_setHopper_45 ?_
  refine lv_bipush (v := 81) hx hb dX2_setHopper_48 (by decide) ?_
  refine lv_iload_n hx hb dX2_setHopper_50 rfl (lv_at hl 1 rfl) ?_
  refine lv_iadd hx hb dX2_setHopper_51 ?_
  refine va_iald hx hb hK hP 4 0 rfl rfl (hop_i hp).1 dX2_setHopper_52 ?_
  refine lv_istore (lv' := [(4, .int (nw (81 + hv).toNatClampNeg)), (0, .ref (a 0)), (1, .int hv), (2, .int kk), (3, .int mm)]) hx hb dX2_setHopper_53 hl (by decide) rfl (fun ls hl => ?_)
  refine lv_aload_n hx hb dX2_setHopper_55 rfl (lv_at hl 1 rfl) ?_
  refine va_get (D := D) (ci := 2) (v := .ref (a 4)) (C := RX2) (T := TX2) (N := 10) hx hb hts iw_X2_setHopper_X2 hown hK hP 0 rfl rfl 6 (by decide) (hts (.fieldLink RX2 26 "MarbleRampsModel" "now" "[I") (mg 2 rfl)) (fun _ h9 => h9) rfl dX2_setHopper_56 ?_
  refine lv_bipush (v := 81) hx hb dX2_setHopper_59 (by decide) ?_
  refine lv_iload_n hx hb dX2_setHopper_61 rfl (lv_at hl 2 rfl) ?_
  refine lv_iadd hx hb dX2_setHopper_62 ?_
  refine lv_iload_n hx hb dX2_setHopper_63 rfl (lv_at hl 4 rfl) ?_
  refine va_iast hx hb hK hP hD hS 4 0 rfl rfl (hop_i hp).1 dX2_setHopper_64 (fun H locs hP hD hS => ?_)
  have hP : va_P D vwCl (wN cI a pt pd ab ((upd nw (81 + hv).toNatClampNeg mm)) kp wy 0 (nI cN) (nI rN) tn) H := hP
  have hD : va_D (va_A (wN cI a pt pd ab nw kp wy th (nI cN) (nI rN) tn) sz) (wN cI a pt pd ab ((upd nw (81 + hv).toNatClampNeg mm)) kp wy 0 (nI cN) (nI rN) tn) := hD
  refine lv_aload_n hx hb dX2_setHopper_65 rfl (lv_at hl 1 rfl) ?_
  refine va_get (D := D) (ci := 2) (v := .ref (a 3)) (C := RX2) (T := TX2) (N := 10) hx hb hts iw_X2_setHopper_X2 hown hK hP 0 rfl rfl 5 (by decide) (hts (.fieldLink RX2 23 "MarbleRampsModel" "above" "[I") (mg 3 rfl)) (fun _ h9 => h9) rfl dX2_setHopper_66 ?_
  refine lv_iload_n hx hb dX2_setHopper_69 rfl (lv_at hl 2 rfl) ?_
  refine lv_iload_n hx hb dX2_setHopper_70 rfl (lv_at hl 3 rfl) ?_
  refine va_iast hx hb hK hP hD hS 3 0 rfl rfl (hop_i hp).2.1 dX2_setHopper_71 (fun H locs hP hD hS => ?_)
  have hP : va_P D vwCl (wN cI a pt pd ((upd ab hv.toNatClampNeg kk)) ((upd nw (81 + hv).toNatClampNeg mm)) kp wy 0 (nI cN) (nI rN) tn) H := hP
  have hD : va_D (va_A (wN cI a pt pd ab nw kp wy th (nI cN) (nI rN) tn) sz) (wN cI a pt pd ((upd ab hv.toNatClampNeg kk)) ((upd nw (81 + hv).toNatClampNeg mm)) kp wy 0 (nI cN) (nI rN) tn) := hD
  refine lv_iload hx hb dX2_setHopper_72 (lv_at hl 0 rfl) ?_
  exact eQi () hx hb hr hlocks hP hD hK hS dX2_setHopper_74 (rfl)
set_option maxHeartbeats 4000000 in
set_option maxRecDepth 100000 in
theorem mX2_setHopper_1 (l : Launch) (D : va_G) (cI : ClassId) (a : Nat → Nat) (pt pd ab nw kp wy : Nat → Int32) (th : Int32) (cN rN : Nat) (tn : Int32) (hv kk mm : Int32) (hp : mFrom hv 0 1 = false) (sz : Nat) : Met l yX2_setHopper wsX2_setHopper ({ frames := 2, cells := 0, slots := 0, locals := 43 } : Room) (va_Pc [.ref (a 0), .int hv, .int kk, .int mm] (wPQ D [(cI, .int)] sz (wN cI a pt pd ab nw kp wy th (nI cN) (nI rN) tn))) (va_Qi (fun (zz : Int32) (_ : Unit) => zz = 0) (wB D [(cI, .int)] (va_A (wN cI a pt pd ab nw kp wy th (nI cN) (nI rN) tn) sz) (fun _ : Unit => (wN cI a pt pd ab nw kp wy 1 (nI cN) (nI rN) tn))) (va_A (wN cI a pt pd ab nw kp wy th (nI cN) (nI rN) tn) sz)) 0 0 (va_A (wN cI a pt pd ab nw kp wy th (nI cN) (nI rN) tn) sz) := by
  refine mQ_of (by decide) rfl (Nat.le_of_ble_eq_true rfl) ?_
  intro p e s m below meth c hx hb hr hml hown hin hts hlocks hsz hP hK hN hD hA hS ls hl
  have hown : s.vm.findClass RX2 = some m.cls := hown
  have hl : lv_has ls 5 [(0, .ref (a 0)), (1, .int hv), (2, .int kk), (3, .int mm)] := hl
  have hP : va_P D vwCl (wN cI a pt pd ab nw kp wy th (nI cN) (nI rN) tn) s.heap := hP
  refine lv_aload_n hx hb dX2_setHopper_0 rfl (lv_at hl 0 rfl) ?_
  refine lv_iconst (v := 0) hx hb dX2_setHopper_1 (by decide) ?_
  refine va_put (D := D) (ci := 2) (v := .int 0) (ty := .int) (C := RX2) (T := TX2) (N := 10) hx hb hts iw_X2_setHopper_X2 tyX2 tyX2_ok nmX2 hown hK hP hD hS 0 rfl rfl 0 (by decide) (hts (.fieldLink RX2 35 "MarbleRampsModel" "thrown" "I") (mg 1 rfl)) (fun _ h9 => h9) rfl (by decide +kernel) rfl rfl (Nat.le_of_ble_eq_true rfl) dX2_setHopper_2 (fun H locs hP hD hS => ?_)
  have hP : va_P D vwCl (wN cI a pt pd ab nw kp wy 0 (nI cN) (nI rN) tn) H := hP
  have hD : va_D (va_A (wN cI a pt pd ab nw kp wy th (nI cN) (nI rN) tn) sz) (wN cI a pt pd ab nw kp wy 0 (nI cN) (nI rN) tn) := hD
  refine lv_iload_n hx hb dX2_setHopper_5 rfl (lv_at hl 1 rfl) ?_
  refine lv_iconst (v := 0) hx hb dX2_setHopper_6 (by decide) ?_
  refine lv_iconst (v := 1) hx hb dX2_setHopper_7 (by decide) ?_
  refine kRSi (As := [.int hv, .int 0, .int 1]) (rest := []) ⟨hx, hb, hml, hown, hts⟩ (mX2_isFrom l D cI hv 0 1) (va_cwS 3 hts gX2_setHopper_X2_isFrom rfl rfl rfl (by decide +kernel) ⟨Nat.le_of_ble_eq_true rfl, Nat.le_of_ble_eq_true rfl⟩) hP hK hN [] rfl [0] rfl rfl hl.1 rfl (Nat.le_of_ble_eq_true rfl) dX2_setHopper_8 ⟨Nat.zero_le _, Nat.zero_le _⟩ (fun r_1 hr_1 => ?_)
  subst r_1
  refine lv_if_eq (tgt := 22) hx hb dX2_setHopper_11 (by decide) (fun c_2 => ?_) (fun c9 => absurd (by rw [hp]; decide) c9)
  refine lv_aload_n hx hb dX2_setHopper_22 rfl (lv_at hl 0 rfl) ?_
  refine lv_iconst (v := 1) hx hb dX2_setHopper_23 (by decide) ?_
  refine kQVi (As := [.int 1]) (rest := []) (wr := []) (W2 := (fun _ => (wN cI a pt pd ab nw kp wy 1 (nI cN) (nI rN) tn))) ⟨hx, hb, hml, hown, hts⟩ (mX2_no l D cI a pt pd ab nw kp wy 0 cN rN tn 1 _) (cwV 1 hts gX2_setHopper_X2_no rfl rfl rfl (by decide +kernel) ⟨Nat.le_of_ble_eq_true rfl, Nat.le_of_ble_eq_true rfl⟩) hP hD hK hN hS hA [0, 1, 2, 3, 4, 5, 6] (by decide) rfl [] (by decide) rfl (by decide) [0, 1, 2, 3, 4, 5, 6] (by decide) (fun _ => rfl) [0] rfl rfl rfl rfl hl.1 rfl (Nat.le_of_ble_eq_true rfl) dX2_setHopper_24 ⟨Nat.le_of_ble_eq_true rfl, Nat.le_of_ble_eq_true rfl⟩ (fun r_3 u_3 H locs hr_3 hP hD hS => ?_)
  subst r_3
  have hP : va_P D vwCl (wN cI a pt pd ab nw kp wy 1 (nI cN) (nI rN) tn) H := hP
  have hD : va_D (va_A (wN cI a pt pd ab nw kp wy th (nI cN) (nI rN) tn) sz) (wN cI a pt pd ab nw kp wy 1 (nI cN) (nI rN) tn) := hD
  exact eQi () hx hb hr hlocks hP hD hK hS dX2_setHopper_27 (rfl)
set_option maxHeartbeats 4000000 in
set_option maxRecDepth 100000 in
theorem mX2_setHopper_1c (l : Launch) (D : va_G) (cI : ClassId) (a : Nat → Nat) (pt pd ab nw kp wy : Nat → Int32) (th : Int32) (cN rN : Nat) (tn : Int32) (hv kk mm : Int32) (hp : mFrom hv 0 1 = true) (hq : mFrom kk 0 (nI cN - 1) = false) (sz : Nat) : Met l yX2_setHopper wsX2_setHopper ({ frames := 2, cells := 0, slots := 0, locals := 43 } : Room) (va_Pc [.ref (a 0), .int hv, .int kk, .int mm] (wPQ D [(cI, .int)] sz (wN cI a pt pd ab nw kp wy th (nI cN) (nI rN) tn))) (va_Qi (fun (zz : Int32) (_ : Unit) => zz = 0) (wB D [(cI, .int)] (va_A (wN cI a pt pd ab nw kp wy th (nI cN) (nI rN) tn) sz) (fun _ : Unit => (wN cI a pt pd ab nw kp wy 1 (nI cN) (nI rN) tn))) (va_A (wN cI a pt pd ab nw kp wy th (nI cN) (nI rN) tn) sz)) 0 0 (va_A (wN cI a pt pd ab nw kp wy th (nI cN) (nI rN) tn) sz) := by
  refine mQ_of (by decide) rfl (Nat.le_of_ble_eq_true rfl) ?_
  intro p e s m below meth c hx hb hr hml hown hin hts hlocks hsz hP hK hN hD hA hS ls hl
  have hown : s.vm.findClass RX2 = some m.cls := hown
  have hl : lv_has ls 5 [(0, .ref (a 0)), (1, .int hv), (2, .int kk), (3, .int mm)] := hl
  have hP : va_P D vwCl (wN cI a pt pd ab nw kp wy th (nI cN) (nI rN) tn) s.heap := hP
  refine lv_aload_n hx hb dX2_setHopper_0 rfl (lv_at hl 0 rfl) ?_
  refine lv_iconst (v := 0) hx hb dX2_setHopper_1 (by decide) ?_
  refine va_put (D := D) (ci := 2) (v := .int 0) (ty := .int) (C := RX2) (T := TX2) (N := 10) hx hb hts iw_X2_setHopper_X2 tyX2 tyX2_ok nmX2 hown hK hP hD hS 0 rfl rfl 0 (by decide) (hts (.fieldLink RX2 35 "MarbleRampsModel" "thrown" "I") (mg 1 rfl)) (fun _ h9 => h9) rfl (by decide +kernel) rfl rfl (Nat.le_of_ble_eq_true rfl) dX2_setHopper_2 (fun H locs hP hD hS => ?_)
  have hP : va_P D vwCl (wN cI a pt pd ab nw kp wy 0 (nI cN) (nI rN) tn) H := hP
  have hD : va_D (va_A (wN cI a pt pd ab nw kp wy th (nI cN) (nI rN) tn) sz) (wN cI a pt pd ab nw kp wy 0 (nI cN) (nI rN) tn) := hD
  refine lv_iload_n hx hb dX2_setHopper_5 rfl (lv_at hl 1 rfl) ?_
  refine lv_iconst (v := 0) hx hb dX2_setHopper_6 (by decide) ?_
  refine lv_iconst (v := 1) hx hb dX2_setHopper_7 (by decide) ?_
  refine kRSi (As := [.int hv, .int 0, .int 1]) (rest := []) ⟨hx, hb, hml, hown, hts⟩ (mX2_isFrom l D cI hv 0 1) (va_cwS 3 hts gX2_setHopper_X2_isFrom rfl rfl rfl (by decide +kernel) ⟨Nat.le_of_ble_eq_true rfl, Nat.le_of_ble_eq_true rfl⟩) hP hK hN [] rfl [0] rfl rfl hl.1 rfl (Nat.le_of_ble_eq_true rfl) dX2_setHopper_8 ⟨Nat.zero_le _, Nat.zero_le _⟩ (fun r_1 hr_1 => ?_)
  subst r_1
  refine lv_if_eq (tgt := 22) hx hb dX2_setHopper_11 (by decide) (fun c9 => absurd c9 (by rw [hp]; decide)) (fun c_2 => ?_)
  refine lv_aload_n hx hb dX2_setHopper_14 rfl (lv_at hl 0 rfl) ?_
  refine lv_iload_n hx hb dX2_setHopper_15 rfl (lv_at hl 2 rfl) ?_
  refine kRVi (As := [.int kk]) (rest := []) ⟨hx, hb, hml, hown, hts⟩ (mX2_isColumn l D cI a pt pd ab nw kp wy 0 cN rN tn kk) (cwV 1 hts gX2_setHopper_X2_isColumn rfl rfl rfl (by decide +kernel) ⟨Nat.le_of_ble_eq_true rfl, Nat.le_of_ble_eq_true rfl⟩) hP hK hN [0, 1, 2, 3, 4, 5, 6] rfl [0] rfl rfl rfl rfl hl.1 rfl (Nat.le_of_ble_eq_true rfl) dX2_setHopper_16 ⟨Nat.zero_le _, Nat.zero_le _⟩ (fun r_3 hr_3 => ?_)
  subst r_3
  refine lv_if_ne (tgt := 28) hx hb dX2_setHopper_19 (by decide) (fun c9 => absurd (by rw [hq]; decide) c9) (fun c_4 => ?_)
  refine lv_aload_n hx hb dX2_setHopper_22 rfl (lv_at hl 0 rfl) ?_
  refine lv_iconst (v := 1) hx hb dX2_setHopper_23 (by decide) ?_
  refine kQVi (As := [.int 1]) (rest := []) (wr := []) (W2 := (fun _ => (wN cI a pt pd ab nw kp wy 1 (nI cN) (nI rN) tn))) ⟨hx, hb, hml, hown, hts⟩ (mX2_no l D cI a pt pd ab nw kp wy 0 cN rN tn 1 _) (cwV 1 hts gX2_setHopper_X2_no rfl rfl rfl (by decide +kernel) ⟨Nat.le_of_ble_eq_true rfl, Nat.le_of_ble_eq_true rfl⟩) hP hD hK hN hS hA [0, 1, 2, 3, 4, 5, 6] (by decide) rfl [] (by decide) rfl (by decide) [0, 1, 2, 3, 4, 5, 6] (by decide) (fun _ => rfl) [0] rfl rfl rfl rfl hl.1 rfl (Nat.le_of_ble_eq_true rfl) dX2_setHopper_24 ⟨Nat.le_of_ble_eq_true rfl, Nat.le_of_ble_eq_true rfl⟩ (fun r_5 u_5 H locs hr_5 hP hD hS => ?_)
  subst r_5
  have hP : va_P D vwCl (wN cI a pt pd ab nw kp wy 1 (nI cN) (nI rN) tn) H := hP
  have hD : va_D (va_A (wN cI a pt pd ab nw kp wy th (nI cN) (nI rN) tn) sz) (wN cI a pt pd ab nw kp wy 1 (nI cN) (nI rN) tn) := hD
  exact eQi () hx hb hr hlocks hP hD hK hS dX2_setHopper_27 (rfl)
set_option maxHeartbeats 4000000 in
set_option maxRecDepth 100000 in
theorem mX2_setHopper_2 (l : Launch) (D : va_G) (cI : ClassId) (a : Nat → Nat) (pt pd ab nw kp wy : Nat → Int32) (th : Int32) (cN rN : Nat) (tn : Int32) (hv kk mm : Int32) (hp : mFrom hv 0 1 = true) (hq : mFrom kk 0 (nI cN - 1) = true) (hs : mFrom mm 0 99 = false) (sz : Nat) : Met l yX2_setHopper wsX2_setHopper ({ frames := 2, cells := 0, slots := 0, locals := 43 } : Room) (va_Pc [.ref (a 0), .int hv, .int kk, .int mm] (wPQ D [(cI, .int)] sz (wN cI a pt pd ab nw kp wy th (nI cN) (nI rN) tn))) (va_Qi (fun (zz : Int32) (_ : Unit) => zz = 0) (wB D [(cI, .int)] (va_A (wN cI a pt pd ab nw kp wy th (nI cN) (nI rN) tn) sz) (fun _ : Unit => (wN cI a pt pd ab nw kp wy 2 (nI cN) (nI rN) tn))) (va_A (wN cI a pt pd ab nw kp wy th (nI cN) (nI rN) tn) sz)) 0 0 (va_A (wN cI a pt pd ab nw kp wy th (nI cN) (nI rN) tn) sz) := by
  refine mQ_of (by decide) rfl (Nat.le_of_ble_eq_true rfl) ?_
  intro p e s m below meth c hx hb hr hml hown hin hts hlocks hsz hP hK hN hD hA hS ls hl
  have hown : s.vm.findClass RX2 = some m.cls := hown
  have hl : lv_has ls 5 [(0, .ref (a 0)), (1, .int hv), (2, .int kk), (3, .int mm)] := hl
  have hP : va_P D vwCl (wN cI a pt pd ab nw kp wy th (nI cN) (nI rN) tn) s.heap := hP
  refine lv_aload_n hx hb dX2_setHopper_0 rfl (lv_at hl 0 rfl) ?_
  refine lv_iconst (v := 0) hx hb dX2_setHopper_1 (by decide) ?_
  refine va_put (D := D) (ci := 2) (v := .int 0) (ty := .int) (C := RX2) (T := TX2) (N := 10) hx hb hts iw_X2_setHopper_X2 tyX2 tyX2_ok nmX2 hown hK hP hD hS 0 rfl rfl 0 (by decide) (hts (.fieldLink RX2 35 "MarbleRampsModel" "thrown" "I") (mg 1 rfl)) (fun _ h9 => h9) rfl (by decide +kernel) rfl rfl (Nat.le_of_ble_eq_true rfl) dX2_setHopper_2 (fun H locs hP hD hS => ?_)
  have hP : va_P D vwCl (wN cI a pt pd ab nw kp wy 0 (nI cN) (nI rN) tn) H := hP
  have hD : va_D (va_A (wN cI a pt pd ab nw kp wy th (nI cN) (nI rN) tn) sz) (wN cI a pt pd ab nw kp wy 0 (nI cN) (nI rN) tn) := hD
  refine lv_iload_n hx hb dX2_setHopper_5 rfl (lv_at hl 1 rfl) ?_
  refine lv_iconst (v := 0) hx hb dX2_setHopper_6 (by decide) ?_
  refine lv_iconst (v := 1) hx hb dX2_setHopper_7 (by decide) ?_
  refine kRSi (As := [.int hv, .int 0, .int 1]) (rest := []) ⟨hx, hb, hml, hown, hts⟩ (mX2_isFrom l D cI hv 0 1) (va_cwS 3 hts gX2_setHopper_X2_isFrom rfl rfl rfl (by decide +kernel) ⟨Nat.le_of_ble_eq_true rfl, Nat.le_of_ble_eq_true rfl⟩) hP hK hN [] rfl [0] rfl rfl hl.1 rfl (Nat.le_of_ble_eq_true rfl) dX2_setHopper_8 ⟨Nat.zero_le _, Nat.zero_le _⟩ (fun r_1 hr_1 => ?_)
  subst r_1
  refine lv_if_eq (tgt := 22) hx hb dX2_setHopper_11 (by decide) (fun c9 => absurd c9 (by rw [hp]; decide)) (fun c_2 => ?_)
  refine lv_aload_n hx hb dX2_setHopper_14 rfl (lv_at hl 0 rfl) ?_
  refine lv_iload_n hx hb dX2_setHopper_15 rfl (lv_at hl 2 rfl) ?_
  refine kRVi (As := [.int kk]) (rest := []) ⟨hx, hb, hml, hown, hts⟩ (mX2_isColumn l D cI a pt pd ab nw kp wy 0 cN rN tn kk) (cwV 1 hts gX2_setHopper_X2_isColumn rfl rfl rfl (by decide +kernel) ⟨Nat.le_of_ble_eq_true rfl, Nat.le_of_ble_eq_true rfl⟩) hP hK hN [0, 1, 2, 3, 4, 5, 6] rfl [0] rfl rfl rfl rfl hl.1 rfl (Nat.le_of_ble_eq_true rfl) dX2_setHopper_16 ⟨Nat.zero_le _, Nat.zero_le _⟩ (fun r_3 hr_3 => ?_)
  subst r_3
  refine lv_if_ne (tgt := 28) hx hb dX2_setHopper_19 (by decide) (fun c_4 => ?_) (fun c9 => absurd c9 (by rw [hq]; decide))
  refine lv_iload_n hx hb dX2_setHopper_28 rfl (lv_at hl 3 rfl) ?_
  refine lv_iconst (v := 0) hx hb dX2_setHopper_29 (by decide) ?_
  refine lv_bipush (v := 99) hx hb dX2_setHopper_30 (by decide) ?_
  refine kRSi (As := [.int mm, .int 0, .int 99]) (rest := []) ⟨hx, hb, hml, hown, hts⟩ (mX2_isFrom l D cI mm 0 99) (va_cwS 3 hts gX2_setHopper_X2_isFrom rfl rfl rfl (by decide +kernel) ⟨Nat.le_of_ble_eq_true rfl, Nat.le_of_ble_eq_true rfl⟩) hP hK hN [] rfl [0] rfl rfl hl.1 rfl (Nat.le_of_ble_eq_true rfl) dX2_setHopper_32 ⟨Nat.zero_le _, Nat.zero_le _⟩ (fun r_5 hr_5 => ?_)
  subst r_5
  refine lv_if_ne (tgt := 44) hx hb dX2_setHopper_35 (by decide) (fun c9 => absurd (by rw [hs]; decide) c9) (fun c_6 => ?_)
  refine lv_aload_n hx hb dX2_setHopper_38 rfl (lv_at hl 0 rfl) ?_
  refine lv_iconst (v := 2) hx hb dX2_setHopper_39 (by decide) ?_
  refine kQVi (As := [.int 2]) (rest := []) (wr := []) (W2 := (fun _ => (wN cI a pt pd ab nw kp wy 2 (nI cN) (nI rN) tn))) ⟨hx, hb, hml, hown, hts⟩ (mX2_no l D cI a pt pd ab nw kp wy 0 cN rN tn 2 _) (cwV 1 hts gX2_setHopper_X2_no rfl rfl rfl (by decide +kernel) ⟨Nat.le_of_ble_eq_true rfl, Nat.le_of_ble_eq_true rfl⟩) hP hD hK hN hS hA [0, 1, 2, 3, 4, 5, 6] (by decide) rfl [] (by decide) rfl (by decide) [0, 1, 2, 3, 4, 5, 6] (by decide) (fun _ => rfl) [0] rfl rfl rfl rfl hl.1 rfl (Nat.le_of_ble_eq_true rfl) dX2_setHopper_40 ⟨Nat.le_of_ble_eq_true rfl, Nat.le_of_ble_eq_true rfl⟩ (fun r_7 u_7 H locs hr_7 hP hD hS => ?_)
  subst r_7
  have hP : va_P D vwCl (wN cI a pt pd ab nw kp wy 2 (nI cN) (nI rN) tn) H := hP
  have hD : va_D (va_A (wN cI a pt pd ab nw kp wy th (nI cN) (nI rN) tn) sz) (wN cI a pt pd ab nw kp wy 2 (nI cN) (nI rN) tn) := hD
  exact eQi () hx hb hr hlocks hP hD hK hS dX2_setHopper_43 (rfl)
theorem iw_X2_marblesIn_X2 : ∀ w ∈ wsX20, w ∈ wsX2_marblesIn := mem_pos [11, 12, 13, 14, 15, 16, 17, 18, 19, 20] (by decide +kernel)
set_option maxHeartbeats 4000000 in
set_option maxRecDepth 100000 in
theorem mX2_marblesIn_0 (l : Launch) (D : va_G) (cI : ClassId) (a : Nat → Nat) (pt pd ab nw kp wy : Nat → Int32) (th : Int32) (cN rN : Nat) (tn : Int32) (hv : Int32) (hp : mFrom hv 0 1 = true) (sz : Nat) : Met l yX2_marblesIn wsX2_marblesIn ({ frames := 1, cells := 0, slots := 0, locals := 22 } : Room) (va_Pc [.ref (a 0), .int hv] (wPQ D [(cI, .int)] sz (wN cI a pt pd ab nw kp wy th (nI cN) (nI rN) tn))) (va_Qi (fun (zz : Int32) (_ : Unit) => zz = nw (81 + hv).toNatClampNeg) (wB D [(cI, .int)] (va_A (wN cI a pt pd ab nw kp wy th (nI cN) (nI rN) tn) sz) (fun _ : Unit => (wN cI a pt pd ab nw kp wy 0 (nI cN) (nI rN) tn))) (va_A (wN cI a pt pd ab nw kp wy th (nI cN) (nI rN) tn) sz)) 0 0 (va_A (wN cI a pt pd ab nw kp wy th (nI cN) (nI rN) tn) sz) := by
  refine mQ_of (by decide) rfl (Nat.le_of_ble_eq_true rfl) ?_
  intro p e s m below meth c hx hb hr hml hown hin hts hlocks hsz hP hK hN hD hA hS ls hl
  have hown : s.vm.findClass RX2 = some m.cls := hown
  have hl : lv_has ls 2 [(0, .ref (a 0)), (1, .int hv)] := hl
  have hP : va_P D vwCl (wN cI a pt pd ab nw kp wy th (nI cN) (nI rN) tn) s.heap := hP
  refine lv_aload_n hx hb dX2_marblesIn_0 rfl (lv_at hl 0 rfl) ?_
  refine lv_iconst (v := 0) hx hb dX2_marblesIn_1 (by decide) ?_
  refine va_put (D := D) (ci := 2) (v := .int 0) (ty := .int) (C := RX2) (T := TX2) (N := 10) hx hb hts iw_X2_marblesIn_X2 tyX2 tyX2_ok nmX2 hown hK hP hD hS 0 rfl rfl 0 (by decide) (hts (.fieldLink RX2 35 "MarbleRampsModel" "thrown" "I") (mg 1 rfl)) (fun _ h9 => h9) rfl (by decide +kernel) rfl rfl (Nat.le_of_ble_eq_true rfl) dX2_marblesIn_2 (fun H locs hP hD hS => ?_)
  have hP : va_P D vwCl (wN cI a pt pd ab nw kp wy 0 (nI cN) (nI rN) tn) H := hP
  have hD : va_D (va_A (wN cI a pt pd ab nw kp wy th (nI cN) (nI rN) tn) sz) (wN cI a pt pd ab nw kp wy 0 (nI cN) (nI rN) tn) := hD
  refine lv_iload_n hx hb dX2_marblesIn_5 rfl (lv_at hl 1 rfl) ?_
  refine lv_iconst (v := 0) hx hb dX2_marblesIn_6 (by decide) ?_
  refine lv_iconst (v := 1) hx hb dX2_marblesIn_7 (by decide) ?_
  refine kRSi (As := [.int hv, .int 0, .int 1]) (rest := []) ⟨hx, hb, hml, hown, hts⟩ (mX2_isFrom l D cI hv 0 1) (va_cwS 3 hts gX2_marblesIn_X2_isFrom rfl rfl rfl (by decide +kernel) ⟨Nat.le_of_ble_eq_true rfl, Nat.le_of_ble_eq_true rfl⟩) hP hK hN [] rfl [0] rfl rfl hl.1 rfl (Nat.le_of_ble_eq_true rfl) dX2_marblesIn_8 ⟨Nat.zero_le _, Nat.zero_le _⟩ (fun r_1 hr_1 => ?_)
  subst r_1
  refine lv_if_eq (tgt := 26) hx hb dX2_marblesIn_11 (by decide) (fun c9 => absurd c9 (by rw [hp]; decide)) (fun c_2 => ?_)
  refine lv_aload_n hx hb dX2_marblesIn_14 rfl (lv_at hl 0 rfl) ?_
  refine va_get (D := D) (ci := 2) (v := .ref (a 4)) (C := RX2) (T := TX2) (N := 10) hx hb hts iw_X2_marblesIn_X2 hown hK hP 0 rfl rfl 6 (by decide) (hts (.fieldLink RX2 26 "MarbleRampsModel" "now" "[I") (mg 2 rfl)) (fun _ h9 => h9) rfl dX2_marblesIn_15 ?_
  refine lv_bipush (v := 81) hx hb dX2_marblesIn_18 (by decide) ?_
  refine lv_iload_n hx hb dX2_marblesIn_20 rfl (lv_at hl 1 rfl) ?_
  refine lv_iadd hx hb dX2_marblesIn_21 ?_
  refine va_iald hx hb hK hP 4 0 rfl rfl (hop_i hp).1 dX2_marblesIn_22 ?_
  refine lv_goto (tgt := 31) hx hb dX2_marblesIn_23 (by decide) ?_
  exact eQi () hx hb hr hlocks hP hD hK hS dX2_marblesIn_31 (rfl)
set_option maxHeartbeats 4000000 in
set_option maxRecDepth 100000 in
theorem mX2_marblesIn_1 (l : Launch) (D : va_G) (cI : ClassId) (a : Nat → Nat) (pt pd ab nw kp wy : Nat → Int32) (th : Int32) (cN rN : Nat) (tn : Int32) (hv : Int32) (hp : mFrom hv 0 1 = false) (sz : Nat) : Met l yX2_marblesIn wsX2_marblesIn ({ frames := 1, cells := 0, slots := 0, locals := 22 } : Room) (va_Pc [.ref (a 0), .int hv] (wPQ D [(cI, .int)] sz (wN cI a pt pd ab nw kp wy th (nI cN) (nI rN) tn))) (va_Qi (fun (zz : Int32) (_ : Unit) => zz = 0) (wB D [(cI, .int)] (va_A (wN cI a pt pd ab nw kp wy th (nI cN) (nI rN) tn) sz) (fun _ : Unit => (wN cI a pt pd ab nw kp wy 1 (nI cN) (nI rN) tn))) (va_A (wN cI a pt pd ab nw kp wy th (nI cN) (nI rN) tn) sz)) 0 0 (va_A (wN cI a pt pd ab nw kp wy th (nI cN) (nI rN) tn) sz) := by
  refine mQ_of (by decide) rfl (Nat.le_of_ble_eq_true rfl) ?_
  intro p e s m below meth c hx hb hr hml hown hin hts hlocks hsz hP hK hN hD hA hS ls hl
  have hown : s.vm.findClass RX2 = some m.cls := hown
  have hl : lv_has ls 2 [(0, .ref (a 0)), (1, .int hv)] := hl
  have hP : va_P D vwCl (wN cI a pt pd ab nw kp wy th (nI cN) (nI rN) tn) s.heap := hP
  refine lv_aload_n hx hb dX2_marblesIn_0 rfl (lv_at hl 0 rfl) ?_
  refine lv_iconst (v := 0) hx hb dX2_marblesIn_1 (by decide) ?_
  refine va_put (D := D) (ci := 2) (v := .int 0) (ty := .int) (C := RX2) (T := TX2) (N := 10) hx hb hts iw_X2_marblesIn_X2 tyX2 tyX2_ok nmX2 hown hK hP hD hS 0 rfl rfl 0 (by decide) (hts (.fieldLink RX2 35 "MarbleRampsModel" "thrown" "I") (mg 1 rfl)) (fun _ h9 => h9) rfl (by decide +kernel) rfl rfl (Nat.le_of_ble_eq_true rfl) dX2_marblesIn_2 (fun H locs hP hD hS => ?_)
  have hP : va_P D vwCl (wN cI a pt pd ab nw kp wy 0 (nI cN) (nI rN) tn) H := hP
  have hD : va_D (va_A (wN cI a pt pd ab nw kp wy th (nI cN) (nI rN) tn) sz) (wN cI a pt pd ab nw kp wy 0 (nI cN) (nI rN) tn) := hD
  refine lv_iload_n hx hb dX2_marblesIn_5 rfl (lv_at hl 1 rfl) ?_
  refine lv_iconst (v := 0) hx hb dX2_marblesIn_6 (by decide) ?_
  refine lv_iconst (v := 1) hx hb dX2_marblesIn_7 (by decide) ?_
  refine kRSi (As := [.int hv, .int 0, .int 1]) (rest := []) ⟨hx, hb, hml, hown, hts⟩ (mX2_isFrom l D cI hv 0 1) (va_cwS 3 hts gX2_marblesIn_X2_isFrom rfl rfl rfl (by decide +kernel) ⟨Nat.le_of_ble_eq_true rfl, Nat.le_of_ble_eq_true rfl⟩) hP hK hN [] rfl [0] rfl rfl hl.1 rfl (Nat.le_of_ble_eq_true rfl) dX2_marblesIn_8 ⟨Nat.zero_le _, Nat.zero_le _⟩ (fun r_1 hr_1 => ?_)
  subst r_1
  refine lv_if_eq (tgt := 26) hx hb dX2_marblesIn_11 (by decide) (fun c_2 => ?_) (fun c9 => absurd (by rw [hp]; decide) c9)
  refine lv_aload_n hx hb dX2_marblesIn_26 rfl (lv_at hl 0 rfl) ?_
  refine lv_iconst (v := 1) hx hb dX2_marblesIn_27 (by decide) ?_
  refine kQVi (As := [.int 1]) (rest := []) (wr := []) (W2 := (fun _ => (wN cI a pt pd ab nw kp wy 1 (nI cN) (nI rN) tn))) ⟨hx, hb, hml, hown, hts⟩ (mX2_no l D cI a pt pd ab nw kp wy 0 cN rN tn 1 _) (cwV 1 hts gX2_marblesIn_X2_no rfl rfl rfl (by decide +kernel) ⟨Nat.le_of_ble_eq_true rfl, Nat.le_of_ble_eq_true rfl⟩) hP hD hK hN hS hA [0, 1, 2, 3, 4, 5, 6] (by decide) rfl [] (by decide) rfl (by decide) [0, 1, 2, 3, 4, 5, 6] (by decide) (fun _ => rfl) [0] rfl rfl rfl rfl hl.1 rfl (Nat.le_of_ble_eq_true rfl) dX2_marblesIn_28 ⟨Nat.le_of_ble_eq_true rfl, Nat.le_of_ble_eq_true rfl⟩ (fun r_3 u_3 H locs hr_3 hP hD hS => ?_)
  subst r_3
  have hP : va_P D vwCl (wN cI a pt pd ab nw kp wy 1 (nI cN) (nI rN) tn) H := hP
  have hD : va_D (va_A (wN cI a pt pd ab nw kp wy th (nI cN) (nI rN) tn) sz) (wN cI a pt pd ab nw kp wy 1 (nI cN) (nI rN) tn) := hD
  exact eQi () hx hb hr hlocks hP hD hK hS dX2_marblesIn_31 (rfl)
theorem iw_X2_columnOf_X2 : ∀ w ∈ wsX20, w ∈ wsX2_columnOf := mem_pos [11, 12, 13, 14, 15, 16, 17, 18, 19, 20] (by decide +kernel)
set_option maxHeartbeats 4000000 in
set_option maxRecDepth 100000 in
theorem mX2_columnOf_0 (l : Launch) (D : va_G) (cI : ClassId) (a : Nat → Nat) (pt pd ab nw kp wy : Nat → Int32) (th : Int32) (cN rN : Nat) (tn : Int32) (hv : Int32) (hp : mFrom hv 0 1 = true) (sz : Nat) : Met l yX2_columnOf wsX2_columnOf ({ frames := 1, cells := 0, slots := 0, locals := 22 } : Room) (va_Pc [.ref (a 0), .int hv] (wPQ D [(cI, .int)] sz (wN cI a pt pd ab nw kp wy th (nI cN) (nI rN) tn))) (va_Qi (fun (zz : Int32) (_ : Unit) => zz = ab hv.toNatClampNeg) (wB D [(cI, .int)] (va_A (wN cI a pt pd ab nw kp wy th (nI cN) (nI rN) tn) sz) (fun _ : Unit => (wN cI a pt pd ab nw kp wy 0 (nI cN) (nI rN) tn))) (va_A (wN cI a pt pd ab nw kp wy th (nI cN) (nI rN) tn) sz)) 0 0 (va_A (wN cI a pt pd ab nw kp wy th (nI cN) (nI rN) tn) sz) := by
  refine mQ_of (by decide) rfl (Nat.le_of_ble_eq_true rfl) ?_
  intro p e s m below meth c hx hb hr hml hown hin hts hlocks hsz hP hK hN hD hA hS ls hl
  have hown : s.vm.findClass RX2 = some m.cls := hown
  have hl : lv_has ls 2 [(0, .ref (a 0)), (1, .int hv)] := hl
  have hP : va_P D vwCl (wN cI a pt pd ab nw kp wy th (nI cN) (nI rN) tn) s.heap := hP
  refine lv_aload_n hx hb dX2_columnOf_0 rfl (lv_at hl 0 rfl) ?_
  refine lv_iconst (v := 0) hx hb dX2_columnOf_1 (by decide) ?_
  refine va_put (D := D) (ci := 2) (v := .int 0) (ty := .int) (C := RX2) (T := TX2) (N := 10) hx hb hts iw_X2_columnOf_X2 tyX2 tyX2_ok nmX2 hown hK hP hD hS 0 rfl rfl 0 (by decide) (hts (.fieldLink RX2 35 "MarbleRampsModel" "thrown" "I") (mg 1 rfl)) (fun _ h9 => h9) rfl (by decide +kernel) rfl rfl (Nat.le_of_ble_eq_true rfl) dX2_columnOf_2 (fun H locs hP hD hS => ?_)
  have hP : va_P D vwCl (wN cI a pt pd ab nw kp wy 0 (nI cN) (nI rN) tn) H := hP
  have hD : va_D (va_A (wN cI a pt pd ab nw kp wy th (nI cN) (nI rN) tn) sz) (wN cI a pt pd ab nw kp wy 0 (nI cN) (nI rN) tn) := hD
  refine lv_iload_n hx hb dX2_columnOf_5 rfl (lv_at hl 1 rfl) ?_
  refine lv_iconst (v := 0) hx hb dX2_columnOf_6 (by decide) ?_
  refine lv_iconst (v := 1) hx hb dX2_columnOf_7 (by decide) ?_
  refine kRSi (As := [.int hv, .int 0, .int 1]) (rest := []) ⟨hx, hb, hml, hown, hts⟩ (mX2_isFrom l D cI hv 0 1) (va_cwS 3 hts gX2_columnOf_X2_isFrom rfl rfl rfl (by decide +kernel) ⟨Nat.le_of_ble_eq_true rfl, Nat.le_of_ble_eq_true rfl⟩) hP hK hN [] rfl [0] rfl rfl hl.1 rfl (Nat.le_of_ble_eq_true rfl) dX2_columnOf_8 ⟨Nat.zero_le _, Nat.zero_le _⟩ (fun r_1 hr_1 => ?_)
  subst r_1
  refine lv_if_eq (tgt := 23) hx hb dX2_columnOf_11 (by decide) (fun c9 => absurd c9 (by rw [hp]; decide)) (fun c_2 => ?_)
  refine lv_aload_n hx hb dX2_columnOf_14 rfl (lv_at hl 0 rfl) ?_
  refine va_get (D := D) (ci := 2) (v := .ref (a 3)) (C := RX2) (T := TX2) (N := 10) hx hb hts iw_X2_columnOf_X2 hown hK hP 0 rfl rfl 5 (by decide) (hts (.fieldLink RX2 23 "MarbleRampsModel" "above" "[I") (mg 2 rfl)) (fun _ h9 => h9) rfl dX2_columnOf_15 ?_
  refine lv_iload_n hx hb dX2_columnOf_18 rfl (lv_at hl 1 rfl) ?_
  refine va_iald hx hb hK hP 3 0 rfl rfl (hop_i hp).2.1 dX2_columnOf_19 ?_
  refine lv_goto (tgt := 28) hx hb dX2_columnOf_20 (by decide) ?_
  exact eQi () hx hb hr hlocks hP hD hK hS dX2_columnOf_28 (rfl)
set_option maxHeartbeats 4000000 in
set_option maxRecDepth 100000 in
theorem mX2_columnOf_1 (l : Launch) (D : va_G) (cI : ClassId) (a : Nat → Nat) (pt pd ab nw kp wy : Nat → Int32) (th : Int32) (cN rN : Nat) (tn : Int32) (hv : Int32) (hp : mFrom hv 0 1 = false) (sz : Nat) : Met l yX2_columnOf wsX2_columnOf ({ frames := 1, cells := 0, slots := 0, locals := 22 } : Room) (va_Pc [.ref (a 0), .int hv] (wPQ D [(cI, .int)] sz (wN cI a pt pd ab nw kp wy th (nI cN) (nI rN) tn))) (va_Qi (fun (zz : Int32) (_ : Unit) => zz = 0) (wB D [(cI, .int)] (va_A (wN cI a pt pd ab nw kp wy th (nI cN) (nI rN) tn) sz) (fun _ : Unit => (wN cI a pt pd ab nw kp wy 1 (nI cN) (nI rN) tn))) (va_A (wN cI a pt pd ab nw kp wy th (nI cN) (nI rN) tn) sz)) 0 0 (va_A (wN cI a pt pd ab nw kp wy th (nI cN) (nI rN) tn) sz) := by
  refine mQ_of (by decide) rfl (Nat.le_of_ble_eq_true rfl) ?_
  intro p e s m below meth c hx hb hr hml hown hin hts hlocks hsz hP hK hN hD hA hS ls hl
  have hown : s.vm.findClass RX2 = some m.cls := hown
  have hl : lv_has ls 2 [(0, .ref (a 0)), (1, .int hv)] := hl
  have hP : va_P D vwCl (wN cI a pt pd ab nw kp wy th (nI cN) (nI rN) tn) s.heap := hP
  refine lv_aload_n hx hb dX2_columnOf_0 rfl (lv_at hl 0 rfl) ?_
  refine lv_iconst (v := 0) hx hb dX2_columnOf_1 (by decide) ?_
  refine va_put (D := D) (ci := 2) (v := .int 0) (ty := .int) (C := RX2) (T := TX2) (N := 10) hx hb hts iw_X2_columnOf_X2 tyX2 tyX2_ok nmX2 hown hK hP hD hS 0 rfl rfl 0 (by decide) (hts (.fieldLink RX2 35 "MarbleRampsModel" "thrown" "I") (mg 1 rfl)) (fun _ h9 => h9) rfl (by decide +kernel) rfl rfl (Nat.le_of_ble_eq_true rfl) dX2_columnOf_2 (fun H locs hP hD hS => ?_)
  have hP : va_P D vwCl (wN cI a pt pd ab nw kp wy 0 (nI cN) (nI rN) tn) H := hP
  have hD : va_D (va_A (wN cI a pt pd ab nw kp wy th (nI cN) (nI rN) tn) sz) (wN cI a pt pd ab nw kp wy 0 (nI cN) (nI rN) tn) := hD
  refine lv_iload_n hx hb dX2_columnOf_5 rfl (lv_at hl 1 rfl) ?_
  refine lv_iconst (v := 0) hx hb dX2_columnOf_6 (by decide) ?_
  refine lv_iconst (v := 1) hx hb dX2_columnOf_7 (by decide) ?_
  refine kRSi (As := [.int hv, .int 0, .int 1]) (rest := []) ⟨hx, hb, hml, hown, hts⟩ (mX2_isFrom l D cI hv 0 1) (va_cwS 3 hts gX2_columnOf_X2_isFrom rfl rfl rfl (by decide +kernel) ⟨Nat.le_of_ble_eq_true rfl, Nat.le_of_ble_eq_true rfl⟩) hP hK hN [] rfl [0] rfl rfl hl.1 rfl (Nat.le_of_ble_eq_true rfl) dX2_columnOf_8 ⟨Nat.zero_le _, Nat.zero_le _⟩ (fun r_1 hr_1 => ?_)
  subst r_1
  refine lv_if_eq (tgt := 23) hx hb dX2_columnOf_11 (by decide) (fun c_2 => ?_) (fun c9 => absurd (by rw [hp]; decide) c9)
  refine lv_aload_n hx hb dX2_columnOf_23 rfl (lv_at hl 0 rfl) ?_
  refine lv_iconst (v := 1) hx hb dX2_columnOf_24 (by decide) ?_
  refine kQVi (As := [.int 1]) (rest := []) (wr := []) (W2 := (fun _ => (wN cI a pt pd ab nw kp wy 1 (nI cN) (nI rN) tn))) ⟨hx, hb, hml, hown, hts⟩ (mX2_no l D cI a pt pd ab nw kp wy 0 cN rN tn 1 _) (cwV 1 hts gX2_columnOf_X2_no rfl rfl rfl (by decide +kernel) ⟨Nat.le_of_ble_eq_true rfl, Nat.le_of_ble_eq_true rfl⟩) hP hD hK hN hS hA [0, 1, 2, 3, 4, 5, 6] (by decide) rfl [] (by decide) rfl (by decide) [0, 1, 2, 3, 4, 5, 6] (by decide) (fun _ => rfl) [0] rfl rfl rfl rfl hl.1 rfl (Nat.le_of_ble_eq_true rfl) dX2_columnOf_25 ⟨Nat.le_of_ble_eq_true rfl, Nat.le_of_ble_eq_true rfl⟩ (fun r_3 u_3 H locs hr_3 hP hD hS => ?_)
  subst r_3
  have hP : va_P D vwCl (wN cI a pt pd ab nw kp wy 1 (nI cN) (nI rN) tn) H := hP
  have hD : va_D (va_A (wN cI a pt pd ab nw kp wy th (nI cN) (nI rN) tn) sz) (wN cI a pt pd ab nw kp wy 1 (nI cN) (nI rN) tn) := hD
  exact eQi () hx hb hr hlocks hP hD hK hS dX2_columnOf_28 (rfl)
theorem iw_X2_binOf_X2 : ∀ w ∈ wsX20, w ∈ wsX2_binOf := mem_pos [16, 17, 18, 19, 20, 21, 22, 23, 24, 25] (by decide +kernel)
set_option maxHeartbeats 4000000 in
set_option maxRecDepth 100000 in
theorem mX2_binOf_0 (l : Launch) (D : va_G) (cI : ClassId) (a : Nat → Nat) (pt pd ab nw kp wy : Nat → Int32) (th : Int32) (cN rN : Nat) (tn : Int32) (kk : Int32) (hI : mInv cN rN pt pd ab) (hq : mFrom kk 0 (nI cN - 1) = true) (sz : Nat) : Met l yX2_binOf wsX2_binOf ({ frames := 2, cells := 0, slots := 0, locals := 43 } : Room) (va_Pc [.ref (a 0), .int kk] (wPQ D [(cI, .int)] sz (wN cI a pt pd ab nw kp wy th (nI cN) (nI rN) tn))) (va_Qi (fun (zz : Int32) (_ : Unit) => zz = nw (72 + kk).toNatClampNeg) (wB D [(cI, .int)] (va_A (wN cI a pt pd ab nw kp wy th (nI cN) (nI rN) tn) sz) (fun _ : Unit => (wN cI a pt pd ab nw kp wy 0 (nI cN) (nI rN) tn))) (va_A (wN cI a pt pd ab nw kp wy th (nI cN) (nI rN) tn) sz)) 0 0 (va_A (wN cI a pt pd ab nw kp wy th (nI cN) (nI rN) tn) sz) := by
  refine mQ_of (by decide) rfl (Nat.le_of_ble_eq_true rfl) ?_
  intro p e s m below meth c hx hb hr hml hown hin hts hlocks hsz hP hK hN hD hA hS ls hl
  have hown : s.vm.findClass RX2 = some m.cls := hown
  have hl : lv_has ls 2 [(0, .ref (a 0)), (1, .int kk)] := hl
  obtain ⟨⟨hc1, hc9⟩, hr8, hz, hab⟩ := id hI
  have hP : va_P D vwCl (wN cI a pt pd ab nw kp wy th (nI cN) (nI rN) tn) s.heap := hP
  refine lv_aload_n hx hb dX2_binOf_0 rfl (lv_at hl 0 rfl) ?_
  refine lv_iconst (v := 0) hx hb dX2_binOf_1 (by decide) ?_
  refine va_put (D := D) (ci := 2) (v := .int 0) (ty := .int) (C := RX2) (T := TX2) (N := 10) hx hb hts iw_X2_binOf_X2 tyX2 tyX2_ok nmX2 hown hK hP hD hS 0 rfl rfl 0 (by decide) (hts (.fieldLink RX2 35 "MarbleRampsModel" "thrown" "I") (mg 1 rfl)) (fun _ h9 => h9) rfl (by decide +kernel) rfl rfl (Nat.le_of_ble_eq_true rfl) dX2_binOf_2 (fun H locs hP hD hS => ?_)
  have hP : va_P D vwCl (wN cI a pt pd ab nw kp wy 0 (nI cN) (nI rN) tn) H := hP
  have hD : va_D (va_A (wN cI a pt pd ab nw kp wy th (nI cN) (nI rN) tn) sz) (wN cI a pt pd ab nw kp wy 0 (nI cN) (nI rN) tn) := hD
  refine lv_aload_n hx hb dX2_binOf_5 rfl (lv_at hl 0 rfl) ?_
  refine lv_iload_n hx hb dX2_binOf_6 rfl (lv_at hl 1 rfl) ?_
  refine kRVi (As := [.int kk]) (rest := []) ⟨hx, hb, hml, hown, hts⟩ (mX2_isColumn l D cI a pt pd ab nw kp wy 0 cN rN tn kk) (cwV 1 hts gX2_binOf_X2_isColumn rfl rfl rfl (by decide +kernel) ⟨Nat.le_of_ble_eq_true rfl, Nat.le_of_ble_eq_true rfl⟩) hP hK hN [0, 1, 2, 3, 4, 5, 6] rfl [0] rfl rfl rfl rfl hl.1 rfl (Nat.le_of_ble_eq_true rfl) dX2_binOf_7 ⟨Nat.zero_le _, Nat.zero_le _⟩ (fun r_1 hr_1 => ?_)
  subst r_1
  refine lv_if_eq (tgt := 25) hx hb dX2_binOf_10 (by decide) (fun c9 => absurd c9 (by rw [hq]; decide)) (fun c_2 => ?_)
  refine lv_aload_n hx hb dX2_binOf_13 rfl (lv_at hl 0 rfl) ?_
  refine va_get (D := D) (ci := 2) (v := .ref (a 4)) (C := RX2) (T := TX2) (N := 10) hx hb hts iw_X2_binOf_X2 hown hK hP 0 rfl rfl 6 (by decide) (hts (.fieldLink RX2 26 "MarbleRampsModel" "now" "[I") (mg 2 rfl)) (fun _ h9 => h9) rfl dX2_binOf_14 ?_
  refine lv_bipush (v := 72) hx hb dX2_binOf_17 (by decide) ?_
  refine lv_iload_n hx hb dX2_binOf_19 rfl (lv_at hl 1 rfl) ?_
  refine lv_iadd hx hb dX2_binOf_20 ?_
  refine va_iald hx hb hK hP 4 0 rfl rfl (inbin hc9 (mFrom_n hq hc1 (by omega))) dX2_binOf_21 ?_
  refine lv_goto (tgt := 30) hx hb dX2_binOf_22 (by decide) ?_
  exact eQi () hx hb hr hlocks hP hD hK hS dX2_binOf_30 (rfl)
set_option maxHeartbeats 4000000 in
set_option maxRecDepth 100000 in
theorem mX2_binOf_1 (l : Launch) (D : va_G) (cI : ClassId) (a : Nat → Nat) (pt pd ab nw kp wy : Nat → Int32) (th : Int32) (cN rN : Nat) (tn : Int32) (kk : Int32) (hq : mFrom kk 0 (nI cN - 1) = false) (sz : Nat) : Met l yX2_binOf wsX2_binOf ({ frames := 2, cells := 0, slots := 0, locals := 43 } : Room) (va_Pc [.ref (a 0), .int kk] (wPQ D [(cI, .int)] sz (wN cI a pt pd ab nw kp wy th (nI cN) (nI rN) tn))) (va_Qi (fun (zz : Int32) (_ : Unit) => zz = 0) (wB D [(cI, .int)] (va_A (wN cI a pt pd ab nw kp wy th (nI cN) (nI rN) tn) sz) (fun _ : Unit => (wN cI a pt pd ab nw kp wy 1 (nI cN) (nI rN) tn))) (va_A (wN cI a pt pd ab nw kp wy th (nI cN) (nI rN) tn) sz)) 0 0 (va_A (wN cI a pt pd ab nw kp wy th (nI cN) (nI rN) tn) sz) := by
  refine mQ_of (by decide) rfl (Nat.le_of_ble_eq_true rfl) ?_
  intro p e s m below meth c hx hb hr hml hown hin hts hlocks hsz hP hK hN hD hA hS ls hl
  have hown : s.vm.findClass RX2 = some m.cls := hown
  have hl : lv_has ls 2 [(0, .ref (a 0)), (1, .int kk)] := hl
  have hP : va_P D vwCl (wN cI a pt pd ab nw kp wy th (nI cN) (nI rN) tn) s.heap := hP
  refine lv_aload_n hx hb dX2_binOf_0 rfl (lv_at hl 0 rfl) ?_
  refine lv_iconst (v := 0) hx hb dX2_binOf_1 (by decide) ?_
  refine va_put (D := D) (ci := 2) (v := .int 0) (ty := .int) (C := RX2) (T := TX2) (N := 10) hx hb hts iw_X2_binOf_X2 tyX2 tyX2_ok nmX2 hown hK hP hD hS 0 rfl rfl 0 (by decide) (hts (.fieldLink RX2 35 "MarbleRampsModel" "thrown" "I") (mg 1 rfl)) (fun _ h9 => h9) rfl (by decide +kernel) rfl rfl (Nat.le_of_ble_eq_true rfl) dX2_binOf_2 (fun H locs hP hD hS => ?_)
  have hP : va_P D vwCl (wN cI a pt pd ab nw kp wy 0 (nI cN) (nI rN) tn) H := hP
  have hD : va_D (va_A (wN cI a pt pd ab nw kp wy th (nI cN) (nI rN) tn) sz) (wN cI a pt pd ab nw kp wy 0 (nI cN) (nI rN) tn) := hD
  refine lv_aload_n hx hb dX2_binOf_5 rfl (lv_at hl 0 rfl) ?_
  refine lv_iload_n hx hb dX2_binOf_6 rfl (lv_at hl 1 rfl) ?_
  refine kRVi (As := [.int kk]) (rest := []) ⟨hx, hb, hml, hown, hts⟩ (mX2_isColumn l D cI a pt pd ab nw kp wy 0 cN rN tn kk) (cwV 1 hts gX2_binOf_X2_isColumn rfl rfl rfl (by decide +kernel) ⟨Nat.le_of_ble_eq_true rfl, Nat.le_of_ble_eq_true rfl⟩) hP hK hN [0, 1, 2, 3, 4, 5, 6] rfl [0] rfl rfl rfl rfl hl.1 rfl (Nat.le_of_ble_eq_true rfl) dX2_binOf_7 ⟨Nat.zero_le _, Nat.zero_le _⟩ (fun r_1 hr_1 => ?_)
  subst r_1
  refine lv_if_eq (tgt := 25) hx hb dX2_binOf_10 (by decide) (fun c_2 => ?_) (fun c9 => absurd (by rw [hq]; decide) c9)
  refine lv_aload_n hx hb dX2_binOf_25 rfl (lv_at hl 0 rfl) ?_
  refine lv_iconst (v := 1) hx hb dX2_binOf_26 (by decide) ?_
  refine kQVi (As := [.int 1]) (rest := []) (wr := []) (W2 := (fun _ => (wN cI a pt pd ab nw kp wy 1 (nI cN) (nI rN) tn))) ⟨hx, hb, hml, hown, hts⟩ (mX2_no l D cI a pt pd ab nw kp wy 0 cN rN tn 1 _) (cwV 1 hts gX2_binOf_X2_no rfl rfl rfl (by decide +kernel) ⟨Nat.le_of_ble_eq_true rfl, Nat.le_of_ble_eq_true rfl⟩) hP hD hK hN hS hA [0, 1, 2, 3, 4, 5, 6] (by decide) rfl [] (by decide) rfl (by decide) [0, 1, 2, 3, 4, 5, 6] (by decide) (fun _ => rfl) [0] rfl rfl rfl rfl hl.1 rfl (Nat.le_of_ble_eq_true rfl) dX2_binOf_27 ⟨Nat.le_of_ble_eq_true rfl, Nat.le_of_ble_eq_true rfl⟩ (fun r_3 u_3 H locs hr_3 hP hD hS => ?_)
  subst r_3
  have hP : va_P D vwCl (wN cI a pt pd ab nw kp wy 1 (nI cN) (nI rN) tn) H := hP
  have hD : va_D (va_A (wN cI a pt pd ab nw kp wy th (nI cN) (nI rN) tn) sz) (wN cI a pt pd ab nw kp wy 1 (nI cN) (nI rN) tn) := hD
  exact eQi () hx hb hr hlocks hP hD hK hS dX2_binOf_30 (rfl)
theorem iw_X2_numberIn_X2 : ∀ w ∈ wsX20, w ∈ wsX2_numberIn := mem_pos [26, 27, 28, 29, 30, 31, 32, 33, 34, 35] (by decide +kernel)
set_option maxHeartbeats 4000000 in
set_option maxRecDepth 100000 in
theorem mX2_numberIn_0 (l : Launch) (D : va_G) (cI : ClassId) (a : Nat → Nat) (pt pd ab nw kp wy : Nat → Int32) (th : Int32) (cN rN : Nat) (tn : Int32) (rr : Int32) (hI : mInv cN rN pt pd ab) (hp : mFrom rr 0 (nI rN - 1) = true) (hr1 : 1 ≤ rN) (sz : Nat) : Met l yX2_numberIn wsX2_numberIn ({ frames := 2, cells := 0, slots := 0, locals := 46 } : Room) (va_Pc [.ref (a 0), .int rr] (wPQ D [(cI, .int)] sz (wN cI a pt pd ab nw kp wy th (nI cN) (nI rN) tn))) (va_Qi (fun (zz : Int32) (_ : Unit) => zz = mNum pt nw cN rr) (wB D [(cI, .int)] (va_A (wN cI a pt pd ab nw kp wy th (nI cN) (nI rN) tn) sz) (fun _ : Unit => (wN cI a pt pd ab nw kp wy 0 (nI cN) (nI rN) tn))) (va_A (wN cI a pt pd ab nw kp wy th (nI cN) (nI rN) tn) sz)) 0 0 (va_A (wN cI a pt pd ab nw kp wy th (nI cN) (nI rN) tn) sz) := by
  refine mQ_of (by decide) rfl (Nat.le_of_ble_eq_true rfl) ?_
  intro p e s m below meth c hx hb hr hml hown hin hts hlocks hsz hP hK hN hD hA hS ls hl
  have hown : s.vm.findClass RX2 = some m.cls := hown
  have hl : lv_has ls 2 [(0, .ref (a 0)), (1, .int rr)] := hl
  obtain ⟨⟨hc1, hc9⟩, hr8, hz, hab⟩ := id hI
  have hP : va_P D vwCl (wN cI a pt pd ab nw kp wy th (nI cN) (nI rN) tn) s.heap := hP
  refine lv_aload_n hx hb dX2_numberIn_0 rfl (lv_at hl 0 rfl) ?_
  refine lv_iconst (v := 0) hx hb dX2_numberIn_1 (by decide) ?_
  refine va_put (D := D) (ci := 2) (v := .int 0) (ty := .int) (C := RX2) (T := TX2) (N := 10) hx hb hts iw_X2_numberIn_X2 tyX2 tyX2_ok nmX2 hown hK hP hD hS 0 rfl rfl 0 (by decide) (hts (.fieldLink RX2 35 "MarbleRampsModel" "thrown" "I") (mg 1 rfl)) (fun _ h9 => h9) rfl (by decide +kernel) rfl rfl (Nat.le_of_ble_eq_true rfl) dX2_numberIn_2 (fun H locs hP hD hS => ?_)
  have hP : va_P D vwCl (wN cI a pt pd ab nw kp wy 0 (nI cN) (nI rN) tn) H := hP
  have hD : va_D (va_A (wN cI a pt pd ab nw kp wy th (nI cN) (nI rN) tn) sz) (wN cI a pt pd ab nw kp wy 0 (nI cN) (nI rN) tn) := hD
  refine lv_aload_n hx hb dX2_numberIn_5 rfl (lv_at hl 0 rfl) ?_
  refine lv_iload_n hx hb dX2_numberIn_6 rfl (lv_at hl 1 rfl) ?_
  refine kRVi (As := [.int rr]) (rest := []) ⟨hx, hb, hml, hown, hts⟩ (mX2_isRow l D cI a pt pd ab nw kp wy 0 cN rN tn rr) (cwV 1 hts gX2_numberIn_X2_isRow rfl rfl rfl (by decide +kernel) ⟨Nat.le_of_ble_eq_true rfl, Nat.le_of_ble_eq_true rfl⟩) hP hK hN [0, 1, 2, 3, 4, 5, 6] rfl [0] rfl rfl rfl rfl hl.1 rfl (Nat.le_of_ble_eq_true rfl) dX2_numberIn_7 ⟨Nat.zero_le _, Nat.zero_le _⟩ (fun r_1 hr_1 => ?_)
  subst r_1
  refine lv_if_eq (tgt := 21) hx hb dX2_numberIn_10 (by decide) (fun c9 => absurd c9 (by rw [hp]; decide)) (fun c_2 => ?_)
  refine lv_aload_n hx hb dX2_numberIn_13 rfl (lv_at hl 0 rfl) ?_
  refine lv_iload_n hx hb dX2_numberIn_14 rfl (lv_at hl 1 rfl) ?_
  refine kRVi (As := [.int rr]) (rest := []) ⟨hx, hb, hml, hown, hts⟩ (mX2_number l D cI a pt pd ab nw kp wy 0 cN rN tn rr hc9 (ex_lt hr8 (mFrom_n hp hr1 (by omega)))) (cwV 1 hts gX2_numberIn_X2_number rfl rfl rfl (by decide +kernel) ⟨Nat.le_of_ble_eq_true rfl, Nat.le_of_ble_eq_true rfl⟩) hP hK hN [0, 1, 2, 3, 4, 5, 6] rfl [0] rfl rfl rfl rfl hl.1 rfl (Nat.le_of_ble_eq_true rfl) dX2_numberIn_15 ⟨Nat.zero_le _, Nat.zero_le _⟩ (fun r_3 hr_3 => ?_)
  subst r_3
  refine lv_goto (tgt := 26) hx hb dX2_numberIn_18 (by decide) ?_
  exact eQi () hx hb hr hlocks hP hD hK hS dX2_numberIn_26 (rfl)
set_option maxHeartbeats 4000000 in
set_option maxRecDepth 100000 in
theorem mX2_numberIn_1 (l : Launch) (D : va_G) (cI : ClassId) (a : Nat → Nat) (pt pd ab nw kp wy : Nat → Int32) (th : Int32) (cN rN : Nat) (tn : Int32) (rr : Int32) (hp : mFrom rr 0 (nI rN - 1) = false) (sz : Nat) : Met l yX2_numberIn wsX2_numberIn ({ frames := 2, cells := 0, slots := 0, locals := 46 } : Room) (va_Pc [.ref (a 0), .int rr] (wPQ D [(cI, .int)] sz (wN cI a pt pd ab nw kp wy th (nI cN) (nI rN) tn))) (va_Qi (fun (zz : Int32) (_ : Unit) => zz = 0) (wB D [(cI, .int)] (va_A (wN cI a pt pd ab nw kp wy th (nI cN) (nI rN) tn) sz) (fun _ : Unit => (wN cI a pt pd ab nw kp wy 1 (nI cN) (nI rN) tn))) (va_A (wN cI a pt pd ab nw kp wy th (nI cN) (nI rN) tn) sz)) 0 0 (va_A (wN cI a pt pd ab nw kp wy th (nI cN) (nI rN) tn) sz) := by
  refine mQ_of (by decide) rfl (Nat.le_of_ble_eq_true rfl) ?_
  intro p e s m below meth c hx hb hr hml hown hin hts hlocks hsz hP hK hN hD hA hS ls hl
  have hown : s.vm.findClass RX2 = some m.cls := hown
  have hl : lv_has ls 2 [(0, .ref (a 0)), (1, .int rr)] := hl
  have hP : va_P D vwCl (wN cI a pt pd ab nw kp wy th (nI cN) (nI rN) tn) s.heap := hP
  refine lv_aload_n hx hb dX2_numberIn_0 rfl (lv_at hl 0 rfl) ?_
  refine lv_iconst (v := 0) hx hb dX2_numberIn_1 (by decide) ?_
  refine va_put (D := D) (ci := 2) (v := .int 0) (ty := .int) (C := RX2) (T := TX2) (N := 10) hx hb hts iw_X2_numberIn_X2 tyX2 tyX2_ok nmX2 hown hK hP hD hS 0 rfl rfl 0 (by decide) (hts (.fieldLink RX2 35 "MarbleRampsModel" "thrown" "I") (mg 1 rfl)) (fun _ h9 => h9) rfl (by decide +kernel) rfl rfl (Nat.le_of_ble_eq_true rfl) dX2_numberIn_2 (fun H locs hP hD hS => ?_)
  have hP : va_P D vwCl (wN cI a pt pd ab nw kp wy 0 (nI cN) (nI rN) tn) H := hP
  have hD : va_D (va_A (wN cI a pt pd ab nw kp wy th (nI cN) (nI rN) tn) sz) (wN cI a pt pd ab nw kp wy 0 (nI cN) (nI rN) tn) := hD
  refine lv_aload_n hx hb dX2_numberIn_5 rfl (lv_at hl 0 rfl) ?_
  refine lv_iload_n hx hb dX2_numberIn_6 rfl (lv_at hl 1 rfl) ?_
  refine kRVi (As := [.int rr]) (rest := []) ⟨hx, hb, hml, hown, hts⟩ (mX2_isRow l D cI a pt pd ab nw kp wy 0 cN rN tn rr) (cwV 1 hts gX2_numberIn_X2_isRow rfl rfl rfl (by decide +kernel) ⟨Nat.le_of_ble_eq_true rfl, Nat.le_of_ble_eq_true rfl⟩) hP hK hN [0, 1, 2, 3, 4, 5, 6] rfl [0] rfl rfl rfl rfl hl.1 rfl (Nat.le_of_ble_eq_true rfl) dX2_numberIn_7 ⟨Nat.zero_le _, Nat.zero_le _⟩ (fun r_1 hr_1 => ?_)
  subst r_1
  refine lv_if_eq (tgt := 21) hx hb dX2_numberIn_10 (by decide) (fun c_2 => ?_) (fun c9 => absurd (by rw [hp]; decide) c9)
  refine lv_aload_n hx hb dX2_numberIn_21 rfl (lv_at hl 0 rfl) ?_
  refine lv_iconst (v := 1) hx hb dX2_numberIn_22 (by decide) ?_
  refine kQVi (As := [.int 1]) (rest := []) (wr := []) (W2 := (fun _ => (wN cI a pt pd ab nw kp wy 1 (nI cN) (nI rN) tn))) ⟨hx, hb, hml, hown, hts⟩ (mX2_no l D cI a pt pd ab nw kp wy 0 cN rN tn 1 _) (cwV 1 hts gX2_numberIn_X2_no rfl rfl rfl (by decide +kernel) ⟨Nat.le_of_ble_eq_true rfl, Nat.le_of_ble_eq_true rfl⟩) hP hD hK hN hS hA [0, 1, 2, 3, 4, 5, 6] (by decide) rfl [] (by decide) rfl (by decide) [0, 1, 2, 3, 4, 5, 6] (by decide) (fun _ => rfl) [0] rfl rfl rfl rfl hl.1 rfl (Nat.le_of_ble_eq_true rfl) dX2_numberIn_23 ⟨Nat.le_of_ble_eq_true rfl, Nat.le_of_ble_eq_true rfl⟩ (fun r_3 u_3 H locs hr_3 hP hD hS => ?_)
  subst r_3
  have hP : va_P D vwCl (wN cI a pt pd ab nw kp wy 1 (nI cN) (nI rN) tn) H := hP
  have hD : va_D (va_A (wN cI a pt pd ab nw kp wy th (nI cN) (nI rN) tn) sz) (wN cI a pt pd ab nw kp wy 1 (nI cN) (nI rN) tn) := hD
  exact eQi () hx hb hr hlocks hP hD hK hS dX2_numberIn_26 (rfl)
theorem iw_X2_drop_X2 : ∀ w ∈ wsX20, w ∈ wsX2_drop := mem_pos [29, 30, 31, 32, 33, 34, 35, 36, 37, 38] (by decide +kernel)
set_option maxHeartbeats 4000000 in
set_option maxRecDepth 100000 in
theorem mX2_drop_0 (l : Launch) (D : va_G) (cI : ClassId) (a : Nat → Nat) (pt pd ab nw kp wy : Nat → Int32) (th : Int32) (cN rN : Nat) (tn : Int32) (kk : Int32) (hI : mInv cN rN pt pd ab) (hq : mFrom kk 0 (nI cN - 1) = true) (sz : Nat) : Met l yX2_drop wsX2_drop ({ frames := 3, cells := 0, slots := 0, locals := 67 } : Room) (va_Pc [.ref (a 0), .int kk] (wPQ D [(cI, .int)] sz (wN cI a pt pd ab nw kp wy th (nI cN) (nI rN) tn))) (va_Qi (fun (zz : Int32) (_ : Unit) => zz = (mFall pt pd cN rN nw kk).1) (wB D [(cI, .int)] (va_A (wN cI a pt pd ab nw kp wy th (nI cN) (nI rN) tn) sz) (fun _ : Unit => (wN cI a pt pd ab ((mFall pt pd cN rN nw kk).2.1) kp ((mFall pt pd cN rN nw kk).2.2.2) 0 (nI cN) (nI rN) ((mFall pt pd cN rN nw kk).2.2.1)))) (va_A (wN cI a pt pd ab nw kp wy th (nI cN) (nI rN) tn) sz)) 0 0 (va_A (wN cI a pt pd ab nw kp wy th (nI cN) (nI rN) tn) sz) := by
  refine mQ_of (by decide) rfl (Nat.le_of_ble_eq_true rfl) ?_
  intro p e s m below meth c hx hb hr hml hown hin hts hlocks hsz hP hK hN hD hA hS ls hl
  have hown : s.vm.findClass RX2 = some m.cls := hown
  have hl : lv_has ls 2 [(0, .ref (a 0)), (1, .int kk)] := hl
  obtain ⟨⟨hc1, hc9⟩, hr8, hz, hab⟩ := id hI
  have hP : va_P D vwCl (wN cI a pt pd ab nw kp wy th (nI cN) (nI rN) tn) s.heap := hP
  refine lv_aload_n hx hb dX2_drop_0 rfl (lv_at hl 0 rfl) ?_
  refine lv_iconst (v := 0) hx hb dX2_drop_1 (by decide) ?_
  refine va_put (D := D) (ci := 2) (v := .int 0) (ty := .int) (C := RX2) (T := TX2) (N := 10) hx hb hts iw_X2_drop_X2 tyX2 tyX2_ok nmX2 hown hK hP hD hS 0 rfl rfl 0 (by decide) (hts (.fieldLink RX2 35 "MarbleRampsModel" "thrown" "I") (mg 1 rfl)) (fun _ h9 => h9) rfl (by decide +kernel) rfl rfl (Nat.le_of_ble_eq_true rfl) dX2_drop_2 (fun H locs hP hD hS => ?_)
  have hP : va_P D vwCl (wN cI a pt pd ab nw kp wy 0 (nI cN) (nI rN) tn) H := hP
  have hD : va_D (va_A (wN cI a pt pd ab nw kp wy th (nI cN) (nI rN) tn) sz) (wN cI a pt pd ab nw kp wy 0 (nI cN) (nI rN) tn) := hD
  refine lv_aload_n hx hb dX2_drop_5 rfl (lv_at hl 0 rfl) ?_
  refine lv_iload_n hx hb dX2_drop_6 rfl (lv_at hl 1 rfl) ?_
  refine kRVi (As := [.int kk]) (rest := []) ⟨hx, hb, hml, hown, hts⟩ (mX2_isColumn l D cI a pt pd ab nw kp wy 0 cN rN tn kk) (cwV 1 hts gX2_drop_X2_isColumn rfl rfl rfl (by decide +kernel) ⟨Nat.le_of_ble_eq_true rfl, Nat.le_of_ble_eq_true rfl⟩) hP hK hN [0, 1, 2, 3, 4, 5, 6] rfl [0] rfl rfl rfl rfl hl.1 rfl (Nat.le_of_ble_eq_true rfl) dX2_drop_7 ⟨Nat.zero_le _, Nat.zero_le _⟩ (fun r_1 hr_1 => ?_)
  subst r_1
  refine lv_if_eq (tgt := 21) hx hb dX2_drop_10 (by decide) (fun c9 => absurd c9 (by rw [hq]; decide)) (fun c_2 => ?_)
  refine lv_aload_n hx hb dX2_drop_13 rfl (lv_at hl 0 rfl) ?_
  refine lv_iload_n hx hb dX2_drop_14 rfl (lv_at hl 1 rfl) ?_
  refine kQVi (As := [.int kk]) (rest := []) (wr := []) (W2 := (fun _ => (wN cI a pt pd ab ((mFall pt pd cN rN nw kk).2.1) kp ((mFall pt pd cN rN nw kk).2.2.2) 0 (nI cN) (nI rN) ((mFall pt pd cN rN nw kk).2.2.1)))) ⟨hx, hb, hml, hown, hts⟩ (mX2_fall l D cI a pt pd ab nw kp wy 0 cN rN tn kk hI (mFrom_n hq hc1 (by omega)) _) (cwV 1 hts gX2_drop_X2_fall rfl rfl rfl (by decide +kernel) ⟨Nat.le_of_ble_eq_true rfl, Nat.le_of_ble_eq_true rfl⟩) hP hD hK hN hS hA [0, 1, 2, 3, 4, 5, 6] (by decide) rfl [] (by decide) rfl (by decide) [0, 1, 2, 3, 4, 5, 6] (by decide) (fun _ => rfl) [0] rfl rfl rfl rfl hl.1 rfl (Nat.le_of_ble_eq_true rfl) dX2_drop_15 ⟨Nat.le_of_ble_eq_true rfl, Nat.le_of_ble_eq_true rfl⟩ (fun r_3 u_3 H locs hr_3 hP hD hS => ?_)
  subst r_3
  have hP : va_P D vwCl (wN cI a pt pd ab ((mFall pt pd cN rN nw kk).2.1) kp ((mFall pt pd cN rN nw kk).2.2.2) 0 (nI cN) (nI rN) ((mFall pt pd cN rN nw kk).2.2.1)) H := hP
  have hD : va_D (va_A (wN cI a pt pd ab nw kp wy th (nI cN) (nI rN) tn) sz) (wN cI a pt pd ab ((mFall pt pd cN rN nw kk).2.1) kp ((mFall pt pd cN rN nw kk).2.2.2) 0 (nI cN) (nI rN) ((mFall pt pd cN rN nw kk).2.2.1)) := hD
  refine lv_goto (tgt := 26) hx hb dX2_drop_18 (by decide) ?_
  exact eQi () hx hb hr hlocks hP hD hK hS dX2_drop_26 (rfl)
set_option maxHeartbeats 4000000 in
set_option maxRecDepth 100000 in
theorem mX2_drop_1 (l : Launch) (D : va_G) (cI : ClassId) (a : Nat → Nat) (pt pd ab nw kp wy : Nat → Int32) (th : Int32) (cN rN : Nat) (tn : Int32) (kk : Int32) (hq : mFrom kk 0 (nI cN - 1) = false) (sz : Nat) : Met l yX2_drop wsX2_drop ({ frames := 3, cells := 0, slots := 0, locals := 67 } : Room) (va_Pc [.ref (a 0), .int kk] (wPQ D [(cI, .int)] sz (wN cI a pt pd ab nw kp wy th (nI cN) (nI rN) tn))) (va_Qi (fun (zz : Int32) (_ : Unit) => zz = 0) (wB D [(cI, .int)] (va_A (wN cI a pt pd ab nw kp wy th (nI cN) (nI rN) tn) sz) (fun _ : Unit => (wN cI a pt pd ab nw kp wy 1 (nI cN) (nI rN) tn))) (va_A (wN cI a pt pd ab nw kp wy th (nI cN) (nI rN) tn) sz)) 0 0 (va_A (wN cI a pt pd ab nw kp wy th (nI cN) (nI rN) tn) sz) := by
  refine mQ_of (by decide) rfl (Nat.le_of_ble_eq_true rfl) ?_
  intro p e s m below meth c hx hb hr hml hown hin hts hlocks hsz hP hK hN hD hA hS ls hl
  have hown : s.vm.findClass RX2 = some m.cls := hown
  have hl : lv_has ls 2 [(0, .ref (a 0)), (1, .int kk)] := hl
  have hP : va_P D vwCl (wN cI a pt pd ab nw kp wy th (nI cN) (nI rN) tn) s.heap := hP
  refine lv_aload_n hx hb dX2_drop_0 rfl (lv_at hl 0 rfl) ?_
  refine lv_iconst (v := 0) hx hb dX2_drop_1 (by decide) ?_
  refine va_put (D := D) (ci := 2) (v := .int 0) (ty := .int) (C := RX2) (T := TX2) (N := 10) hx hb hts iw_X2_drop_X2 tyX2 tyX2_ok nmX2 hown hK hP hD hS 0 rfl rfl 0 (by decide) (hts (.fieldLink RX2 35 "MarbleRampsModel" "thrown" "I") (mg 1 rfl)) (fun _ h9 => h9) rfl (by decide +kernel) rfl rfl (Nat.le_of_ble_eq_true rfl) dX2_drop_2 (fun H locs hP hD hS => ?_)
  have hP : va_P D vwCl (wN cI a pt pd ab nw kp wy 0 (nI cN) (nI rN) tn) H := hP
  have hD : va_D (va_A (wN cI a pt pd ab nw kp wy th (nI cN) (nI rN) tn) sz) (wN cI a pt pd ab nw kp wy 0 (nI cN) (nI rN) tn) := hD
  refine lv_aload_n hx hb dX2_drop_5 rfl (lv_at hl 0 rfl) ?_
  refine lv_iload_n hx hb dX2_drop_6 rfl (lv_at hl 1 rfl) ?_
  refine kRVi (As := [.int kk]) (rest := []) ⟨hx, hb, hml, hown, hts⟩ (mX2_isColumn l D cI a pt pd ab nw kp wy 0 cN rN tn kk) (cwV 1 hts gX2_drop_X2_isColumn rfl rfl rfl (by decide +kernel) ⟨Nat.le_of_ble_eq_true rfl, Nat.le_of_ble_eq_true rfl⟩) hP hK hN [0, 1, 2, 3, 4, 5, 6] rfl [0] rfl rfl rfl rfl hl.1 rfl (Nat.le_of_ble_eq_true rfl) dX2_drop_7 ⟨Nat.zero_le _, Nat.zero_le _⟩ (fun r_1 hr_1 => ?_)
  subst r_1
  refine lv_if_eq (tgt := 21) hx hb dX2_drop_10 (by decide) (fun c_2 => ?_) (fun c9 => absurd (by rw [hq]; decide) c9)
  refine lv_aload_n hx hb dX2_drop_21 rfl (lv_at hl 0 rfl) ?_
  refine lv_iconst (v := 1) hx hb dX2_drop_22 (by decide) ?_
  refine kQVi (As := [.int 1]) (rest := []) (wr := []) (W2 := (fun _ => (wN cI a pt pd ab nw kp wy 1 (nI cN) (nI rN) tn))) ⟨hx, hb, hml, hown, hts⟩ (mX2_no l D cI a pt pd ab nw kp wy 0 cN rN tn 1 _) (cwV 1 hts gX2_drop_X2_no rfl rfl rfl (by decide +kernel) ⟨Nat.le_of_ble_eq_true rfl, Nat.le_of_ble_eq_true rfl⟩) hP hD hK hN hS hA [0, 1, 2, 3, 4, 5, 6] (by decide) rfl [] (by decide) rfl (by decide) [0, 1, 2, 3, 4, 5, 6] (by decide) (fun _ => rfl) [0] rfl rfl rfl rfl hl.1 rfl (Nat.le_of_ble_eq_true rfl) dX2_drop_23 ⟨Nat.le_of_ble_eq_true rfl, Nat.le_of_ble_eq_true rfl⟩ (fun r_3 u_3 H locs hr_3 hP hD hS => ?_)
  subst r_3
  have hP : va_P D vwCl (wN cI a pt pd ab nw kp wy 1 (nI cN) (nI rN) tn) H := hP
  have hD : va_D (va_A (wN cI a pt pd ab nw kp wy th (nI cN) (nI rN) tn) sz) (wN cI a pt pd ab nw kp wy 1 (nI cN) (nI rN) tn) := hD
  exact eQi () hx hb hr hlocks hP hD hK hS dX2_drop_26 (rfl)
theorem iw_X2_run_X2 : ∀ w ∈ wsX20, w ∈ wsX2_run := mem_pos [38, 39, 40, 41, 42, 43, 44, 45, 46, 47] (by decide +kernel)
set_option maxHeartbeats 4000000 in
set_option maxRecDepth 100000 in
theorem mX2_run_0 (l : Launch) (D : va_G) (cI : ClassId) (a : Nat → Nat) (pt pd ab nw kp wy : Nat → Int32) (th : Int32) (cN rN : Nat) (tn : Int32) (hv mm : Int32) (hI : mInv cN rN pt pd ab) (hp : mFrom hv 0 1 = true) (hs : mFrom mm 1 99 = true) (sz : Nat) : Met l yX2_run wsX2_run ({ frames := 4, cells := 0, slots := 0, locals := 93 } : Room) (va_Pc [.ref (a 0), .int hv, .int mm] (wPQ D [(cI, .int)] sz (wN cI a pt pd ab nw kp wy th (nI cN) (nI rN) tn))) (va_Qi (fun (zz : Int32) (_ : Unit) => zz = (mRun pt pd ab cN rN nw tn wy hv mm).1) (wB D [(cI, .int)] (va_A (wN cI a pt pd ab nw kp wy th (nI cN) (nI rN) tn) sz) (fun _ : Unit => (wN cI a pt pd ab ((mRun pt pd ab cN rN nw tn wy hv mm).2.1) kp ((mRun pt pd ab cN rN nw tn wy hv mm).2.2.2) 0 (nI cN) (nI rN) ((mRun pt pd ab cN rN nw tn wy hv mm).2.2.1)))) (va_A (wN cI a pt pd ab nw kp wy th (nI cN) (nI rN) tn) sz)) 0 0 (va_A (wN cI a pt pd ab nw kp wy th (nI cN) (nI rN) tn) sz) := by
  refine mQ_of (by decide) rfl (Nat.le_of_ble_eq_true rfl) ?_
  intro p e s m below meth c hx hb hr hml hown hin hts hlocks hsz hP hK hN hD hA hS ls hl
  have hown : s.vm.findClass RX2 = some m.cls := hown
  have hl : lv_has ls 3 [(0, .ref (a 0)), (1, .int hv), (2, .int mm)] := hl
  obtain ⟨⟨hc1, hc9⟩, hr8, hz, hab⟩ := id hI
  have hP : va_P D vwCl (wN cI a pt pd ab nw kp wy th (nI cN) (nI rN) tn) s.heap := hP
  refine lv_aload_n hx hb dX2_run_0 rfl (lv_at hl 0 rfl) ?_
  refine lv_iconst (v := 0) hx hb dX2_run_1 (by decide) ?_
  refine va_put (D := D) (ci := 2) (v := .int 0) (ty := .int) (C := RX2) (T := TX2) (N := 10) hx hb hts iw_X2_run_X2 tyX2 tyX2_ok nmX2 hown hK hP hD hS 0 rfl rfl 0 (by decide) (hts (.fieldLink RX2 35 "MarbleRampsModel" "thrown" "I") (mg 1 rfl)) (fun _ h9 => h9) rfl (by decide +kernel) rfl rfl (Nat.le_of_ble_eq_true rfl) dX2_run_2 (fun H locs hP hD hS => ?_)
  have hP : va_P D vwCl (wN cI a pt pd ab nw kp wy 0 (nI cN) (nI rN) tn) H := hP
  have hD : va_D (va_A (wN cI a pt pd ab nw kp wy th (nI cN) (nI rN) tn) sz) (wN cI a pt pd ab nw kp wy 0 (nI cN) (nI rN) tn) := hD
  refine lv_iload_n hx hb dX2_run_5 rfl (lv_at hl 1 rfl) ?_
  refine lv_iconst (v := 0) hx hb dX2_run_6 (by decide) ?_
  refine lv_iconst (v := 1) hx hb dX2_run_7 (by decide) ?_
  refine kRSi (As := [.int hv, .int 0, .int 1]) (rest := []) ⟨hx, hb, hml, hown, hts⟩ (mX2_isFrom l D cI hv 0 1) (va_cwS 3 hts gX2_run_X2_isFrom rfl rfl rfl (by decide +kernel) ⟨Nat.le_of_ble_eq_true rfl, Nat.le_of_ble_eq_true rfl⟩) hP hK hN [] rfl [0] rfl rfl hl.1 rfl (Nat.le_of_ble_eq_true rfl) dX2_run_8 ⟨Nat.zero_le _, Nat.zero_le _⟩ (fun r_1 hr_1 => ?_)
  subst r_1
  refine lv_if_ne (tgt := 20) hx hb dX2_run_11 (by decide) (fun c_2 => ?_) (fun c9 => absurd c9 (by rw [hp]; decide))
  refine lv_iload_n hx hb dX2_run_20 rfl (lv_at hl 2 rfl) ?_
  refine lv_iconst (v := 1) hx hb dX2_run_21 (by decide) ?_
  refine lv_bipush (v := 99) hx hb dX2_run_22 (by decide) ?_
  refine kRSi (As := [.int mm, .int 1, .int 99]) (rest := []) ⟨hx, hb, hml, hown, hts⟩ (mX2_isFrom l D cI mm 1 99) (va_cwS 3 hts gX2_run_X2_isFrom rfl rfl rfl (by decide +kernel) ⟨Nat.le_of_ble_eq_true rfl, Nat.le_of_ble_eq_true rfl⟩) hP hK hN [] rfl [0] rfl rfl hl.1 rfl (Nat.le_of_ble_eq_true rfl) dX2_run_24 ⟨Nat.zero_le _, Nat.zero_le _⟩ (fun r_3 hr_3 => ?_)
  subst r_3
  refine lv_if_eq (tgt := 39) hx hb dX2_run_27 (by decide) (fun c9 => absurd c9 (by rw [hs]; decide)) (fun c_4 => ?_)
  refine lv_aload_n hx hb dX2_run_30 rfl (lv_at hl 0 rfl) ?_
  refine lv_iload_n hx hb dX2_run_31 rfl (lv_at hl 1 rfl) ?_
  refine lv_iload_n hx hb dX2_run_32 rfl (lv_at hl 2 rfl) ?_
  refine kQVi (As := [.int hv, .int mm]) (rest := []) (wr := []) (W2 := (fun _ => (wN cI a pt pd ab ((mRun pt pd ab cN rN nw tn wy hv mm).2.1) kp ((mRun pt pd ab cN rN nw tn wy hv mm).2.2.2) 0 (nI cN) (nI rN) ((mRun pt pd ab cN rN nw tn wy hv mm).2.2.1)))) ⟨hx, hb, hml, hown, hts⟩ (mX2_runFrom l D cI a pt pd ab nw kp wy 0 cN rN tn hv mm hI (Or.inr (hop_f hp)) _) (cwV 2 hts gX2_run_X2_runFrom rfl rfl rfl (by decide +kernel) ⟨Nat.le_of_ble_eq_true rfl, Nat.le_of_ble_eq_true rfl⟩) hP hD hK hN hS hA [0, 1, 2, 3, 4, 5, 6] (by decide) rfl [] (by decide) rfl (by decide) [0, 1, 2, 3, 4, 5, 6] (by decide) (fun _ => rfl) [0] rfl rfl rfl rfl hl.1 rfl (Nat.le_of_ble_eq_true rfl) dX2_run_33 ⟨Nat.le_of_ble_eq_true rfl, Nat.le_of_ble_eq_true rfl⟩ (fun r_5 u_5 H locs hr_5 hP hD hS => ?_)
  subst r_5
  have hP : va_P D vwCl (wN cI a pt pd ab ((mRun pt pd ab cN rN nw tn wy hv mm).2.1) kp ((mRun pt pd ab cN rN nw tn wy hv mm).2.2.2) 0 (nI cN) (nI rN) ((mRun pt pd ab cN rN nw tn wy hv mm).2.2.1)) H := hP
  have hD : va_D (va_A (wN cI a pt pd ab nw kp wy th (nI cN) (nI rN) tn) sz) (wN cI a pt pd ab ((mRun pt pd ab cN rN nw tn wy hv mm).2.1) kp ((mRun pt pd ab cN rN nw tn wy hv mm).2.2.2) 0 (nI cN) (nI rN) ((mRun pt pd ab cN rN nw tn wy hv mm).2.2.1)) := hD
  refine lv_goto (tgt := 44) hx hb dX2_run_36 (by decide) ?_
  exact eQi () hx hb hr hlocks hP hD hK hS dX2_run_44 (rfl)
set_option maxHeartbeats 4000000 in
set_option maxRecDepth 100000 in
theorem mX2_run_1 (l : Launch) (D : va_G) (cI : ClassId) (a : Nat → Nat) (pt pd ab nw kp wy : Nat → Int32) (th : Int32) (cN rN : Nat) (tn : Int32) (hv mm : Int32) (hp : mFrom hv 0 1 = false) (sz : Nat) : Met l yX2_run wsX2_run ({ frames := 4, cells := 0, slots := 0, locals := 93 } : Room) (va_Pc [.ref (a 0), .int hv, .int mm] (wPQ D [(cI, .int)] sz (wN cI a pt pd ab nw kp wy th (nI cN) (nI rN) tn))) (va_Qi (fun (zz : Int32) (_ : Unit) => zz = 0) (wB D [(cI, .int)] (va_A (wN cI a pt pd ab nw kp wy th (nI cN) (nI rN) tn) sz) (fun _ : Unit => (wN cI a pt pd ab nw kp wy 1 (nI cN) (nI rN) tn))) (va_A (wN cI a pt pd ab nw kp wy th (nI cN) (nI rN) tn) sz)) 0 0 (va_A (wN cI a pt pd ab nw kp wy th (nI cN) (nI rN) tn) sz) := by
  refine mQ_of (by decide) rfl (Nat.le_of_ble_eq_true rfl) ?_
  intro p e s m below meth c hx hb hr hml hown hin hts hlocks hsz hP hK hN hD hA hS ls hl
  have hown : s.vm.findClass RX2 = some m.cls := hown
  have hl : lv_has ls 3 [(0, .ref (a 0)), (1, .int hv), (2, .int mm)] := hl
  have hP : va_P D vwCl (wN cI a pt pd ab nw kp wy th (nI cN) (nI rN) tn) s.heap := hP
  refine lv_aload_n hx hb dX2_run_0 rfl (lv_at hl 0 rfl) ?_
  refine lv_iconst (v := 0) hx hb dX2_run_1 (by decide) ?_
  refine va_put (D := D) (ci := 2) (v := .int 0) (ty := .int) (C := RX2) (T := TX2) (N := 10) hx hb hts iw_X2_run_X2 tyX2 tyX2_ok nmX2 hown hK hP hD hS 0 rfl rfl 0 (by decide) (hts (.fieldLink RX2 35 "MarbleRampsModel" "thrown" "I") (mg 1 rfl)) (fun _ h9 => h9) rfl (by decide +kernel) rfl rfl (Nat.le_of_ble_eq_true rfl) dX2_run_2 (fun H locs hP hD hS => ?_)
  have hP : va_P D vwCl (wN cI a pt pd ab nw kp wy 0 (nI cN) (nI rN) tn) H := hP
  have hD : va_D (va_A (wN cI a pt pd ab nw kp wy th (nI cN) (nI rN) tn) sz) (wN cI a pt pd ab nw kp wy 0 (nI cN) (nI rN) tn) := hD
  refine lv_iload_n hx hb dX2_run_5 rfl (lv_at hl 1 rfl) ?_
  refine lv_iconst (v := 0) hx hb dX2_run_6 (by decide) ?_
  refine lv_iconst (v := 1) hx hb dX2_run_7 (by decide) ?_
  refine kRSi (As := [.int hv, .int 0, .int 1]) (rest := []) ⟨hx, hb, hml, hown, hts⟩ (mX2_isFrom l D cI hv 0 1) (va_cwS 3 hts gX2_run_X2_isFrom rfl rfl rfl (by decide +kernel) ⟨Nat.le_of_ble_eq_true rfl, Nat.le_of_ble_eq_true rfl⟩) hP hK hN [] rfl [0] rfl rfl hl.1 rfl (Nat.le_of_ble_eq_true rfl) dX2_run_8 ⟨Nat.zero_le _, Nat.zero_le _⟩ (fun r_1 hr_1 => ?_)
  subst r_1
  refine lv_if_ne (tgt := 20) hx hb dX2_run_11 (by decide) (fun c9 => absurd (by rw [hp]; decide) c9) (fun c_2 => ?_)
  refine lv_aload_n hx hb dX2_run_14 rfl (lv_at hl 0 rfl) ?_
  refine lv_iconst (v := 1) hx hb dX2_run_15 (by decide) ?_
  refine kQVi (As := [.int 1]) (rest := []) (wr := []) (W2 := (fun _ => (wN cI a pt pd ab nw kp wy 1 (nI cN) (nI rN) tn))) ⟨hx, hb, hml, hown, hts⟩ (mX2_no l D cI a pt pd ab nw kp wy 0 cN rN tn 1 _) (cwV 1 hts gX2_run_X2_no rfl rfl rfl (by decide +kernel) ⟨Nat.le_of_ble_eq_true rfl, Nat.le_of_ble_eq_true rfl⟩) hP hD hK hN hS hA [0, 1, 2, 3, 4, 5, 6] (by decide) rfl [] (by decide) rfl (by decide) [0, 1, 2, 3, 4, 5, 6] (by decide) (fun _ => rfl) [0] rfl rfl rfl rfl hl.1 rfl (Nat.le_of_ble_eq_true rfl) dX2_run_16 ⟨Nat.le_of_ble_eq_true rfl, Nat.le_of_ble_eq_true rfl⟩ (fun r_3 u_3 H locs hr_3 hP hD hS => ?_)
  subst r_3
  have hP : va_P D vwCl (wN cI a pt pd ab nw kp wy 1 (nI cN) (nI rN) tn) H := hP
  have hD : va_D (va_A (wN cI a pt pd ab nw kp wy th (nI cN) (nI rN) tn) sz) (wN cI a pt pd ab nw kp wy 1 (nI cN) (nI rN) tn) := hD
  exact eQi () hx hb hr hlocks hP hD hK hS dX2_run_19 (rfl)
set_option maxHeartbeats 4000000 in
set_option maxRecDepth 100000 in
theorem mX2_run_2 (l : Launch) (D : va_G) (cI : ClassId) (a : Nat → Nat) (pt pd ab nw kp wy : Nat → Int32) (th : Int32) (cN rN : Nat) (tn : Int32) (hv mm : Int32) (hp : mFrom hv 0 1 = true) (hs : mFrom mm 1 99 = false) (sz : Nat) : Met l yX2_run wsX2_run ({ frames := 4, cells := 0, slots := 0, locals := 93 } : Room) (va_Pc [.ref (a 0), .int hv, .int mm] (wPQ D [(cI, .int)] sz (wN cI a pt pd ab nw kp wy th (nI cN) (nI rN) tn))) (va_Qi (fun (zz : Int32) (_ : Unit) => zz = 0) (wB D [(cI, .int)] (va_A (wN cI a pt pd ab nw kp wy th (nI cN) (nI rN) tn) sz) (fun _ : Unit => (wN cI a pt pd ab nw kp wy 2 (nI cN) (nI rN) tn))) (va_A (wN cI a pt pd ab nw kp wy th (nI cN) (nI rN) tn) sz)) 0 0 (va_A (wN cI a pt pd ab nw kp wy th (nI cN) (nI rN) tn) sz) := by
  refine mQ_of (by decide) rfl (Nat.le_of_ble_eq_true rfl) ?_
  intro p e s m below meth c hx hb hr hml hown hin hts hlocks hsz hP hK hN hD hA hS ls hl
  have hown : s.vm.findClass RX2 = some m.cls := hown
  have hl : lv_has ls 3 [(0, .ref (a 0)), (1, .int hv), (2, .int mm)] := hl
  have hP : va_P D vwCl (wN cI a pt pd ab nw kp wy th (nI cN) (nI rN) tn) s.heap := hP
  refine lv_aload_n hx hb dX2_run_0 rfl (lv_at hl 0 rfl) ?_
  refine lv_iconst (v := 0) hx hb dX2_run_1 (by decide) ?_
  refine va_put (D := D) (ci := 2) (v := .int 0) (ty := .int) (C := RX2) (T := TX2) (N := 10) hx hb hts iw_X2_run_X2 tyX2 tyX2_ok nmX2 hown hK hP hD hS 0 rfl rfl 0 (by decide) (hts (.fieldLink RX2 35 "MarbleRampsModel" "thrown" "I") (mg 1 rfl)) (fun _ h9 => h9) rfl (by decide +kernel) rfl rfl (Nat.le_of_ble_eq_true rfl) dX2_run_2 (fun H locs hP hD hS => ?_)
  have hP : va_P D vwCl (wN cI a pt pd ab nw kp wy 0 (nI cN) (nI rN) tn) H := hP
  have hD : va_D (va_A (wN cI a pt pd ab nw kp wy th (nI cN) (nI rN) tn) sz) (wN cI a pt pd ab nw kp wy 0 (nI cN) (nI rN) tn) := hD
  refine lv_iload_n hx hb dX2_run_5 rfl (lv_at hl 1 rfl) ?_
  refine lv_iconst (v := 0) hx hb dX2_run_6 (by decide) ?_
  refine lv_iconst (v := 1) hx hb dX2_run_7 (by decide) ?_
  refine kRSi (As := [.int hv, .int 0, .int 1]) (rest := []) ⟨hx, hb, hml, hown, hts⟩ (mX2_isFrom l D cI hv 0 1) (va_cwS 3 hts gX2_run_X2_isFrom rfl rfl rfl (by decide +kernel) ⟨Nat.le_of_ble_eq_true rfl, Nat.le_of_ble_eq_true rfl⟩) hP hK hN [] rfl [0] rfl rfl hl.1 rfl (Nat.le_of_ble_eq_true rfl) dX2_run_8 ⟨Nat.zero_le _, Nat.zero_le _⟩ (fun r_1 hr_1 => ?_)
  subst r_1
  refine lv_if_ne (tgt := 20) hx hb dX2_run_11 (by decide) (fun c_2 => ?_) (fun c9 => absurd c9 (by rw [hp]; decide))
  refine lv_iload_n hx hb dX2_run_20 rfl (lv_at hl 2 rfl) ?_
  refine lv_iconst (v := 1) hx hb dX2_run_21 (by decide) ?_
  refine lv_bipush (v := 99) hx hb dX2_run_22 (by decide) ?_
  refine kRSi (As := [.int mm, .int 1, .int 99]) (rest := []) ⟨hx, hb, hml, hown, hts⟩ (mX2_isFrom l D cI mm 1 99) (va_cwS 3 hts gX2_run_X2_isFrom rfl rfl rfl (by decide +kernel) ⟨Nat.le_of_ble_eq_true rfl, Nat.le_of_ble_eq_true rfl⟩) hP hK hN [] rfl [0] rfl rfl hl.1 rfl (Nat.le_of_ble_eq_true rfl) dX2_run_24 ⟨Nat.zero_le _, Nat.zero_le _⟩ (fun r_3 hr_3 => ?_)
  subst r_3
  refine lv_if_eq (tgt := 39) hx hb dX2_run_27 (by decide) (fun c_4 => ?_) (fun c9 => absurd (by rw [hs]; decide) c9)
  refine lv_aload_n hx hb dX2_run_39 rfl (lv_at hl 0 rfl) ?_
  refine lv_iconst (v := 2) hx hb dX2_run_40 (by decide) ?_
  refine kQVi (As := [.int 2]) (rest := []) (wr := []) (W2 := (fun _ => (wN cI a pt pd ab nw kp wy 2 (nI cN) (nI rN) tn))) ⟨hx, hb, hml, hown, hts⟩ (mX2_no l D cI a pt pd ab nw kp wy 0 cN rN tn 2 _) (cwV 1 hts gX2_run_X2_no rfl rfl rfl (by decide +kernel) ⟨Nat.le_of_ble_eq_true rfl, Nat.le_of_ble_eq_true rfl⟩) hP hD hK hN hS hA [0, 1, 2, 3, 4, 5, 6] (by decide) rfl [] (by decide) rfl (by decide) [0, 1, 2, 3, 4, 5, 6] (by decide) (fun _ => rfl) [0] rfl rfl rfl rfl hl.1 rfl (Nat.le_of_ble_eq_true rfl) dX2_run_41 ⟨Nat.le_of_ble_eq_true rfl, Nat.le_of_ble_eq_true rfl⟩ (fun r_5 u_5 H locs hr_5 hP hD hS => ?_)
  subst r_5
  have hP : va_P D vwCl (wN cI a pt pd ab nw kp wy 2 (nI cN) (nI rN) tn) H := hP
  have hD : va_D (va_A (wN cI a pt pd ab nw kp wy th (nI cN) (nI rN) tn) sz) (wN cI a pt pd ab nw kp wy 2 (nI cN) (nI rN) tn) := hD
  exact eQi () hx hb hr hlocks hP hD hK hS dX2_run_44 (rfl)
theorem iw_X2_wouldLand_X2 : ∀ w ∈ wsX20, w ∈ wsX2_wouldLand := mem_pos [46, 47, 48, 49, 50, 51, 52, 53, 54, 55] (by decide +kernel)
set_option maxHeartbeats 4000000 in
set_option maxRecDepth 100000 in
theorem mX2_wouldLand_0 (l : Launch) (D : va_G) (cI : ClassId) (a : Nat → Nat) (pt pd ab nw kp wy : Nat → Int32) (th : Int32) (cN rN : Nat) (tn : Int32) (kk : Int32) (hI : mInv cN rN pt pd ab) (hq : mFrom kk 0 (nI cN - 1) = true) (sz : Nat) : Met l yX2_wouldLand wsX2_wouldLand ({ frames := 4, cells := 0, slots := 0, locals := 91 } : Room) (va_Pc [.ref (a 0), .int kk] (wPQ D [(cI, .int)] sz (wN cI a pt pd ab nw kp wy th (nI cN) (nI rN) tn))) (va_Qi (fun (zz : Int32) (u : MJ) => zz = (mFall pt pd cN rN nw kk).1) (wB D [(cI, .int)] (va_A (wN cI a pt pd ab nw kp wy th (nI cN) (nI rN) tn) sz) (fun u : MJ => (wN cI a pt pd ab nw u.1 u.2.1 0 (nI cN) (nI rN) u.2.2))) (va_A (wN cI a pt pd ab nw kp wy th (nI cN) (nI rN) tn) sz)) 0 0 (va_A (wN cI a pt pd ab nw kp wy th (nI cN) (nI rN) tn) sz) := by
  refine mQ_of (by decide) rfl (Nat.le_of_ble_eq_true rfl) ?_
  intro p e s m below meth c hx hb hr hml hown hin hts hlocks hsz hP hK hN hD hA hS ls hl
  have hown : s.vm.findClass RX2 = some m.cls := hown
  have hl : lv_has ls 2 [(0, .ref (a 0)), (1, .int kk)] := hl
  obtain ⟨⟨hc1, hc9⟩, hr8, hz, hab⟩ := id hI
  have hP : va_P D vwCl (wN cI a pt pd ab nw kp wy th (nI cN) (nI rN) tn) s.heap := hP
  refine lv_aload_n hx hb dX2_wouldLand_0 rfl (lv_at hl 0 rfl) ?_
  refine lv_iconst (v := 0) hx hb dX2_wouldLand_1 (by decide) ?_
  refine va_put (D := D) (ci := 2) (v := .int 0) (ty := .int) (C := RX2) (T := TX2) (N := 10) hx hb hts iw_X2_wouldLand_X2 tyX2 tyX2_ok nmX2 hown hK hP hD hS 0 rfl rfl 0 (by decide) (hts (.fieldLink RX2 35 "MarbleRampsModel" "thrown" "I") (mg 1 rfl)) (fun _ h9 => h9) rfl (by decide +kernel) rfl rfl (Nat.le_of_ble_eq_true rfl) dX2_wouldLand_2 (fun H locs hP hD hS => ?_)
  have hP : va_P D vwCl (wN cI a pt pd ab nw kp wy 0 (nI cN) (nI rN) tn) H := hP
  have hD : va_D (va_A (wN cI a pt pd ab nw kp wy th (nI cN) (nI rN) tn) sz) (wN cI a pt pd ab nw kp wy 0 (nI cN) (nI rN) tn) := hD
  refine lv_aload_n hx hb dX2_wouldLand_5 rfl (lv_at hl 0 rfl) ?_
  refine lv_iload_n hx hb dX2_wouldLand_6 rfl (lv_at hl 1 rfl) ?_
  refine kRVi (As := [.int kk]) (rest := []) ⟨hx, hb, hml, hown, hts⟩ (mX2_isColumn l D cI a pt pd ab nw kp wy 0 cN rN tn kk) (cwV 1 hts gX2_wouldLand_X2_isColumn rfl rfl rfl (by decide +kernel) ⟨Nat.le_of_ble_eq_true rfl, Nat.le_of_ble_eq_true rfl⟩) hP hK hN [0, 1, 2, 3, 4, 5, 6] rfl [0] rfl rfl rfl rfl hl.1 rfl (Nat.le_of_ble_eq_true rfl) dX2_wouldLand_7 ⟨Nat.zero_le _, Nat.zero_le _⟩ (fun r_1 hr_1 => ?_)
  subst r_1
  refine lv_if_eq (tgt := 22) hx hb dX2_wouldLand_10 (by decide) (fun c9 => absurd c9 (by rw [hq]; decide)) (fun c_2 => ?_)
  refine lv_aload_n hx hb dX2_wouldLand_13 rfl (lv_at hl 0 rfl) ?_
  refine lv_iload_n hx hb dX2_wouldLand_14 rfl (lv_at hl 1 rfl) ?_
  refine lv_iconst (v := 1) hx hb dX2_wouldLand_15 (by decide) ?_
  refine kQVi (As := [.int kk, .int 1]) (rest := []) (wr := []) (W2 := (fun _ => (wN cI a pt pd ab nw nw ((mLook pt pd cN rN nw tn wy kk 1).2.2) 0 (nI cN) (nI rN) ((mLook pt pd cN rN nw tn wy kk 1).2.1)))) ⟨hx, hb, hml, hown, hts⟩ (mX2_look l D cI a pt pd ab nw kp wy 0 cN rN tn kk 1 hI (mFrom_n hq hc1 (by omega)) _) (cwV 2 hts gX2_wouldLand_X2_look rfl rfl rfl (by decide +kernel) ⟨Nat.le_of_ble_eq_true rfl, Nat.le_of_ble_eq_true rfl⟩) hP hD hK hN hS hA [0, 1, 2, 3, 4, 5, 6] (by decide) rfl [] (by decide) rfl (by decide) [0, 1, 2, 3, 4, 5, 6] (by decide) (fun _ => rfl) [0] rfl rfl rfl rfl hl.1 rfl (Nat.le_of_ble_eq_true rfl) dX2_wouldLand_16 ⟨Nat.le_of_ble_eq_true rfl, Nat.le_of_ble_eq_true rfl⟩ (fun r_3 u_3 H locs hr_3 hP hD hS => ?_)
  subst r_3
  have hP : va_P D vwCl (wN cI a pt pd ab nw nw ((mLook pt pd cN rN nw tn wy kk 1).2.2) 0 (nI cN) (nI rN) ((mLook pt pd cN rN nw tn wy kk 1).2.1)) H := hP
  have hD : va_D (va_A (wN cI a pt pd ab nw kp wy th (nI cN) (nI rN) tn) sz) (wN cI a pt pd ab nw nw ((mLook pt pd cN rN nw tn wy kk 1).2.2) 0 (nI cN) (nI rN) ((mLook pt pd cN rN nw tn wy kk 1).2.1)) := hD
  refine lv_goto (tgt := 27) hx hb dX2_wouldLand_19 (by decide) ?_
  exact eQi (nw, (mLook pt pd cN rN nw tn wy kk 1).2.2, (mLook pt pd cN rN nw tn wy kk 1).2.1) hx hb hr hlocks hP hD hK hS dX2_wouldLand_27 (by rw [mLook1])
set_option maxHeartbeats 4000000 in
set_option maxRecDepth 100000 in
theorem mX2_wouldLand_1 (l : Launch) (D : va_G) (cI : ClassId) (a : Nat → Nat) (pt pd ab nw kp wy : Nat → Int32) (th : Int32) (cN rN : Nat) (tn : Int32) (kk : Int32) (hq : mFrom kk 0 (nI cN - 1) = false) (sz : Nat) : Met l yX2_wouldLand wsX2_wouldLand ({ frames := 4, cells := 0, slots := 0, locals := 91 } : Room) (va_Pc [.ref (a 0), .int kk] (wPQ D [(cI, .int)] sz (wN cI a pt pd ab nw kp wy th (nI cN) (nI rN) tn))) (va_Qi (fun (zz : Int32) (_ : Unit) => zz = 0) (wB D [(cI, .int)] (va_A (wN cI a pt pd ab nw kp wy th (nI cN) (nI rN) tn) sz) (fun _ : Unit => (wN cI a pt pd ab nw kp wy 1 (nI cN) (nI rN) tn))) (va_A (wN cI a pt pd ab nw kp wy th (nI cN) (nI rN) tn) sz)) 0 0 (va_A (wN cI a pt pd ab nw kp wy th (nI cN) (nI rN) tn) sz) := by
  refine mQ_of (by decide) rfl (Nat.le_of_ble_eq_true rfl) ?_
  intro p e s m below meth c hx hb hr hml hown hin hts hlocks hsz hP hK hN hD hA hS ls hl
  have hown : s.vm.findClass RX2 = some m.cls := hown
  have hl : lv_has ls 2 [(0, .ref (a 0)), (1, .int kk)] := hl
  have hP : va_P D vwCl (wN cI a pt pd ab nw kp wy th (nI cN) (nI rN) tn) s.heap := hP
  refine lv_aload_n hx hb dX2_wouldLand_0 rfl (lv_at hl 0 rfl) ?_
  refine lv_iconst (v := 0) hx hb dX2_wouldLand_1 (by decide) ?_
  refine va_put (D := D) (ci := 2) (v := .int 0) (ty := .int) (C := RX2) (T := TX2) (N := 10) hx hb hts iw_X2_wouldLand_X2 tyX2 tyX2_ok nmX2 hown hK hP hD hS 0 rfl rfl 0 (by decide) (hts (.fieldLink RX2 35 "MarbleRampsModel" "thrown" "I") (mg 1 rfl)) (fun _ h9 => h9) rfl (by decide +kernel) rfl rfl (Nat.le_of_ble_eq_true rfl) dX2_wouldLand_2 (fun H locs hP hD hS => ?_)
  have hP : va_P D vwCl (wN cI a pt pd ab nw kp wy 0 (nI cN) (nI rN) tn) H := hP
  have hD : va_D (va_A (wN cI a pt pd ab nw kp wy th (nI cN) (nI rN) tn) sz) (wN cI a pt pd ab nw kp wy 0 (nI cN) (nI rN) tn) := hD
  refine lv_aload_n hx hb dX2_wouldLand_5 rfl (lv_at hl 0 rfl) ?_
  refine lv_iload_n hx hb dX2_wouldLand_6 rfl (lv_at hl 1 rfl) ?_
  refine kRVi (As := [.int kk]) (rest := []) ⟨hx, hb, hml, hown, hts⟩ (mX2_isColumn l D cI a pt pd ab nw kp wy 0 cN rN tn kk) (cwV 1 hts gX2_wouldLand_X2_isColumn rfl rfl rfl (by decide +kernel) ⟨Nat.le_of_ble_eq_true rfl, Nat.le_of_ble_eq_true rfl⟩) hP hK hN [0, 1, 2, 3, 4, 5, 6] rfl [0] rfl rfl rfl rfl hl.1 rfl (Nat.le_of_ble_eq_true rfl) dX2_wouldLand_7 ⟨Nat.zero_le _, Nat.zero_le _⟩ (fun r_1 hr_1 => ?_)
  subst r_1
  refine lv_if_eq (tgt := 22) hx hb dX2_wouldLand_10 (by decide) (fun c_2 => ?_) (fun c9 => absurd (by rw [hq]; decide) c9)
  refine lv_aload_n hx hb dX2_wouldLand_22 rfl (lv_at hl 0 rfl) ?_
  refine lv_iconst (v := 1) hx hb dX2_wouldLand_23 (by decide) ?_
  refine kQVi (As := [.int 1]) (rest := []) (wr := []) (W2 := (fun _ => (wN cI a pt pd ab nw kp wy 1 (nI cN) (nI rN) tn))) ⟨hx, hb, hml, hown, hts⟩ (mX2_no l D cI a pt pd ab nw kp wy 0 cN rN tn 1 _) (cwV 1 hts gX2_wouldLand_X2_no rfl rfl rfl (by decide +kernel) ⟨Nat.le_of_ble_eq_true rfl, Nat.le_of_ble_eq_true rfl⟩) hP hD hK hN hS hA [0, 1, 2, 3, 4, 5, 6] (by decide) rfl [] (by decide) rfl (by decide) [0, 1, 2, 3, 4, 5, 6] (by decide) (fun _ => rfl) [0] rfl rfl rfl rfl hl.1 rfl (Nat.le_of_ble_eq_true rfl) dX2_wouldLand_24 ⟨Nat.le_of_ble_eq_true rfl, Nat.le_of_ble_eq_true rfl⟩ (fun r_3 u_3 H locs hr_3 hP hD hS => ?_)
  subst r_3
  have hP : va_P D vwCl (wN cI a pt pd ab nw kp wy 1 (nI cN) (nI rN) tn) H := hP
  have hD : va_D (va_A (wN cI a pt pd ab nw kp wy th (nI cN) (nI rN) tn) sz) (wN cI a pt pd ab nw kp wy 1 (nI cN) (nI rN) tn) := hD
  exact eQi () hx hb hr hlocks hP hD hK hS dX2_wouldLand_27 (rfl)
theorem iw_X2_wouldTurn_X2 : ∀ w ∈ wsX20, w ∈ wsX2_wouldTurn := mem_pos [50, 51, 52, 53, 54, 55, 56, 57, 58, 59] (by decide +kernel)
set_option maxHeartbeats 4000000 in
set_option maxRecDepth 100000 in
theorem mX2_wouldTurn_0 (l : Launch) (D : va_G) (cI : ClassId) (a : Nat → Nat) (pt pd ab nw kp wy : Nat → Int32) (th : Int32) (cN rN : Nat) (tn : Int32) (kk : Int32) (hI : mInv cN rN pt pd ab) (hq : mFrom kk 0 (nI cN - 1) = true) (sz : Nat) : Met l yX2_wouldTurn wsX2_wouldTurn ({ frames := 5, cells := 0, slots := 0, locals := 112 } : Room) (va_Pc [.ref (a 0), .int kk] (wPQ D [(cI, .int)] sz (wN cI a pt pd ab nw kp wy th (nI cN) (nI rN) tn))) (va_Qi (fun (zz : Int32) (u : MJ) => zz = (mFall pt pd cN rN nw kk).2.2.1) (wB D [(cI, .int)] (va_A (wN cI a pt pd ab nw kp wy th (nI cN) (nI rN) tn) sz) (fun u : MJ => (wN cI a pt pd ab nw u.1 u.2.1 0 (nI cN) (nI rN) u.2.2))) (va_A (wN cI a pt pd ab nw kp wy th (nI cN) (nI rN) tn) sz)) 0 0 (va_A (wN cI a pt pd ab nw kp wy th (nI cN) (nI rN) tn) sz) := by
  refine mQ_of (by decide) rfl (Nat.le_of_ble_eq_true rfl) ?_
  intro p e s m below meth c hx hb hr hml hown hin hts hlocks hsz hP hK hN hD hA hS ls hl
  have hown : s.vm.findClass RX2 = some m.cls := hown
  have hl : lv_has ls 2 [(0, .ref (a 0)), (1, .int kk)] := hl
  obtain ⟨⟨hc1, hc9⟩, hr8, hz, hab⟩ := id hI
  have hP : va_P D vwCl (wN cI a pt pd ab nw kp wy th (nI cN) (nI rN) tn) s.heap := hP
  refine lv_aload_n hx hb dX2_wouldTurn_0 rfl (lv_at hl 0 rfl) ?_
  refine lv_iconst (v := 0) hx hb dX2_wouldTurn_1 (by decide) ?_
  refine va_put (D := D) (ci := 2) (v := .int 0) (ty := .int) (C := RX2) (T := TX2) (N := 10) hx hb hts iw_X2_wouldTurn_X2 tyX2 tyX2_ok nmX2 hown hK hP hD hS 0 rfl rfl 0 (by decide) (hts (.fieldLink RX2 35 "MarbleRampsModel" "thrown" "I") (mg 1 rfl)) (fun _ h9 => h9) rfl (by decide +kernel) rfl rfl (Nat.le_of_ble_eq_true rfl) dX2_wouldTurn_2 (fun H locs hP hD hS => ?_)
  have hP : va_P D vwCl (wN cI a pt pd ab nw kp wy 0 (nI cN) (nI rN) tn) H := hP
  have hD : va_D (va_A (wN cI a pt pd ab nw kp wy th (nI cN) (nI rN) tn) sz) (wN cI a pt pd ab nw kp wy 0 (nI cN) (nI rN) tn) := hD
  refine lv_aload_n hx hb dX2_wouldTurn_5 rfl (lv_at hl 0 rfl) ?_
  refine lv_iload_n hx hb dX2_wouldTurn_6 rfl (lv_at hl 1 rfl) ?_
  refine kRVi (As := [.int kk]) (rest := []) ⟨hx, hb, hml, hown, hts⟩ (mX2_isColumn l D cI a pt pd ab nw kp wy 0 cN rN tn kk) (cwV 1 hts gX2_wouldTurn_X2_isColumn rfl rfl rfl (by decide +kernel) ⟨Nat.le_of_ble_eq_true rfl, Nat.le_of_ble_eq_true rfl⟩) hP hK hN [0, 1, 2, 3, 4, 5, 6] rfl [0] rfl rfl rfl rfl hl.1 rfl (Nat.le_of_ble_eq_true rfl) dX2_wouldTurn_7 ⟨Nat.zero_le _, Nat.zero_le _⟩ (fun r_1 hr_1 => ?_)
  subst r_1
  refine lv_if_eq (tgt := 21) hx hb dX2_wouldTurn_10 (by decide) (fun c9 => absurd c9 (by rw [hq]; decide)) (fun c_2 => ?_)
  refine lv_aload_n hx hb dX2_wouldTurn_13 rfl (lv_at hl 0 rfl) ?_
  refine lv_iload_n hx hb dX2_wouldTurn_14 rfl (lv_at hl 1 rfl) ?_
  refine kQVi (As := [.int kk]) (rest := []) (wr := []) (W2 := (fun _ => (wN cI a pt pd ab nw nw ((mFall pt pd cN rN nw kk).2.2.2) 0 (nI cN) (nI rN) ((mFall pt pd cN rN nw kk).2.2.1)))) ⟨hx, hb, hml, hown, hts⟩ (mX2_turnedBy l D cI a pt pd ab nw kp wy 0 cN rN tn kk hI (mFrom_n hq hc1 (by omega)) _) (cwV 1 hts gX2_wouldTurn_X2_turnedBy rfl rfl rfl (by decide +kernel) ⟨Nat.le_of_ble_eq_true rfl, Nat.le_of_ble_eq_true rfl⟩) hP hD hK hN hS hA [0, 1, 2, 3, 4, 5, 6] (by decide) rfl [] (by decide) rfl (by decide) [0, 1, 2, 3, 4, 5, 6] (by decide) (fun _ => rfl) [0] rfl rfl rfl rfl hl.1 rfl (Nat.le_of_ble_eq_true rfl) dX2_wouldTurn_15 ⟨Nat.le_of_ble_eq_true rfl, Nat.le_of_ble_eq_true rfl⟩ (fun r_3 u_3 H locs hr_3 hP hD hS => ?_)
  subst r_3
  have hP : va_P D vwCl (wN cI a pt pd ab nw nw ((mFall pt pd cN rN nw kk).2.2.2) 0 (nI cN) (nI rN) ((mFall pt pd cN rN nw kk).2.2.1)) H := hP
  have hD : va_D (va_A (wN cI a pt pd ab nw kp wy th (nI cN) (nI rN) tn) sz) (wN cI a pt pd ab nw nw ((mFall pt pd cN rN nw kk).2.2.2) 0 (nI cN) (nI rN) ((mFall pt pd cN rN nw kk).2.2.1)) := hD
  refine lv_goto (tgt := 26) hx hb dX2_wouldTurn_18 (by decide) ?_
  exact eQi (nw, (mFall pt pd cN rN nw kk).2.2.2, (mFall pt pd cN rN nw kk).2.2.1) hx hb hr hlocks hP hD hK hS dX2_wouldTurn_26 (rfl)
set_option maxHeartbeats 4000000 in
set_option maxRecDepth 100000 in
theorem mX2_wouldTurn_1 (l : Launch) (D : va_G) (cI : ClassId) (a : Nat → Nat) (pt pd ab nw kp wy : Nat → Int32) (th : Int32) (cN rN : Nat) (tn : Int32) (kk : Int32) (hq : mFrom kk 0 (nI cN - 1) = false) (sz : Nat) : Met l yX2_wouldTurn wsX2_wouldTurn ({ frames := 5, cells := 0, slots := 0, locals := 112 } : Room) (va_Pc [.ref (a 0), .int kk] (wPQ D [(cI, .int)] sz (wN cI a pt pd ab nw kp wy th (nI cN) (nI rN) tn))) (va_Qi (fun (zz : Int32) (_ : Unit) => zz = 0) (wB D [(cI, .int)] (va_A (wN cI a pt pd ab nw kp wy th (nI cN) (nI rN) tn) sz) (fun _ : Unit => (wN cI a pt pd ab nw kp wy 1 (nI cN) (nI rN) tn))) (va_A (wN cI a pt pd ab nw kp wy th (nI cN) (nI rN) tn) sz)) 0 0 (va_A (wN cI a pt pd ab nw kp wy th (nI cN) (nI rN) tn) sz) := by
  refine mQ_of (by decide) rfl (Nat.le_of_ble_eq_true rfl) ?_
  intro p e s m below meth c hx hb hr hml hown hin hts hlocks hsz hP hK hN hD hA hS ls hl
  have hown : s.vm.findClass RX2 = some m.cls := hown
  have hl : lv_has ls 2 [(0, .ref (a 0)), (1, .int kk)] := hl
  have hP : va_P D vwCl (wN cI a pt pd ab nw kp wy th (nI cN) (nI rN) tn) s.heap := hP
  refine lv_aload_n hx hb dX2_wouldTurn_0 rfl (lv_at hl 0 rfl) ?_
  refine lv_iconst (v := 0) hx hb dX2_wouldTurn_1 (by decide) ?_
  refine va_put (D := D) (ci := 2) (v := .int 0) (ty := .int) (C := RX2) (T := TX2) (N := 10) hx hb hts iw_X2_wouldTurn_X2 tyX2 tyX2_ok nmX2 hown hK hP hD hS 0 rfl rfl 0 (by decide) (hts (.fieldLink RX2 35 "MarbleRampsModel" "thrown" "I") (mg 1 rfl)) (fun _ h9 => h9) rfl (by decide +kernel) rfl rfl (Nat.le_of_ble_eq_true rfl) dX2_wouldTurn_2 (fun H locs hP hD hS => ?_)
  have hP : va_P D vwCl (wN cI a pt pd ab nw kp wy 0 (nI cN) (nI rN) tn) H := hP
  have hD : va_D (va_A (wN cI a pt pd ab nw kp wy th (nI cN) (nI rN) tn) sz) (wN cI a pt pd ab nw kp wy 0 (nI cN) (nI rN) tn) := hD
  refine lv_aload_n hx hb dX2_wouldTurn_5 rfl (lv_at hl 0 rfl) ?_
  refine lv_iload_n hx hb dX2_wouldTurn_6 rfl (lv_at hl 1 rfl) ?_
  refine kRVi (As := [.int kk]) (rest := []) ⟨hx, hb, hml, hown, hts⟩ (mX2_isColumn l D cI a pt pd ab nw kp wy 0 cN rN tn kk) (cwV 1 hts gX2_wouldTurn_X2_isColumn rfl rfl rfl (by decide +kernel) ⟨Nat.le_of_ble_eq_true rfl, Nat.le_of_ble_eq_true rfl⟩) hP hK hN [0, 1, 2, 3, 4, 5, 6] rfl [0] rfl rfl rfl rfl hl.1 rfl (Nat.le_of_ble_eq_true rfl) dX2_wouldTurn_7 ⟨Nat.zero_le _, Nat.zero_le _⟩ (fun r_1 hr_1 => ?_)
  subst r_1
  refine lv_if_eq (tgt := 21) hx hb dX2_wouldTurn_10 (by decide) (fun c_2 => ?_) (fun c9 => absurd (by rw [hq]; decide) c9)
  refine lv_aload_n hx hb dX2_wouldTurn_21 rfl (lv_at hl 0 rfl) ?_
  refine lv_iconst (v := 1) hx hb dX2_wouldTurn_22 (by decide) ?_
  refine kQVi (As := [.int 1]) (rest := []) (wr := []) (W2 := (fun _ => (wN cI a pt pd ab nw kp wy 1 (nI cN) (nI rN) tn))) ⟨hx, hb, hml, hown, hts⟩ (mX2_no l D cI a pt pd ab nw kp wy 0 cN rN tn 1 _) (cwV 1 hts gX2_wouldTurn_X2_no rfl rfl rfl (by decide +kernel) ⟨Nat.le_of_ble_eq_true rfl, Nat.le_of_ble_eq_true rfl⟩) hP hD hK hN hS hA [0, 1, 2, 3, 4, 5, 6] (by decide) rfl [] (by decide) rfl (by decide) [0, 1, 2, 3, 4, 5, 6] (by decide) (fun _ => rfl) [0] rfl rfl rfl rfl hl.1 rfl (Nat.le_of_ble_eq_true rfl) dX2_wouldTurn_23 ⟨Nat.le_of_ble_eq_true rfl, Nat.le_of_ble_eq_true rfl⟩ (fun r_3 u_3 H locs hr_3 hP hD hS => ?_)
  subst r_3
  have hP : va_P D vwCl (wN cI a pt pd ab nw kp wy 1 (nI cN) (nI rN) tn) H := hP
  have hD : va_D (va_A (wN cI a pt pd ab nw kp wy th (nI cN) (nI rN) tn) sz) (wN cI a pt pd ab nw kp wy 1 (nI cN) (nI rN) tn) := hD
  exact eQi () hx hb hr hlocks hP hD hK hS dX2_wouldTurn_26 (rfl)
theorem iw_X2_wouldBeIn_X2 : ∀ w ∈ wsX20, w ∈ wsX2_wouldBeIn := mem_pos [50, 51, 52, 53, 54, 55, 56, 57, 58, 59] (by decide +kernel)
set_option maxHeartbeats 4000000 in
set_option maxRecDepth 100000 in
theorem mX2_wouldBeIn_0 (l : Launch) (D : va_G) (cI : ClassId) (a : Nat → Nat) (pt pd ab nw kp wy : Nat → Int32) (th : Int32) (cN rN : Nat) (tn : Int32) (kk rr : Int32) (hI : mInv cN rN pt pd ab) (hq : mFrom kk 0 (nI cN - 1) = true) (hp : mFrom rr 0 (nI rN - 1) = true) (hr1 : 1 ≤ rN) (sz : Nat) : Met l yX2_wouldBeIn wsX2_wouldBeIn ({ frames := 4, cells := 0, slots := 0, locals := 91 } : Room) (va_Pc [.ref (a 0), .int kk, .int rr] (wPQ D [(cI, .int)] sz (wN cI a pt pd ab nw kp wy th (nI cN) (nI rN) tn))) (va_Qi (fun (zz : Int32) (u : MJ) => zz = (mFall pt pd cN rN nw kk).2.2.2 rr.toNatClampNeg) (wB D [(cI, .int)] (va_A (wN cI a pt pd ab nw kp wy th (nI cN) (nI rN) tn) sz) (fun u : MJ => (wN cI a pt pd ab nw u.1 u.2.1 0 (nI cN) (nI rN) u.2.2))) (va_A (wN cI a pt pd ab nw kp wy th (nI cN) (nI rN) tn) sz)) 0 0 (va_A (wN cI a pt pd ab nw kp wy th (nI cN) (nI rN) tn) sz) := by
  refine mQ_of (by decide) rfl (Nat.le_of_ble_eq_true rfl) ?_
  intro p e s m below meth c hx hb hr hml hown hin hts hlocks hsz hP hK hN hD hA hS ls hl
  have hown : s.vm.findClass RX2 = some m.cls := hown
  have hl : lv_has ls 3 [(0, .ref (a 0)), (1, .int kk), (2, .int rr)] := hl
  obtain ⟨⟨hc1, hc9⟩, hr8, hz, hab⟩ := id hI
  have hP : va_P D vwCl (wN cI a pt pd ab nw kp wy th (nI cN) (nI rN) tn) s.heap := hP
  refine lv_aload_n hx hb dX2_wouldBeIn_0 rfl (lv_at hl 0 rfl) ?_
  refine lv_iconst (v := 0) hx hb dX2_wouldBeIn_1 (by decide) ?_
  refine va_put (D := D) (ci := 2) (v := .int 0) (ty := .int) (C := RX2) (T := TX2) (N := 10) hx hb hts iw_X2_wouldBeIn_X2 tyX2 tyX2_ok nmX2 hown hK hP hD hS 0 rfl rfl 0 (by decide) (hts (.fieldLink RX2 35 "MarbleRampsModel" "thrown" "I") (mg 1 rfl)) (fun _ h9 => h9) rfl (by decide +kernel) rfl rfl (Nat.le_of_ble_eq_true rfl) dX2_wouldBeIn_2 (fun H locs hP hD hS => ?_)
  have hP : va_P D vwCl (wN cI a pt pd ab nw kp wy 0 (nI cN) (nI rN) tn) H := hP
  have hD : va_D (va_A (wN cI a pt pd ab nw kp wy th (nI cN) (nI rN) tn) sz) (wN cI a pt pd ab nw kp wy 0 (nI cN) (nI rN) tn) := hD
  refine lv_aload_n hx hb dX2_wouldBeIn_5 rfl (lv_at hl 0 rfl) ?_
  refine lv_iload_n hx hb dX2_wouldBeIn_6 rfl (lv_at hl 1 rfl) ?_
  refine kRVi (As := [.int kk]) (rest := []) ⟨hx, hb, hml, hown, hts⟩ (mX2_isColumn l D cI a pt pd ab nw kp wy 0 cN rN tn kk) (cwV 1 hts gX2_wouldBeIn_X2_isColumn rfl rfl rfl (by decide +kernel) ⟨Nat.le_of_ble_eq_true rfl, Nat.le_of_ble_eq_true rfl⟩) hP hK hN [0, 1, 2, 3, 4, 5, 6] rfl [0] rfl rfl rfl rfl hl.1 rfl (Nat.le_of_ble_eq_true rfl) dX2_wouldBeIn_7 ⟨Nat.zero_le _, Nat.zero_le _⟩ (fun r_1 hr_1 => ?_)
  subst r_1
  refine lv_if_eq (tgt := 21) hx hb dX2_wouldBeIn_10 (by decide) (fun c9 => absurd c9 (by rw [hq]; decide)) (fun c_2 => ?_)
  refine lv_aload_n hx hb dX2_wouldBeIn_13 rfl (lv_at hl 0 rfl) ?_
  refine lv_iload_n hx hb dX2_wouldBeIn_14 rfl (lv_at hl 2 rfl) ?_
  refine kRVi (As := [.int rr]) (rest := []) ⟨hx, hb, hml, hown, hts⟩ (mX2_isRow l D cI a pt pd ab nw kp wy 0 cN rN tn rr) (cwV 1 hts gX2_wouldBeIn_X2_isRow rfl rfl rfl (by decide +kernel) ⟨Nat.le_of_ble_eq_true rfl, Nat.le_of_ble_eq_true rfl⟩) hP hK hN [0, 1, 2, 3, 4, 5, 6] rfl [0] rfl rfl rfl rfl hl.1 rfl (Nat.le_of_ble_eq_true rfl) dX2_wouldBeIn_15 ⟨Nat.zero_le _, Nat.zero_le _⟩ (fun r_3 hr_3 => ?_)
  subst r_3
  refine lv_if_ne (tgt := 27) hx hb dX2_wouldBeIn_18 (by decide) (fun c_4 => ?_) (fun c9 => absurd c9 (by rw [hp]; decide))
  refine lv_aload_n hx hb dX2_wouldBeIn_27 rfl (lv_at hl 0 rfl) ?_
  refine lv_iload_n hx hb dX2_wouldBeIn_28 rfl (lv_at hl 1 rfl) ?_
  refine lv_iconst (v := 1) hx hb dX2_wouldBeIn_29 (by decide) ?_
  refine kQVi (As := [.int kk, .int 1]) (rest := []) (wr := []) (W2 := (fun _ => (wN cI a pt pd ab nw nw ((mLook pt pd cN rN nw tn wy kk 1).2.2) 0 (nI cN) (nI rN) ((mLook pt pd cN rN nw tn wy kk 1).2.1)))) ⟨hx, hb, hml, hown, hts⟩ (mX2_look l D cI a pt pd ab nw kp wy 0 cN rN tn kk 1 hI (mFrom_n hq hc1 (by omega)) _) (cwV 2 hts gX2_wouldBeIn_X2_look rfl rfl rfl (by decide +kernel) ⟨Nat.le_of_ble_eq_true rfl, Nat.le_of_ble_eq_true rfl⟩) hP hD hK hN hS hA [0, 1, 2, 3, 4, 5, 6] (by decide) rfl [] (by decide) rfl (by decide) [0, 1, 2, 3, 4, 5, 6] (by decide) (fun _ => rfl) [0] rfl rfl rfl rfl hl.1 rfl (Nat.le_of_ble_eq_true rfl) dX2_wouldBeIn_30 ⟨Nat.le_of_ble_eq_true rfl, Nat.le_of_ble_eq_true rfl⟩ (fun r_5 u_5 H locs hr_5 hP hD hS => ?_)
  subst r_5
  have hP : va_P D vwCl (wN cI a pt pd ab nw nw ((mLook pt pd cN rN nw tn wy kk 1).2.2) 0 (nI cN) (nI rN) ((mLook pt pd cN rN nw tn wy kk 1).2.1)) H := hP
  have hD : va_D (va_A (wN cI a pt pd ab nw kp wy th (nI cN) (nI rN) tn) sz) (wN cI a pt pd ab nw nw ((mLook pt pd cN rN nw tn wy kk 1).2.2) 0 (nI cN) (nI rN) ((mLook pt pd cN rN nw tn wy kk 1).2.1)) := hD
  refine lv_pop hx hb dX2_wouldBeIn_33 rfl ?_
  refine lv_aload_n hx hb dX2_wouldBeIn_34 rfl (lv_at hl 0 rfl) ?_
  refine va_get (D := D) (ci := 2) (v := .ref (a 6)) (C := RX2) (T := TX2) (N := 10) hx hb hts iw_X2_wouldBeIn_X2 hown hK hP 0 rfl rfl 9 (by decide) (hts (.fieldLink RX2 32 "MarbleRampsModel" "way" "[I") (mg 2 rfl)) (fun _ h9 => h9) rfl dX2_wouldBeIn_35 ?_
  refine lv_iload_n hx hb dX2_wouldBeIn_38 rfl (lv_at hl 2 rfl) ?_
  refine va_iald hx hb hK hP 6 0 rfl rfl (row_in hr8 (mFrom_n hp hr1 (by omega))) dX2_wouldBeIn_39 ?_
  exact eQi (nw, (mLook pt pd cN rN nw tn wy kk 1).2.2, (mLook pt pd cN rN nw tn wy kk 1).2.1) hx hb hr hlocks hP hD hK hS dX2_wouldBeIn_40 (by rw [mLook1])
set_option maxHeartbeats 4000000 in
set_option maxRecDepth 100000 in
theorem mX2_wouldBeIn_1 (l : Launch) (D : va_G) (cI : ClassId) (a : Nat → Nat) (pt pd ab nw kp wy : Nat → Int32) (th : Int32) (cN rN : Nat) (tn : Int32) (kk rr : Int32) (hq : mFrom kk 0 (nI cN - 1) = false) (sz : Nat) : Met l yX2_wouldBeIn wsX2_wouldBeIn ({ frames := 4, cells := 0, slots := 0, locals := 91 } : Room) (va_Pc [.ref (a 0), .int kk, .int rr] (wPQ D [(cI, .int)] sz (wN cI a pt pd ab nw kp wy th (nI cN) (nI rN) tn))) (va_Qi (fun (zz : Int32) (_ : Unit) => zz = 0) (wB D [(cI, .int)] (va_A (wN cI a pt pd ab nw kp wy th (nI cN) (nI rN) tn) sz) (fun _ : Unit => (wN cI a pt pd ab nw kp wy 1 (nI cN) (nI rN) tn))) (va_A (wN cI a pt pd ab nw kp wy th (nI cN) (nI rN) tn) sz)) 0 0 (va_A (wN cI a pt pd ab nw kp wy th (nI cN) (nI rN) tn) sz) := by
  refine mQ_of (by decide) rfl (Nat.le_of_ble_eq_true rfl) ?_
  intro p e s m below meth c hx hb hr hml hown hin hts hlocks hsz hP hK hN hD hA hS ls hl
  have hown : s.vm.findClass RX2 = some m.cls := hown
  have hl : lv_has ls 3 [(0, .ref (a 0)), (1, .int kk), (2, .int rr)] := hl
  have hP : va_P D vwCl (wN cI a pt pd ab nw kp wy th (nI cN) (nI rN) tn) s.heap := hP
  refine lv_aload_n hx hb dX2_wouldBeIn_0 rfl (lv_at hl 0 rfl) ?_
  refine lv_iconst (v := 0) hx hb dX2_wouldBeIn_1 (by decide) ?_
  refine va_put (D := D) (ci := 2) (v := .int 0) (ty := .int) (C := RX2) (T := TX2) (N := 10) hx hb hts iw_X2_wouldBeIn_X2 tyX2 tyX2_ok nmX2 hown hK hP hD hS 0 rfl rfl 0 (by decide) (hts (.fieldLink RX2 35 "MarbleRampsModel" "thrown" "I") (mg 1 rfl)) (fun _ h9 => h9) rfl (by decide +kernel) rfl rfl (Nat.le_of_ble_eq_true rfl) dX2_wouldBeIn_2 (fun H locs hP hD hS => ?_)
  have hP : va_P D vwCl (wN cI a pt pd ab nw kp wy 0 (nI cN) (nI rN) tn) H := hP
  have hD : va_D (va_A (wN cI a pt pd ab nw kp wy th (nI cN) (nI rN) tn) sz) (wN cI a pt pd ab nw kp wy 0 (nI cN) (nI rN) tn) := hD
  refine lv_aload_n hx hb dX2_wouldBeIn_5 rfl (lv_at hl 0 rfl) ?_
  refine lv_iload_n hx hb dX2_wouldBeIn_6 rfl (lv_at hl 1 rfl) ?_
  refine kRVi (As := [.int kk]) (rest := []) ⟨hx, hb, hml, hown, hts⟩ (mX2_isColumn l D cI a pt pd ab nw kp wy 0 cN rN tn kk) (cwV 1 hts gX2_wouldBeIn_X2_isColumn rfl rfl rfl (by decide +kernel) ⟨Nat.le_of_ble_eq_true rfl, Nat.le_of_ble_eq_true rfl⟩) hP hK hN [0, 1, 2, 3, 4, 5, 6] rfl [0] rfl rfl rfl rfl hl.1 rfl (Nat.le_of_ble_eq_true rfl) dX2_wouldBeIn_7 ⟨Nat.zero_le _, Nat.zero_le _⟩ (fun r_1 hr_1 => ?_)
  subst r_1
  refine lv_if_eq (tgt := 21) hx hb dX2_wouldBeIn_10 (by decide) (fun c_2 => ?_) (fun c9 => absurd (by rw [hq]; decide) c9)
  refine lv_aload_n hx hb dX2_wouldBeIn_21 rfl (lv_at hl 0 rfl) ?_
  refine lv_iconst (v := 1) hx hb dX2_wouldBeIn_22 (by decide) ?_
  refine kQVi (As := [.int 1]) (rest := []) (wr := []) (W2 := (fun _ => (wN cI a pt pd ab nw kp wy 1 (nI cN) (nI rN) tn))) ⟨hx, hb, hml, hown, hts⟩ (mX2_no l D cI a pt pd ab nw kp wy 0 cN rN tn 1 _) (cwV 1 hts gX2_wouldBeIn_X2_no rfl rfl rfl (by decide +kernel) ⟨Nat.le_of_ble_eq_true rfl, Nat.le_of_ble_eq_true rfl⟩) hP hD hK hN hS hA [0, 1, 2, 3, 4, 5, 6] (by decide) rfl [] (by decide) rfl (by decide) [0, 1, 2, 3, 4, 5, 6] (by decide) (fun _ => rfl) [0] rfl rfl rfl rfl hl.1 rfl (Nat.le_of_ble_eq_true rfl) dX2_wouldBeIn_23 ⟨Nat.le_of_ble_eq_true rfl, Nat.le_of_ble_eq_true rfl⟩ (fun r_3 u_3 H locs hr_3 hP hD hS => ?_)
  subst r_3
  have hP : va_P D vwCl (wN cI a pt pd ab nw kp wy 1 (nI cN) (nI rN) tn) H := hP
  have hD : va_D (va_A (wN cI a pt pd ab nw kp wy th (nI cN) (nI rN) tn) sz) (wN cI a pt pd ab nw kp wy 1 (nI cN) (nI rN) tn) := hD
  exact eQi () hx hb hr hlocks hP hD hK hS dX2_wouldBeIn_26 (rfl)
set_option maxHeartbeats 4000000 in
set_option maxRecDepth 100000 in
theorem mX2_wouldBeIn_1r (l : Launch) (D : va_G) (cI : ClassId) (a : Nat → Nat) (pt pd ab nw kp wy : Nat → Int32) (th : Int32) (cN rN : Nat) (tn : Int32) (kk rr : Int32) (hq : mFrom kk 0 (nI cN - 1) = true) (hp : mFrom rr 0 (nI rN - 1) = false) (sz : Nat) : Met l yX2_wouldBeIn wsX2_wouldBeIn ({ frames := 4, cells := 0, slots := 0, locals := 91 } : Room) (va_Pc [.ref (a 0), .int kk, .int rr] (wPQ D [(cI, .int)] sz (wN cI a pt pd ab nw kp wy th (nI cN) (nI rN) tn))) (va_Qi (fun (zz : Int32) (_ : Unit) => zz = 0) (wB D [(cI, .int)] (va_A (wN cI a pt pd ab nw kp wy th (nI cN) (nI rN) tn) sz) (fun _ : Unit => (wN cI a pt pd ab nw kp wy 1 (nI cN) (nI rN) tn))) (va_A (wN cI a pt pd ab nw kp wy th (nI cN) (nI rN) tn) sz)) 0 0 (va_A (wN cI a pt pd ab nw kp wy th (nI cN) (nI rN) tn) sz) := by
  refine mQ_of (by decide) rfl (Nat.le_of_ble_eq_true rfl) ?_
  intro p e s m below meth c hx hb hr hml hown hin hts hlocks hsz hP hK hN hD hA hS ls hl
  have hown : s.vm.findClass RX2 = some m.cls := hown
  have hl : lv_has ls 3 [(0, .ref (a 0)), (1, .int kk), (2, .int rr)] := hl
  have hP : va_P D vwCl (wN cI a pt pd ab nw kp wy th (nI cN) (nI rN) tn) s.heap := hP
  refine lv_aload_n hx hb dX2_wouldBeIn_0 rfl (lv_at hl 0 rfl) ?_
  refine lv_iconst (v := 0) hx hb dX2_wouldBeIn_1 (by decide) ?_
  refine va_put (D := D) (ci := 2) (v := .int 0) (ty := .int) (C := RX2) (T := TX2) (N := 10) hx hb hts iw_X2_wouldBeIn_X2 tyX2 tyX2_ok nmX2 hown hK hP hD hS 0 rfl rfl 0 (by decide) (hts (.fieldLink RX2 35 "MarbleRampsModel" "thrown" "I") (mg 1 rfl)) (fun _ h9 => h9) rfl (by decide +kernel) rfl rfl (Nat.le_of_ble_eq_true rfl) dX2_wouldBeIn_2 (fun H locs hP hD hS => ?_)
  have hP : va_P D vwCl (wN cI a pt pd ab nw kp wy 0 (nI cN) (nI rN) tn) H := hP
  have hD : va_D (va_A (wN cI a pt pd ab nw kp wy th (nI cN) (nI rN) tn) sz) (wN cI a pt pd ab nw kp wy 0 (nI cN) (nI rN) tn) := hD
  refine lv_aload_n hx hb dX2_wouldBeIn_5 rfl (lv_at hl 0 rfl) ?_
  refine lv_iload_n hx hb dX2_wouldBeIn_6 rfl (lv_at hl 1 rfl) ?_
  refine kRVi (As := [.int kk]) (rest := []) ⟨hx, hb, hml, hown, hts⟩ (mX2_isColumn l D cI a pt pd ab nw kp wy 0 cN rN tn kk) (cwV 1 hts gX2_wouldBeIn_X2_isColumn rfl rfl rfl (by decide +kernel) ⟨Nat.le_of_ble_eq_true rfl, Nat.le_of_ble_eq_true rfl⟩) hP hK hN [0, 1, 2, 3, 4, 5, 6] rfl [0] rfl rfl rfl rfl hl.1 rfl (Nat.le_of_ble_eq_true rfl) dX2_wouldBeIn_7 ⟨Nat.zero_le _, Nat.zero_le _⟩ (fun r_1 hr_1 => ?_)
  subst r_1
  refine lv_if_eq (tgt := 21) hx hb dX2_wouldBeIn_10 (by decide) (fun c9 => absurd c9 (by rw [hq]; decide)) (fun c_2 => ?_)
  refine lv_aload_n hx hb dX2_wouldBeIn_13 rfl (lv_at hl 0 rfl) ?_
  refine lv_iload_n hx hb dX2_wouldBeIn_14 rfl (lv_at hl 2 rfl) ?_
  refine kRVi (As := [.int rr]) (rest := []) ⟨hx, hb, hml, hown, hts⟩ (mX2_isRow l D cI a pt pd ab nw kp wy 0 cN rN tn rr) (cwV 1 hts gX2_wouldBeIn_X2_isRow rfl rfl rfl (by decide +kernel) ⟨Nat.le_of_ble_eq_true rfl, Nat.le_of_ble_eq_true rfl⟩) hP hK hN [0, 1, 2, 3, 4, 5, 6] rfl [0] rfl rfl rfl rfl hl.1 rfl (Nat.le_of_ble_eq_true rfl) dX2_wouldBeIn_15 ⟨Nat.zero_le _, Nat.zero_le _⟩ (fun r_3 hr_3 => ?_)
  subst r_3
  refine lv_if_ne (tgt := 27) hx hb dX2_wouldBeIn_18 (by decide) (fun c9 => absurd (by rw [hp]; decide) c9) (fun c_4 => ?_)
  refine lv_aload_n hx hb dX2_wouldBeIn_21 rfl (lv_at hl 0 rfl) ?_
  refine lv_iconst (v := 1) hx hb dX2_wouldBeIn_22 (by decide) ?_
  refine kQVi (As := [.int 1]) (rest := []) (wr := []) (W2 := (fun _ => (wN cI a pt pd ab nw kp wy 1 (nI cN) (nI rN) tn))) ⟨hx, hb, hml, hown, hts⟩ (mX2_no l D cI a pt pd ab nw kp wy 0 cN rN tn 1 _) (cwV 1 hts gX2_wouldBeIn_X2_no rfl rfl rfl (by decide +kernel) ⟨Nat.le_of_ble_eq_true rfl, Nat.le_of_ble_eq_true rfl⟩) hP hD hK hN hS hA [0, 1, 2, 3, 4, 5, 6] (by decide) rfl [] (by decide) rfl (by decide) [0, 1, 2, 3, 4, 5, 6] (by decide) (fun _ => rfl) [0] rfl rfl rfl rfl hl.1 rfl (Nat.le_of_ble_eq_true rfl) dX2_wouldBeIn_23 ⟨Nat.le_of_ble_eq_true rfl, Nat.le_of_ble_eq_true rfl⟩ (fun r_5 u_5 H locs hr_5 hP hD hS => ?_)
  subst r_5
  have hP : va_P D vwCl (wN cI a pt pd ab nw kp wy 1 (nI cN) (nI rN) tn) H := hP
  have hD : va_D (va_A (wN cI a pt pd ab nw kp wy th (nI cN) (nI rN) tn) sz) (wN cI a pt pd ab nw kp wy 1 (nI cN) (nI rN) tn) := hD
  exact eQi () hx hb hr hlocks hP hD hK hS dX2_wouldBeIn_26 (rfl)
theorem iw_X2_lastLands_X2 : ∀ w ∈ wsX20, w ∈ wsX2_lastLands := mem_pos [46, 47, 48, 49, 50, 51, 52, 53, 54, 55] (by decide +kernel)
set_option maxHeartbeats 4000000 in
set_option maxRecDepth 100000 in
theorem mX2_lastLands_0 (l : Launch) (D : va_G) (cI : ClassId) (a : Nat → Nat) (pt pd ab nw kp wy : Nat → Int32) (th : Int32) (cN rN : Nat) (tn : Int32) (kk mm : Int32) (hI : mInv cN rN pt pd ab) (hq : mFrom kk 0 (nI cN - 1) = true) (hs : mFrom mm 1 60 = true) (sz : Nat) : Met l yX2_lastLands wsX2_lastLands ({ frames := 4, cells := 0, slots := 0, locals := 91 } : Room) (va_Pc [.ref (a 0), .int kk, .int mm] (wPQ D [(cI, .int)] sz (wN cI a pt pd ab nw kp wy th (nI cN) (nI rN) tn))) (va_Qi (fun (zz : Int32) (u : MJ) => zz = (mLook pt pd cN rN nw tn wy kk mm).1) (wB D [(cI, .int)] (va_A (wN cI a pt pd ab nw kp wy th (nI cN) (nI rN) tn) sz) (fun u : MJ => (wN cI a pt pd ab nw u.1 u.2.1 0 (nI cN) (nI rN) u.2.2))) (va_A (wN cI a pt pd ab nw kp wy th (nI cN) (nI rN) tn) sz)) 0 0 (va_A (wN cI a pt pd ab nw kp wy th (nI cN) (nI rN) tn) sz) := by
  refine mQ_of (by decide) rfl (Nat.le_of_ble_eq_true rfl) ?_
  intro p e s m below meth c hx hb hr hml hown hin hts hlocks hsz hP hK hN hD hA hS ls hl
  have hown : s.vm.findClass RX2 = some m.cls := hown
  have hl : lv_has ls 3 [(0, .ref (a 0)), (1, .int kk), (2, .int mm)] := hl
  obtain ⟨⟨hc1, hc9⟩, hr8, hz, hab⟩ := id hI
  have hP : va_P D vwCl (wN cI a pt pd ab nw kp wy th (nI cN) (nI rN) tn) s.heap := hP
  refine lv_aload_n hx hb dX2_lastLands_0 rfl (lv_at hl 0 rfl) ?_
  refine lv_iconst (v := 0) hx hb dX2_lastLands_1 (by decide) ?_
  refine va_put (D := D) (ci := 2) (v := .int 0) (ty := .int) (C := RX2) (T := TX2) (N := 10) hx hb hts iw_X2_lastLands_X2 tyX2 tyX2_ok nmX2 hown hK hP hD hS 0 rfl rfl 0 (by decide) (hts (.fieldLink RX2 35 "MarbleRampsModel" "thrown" "I") (mg 1 rfl)) (fun _ h9 => h9) rfl (by decide +kernel) rfl rfl (Nat.le_of_ble_eq_true rfl) dX2_lastLands_2 (fun H locs hP hD hS => ?_)
  have hP : va_P D vwCl (wN cI a pt pd ab nw kp wy 0 (nI cN) (nI rN) tn) H := hP
  have hD : va_D (va_A (wN cI a pt pd ab nw kp wy th (nI cN) (nI rN) tn) sz) (wN cI a pt pd ab nw kp wy 0 (nI cN) (nI rN) tn) := hD
  refine lv_aload_n hx hb dX2_lastLands_5 rfl (lv_at hl 0 rfl) ?_
  refine lv_iload_n hx hb dX2_lastLands_6 rfl (lv_at hl 1 rfl) ?_
  refine kRVi (As := [.int kk]) (rest := []) ⟨hx, hb, hml, hown, hts⟩ (mX2_isColumn l D cI a pt pd ab nw kp wy 0 cN rN tn kk) (cwV 1 hts gX2_lastLands_X2_isColumn rfl rfl rfl (by decide +kernel) ⟨Nat.le_of_ble_eq_true rfl, Nat.le_of_ble_eq_true rfl⟩) hP hK hN [0, 1, 2, 3, 4, 5, 6] rfl [0] rfl rfl rfl rfl hl.1 rfl (Nat.le_of_ble_eq_true rfl) dX2_lastLands_7 ⟨Nat.zero_le _, Nat.zero_le _⟩ (fun r_1 hr_1 => ?_)
  subst r_1
  refine lv_if_ne (tgt := 19) hx hb dX2_lastLands_10 (by decide) (fun c_2 => ?_) (fun c9 => absurd c9 (by rw [hq]; decide))
  refine lv_iload_n hx hb dX2_lastLands_19 rfl (lv_at hl 2 rfl) ?_
  refine lv_iconst (v := 1) hx hb dX2_lastLands_20 (by decide) ?_
  refine lv_bipush (v := 60) hx hb dX2_lastLands_21 (by decide) ?_
  refine kRSi (As := [.int mm, .int 1, .int 60]) (rest := []) ⟨hx, hb, hml, hown, hts⟩ (mX2_isFrom l D cI mm 1 60) (va_cwS 3 hts gX2_lastLands_X2_isFrom rfl rfl rfl (by decide +kernel) ⟨Nat.le_of_ble_eq_true rfl, Nat.le_of_ble_eq_true rfl⟩) hP hK hN [] rfl [0] rfl rfl hl.1 rfl (Nat.le_of_ble_eq_true rfl) dX2_lastLands_23 ⟨Nat.zero_le _, Nat.zero_le _⟩ (fun r_3 hr_3 => ?_)
  subst r_3
  refine lv_if_eq (tgt := 38) hx hb dX2_lastLands_26 (by decide) (fun c9 => absurd c9 (by rw [hs]; decide)) (fun c_4 => ?_)
  refine lv_aload_n hx hb dX2_lastLands_29 rfl (lv_at hl 0 rfl) ?_
  refine lv_iload_n hx hb dX2_lastLands_30 rfl (lv_at hl 1 rfl) ?_
  refine lv_iload_n hx hb dX2_lastLands_31 rfl (lv_at hl 2 rfl) ?_
  refine kQVi (As := [.int kk, .int mm]) (rest := []) (wr := []) (W2 := (fun _ => (wN cI a pt pd ab nw nw ((mLook pt pd cN rN nw tn wy kk mm).2.2) 0 (nI cN) (nI rN) ((mLook pt pd cN rN nw tn wy kk mm).2.1)))) ⟨hx, hb, hml, hown, hts⟩ (mX2_look l D cI a pt pd ab nw kp wy 0 cN rN tn kk mm hI (mFrom_n hq hc1 (by omega)) _) (cwV 2 hts gX2_lastLands_X2_look rfl rfl rfl (by decide +kernel) ⟨Nat.le_of_ble_eq_true rfl, Nat.le_of_ble_eq_true rfl⟩) hP hD hK hN hS hA [0, 1, 2, 3, 4, 5, 6] (by decide) rfl [] (by decide) rfl (by decide) [0, 1, 2, 3, 4, 5, 6] (by decide) (fun _ => rfl) [0] rfl rfl rfl rfl hl.1 rfl (Nat.le_of_ble_eq_true rfl) dX2_lastLands_32 ⟨Nat.le_of_ble_eq_true rfl, Nat.le_of_ble_eq_true rfl⟩ (fun r_5 u_5 H locs hr_5 hP hD hS => ?_)
  subst r_5
  have hP : va_P D vwCl (wN cI a pt pd ab nw nw ((mLook pt pd cN rN nw tn wy kk mm).2.2) 0 (nI cN) (nI rN) ((mLook pt pd cN rN nw tn wy kk mm).2.1)) H := hP
  have hD : va_D (va_A (wN cI a pt pd ab nw kp wy th (nI cN) (nI rN) tn) sz) (wN cI a pt pd ab nw nw ((mLook pt pd cN rN nw tn wy kk mm).2.2) 0 (nI cN) (nI rN) ((mLook pt pd cN rN nw tn wy kk mm).2.1)) := hD
  refine lv_goto (tgt := 43) hx hb dX2_lastLands_35 (by decide) ?_
  exact eQi (nw, (mLook pt pd cN rN nw tn wy kk mm).2.2, (mLook pt pd cN rN nw tn wy kk mm).2.1) hx hb hr hlocks hP hD hK hS dX2_lastLands_43 (rfl)
set_option maxHeartbeats 4000000 in
set_option maxRecDepth 100000 in
theorem mX2_lastLands_1 (l : Launch) (D : va_G) (cI : ClassId) (a : Nat → Nat) (pt pd ab nw kp wy : Nat → Int32) (th : Int32) (cN rN : Nat) (tn : Int32) (kk mm : Int32) (hq : mFrom kk 0 (nI cN - 1) = false) (sz : Nat) : Met l yX2_lastLands wsX2_lastLands ({ frames := 4, cells := 0, slots := 0, locals := 91 } : Room) (va_Pc [.ref (a 0), .int kk, .int mm] (wPQ D [(cI, .int)] sz (wN cI a pt pd ab nw kp wy th (nI cN) (nI rN) tn))) (va_Qi (fun (zz : Int32) (_ : Unit) => zz = 0) (wB D [(cI, .int)] (va_A (wN cI a pt pd ab nw kp wy th (nI cN) (nI rN) tn) sz) (fun _ : Unit => (wN cI a pt pd ab nw kp wy 1 (nI cN) (nI rN) tn))) (va_A (wN cI a pt pd ab nw kp wy th (nI cN) (nI rN) tn) sz)) 0 0 (va_A (wN cI a pt pd ab nw kp wy th (nI cN) (nI rN) tn) sz) := by
  refine mQ_of (by decide) rfl (Nat.le_of_ble_eq_true rfl) ?_
  intro p e s m below meth c hx hb hr hml hown hin hts hlocks hsz hP hK hN hD hA hS ls hl
  have hown : s.vm.findClass RX2 = some m.cls := hown
  have hl : lv_has ls 3 [(0, .ref (a 0)), (1, .int kk), (2, .int mm)] := hl
  have hP : va_P D vwCl (wN cI a pt pd ab nw kp wy th (nI cN) (nI rN) tn) s.heap := hP
  refine lv_aload_n hx hb dX2_lastLands_0 rfl (lv_at hl 0 rfl) ?_
  refine lv_iconst (v := 0) hx hb dX2_lastLands_1 (by decide) ?_
  refine va_put (D := D) (ci := 2) (v := .int 0) (ty := .int) (C := RX2) (T := TX2) (N := 10) hx hb hts iw_X2_lastLands_X2 tyX2 tyX2_ok nmX2 hown hK hP hD hS 0 rfl rfl 0 (by decide) (hts (.fieldLink RX2 35 "MarbleRampsModel" "thrown" "I") (mg 1 rfl)) (fun _ h9 => h9) rfl (by decide +kernel) rfl rfl (Nat.le_of_ble_eq_true rfl) dX2_lastLands_2 (fun H locs hP hD hS => ?_)
  have hP : va_P D vwCl (wN cI a pt pd ab nw kp wy 0 (nI cN) (nI rN) tn) H := hP
  have hD : va_D (va_A (wN cI a pt pd ab nw kp wy th (nI cN) (nI rN) tn) sz) (wN cI a pt pd ab nw kp wy 0 (nI cN) (nI rN) tn) := hD
  refine lv_aload_n hx hb dX2_lastLands_5 rfl (lv_at hl 0 rfl) ?_
  refine lv_iload_n hx hb dX2_lastLands_6 rfl (lv_at hl 1 rfl) ?_
  refine kRVi (As := [.int kk]) (rest := []) ⟨hx, hb, hml, hown, hts⟩ (mX2_isColumn l D cI a pt pd ab nw kp wy 0 cN rN tn kk) (cwV 1 hts gX2_lastLands_X2_isColumn rfl rfl rfl (by decide +kernel) ⟨Nat.le_of_ble_eq_true rfl, Nat.le_of_ble_eq_true rfl⟩) hP hK hN [0, 1, 2, 3, 4, 5, 6] rfl [0] rfl rfl rfl rfl hl.1 rfl (Nat.le_of_ble_eq_true rfl) dX2_lastLands_7 ⟨Nat.zero_le _, Nat.zero_le _⟩ (fun r_1 hr_1 => ?_)
  subst r_1
  refine lv_if_ne (tgt := 19) hx hb dX2_lastLands_10 (by decide) (fun c9 => absurd (by rw [hq]; decide) c9) (fun c_2 => ?_)
  refine lv_aload_n hx hb dX2_lastLands_13 rfl (lv_at hl 0 rfl) ?_
  refine lv_iconst (v := 1) hx hb dX2_lastLands_14 (by decide) ?_
  refine kQVi (As := [.int 1]) (rest := []) (wr := []) (W2 := (fun _ => (wN cI a pt pd ab nw kp wy 1 (nI cN) (nI rN) tn))) ⟨hx, hb, hml, hown, hts⟩ (mX2_no l D cI a pt pd ab nw kp wy 0 cN rN tn 1 _) (cwV 1 hts gX2_lastLands_X2_no rfl rfl rfl (by decide +kernel) ⟨Nat.le_of_ble_eq_true rfl, Nat.le_of_ble_eq_true rfl⟩) hP hD hK hN hS hA [0, 1, 2, 3, 4, 5, 6] (by decide) rfl [] (by decide) rfl (by decide) [0, 1, 2, 3, 4, 5, 6] (by decide) (fun _ => rfl) [0] rfl rfl rfl rfl hl.1 rfl (Nat.le_of_ble_eq_true rfl) dX2_lastLands_15 ⟨Nat.le_of_ble_eq_true rfl, Nat.le_of_ble_eq_true rfl⟩ (fun r_3 u_3 H locs hr_3 hP hD hS => ?_)
  subst r_3
  have hP : va_P D vwCl (wN cI a pt pd ab nw kp wy 1 (nI cN) (nI rN) tn) H := hP
  have hD : va_D (va_A (wN cI a pt pd ab nw kp wy th (nI cN) (nI rN) tn) sz) (wN cI a pt pd ab nw kp wy 1 (nI cN) (nI rN) tn) := hD
  exact eQi () hx hb hr hlocks hP hD hK hS dX2_lastLands_18 (rfl)
set_option maxHeartbeats 4000000 in
set_option maxRecDepth 100000 in
theorem mX2_lastLands_2 (l : Launch) (D : va_G) (cI : ClassId) (a : Nat → Nat) (pt pd ab nw kp wy : Nat → Int32) (th : Int32) (cN rN : Nat) (tn : Int32) (kk mm : Int32) (hq : mFrom kk 0 (nI cN - 1) = true) (hs : mFrom mm 1 60 = false) (sz : Nat) : Met l yX2_lastLands wsX2_lastLands ({ frames := 4, cells := 0, slots := 0, locals := 91 } : Room) (va_Pc [.ref (a 0), .int kk, .int mm] (wPQ D [(cI, .int)] sz (wN cI a pt pd ab nw kp wy th (nI cN) (nI rN) tn))) (va_Qi (fun (zz : Int32) (_ : Unit) => zz = 0) (wB D [(cI, .int)] (va_A (wN cI a pt pd ab nw kp wy th (nI cN) (nI rN) tn) sz) (fun _ : Unit => (wN cI a pt pd ab nw kp wy 2 (nI cN) (nI rN) tn))) (va_A (wN cI a pt pd ab nw kp wy th (nI cN) (nI rN) tn) sz)) 0 0 (va_A (wN cI a pt pd ab nw kp wy th (nI cN) (nI rN) tn) sz) := by
  refine mQ_of (by decide) rfl (Nat.le_of_ble_eq_true rfl) ?_
  intro p e s m below meth c hx hb hr hml hown hin hts hlocks hsz hP hK hN hD hA hS ls hl
  have hown : s.vm.findClass RX2 = some m.cls := hown
  have hl : lv_has ls 3 [(0, .ref (a 0)), (1, .int kk), (2, .int mm)] := hl
  have hP : va_P D vwCl (wN cI a pt pd ab nw kp wy th (nI cN) (nI rN) tn) s.heap := hP
  refine lv_aload_n hx hb dX2_lastLands_0 rfl (lv_at hl 0 rfl) ?_
  refine lv_iconst (v := 0) hx hb dX2_lastLands_1 (by decide) ?_
  refine va_put (D := D) (ci := 2) (v := .int 0) (ty := .int) (C := RX2) (T := TX2) (N := 10) hx hb hts iw_X2_lastLands_X2 tyX2 tyX2_ok nmX2 hown hK hP hD hS 0 rfl rfl 0 (by decide) (hts (.fieldLink RX2 35 "MarbleRampsModel" "thrown" "I") (mg 1 rfl)) (fun _ h9 => h9) rfl (by decide +kernel) rfl rfl (Nat.le_of_ble_eq_true rfl) dX2_lastLands_2 (fun H locs hP hD hS => ?_)
  have hP : va_P D vwCl (wN cI a pt pd ab nw kp wy 0 (nI cN) (nI rN) tn) H := hP
  have hD : va_D (va_A (wN cI a pt pd ab nw kp wy th (nI cN) (nI rN) tn) sz) (wN cI a pt pd ab nw kp wy 0 (nI cN) (nI rN) tn) := hD
  refine lv_aload_n hx hb dX2_lastLands_5 rfl (lv_at hl 0 rfl) ?_
  refine lv_iload_n hx hb dX2_lastLands_6 rfl (lv_at hl 1 rfl) ?_
  refine kRVi (As := [.int kk]) (rest := []) ⟨hx, hb, hml, hown, hts⟩ (mX2_isColumn l D cI a pt pd ab nw kp wy 0 cN rN tn kk) (cwV 1 hts gX2_lastLands_X2_isColumn rfl rfl rfl (by decide +kernel) ⟨Nat.le_of_ble_eq_true rfl, Nat.le_of_ble_eq_true rfl⟩) hP hK hN [0, 1, 2, 3, 4, 5, 6] rfl [0] rfl rfl rfl rfl hl.1 rfl (Nat.le_of_ble_eq_true rfl) dX2_lastLands_7 ⟨Nat.zero_le _, Nat.zero_le _⟩ (fun r_1 hr_1 => ?_)
  subst r_1
  refine lv_if_ne (tgt := 19) hx hb dX2_lastLands_10 (by decide) (fun c_2 => ?_) (fun c9 => absurd c9 (by rw [hq]; decide))
  refine lv_iload_n hx hb dX2_lastLands_19 rfl (lv_at hl 2 rfl) ?_
  refine lv_iconst (v := 1) hx hb dX2_lastLands_20 (by decide) ?_
  refine lv_bipush (v := 60) hx hb dX2_lastLands_21 (by decide) ?_
  refine kRSi (As := [.int mm, .int 1, .int 60]) (rest := []) ⟨hx, hb, hml, hown, hts⟩ (mX2_isFrom l D cI mm 1 60) (va_cwS 3 hts gX2_lastLands_X2_isFrom rfl rfl rfl (by decide +kernel) ⟨Nat.le_of_ble_eq_true rfl, Nat.le_of_ble_eq_true rfl⟩) hP hK hN [] rfl [0] rfl rfl hl.1 rfl (Nat.le_of_ble_eq_true rfl) dX2_lastLands_23 ⟨Nat.zero_le _, Nat.zero_le _⟩ (fun r_3 hr_3 => ?_)
  subst r_3
  refine lv_if_eq (tgt := 38) hx hb dX2_lastLands_26 (by decide) (fun c_4 => ?_) (fun c9 => absurd (by rw [hs]; decide) c9)
  refine lv_aload_n hx hb dX2_lastLands_38 rfl (lv_at hl 0 rfl) ?_
  refine lv_iconst (v := 2) hx hb dX2_lastLands_39 (by decide) ?_
  refine kQVi (As := [.int 2]) (rest := []) (wr := []) (W2 := (fun _ => (wN cI a pt pd ab nw kp wy 2 (nI cN) (nI rN) tn))) ⟨hx, hb, hml, hown, hts⟩ (mX2_no l D cI a pt pd ab nw kp wy 0 cN rN tn 2 _) (cwV 1 hts gX2_lastLands_X2_no rfl rfl rfl (by decide +kernel) ⟨Nat.le_of_ble_eq_true rfl, Nat.le_of_ble_eq_true rfl⟩) hP hD hK hN hS hA [0, 1, 2, 3, 4, 5, 6] (by decide) rfl [] (by decide) rfl (by decide) [0, 1, 2, 3, 4, 5, 6] (by decide) (fun _ => rfl) [0] rfl rfl rfl rfl hl.1 rfl (Nat.le_of_ble_eq_true rfl) dX2_lastLands_40 ⟨Nat.le_of_ble_eq_true rfl, Nat.le_of_ble_eq_true rfl⟩ (fun r_5 u_5 H locs hr_5 hP hD hS => ?_)
  subst r_5
  have hP : va_P D vwCl (wN cI a pt pd ab nw kp wy 2 (nI cN) (nI rN) tn) H := hP
  have hD : va_D (va_A (wN cI a pt pd ab nw kp wy th (nI cN) (nI rN) tn) sz) (wN cI a pt pd ab nw kp wy 2 (nI cN) (nI rN) tn) := hD
  exact eQi () hx hb hr hlocks hP hD hK hS dX2_lastLands_43 (rfl)
theorem iw_X2_asBeforeIn_X2 : ∀ w ∈ wsX20, w ∈ wsX2_asBeforeIn := mem_pos [50, 51, 52, 53, 54, 55, 56, 57, 58, 59] (by decide +kernel)
set_option maxHeartbeats 4000000 in
set_option maxRecDepth 100000 in
theorem mX2_asBeforeIn_0 (l : Launch) (D : va_G) (cI : ClassId) (a : Nat → Nat) (pt pd ab nw kp wy : Nat → Int32) (th : Int32) (cN rN : Nat) (tn : Int32) (kk : Int32) (hI : mInv cN rN pt pd ab) (hq : mFrom kk 0 (nI cN - 1) = true) (sz : Nat) : Met l yX2_asBeforeIn wsX2_asBeforeIn ({ frames := 4, cells := 0, slots := 0, locals := 90 } : Room) (va_Pc [.ref (a 0), .int kk] (wPQ D [(cI, .int)] sz (wN cI a pt pd ab nw kp wy th (nI cN) (nI rN) tn))) (va_Qi (fun (zz : Int32) (u : MJ) => zz = mAsb pt pd cN rN nw kk) (wB D [(cI, .int)] (va_A (wN cI a pt pd ab nw kp wy th (nI cN) (nI rN) tn) sz) (fun u : MJ => (wN cI a pt pd ab nw u.1 u.2.1 0 (nI cN) (nI rN) u.2.2))) (va_A (wN cI a pt pd ab nw kp wy th (nI cN) (nI rN) tn) sz)) 0 0 (va_A (wN cI a pt pd ab nw kp wy th (nI cN) (nI rN) tn) sz) := by
  refine mQ_of (by decide) rfl (Nat.le_of_ble_eq_true rfl) ?_
  intro p e s m below meth c hx hb hr hml hown hin hts hlocks hsz hP hK hN hD hA hS ls hl
  have hown : s.vm.findClass RX2 = some m.cls := hown
  have hl : lv_has ls 2 [(0, .ref (a 0)), (1, .int kk)] := hl
  obtain ⟨⟨hc1, hc9⟩, hr8, hz, hab⟩ := id hI
  have hP : va_P D vwCl (wN cI a pt pd ab nw kp wy th (nI cN) (nI rN) tn) s.heap := hP
  refine lv_aload_n hx hb dX2_asBeforeIn_0 rfl (lv_at hl 0 rfl) ?_
  refine lv_iconst (v := 0) hx hb dX2_asBeforeIn_1 (by decide) ?_
  refine va_put (D := D) (ci := 2) (v := .int 0) (ty := .int) (C := RX2) (T := TX2) (N := 10) hx hb hts iw_X2_asBeforeIn_X2 tyX2 tyX2_ok nmX2 hown hK hP hD hS 0 rfl rfl 0 (by decide) (hts (.fieldLink RX2 35 "MarbleRampsModel" "thrown" "I") (mg 1 rfl)) (fun _ h9 => h9) rfl (by decide +kernel) rfl rfl (Nat.le_of_ble_eq_true rfl) dX2_asBeforeIn_2 (fun H locs hP hD hS => ?_)
  have hP : va_P D vwCl (wN cI a pt pd ab nw kp wy 0 (nI cN) (nI rN) tn) H := hP
  have hD : va_D (va_A (wN cI a pt pd ab nw kp wy th (nI cN) (nI rN) tn) sz) (wN cI a pt pd ab nw kp wy 0 (nI cN) (nI rN) tn) := hD
  refine lv_aload_n hx hb dX2_asBeforeIn_5 rfl (lv_at hl 0 rfl) ?_
  refine lv_iload_n hx hb dX2_asBeforeIn_6 rfl (lv_at hl 1 rfl) ?_
  refine kRVi (As := [.int kk]) (rest := []) ⟨hx, hb, hml, hown, hts⟩ (mX2_isColumn l D cI a pt pd ab nw kp wy 0 cN rN tn kk) (cwV 1 hts gX2_asBeforeIn_X2_isColumn rfl rfl rfl (by decide +kernel) ⟨Nat.le_of_ble_eq_true rfl, Nat.le_of_ble_eq_true rfl⟩) hP hK hN [0, 1, 2, 3, 4, 5, 6] rfl [0] rfl rfl rfl rfl hl.1 rfl (Nat.le_of_ble_eq_true rfl) dX2_asBeforeIn_7 ⟨Nat.zero_le _, Nat.zero_le _⟩ (fun r_1 hr_1 => ?_)
  subst r_1
  refine lv_if_eq (tgt := 21) hx hb dX2_asBeforeIn_10 (by decide) (fun c9 => absurd c9 (by rw [hq]; decide)) (fun c_2 => ?_)
  refine lv_aload_n hx hb dX2_asBeforeIn_13 rfl (lv_at hl 0 rfl) ?_
  refine lv_iload_n hx hb dX2_asBeforeIn_14 rfl (lv_at hl 1 rfl) ?_
  refine kQVi (As := [.int kk]) (rest := []) (wr := []) (W2 := (fun u : MJ => (wN cI a pt pd ab nw u.1 u.2.1 0 (nI cN) (nI rN) u.2.2))) ⟨hx, hb, hml, hown, hts⟩ (mX2_asBefore l D cI a pt pd ab nw kp wy 0 cN rN tn kk hI (mFrom_n hq hc1 (by omega)) _) (cwV 1 hts gX2_asBeforeIn_X2_asBefore rfl rfl rfl (by decide +kernel) ⟨Nat.le_of_ble_eq_true rfl, Nat.le_of_ble_eq_true rfl⟩) hP hD hK hN hS hA [0, 1, 2, 3, 4, 5, 6] (by decide) rfl [] (by decide) rfl (by decide) [0, 1, 2, 3, 4, 5, 6] (by decide) (fun _ => rfl) [0] rfl rfl rfl rfl hl.1 rfl (Nat.le_of_ble_eq_true rfl) dX2_asBeforeIn_15 ⟨Nat.le_of_ble_eq_true rfl, Nat.le_of_ble_eq_true rfl⟩ (fun r_3 u_3 H locs hr_3 hP hD hS => ?_)
  subst r_3
  have hP : va_P D vwCl (wN cI a pt pd ab nw u_3.1 u_3.2.1 0 (nI cN) (nI rN) u_3.2.2) H := hP
  have hD : va_D (va_A (wN cI a pt pd ab nw kp wy th (nI cN) (nI rN) tn) sz) (wN cI a pt pd ab nw u_3.1 u_3.2.1 0 (nI cN) (nI rN) u_3.2.2) := hD
  refine lv_goto (tgt := 26) hx hb dX2_asBeforeIn_18 (by decide) ?_
  exact eQi (u_3.1, u_3.2.1, u_3.2.2) hx hb hr hlocks hP hD hK hS dX2_asBeforeIn_26 (rfl)
set_option maxHeartbeats 4000000 in
set_option maxRecDepth 100000 in
theorem mX2_asBeforeIn_1 (l : Launch) (D : va_G) (cI : ClassId) (a : Nat → Nat) (pt pd ab nw kp wy : Nat → Int32) (th : Int32) (cN rN : Nat) (tn : Int32) (kk : Int32) (hq : mFrom kk 0 (nI cN - 1) = false) (sz : Nat) : Met l yX2_asBeforeIn wsX2_asBeforeIn ({ frames := 4, cells := 0, slots := 0, locals := 90 } : Room) (va_Pc [.ref (a 0), .int kk] (wPQ D [(cI, .int)] sz (wN cI a pt pd ab nw kp wy th (nI cN) (nI rN) tn))) (va_Qi (fun (zz : Int32) (_ : Unit) => zz = 0) (wB D [(cI, .int)] (va_A (wN cI a pt pd ab nw kp wy th (nI cN) (nI rN) tn) sz) (fun _ : Unit => (wN cI a pt pd ab nw kp wy 1 (nI cN) (nI rN) tn))) (va_A (wN cI a pt pd ab nw kp wy th (nI cN) (nI rN) tn) sz)) 0 0 (va_A (wN cI a pt pd ab nw kp wy th (nI cN) (nI rN) tn) sz) := by
  refine mQ_of (by decide) rfl (Nat.le_of_ble_eq_true rfl) ?_
  intro p e s m below meth c hx hb hr hml hown hin hts hlocks hsz hP hK hN hD hA hS ls hl
  have hown : s.vm.findClass RX2 = some m.cls := hown
  have hl : lv_has ls 2 [(0, .ref (a 0)), (1, .int kk)] := hl
  have hP : va_P D vwCl (wN cI a pt pd ab nw kp wy th (nI cN) (nI rN) tn) s.heap := hP
  refine lv_aload_n hx hb dX2_asBeforeIn_0 rfl (lv_at hl 0 rfl) ?_
  refine lv_iconst (v := 0) hx hb dX2_asBeforeIn_1 (by decide) ?_
  refine va_put (D := D) (ci := 2) (v := .int 0) (ty := .int) (C := RX2) (T := TX2) (N := 10) hx hb hts iw_X2_asBeforeIn_X2 tyX2 tyX2_ok nmX2 hown hK hP hD hS 0 rfl rfl 0 (by decide) (hts (.fieldLink RX2 35 "MarbleRampsModel" "thrown" "I") (mg 1 rfl)) (fun _ h9 => h9) rfl (by decide +kernel) rfl rfl (Nat.le_of_ble_eq_true rfl) dX2_asBeforeIn_2 (fun H locs hP hD hS => ?_)
  have hP : va_P D vwCl (wN cI a pt pd ab nw kp wy 0 (nI cN) (nI rN) tn) H := hP
  have hD : va_D (va_A (wN cI a pt pd ab nw kp wy th (nI cN) (nI rN) tn) sz) (wN cI a pt pd ab nw kp wy 0 (nI cN) (nI rN) tn) := hD
  refine lv_aload_n hx hb dX2_asBeforeIn_5 rfl (lv_at hl 0 rfl) ?_
  refine lv_iload_n hx hb dX2_asBeforeIn_6 rfl (lv_at hl 1 rfl) ?_
  refine kRVi (As := [.int kk]) (rest := []) ⟨hx, hb, hml, hown, hts⟩ (mX2_isColumn l D cI a pt pd ab nw kp wy 0 cN rN tn kk) (cwV 1 hts gX2_asBeforeIn_X2_isColumn rfl rfl rfl (by decide +kernel) ⟨Nat.le_of_ble_eq_true rfl, Nat.le_of_ble_eq_true rfl⟩) hP hK hN [0, 1, 2, 3, 4, 5, 6] rfl [0] rfl rfl rfl rfl hl.1 rfl (Nat.le_of_ble_eq_true rfl) dX2_asBeforeIn_7 ⟨Nat.zero_le _, Nat.zero_le _⟩ (fun r_1 hr_1 => ?_)
  subst r_1
  refine lv_if_eq (tgt := 21) hx hb dX2_asBeforeIn_10 (by decide) (fun c_2 => ?_) (fun c9 => absurd (by rw [hq]; decide) c9)
  refine lv_aload_n hx hb dX2_asBeforeIn_21 rfl (lv_at hl 0 rfl) ?_
  refine lv_iconst (v := 1) hx hb dX2_asBeforeIn_22 (by decide) ?_
  refine kQVi (As := [.int 1]) (rest := []) (wr := []) (W2 := (fun _ => (wN cI a pt pd ab nw kp wy 1 (nI cN) (nI rN) tn))) ⟨hx, hb, hml, hown, hts⟩ (mX2_no l D cI a pt pd ab nw kp wy 0 cN rN tn 1 _) (cwV 1 hts gX2_asBeforeIn_X2_no rfl rfl rfl (by decide +kernel) ⟨Nat.le_of_ble_eq_true rfl, Nat.le_of_ble_eq_true rfl⟩) hP hD hK hN hS hA [0, 1, 2, 3, 4, 5, 6] (by decide) rfl [] (by decide) rfl (by decide) [0, 1, 2, 3, 4, 5, 6] (by decide) (fun _ => rfl) [0] rfl rfl rfl rfl hl.1 rfl (Nat.le_of_ble_eq_true rfl) dX2_asBeforeIn_23 ⟨Nat.le_of_ble_eq_true rfl, Nat.le_of_ble_eq_true rfl⟩ (fun r_3 u_3 H locs hr_3 hP hD hS => ?_)
  subst r_3
  have hP : va_P D vwCl (wN cI a pt pd ab nw kp wy 1 (nI cN) (nI rN) tn) H := hP
  have hD : va_D (va_A (wN cI a pt pd ab nw kp wy th (nI cN) (nI rN) tn) sz) (wN cI a pt pd ab nw kp wy 1 (nI cN) (nI rN) tn) := hD
  exact eQi () hx hb hr hlocks hP hD hK hS dX2_asBeforeIn_26 (rfl)
theorem iw_X2_wouldRun_X2 : ∀ w ∈ wsX20, w ∈ wsX2_wouldRun := mem_pos [55, 56, 57, 58, 59, 60, 61, 62, 63, 64] (by decide +kernel)
set_option maxHeartbeats 4000000 in
set_option maxRecDepth 100000 in
theorem mX2_wouldRun_0 (l : Launch) (D : va_G) (cI : ClassId) (a : Nat → Nat) (pt pd ab nw kp wy : Nat → Int32) (th : Int32) (cN rN : Nat) (tn : Int32) (hv : Int32) (hI : mInv cN rN pt pd ab) (hp : mFrom hv 0 1 = true) (sz : Nat) : Met l yX2_wouldRun wsX2_wouldRun ({ frames := 5, cells := 0, slots := 0, locals := 115 } : Room) (va_Pc [.ref (a 0), .int hv] (wPQ D [(cI, .int)] sz (wN cI a pt pd ab nw kp wy th (nI cN) (nI rN) tn))) (va_Qi (fun (zz : Int32) (u : MJ) => zz = mRuns pt pd ab cN rN nw hv) (wB D [(cI, .int)] (va_A (wN cI a pt pd ab nw kp wy th (nI cN) (nI rN) tn) sz) (fun u : MJ => (wN cI a pt pd ab nw u.1 u.2.1 0 (nI cN) (nI rN) u.2.2))) (va_A (wN cI a pt pd ab nw kp wy th (nI cN) (nI rN) tn) sz)) 0 0 (va_A (wN cI a pt pd ab nw kp wy th (nI cN) (nI rN) tn) sz) := by
  refine mQ_of (by decide) rfl (Nat.le_of_ble_eq_true rfl) ?_
  intro p e s m below meth c hx hb hr hml hown hin hts hlocks hsz hP hK hN hD hA hS ls hl
  have hown : s.vm.findClass RX2 = some m.cls := hown
  have hl : lv_has ls 2 [(0, .ref (a 0)), (1, .int hv)] := hl
  obtain ⟨⟨hc1, hc9⟩, hr8, hz, hab⟩ := id hI
  have hP : va_P D vwCl (wN cI a pt pd ab nw kp wy th (nI cN) (nI rN) tn) s.heap := hP
  refine lv_aload_n hx hb dX2_wouldRun_0 rfl (lv_at hl 0 rfl) ?_
  refine lv_iconst (v := 0) hx hb dX2_wouldRun_1 (by decide) ?_
  refine va_put (D := D) (ci := 2) (v := .int 0) (ty := .int) (C := RX2) (T := TX2) (N := 10) hx hb hts iw_X2_wouldRun_X2 tyX2 tyX2_ok nmX2 hown hK hP hD hS 0 rfl rfl 0 (by decide) (hts (.fieldLink RX2 35 "MarbleRampsModel" "thrown" "I") (mg 1 rfl)) (fun _ h9 => h9) rfl (by decide +kernel) rfl rfl (Nat.le_of_ble_eq_true rfl) dX2_wouldRun_2 (fun H locs hP hD hS => ?_)
  have hP : va_P D vwCl (wN cI a pt pd ab nw kp wy 0 (nI cN) (nI rN) tn) H := hP
  have hD : va_D (va_A (wN cI a pt pd ab nw kp wy th (nI cN) (nI rN) tn) sz) (wN cI a pt pd ab nw kp wy 0 (nI cN) (nI rN) tn) := hD
  refine lv_iload_n hx hb dX2_wouldRun_5 rfl (lv_at hl 1 rfl) ?_
  refine lv_iconst (v := 0) hx hb dX2_wouldRun_6 (by decide) ?_
  refine lv_iconst (v := 1) hx hb dX2_wouldRun_7 (by decide) ?_
  refine kRSi (As := [.int hv, .int 0, .int 1]) (rest := []) ⟨hx, hb, hml, hown, hts⟩ (mX2_isFrom l D cI hv 0 1) (va_cwS 3 hts gX2_wouldRun_X2_isFrom rfl rfl rfl (by decide +kernel) ⟨Nat.le_of_ble_eq_true rfl, Nat.le_of_ble_eq_true rfl⟩) hP hK hN [] rfl [0] rfl rfl hl.1 rfl (Nat.le_of_ble_eq_true rfl) dX2_wouldRun_8 ⟨Nat.zero_le _, Nat.zero_le _⟩ (fun r_1 hr_1 => ?_)
  subst r_1
  refine lv_if_eq (tgt := 22) hx hb dX2_wouldRun_11 (by decide) (fun c9 => absurd c9 (by rw [hp]; decide)) (fun c_2 => ?_)
  refine lv_aload_n hx hb dX2_wouldRun_14 rfl (lv_at hl 0 rfl) ?_
  refine lv_iload_n hx hb dX2_wouldRun_15 rfl (lv_at hl 1 rfl) ?_
  refine kQVi (As := [.int hv]) (rest := []) (wr := []) (W2 := (fun _ => (wN cI a pt pd ab nw nw ((mRun pt pd ab cN rN nw tn wy hv 99).2.2.2) 0 (nI cN) (nI rN) ((mRun pt pd ab cN rN nw tn wy hv 99).2.2.1)))) ⟨hx, hb, hml, hown, hts⟩ (mX2_runs l D cI a pt pd ab nw kp wy 0 cN rN tn hv hI (Or.inr (hop_f hp)) _) (cwV 1 hts gX2_wouldRun_X2_runs rfl rfl rfl (by decide +kernel) ⟨Nat.le_of_ble_eq_true rfl, Nat.le_of_ble_eq_true rfl⟩) hP hD hK hN hS hA [0, 1, 2, 3, 4, 5, 6] (by decide) rfl [] (by decide) rfl (by decide) [0, 1, 2, 3, 4, 5, 6] (by decide) (fun _ => rfl) [0] rfl rfl rfl rfl hl.1 rfl (Nat.le_of_ble_eq_true rfl) dX2_wouldRun_16 ⟨Nat.le_of_ble_eq_true rfl, Nat.le_of_ble_eq_true rfl⟩ (fun r_3 u_3 H locs hr_3 hP hD hS => ?_)
  subst r_3
  have hP : va_P D vwCl (wN cI a pt pd ab nw nw ((mRun pt pd ab cN rN nw tn wy hv 99).2.2.2) 0 (nI cN) (nI rN) ((mRun pt pd ab cN rN nw tn wy hv 99).2.2.1)) H := hP
  have hD : va_D (va_A (wN cI a pt pd ab nw kp wy th (nI cN) (nI rN) tn) sz) (wN cI a pt pd ab nw nw ((mRun pt pd ab cN rN nw tn wy hv 99).2.2.2) 0 (nI cN) (nI rN) ((mRun pt pd ab cN rN nw tn wy hv 99).2.2.1)) := hD
  refine lv_goto (tgt := 27) hx hb dX2_wouldRun_19 (by decide) ?_
  exact eQi (nw, (mRun pt pd ab cN rN nw tn wy hv 99).2.2.2, (mRun pt pd ab cN rN nw tn wy hv 99).2.2.1) hx hb hr hlocks hP hD hK hS dX2_wouldRun_27 (rfl)
set_option maxHeartbeats 4000000 in
set_option maxRecDepth 100000 in
theorem mX2_wouldRun_1 (l : Launch) (D : va_G) (cI : ClassId) (a : Nat → Nat) (pt pd ab nw kp wy : Nat → Int32) (th : Int32) (cN rN : Nat) (tn : Int32) (hv : Int32) (hp : mFrom hv 0 1 = false) (sz : Nat) : Met l yX2_wouldRun wsX2_wouldRun ({ frames := 5, cells := 0, slots := 0, locals := 115 } : Room) (va_Pc [.ref (a 0), .int hv] (wPQ D [(cI, .int)] sz (wN cI a pt pd ab nw kp wy th (nI cN) (nI rN) tn))) (va_Qi (fun (zz : Int32) (_ : Unit) => zz = 0) (wB D [(cI, .int)] (va_A (wN cI a pt pd ab nw kp wy th (nI cN) (nI rN) tn) sz) (fun _ : Unit => (wN cI a pt pd ab nw kp wy 1 (nI cN) (nI rN) tn))) (va_A (wN cI a pt pd ab nw kp wy th (nI cN) (nI rN) tn) sz)) 0 0 (va_A (wN cI a pt pd ab nw kp wy th (nI cN) (nI rN) tn) sz) := by
  refine mQ_of (by decide) rfl (Nat.le_of_ble_eq_true rfl) ?_
  intro p e s m below meth c hx hb hr hml hown hin hts hlocks hsz hP hK hN hD hA hS ls hl
  have hown : s.vm.findClass RX2 = some m.cls := hown
  have hl : lv_has ls 2 [(0, .ref (a 0)), (1, .int hv)] := hl
  have hP : va_P D vwCl (wN cI a pt pd ab nw kp wy th (nI cN) (nI rN) tn) s.heap := hP
  refine lv_aload_n hx hb dX2_wouldRun_0 rfl (lv_at hl 0 rfl) ?_
  refine lv_iconst (v := 0) hx hb dX2_wouldRun_1 (by decide) ?_
  refine va_put (D := D) (ci := 2) (v := .int 0) (ty := .int) (C := RX2) (T := TX2) (N := 10) hx hb hts iw_X2_wouldRun_X2 tyX2 tyX2_ok nmX2 hown hK hP hD hS 0 rfl rfl 0 (by decide) (hts (.fieldLink RX2 35 "MarbleRampsModel" "thrown" "I") (mg 1 rfl)) (fun _ h9 => h9) rfl (by decide +kernel) rfl rfl (Nat.le_of_ble_eq_true rfl) dX2_wouldRun_2 (fun H locs hP hD hS => ?_)
  have hP : va_P D vwCl (wN cI a pt pd ab nw kp wy 0 (nI cN) (nI rN) tn) H := hP
  have hD : va_D (va_A (wN cI a pt pd ab nw kp wy th (nI cN) (nI rN) tn) sz) (wN cI a pt pd ab nw kp wy 0 (nI cN) (nI rN) tn) := hD
  refine lv_iload_n hx hb dX2_wouldRun_5 rfl (lv_at hl 1 rfl) ?_
  refine lv_iconst (v := 0) hx hb dX2_wouldRun_6 (by decide) ?_
  refine lv_iconst (v := 1) hx hb dX2_wouldRun_7 (by decide) ?_
  refine kRSi (As := [.int hv, .int 0, .int 1]) (rest := []) ⟨hx, hb, hml, hown, hts⟩ (mX2_isFrom l D cI hv 0 1) (va_cwS 3 hts gX2_wouldRun_X2_isFrom rfl rfl rfl (by decide +kernel) ⟨Nat.le_of_ble_eq_true rfl, Nat.le_of_ble_eq_true rfl⟩) hP hK hN [] rfl [0] rfl rfl hl.1 rfl (Nat.le_of_ble_eq_true rfl) dX2_wouldRun_8 ⟨Nat.zero_le _, Nat.zero_le _⟩ (fun r_1 hr_1 => ?_)
  subst r_1
  refine lv_if_eq (tgt := 22) hx hb dX2_wouldRun_11 (by decide) (fun c_2 => ?_) (fun c9 => absurd (by rw [hp]; decide) c9)
  refine lv_aload_n hx hb dX2_wouldRun_22 rfl (lv_at hl 0 rfl) ?_
  refine lv_iconst (v := 1) hx hb dX2_wouldRun_23 (by decide) ?_
  refine kQVi (As := [.int 1]) (rest := []) (wr := []) (W2 := (fun _ => (wN cI a pt pd ab nw kp wy 1 (nI cN) (nI rN) tn))) ⟨hx, hb, hml, hown, hts⟩ (mX2_no l D cI a pt pd ab nw kp wy 0 cN rN tn 1 _) (cwV 1 hts gX2_wouldRun_X2_no rfl rfl rfl (by decide +kernel) ⟨Nat.le_of_ble_eq_true rfl, Nat.le_of_ble_eq_true rfl⟩) hP hD hK hN hS hA [0, 1, 2, 3, 4, 5, 6] (by decide) rfl [] (by decide) rfl (by decide) [0, 1, 2, 3, 4, 5, 6] (by decide) (fun _ => rfl) [0] rfl rfl rfl rfl hl.1 rfl (Nat.le_of_ble_eq_true rfl) dX2_wouldRun_24 ⟨Nat.le_of_ble_eq_true rfl, Nat.le_of_ble_eq_true rfl⟩ (fun r_3 u_3 H locs hr_3 hP hD hS => ?_)
  subst r_3
  have hP : va_P D vwCl (wN cI a pt pd ab nw kp wy 1 (nI cN) (nI rN) tn) H := hP
  have hD : va_D (va_A (wN cI a pt pd ab nw kp wy th (nI cN) (nI rN) tn) sz) (wN cI a pt pd ab nw kp wy 1 (nI cN) (nI rN) tn) := hD
  exact eQi () hx hb hr hlocks hP hD hK hS dX2_wouldRun_27 (rfl)
theorem iw_X2_emptyBins_X2 : ∀ w ∈ wsX20, w ∈ wsX2_emptyBins := mem_pos [13, 14, 15, 16, 17, 18, 19, 20, 21, 22] (by decide +kernel)
set_option maxHeartbeats 4000000 in
set_option maxRecDepth 100000 in
theorem mX2_emptyBins_0 (l : Launch) (D : va_G) (cI : ClassId) (a : Nat → Nat) (pt pd ab nw kp wy : Nat → Int32) (th : Int32) (cN rN : Nat) (tn : Int32) (hI : mInv cN rN pt pd ab) (sz : Nat) : Met l yX2_emptyBins wsX2_emptyBins ({ frames := 1, cells := 0, slots := 0, locals := 22 } : Room) (va_Pc [.ref (a 0)] (wPQ D [(cI, .int)] sz (wN cI a pt pd ab nw kp wy th (nI cN) (nI rN) tn))) (va_Qi (fun (zz : Int32) (_ : Unit) => zz = mSum nw cN) (wB D [(cI, .int)] (va_A (wN cI a pt pd ab nw kp wy th (nI cN) (nI rN) tn) sz) (fun _ : Unit => (wN cI a pt pd ab ((mE cN nw)) kp wy 0 (nI cN) (nI rN) tn))) (va_A (wN cI a pt pd ab nw kp wy th (nI cN) (nI rN) tn) sz)) 0 0 (va_A (wN cI a pt pd ab nw kp wy th (nI cN) (nI rN) tn) sz) := by
  refine mQ_of (by decide) rfl (Nat.le_of_ble_eq_true rfl) ?_
  intro p e s m below meth c hx hb hr hml hown hin hts hlocks hsz hP hK hN hD hA hS ls hl
  have hown : s.vm.findClass RX2 = some m.cls := hown
  have hl : lv_has ls 3 [(0, .ref (a 0))] := hl
  obtain ⟨⟨hc1, hc9⟩, hr8, hz, hab⟩ := id hI
  have hP : va_P D vwCl (wN cI a pt pd ab nw kp wy th (nI cN) (nI rN) tn) s.heap := hP
  refine lv_aload_n hx hb dX2_emptyBins_0 rfl (lv_at hl 0 rfl) ?_
  refine kRVi (As := []) (rest := []) ⟨hx, hb, hml, hown, hts⟩ (mX2_inBins l D cI a pt pd ab nw kp wy th cN rN tn hc9) (cwV 0 hts gX2_emptyBins_X2_inBins rfl rfl rfl (by decide +kernel) ⟨Nat.le_of_ble_eq_true rfl, Nat.le_of_ble_eq_true rfl⟩) hP hK hN [0, 1, 2, 3, 4, 5, 6] rfl [0] rfl rfl rfl rfl hl.1 rfl (Nat.le_of_ble_eq_true rfl) dX2_emptyBins_1 ⟨Nat.zero_le _, Nat.zero_le _⟩ (fun r_1 hr_1 => ?_)
  subst r_1
  refine lv_istore_n (lv' := [(1, .int (mSum nw cN)), (0, .ref (a 0))]) hx hb dX2_emptyBins_4 rfl hl (by decide) rfl (fun ls hl => ?_)
  refine lv_iconst (v := 0) hx hb dX2_emptyBins_5 (by decide) ?_
  refine lv_istore_n (lv' := [(2, .int 0), (1, .int (mSum nw cN)), (0, .ref (a 0))]) hx hb dX2_emptyBins_6 rfl hl (by decide) rfl (fun ls hl => ?_)
  have hP : va_P D vwCl (wN cI a pt pd ab ((mE 0 nw)) kp wy th (nI cN) (nI rN) tn) s.heap := by rw [mE_0]; exact hP
  have hD : va_D (va_A (wN cI a pt pd ab nw kp wy th (nI cN) (nI rN) tn) sz) (wN cI a pt pd ab ((mE 0 nw)) kp wy th (nI cN) (nI rN) tn) := by rw [mE_0]; exact hD
  have L7 : ∀ (n k : Nat), k + n = cN → ∀ (H : Heap) (locs : List Loc), va_P D vwCl (wN cI a pt pd ab ((mE k nw)) kp wy th (nI cN) (nI rN) tn) H → va_D (va_A (wN cI a pt pd ab nw kp wy th (nI cN) (nI rN) tn) sz) (wN cI a pt pd ab ((mE k nw)) kp wy th (nI cN) (nI rN) tn) → va_S (va_A (wN cI a pt pd ab nw kp wy th (nI cN) (nI rN) tn) sz) s.heap H locs → ∀ ls : Array Slot, lv_has ls 3 [(2, .int (nI k)), (1, .int (mSum nw cN)), (0, .ref (a 0))] → W p l e ({ frames := 1, cells := 0, slots := 0, locals := 22 } : Room) s m [.ref (a 0)].toArray below meth c H locs 0 0 (MQ below (va_Qi (fun (zz : Int32) (_ : Unit) => zz = mSum nw cN) (wB D [(cI, .int)] (va_A (wN cI a pt pd ab nw kp wy th (nI cN) (nI rN) tn) sz) (fun _ : Unit => (wN cI a pt pd ab ((mE cN nw)) kp wy 0 (nI cN) (nI rN) tn))) (va_A (wN cI a pt pd ab nw kp wy th (nI cN) (nI rN) tn) sz)) [.ref (a 0)].toArray s 0 0 (va_A (wN cI a pt pd ab nw kp wy th (nI cN) (nI rN) tn) sz)) (F0 m 7 ls []) := by
    intro n
    induction n with
    | zero =>
      intro k hkn7 H locs hP hD hS ls hl
      refine lv_iload_n hx hb dX2_emptyBins_7 rfl (lv_at hl 0 rfl) ?_
      refine lv_aload_n hx hb dX2_emptyBins_8 rfl (lv_at hl 2 rfl) ?_
      refine va_get (D := D) (ci := 2) (v := .int (nI cN)) (C := RX2) (T := TX2) (N := 10) hx hb hts iw_X2_emptyBins_X2 hown hK hP 0 rfl rfl 1 (by decide) (hts (.fieldLink RX2 9 "MarbleRampsModel" "columns" "I") (mg 1 rfl)) (fun _ h9 => h9) rfl dX2_emptyBins_9 ?_
      refine lv_icmp_ge (tgt := 31) hx hb dX2_emptyBins_12 (by decide) (fun c_2 => ?_) (fun c9 => absurd (nI_le (by omega) (by omega)) c9)
      rw [show k = cN by omega] at hP hD
      have hP : va_P D vwCl (wN cI a pt pd ab ((mE cN nw)) kp wy th (nI cN) (nI rN) tn) H := hP
      have hD : va_D (va_A (wN cI a pt pd ab nw kp wy th (nI cN) (nI rN) tn) sz) (wN cI a pt pd ab ((mE cN nw)) kp wy th (nI cN) (nI rN) tn) := hD
      refine lv_aload_n hx hb dX2_emptyBins_31 rfl (lv_at hl 2 rfl) ?_
      refine lv_iload_n hx hb dX2_emptyBins_32 rfl (lv_at hl 1 rfl) ?_
      refine kQVi (As := [.int (mSum nw cN)]) (rest := []) (wr := []) (W2 := (fun _ => (wN cI a pt pd ab ((mE cN nw)) kp wy 0 (nI cN) (nI rN) tn))) ⟨hx, hb, hml, hown, hts⟩ (mX2_ok l D cI a pt pd ab (mE cN nw) kp wy th cN rN tn (mSum nw cN) _) (cwV 1 hts gX2_emptyBins_X2_ok rfl rfl rfl (by decide +kernel) ⟨Nat.le_of_ble_eq_true rfl, Nat.le_of_ble_eq_true rfl⟩) hP hD hK hN hS hA [0, 1, 2, 3, 4, 5, 6] (by decide) rfl [] (by decide) rfl (by decide) [0, 1, 2, 3, 4, 5, 6] (by decide) (fun _ => rfl) [0] rfl rfl rfl rfl hl.1 rfl (Nat.le_of_ble_eq_true rfl) dX2_emptyBins_33 ⟨Nat.le_of_ble_eq_true rfl, Nat.le_of_ble_eq_true rfl⟩ (fun r_3 u_3 H locs hr_3 hP hD hS => ?_)
      subst r_3
      have hP : va_P D vwCl (wN cI a pt pd ab ((mE cN nw)) kp wy 0 (nI cN) (nI rN) tn) H := hP
      have hD : va_D (va_A (wN cI a pt pd ab nw kp wy th (nI cN) (nI rN) tn) sz) (wN cI a pt pd ab ((mE cN nw)) kp wy 0 (nI cN) (nI rN) tn) := hD
      exact eQi () hx hb hr hlocks hP hD hK hS dX2_emptyBins_36 (rfl)
    | succ n ih7 =>
      intro k hkn7 H locs hP hD hS ls hl
      refine lv_iload_n hx hb dX2_emptyBins_7 rfl (lv_at hl 0 rfl) ?_
      refine lv_aload_n hx hb dX2_emptyBins_8 rfl (lv_at hl 2 rfl) ?_
      refine va_get (D := D) (ci := 2) (v := .int (nI cN)) (C := RX2) (T := TX2) (N := 10) hx hb hts iw_X2_emptyBins_X2 hown hK hP 0 rfl rfl 1 (by decide) (hts (.fieldLink RX2 9 "MarbleRampsModel" "columns" "I") (mg 1 rfl)) (fun _ h9 => h9) rfl dX2_emptyBins_9 ?_
      refine lv_icmp_ge (tgt := 31) hx hb dX2_emptyBins_12 (by decide) (fun c9 => absurd c9 (nI_ge (by omega) (by omega))) (fun c_4 => ?_)
      refine lv_aload_n hx hb dX2_emptyBins_15 rfl (lv_at hl 2 rfl) ?_
      refine va_get (D := D) (ci := 2) (v := .ref (a 4)) (C := RX2) (T := TX2) (N := 10) hx hb hts iw_X2_emptyBins_X2 hown hK hP 0 rfl rfl 6 (by decide) (hts (.fieldLink RX2 26 "MarbleRampsModel" "now" "[I") (mg 2 rfl)) (fun _ h9 => h9) rfl dX2_emptyBins_16 ?_
      refine lv_bipush (v := 72) hx hb dX2_emptyBins_19 (by decide) ?_
      refine lv_iload_n hx hb dX2_emptyBins_21 rfl (lv_at hl 0 rfl) ?_
      refine lv_iadd hx hb dX2_emptyBins_22 ?_
      refine lv_iconst (v := 0) hx hb dX2_emptyBins_23 (by decide) ?_
      refine va_iast hx hb hK hP hD hS 4 0 rfl rfl (inbin hc9 ⟨k, by omega, rfl⟩) dX2_emptyBins_24 (fun H locs hP hD hS => ?_)
      rw [mZ_i (show k < 2 ^ 20 by omega)] at hP hD
      have hP : va_P D vwCl (wN cI a pt pd ab ((upd (mE k nw) (72 + k) 0)) kp wy th (nI cN) (nI rN) tn) H := hP
      have hD : va_D (va_A (wN cI a pt pd ab nw kp wy th (nI cN) (nI rN) tn) sz) (wN cI a pt pd ab ((upd (mE k nw) (72 + k) 0)) kp wy th (nI cN) (nI rN) tn) := hD
      refine lv_iinc (v := (nI (k + 1))) (lv' := [(2, .int (nI (k + 1))), (1, .int (mSum nw cN)), (0, .ref (a 0))]) hx hb dX2_emptyBins_25 hl (k := 0) rfl (nI_1 k) (by decide) rfl (fun ls hl => ?_)
      refine lv_goto (tgt := 7) hx hb dX2_emptyBins_28 (by decide) ?_
      rw [mE_s] at hP hD
      exact ih7 (k + 1)  (by omega)  _ _ hP hD hS ls (lv_sub hl [0, 1, 2] rfl)
  exact L7 cN 0  (by omega)  _ _ hP hD hS ls (lv_sub hl [0, 1, 2] rfl)
theorem iw_X2_lay_X2 : ∀ w ∈ wsX20, w ∈ wsX2_lay := mem_pos [15, 16, 17, 18, 19, 20, 21, 22, 23, 24] (by decide +kernel)
set_option maxHeartbeats 4000000 in
set_option maxRecDepth 100000 in
theorem mX2_lay_0 (l : Launch) (D : va_G) (cI : ClassId) (a : Nat → Nat) (pt pd ab nw kp wy : Nat → Int32) (th : Int32) (cN rN : Nat) (tn : Int32) (mm dd : Int32) (hp : mFrom mm 2 9 = true) (hq : mFrom dd 1 8 = true) (sz : Nat) : Met l yX2_lay wsX2_lay ({ frames := 1, cells := 0, slots := 0, locals := 22 } : Room) (va_Pc [.ref (a 0), .int mm, .int dd] (wPQ D [(cI, .int)] sz (wN cI a pt pd ab nw kp wy th (nI cN) (nI rN) tn))) (va_Qi (fun (zz : Int32) (_ : Unit) => zz = mm * dd) (wB D [(cI, .int)] (va_A (wN cI a pt pd ab nw kp wy th (nI cN) (nI rN) tn) sz) (fun _ : Unit => (wN cI a ((mZ 72 pt)) pd ((upd (upd ab 0 0) 1 (mm - 1))) ((upd (mZ (72 + 9) nw) 83 0)) kp wy 0 mm dd tn))) (va_A (wN cI a pt pd ab nw kp wy th (nI cN) (nI rN) tn) sz)) 0 0 (va_A (wN cI a pt pd ab nw kp wy th (nI cN) (nI rN) tn) sz) := by
  refine mQ_of (by decide) rfl (Nat.le_of_ble_eq_true rfl) ?_
  intro p e s m below meth c hx hb hr hml hown hin hts hlocks hsz hP hK hN hD hA hS ls hl
  have hown : s.vm.findClass RX2 = some m.cls := hown
  have hl : lv_has ls 4 [(0, .ref (a 0)), (1, .int mm), (2, .int dd)] := hl
  have hP : va_P D vwCl (wN cI a pt pd ab nw kp wy th (nI cN) (nI rN) tn) s.heap := hP
  refine lv_aload_n hx hb dX2_lay_0 rfl (lv_at hl 0 rfl) ?_
  refine lv_iconst (v := 0) hx hb dX2_lay_1 (by decide) ?_
  refine va_put (D := D) (ci := 2) (v := .int 0) (ty := .int) (C := RX2) (T := TX2) (N := 10) hx hb hts iw_X2_lay_X2 tyX2 tyX2_ok nmX2 hown hK hP hD hS 0 rfl rfl 0 (by decide) (hts (.fieldLink RX2 35 "MarbleRampsModel" "thrown" "I") (mg 1 rfl)) (fun _ h9 => h9) rfl (by decide +kernel) rfl rfl (Nat.le_of_ble_eq_true rfl) dX2_lay_2 (fun H locs hP hD hS => ?_)
  have hP : va_P D vwCl (wN cI a pt pd ab nw kp wy 0 (nI cN) (nI rN) tn) H := hP
  have hD : va_D (va_A (wN cI a pt pd ab nw kp wy th (nI cN) (nI rN) tn) sz) (wN cI a pt pd ab nw kp wy 0 (nI cN) (nI rN) tn) := hD
  refine lv_iload_n hx hb dX2_lay_5 rfl (lv_at hl 1 rfl) ?_
  refine lv_iconst (v := 2) hx hb dX2_lay_6 (by decide) ?_
  refine lv_bipush (v := 9) hx hb dX2_lay_7 (by decide) ?_
  refine kRSi (As := [.int mm, .int 2, .int 9]) (rest := []) ⟨hx, hb, hml, hown, hts⟩ (mX2_isFrom l D cI mm 2 9) (va_cwS 3 hts gX2_lay_X2_isFrom rfl rfl rfl (by decide +kernel) ⟨Nat.le_of_ble_eq_true rfl, Nat.le_of_ble_eq_true rfl⟩) hP hK hN [] rfl [0] rfl rfl hl.1 rfl (Nat.le_of_ble_eq_true rfl) dX2_lay_9 ⟨Nat.zero_le _, Nat.zero_le _⟩ (fun r_1 hr_1 => ?_)
  subst r_1
  refine lv_if_eq (tgt := 25) hx hb dX2_lay_12 (by decide) (fun c9 => absurd c9 (by rw [hp]; decide)) (fun c_2 => ?_)
  refine lv_iload_n hx hb dX2_lay_15 rfl (lv_at hl 2 rfl) ?_
  refine lv_iconst (v := 1) hx hb dX2_lay_16 (by decide) ?_
  refine lv_bipush (v := 8) hx hb dX2_lay_17 (by decide) ?_
  refine kRSi (As := [.int dd, .int 1, .int 8]) (rest := []) ⟨hx, hb, hml, hown, hts⟩ (mX2_isFrom l D cI dd 1 8) (va_cwS 3 hts gX2_lay_X2_isFrom rfl rfl rfl (by decide +kernel) ⟨Nat.le_of_ble_eq_true rfl, Nat.le_of_ble_eq_true rfl⟩) hP hK hN [] rfl [0] rfl rfl hl.1 rfl (Nat.le_of_ble_eq_true rfl) dX2_lay_19 ⟨Nat.zero_le _, Nat.zero_le _⟩ (fun r_3 hr_3 => ?_)
  subst r_3
  refine lv_if_ne (tgt := 31) hx hb dX2_lay_22 (by decide) (fun c_4 => ?_) (fun c9 => absurd c9 (by rw [hq]; decide))
  refine lv_aload_n hx hb dX2_lay_31 rfl (lv_at hl 0 rfl) ?_
  refine lv_iload_n hx hb dX2_lay_32 rfl (lv_at hl 1 rfl) ?_
  refine va_put (D := D) (ci := 2) (v := .int mm) (ty := .int) (C := RX2) (T := TX2) (N := 10) hx hb hts iw_X2_lay_X2 tyX2 tyX2_ok nmX2 hown hK hP hD hS 0 rfl rfl 1 (by decide) (hts (.fieldLink RX2 9 "MarbleRampsModel" "columns" "I") (mg 2 rfl)) (fun _ h9 => h9) rfl (by decide +kernel) rfl rfl (Nat.le_of_ble_eq_true rfl) dX2_lay_33 (fun H locs hP hD hS => ?_)
  have hP : va_P D vwCl (wN cI a pt pd ab nw kp wy 0 mm (nI rN) tn) H := hP
  have hD : va_D (va_A (wN cI a pt pd ab nw kp wy th (nI cN) (nI rN) tn) sz) (wN cI a pt pd ab nw kp wy 0 mm (nI rN) tn) := hD
  refine lv_aload_n hx hb dX2_lay_36 rfl (lv_at hl 0 rfl) ?_
  refine lv_iload_n hx hb dX2_lay_37 rfl (lv_at hl 2 rfl) ?_
  refine va_put (D := D) (ci := 2) (v := .int dd) (ty := .int) (C := RX2) (T := TX2) (N := 10) hx hb hts iw_X2_lay_X2 tyX2 tyX2_ok nmX2 hown hK hP hD hS 0 rfl rfl 2 (by decide) (hts (.fieldLink RX2 13 "MarbleRampsModel" "rows" "I") (mg 3 rfl)) (fun _ h9 => h9) rfl (by decide +kernel) rfl rfl (Nat.le_of_ble_eq_true rfl) dX2_lay_38 (fun H locs hP hD hS => ?_)
  have hP : va_P D vwCl (wN cI a pt pd ab nw kp wy 0 mm dd tn) H := hP
  have hD : va_D (va_A (wN cI a pt pd ab nw kp wy th (nI cN) (nI rN) tn) sz) (wN cI a pt pd ab nw kp wy 0 mm dd tn) := hD
  refine lv_iconst (v := 0) hx hb dX2_lay_41 (by decide) ?_
  refine lv_istore_n (lv' := [(3, .int 0), (0, .ref (a 0)), (1, .int mm), (2, .int dd)]) hx hb dX2_lay_42 rfl hl (by decide) rfl (fun ls hl => ?_)
  have hP : va_P D vwCl (wN cI a ((mZ 0 pt)) pd ab ((mZ 0 nw)) kp wy 0 mm dd tn) H := by rw [mZ_0, mZ_0]; exact hP
  have hD : va_D (va_A (wN cI a pt pd ab nw kp wy th (nI cN) (nI rN) tn) sz) (wN cI a ((mZ 0 pt)) pd ab ((mZ 0 nw)) kp wy 0 mm dd tn) := by rw [mZ_0, mZ_0]; exact hD
  have L43 : ∀ (n k : Nat), k + n = 72 → ∀ (H : Heap) (locs : List Loc), va_P D vwCl (wN cI a ((mZ k pt)) pd ab ((mZ k nw)) kp wy 0 mm dd tn) H → va_D (va_A (wN cI a pt pd ab nw kp wy th (nI cN) (nI rN) tn) sz) (wN cI a ((mZ k pt)) pd ab ((mZ k nw)) kp wy 0 mm dd tn) → va_S (va_A (wN cI a pt pd ab nw kp wy th (nI cN) (nI rN) tn) sz) s.heap H locs → ∀ ls : Array Slot, lv_has ls 4 [(3, .int (nI k)), (0, .ref (a 0)), (1, .int mm), (2, .int dd)] → W p l e ({ frames := 1, cells := 0, slots := 0, locals := 22 } : Room) s m [.ref (a 0), .int mm, .int dd].toArray below meth c H locs 0 0 (MQ below (va_Qi (fun (zz : Int32) (_ : Unit) => zz = mm * dd) (wB D [(cI, .int)] (va_A (wN cI a pt pd ab nw kp wy th (nI cN) (nI rN) tn) sz) (fun _ : Unit => (wN cI a ((mZ 72 pt)) pd ((upd (upd ab 0 0) 1 (mm - 1))) ((upd (mZ (72 + 9) nw) 83 0)) kp wy 0 mm dd tn))) (va_A (wN cI a pt pd ab nw kp wy th (nI cN) (nI rN) tn) sz)) [.ref (a 0), .int mm, .int dd].toArray s 0 0 (va_A (wN cI a pt pd ab nw kp wy th (nI cN) (nI rN) tn) sz)) (F0 m 43 ls []) := by
    intro n
    induction n with
    | zero =>
      intro k hkn43 H locs hP hD hS ls hl
      refine lv_iload_n hx hb dX2_lay_43 rfl (lv_at hl 0 rfl) ?_
      refine lv_bipush (v := 72) hx hb dX2_lay_44 (by decide) ?_
      refine lv_icmp_ge (tgt := 69) hx hb dX2_lay_46 (by decide) (fun c_5 => ?_) (fun c9 => absurd (by rw [show (72 : Int32) = nI 72 from rfl]; exact nI_le (by omega) (by omega)) c9)
      rw [show k = 72 by omega] at hP hD
      have hP : va_P D vwCl (wN cI a ((mZ 72 pt)) pd ab ((mZ 72 nw)) kp wy 0 mm dd tn) H := hP
      have hD : va_D (va_A (wN cI a pt pd ab nw kp wy th (nI cN) (nI rN) tn) sz) (wN cI a ((mZ 72 pt)) pd ab ((mZ 72 nw)) kp wy 0 mm dd tn) := hD
      refine lv_iconst (v := 0) hx hb dX2_lay_69 (by decide) ?_
      refine lv_istore_n (lv' := [(3, .int 0), (0, .ref (a 0)), (1, .int mm), (2, .int dd)]) hx hb dX2_lay_70 rfl hl (by decide) rfl (fun ls hl => ?_)
      have L71 : ∀ (n2 k2 : Nat), k2 + n2 = 9 → ∀ (H : Heap) (locs : List Loc), va_P D vwCl (wN cI a ((mZ 72 pt)) pd ab ((mZ (72 + k2) nw)) kp wy 0 mm dd tn) H → va_D (va_A (wN cI a pt pd ab nw kp wy th (nI cN) (nI rN) tn) sz) (wN cI a ((mZ 72 pt)) pd ab ((mZ (72 + k2) nw)) kp wy 0 mm dd tn) → va_S (va_A (wN cI a pt pd ab nw kp wy th (nI cN) (nI rN) tn) sz) s.heap H locs → ∀ ls : Array Slot, lv_has ls 4 [(3, .int (nI k2)), (0, .ref (a 0)), (1, .int mm), (2, .int dd)] → W p l e ({ frames := 1, cells := 0, slots := 0, locals := 22 } : Room) s m [.ref (a 0), .int mm, .int dd].toArray below meth c H locs 0 0 (MQ below (va_Qi (fun (zz : Int32) (_ : Unit) => zz = mm * dd) (wB D [(cI, .int)] (va_A (wN cI a pt pd ab nw kp wy th (nI cN) (nI rN) tn) sz) (fun _ : Unit => (wN cI a ((mZ 72 pt)) pd ((upd (upd ab 0 0) 1 (mm - 1))) ((upd (mZ (72 + 9) nw) 83 0)) kp wy 0 mm dd tn))) (va_A (wN cI a pt pd ab nw kp wy th (nI cN) (nI rN) tn) sz)) [.ref (a 0), .int mm, .int dd].toArray s 0 0 (va_A (wN cI a pt pd ab nw kp wy th (nI cN) (nI rN) tn) sz)) (F0 m 71 ls []) := by
        intro n2
        induction n2 with
        | zero =>
          intro k2 hkn71 H locs hP hD hS ls hl
          refine lv_iload_n hx hb dX2_lay_71 rfl (lv_at hl 0 rfl) ?_
          refine lv_bipush (v := 9) hx hb dX2_lay_72 (by decide) ?_
          refine lv_icmp_ge (tgt := 93) hx hb dX2_lay_74 (by decide) (fun c_6 => ?_) (fun c9 => absurd (by rw [show (9 : Int32) = nI 9 from rfl]; exact nI_le (by omega) (by omega)) c9)
          rw [show k2 = 9 by omega] at hP hD
          have hP : va_P D vwCl (wN cI a ((mZ 72 pt)) pd ab ((mZ (72 + 9) nw)) kp wy 0 mm dd tn) H := hP
          have hD : va_D (va_A (wN cI a pt pd ab nw kp wy th (nI cN) (nI rN) tn) sz) (wN cI a ((mZ 72 pt)) pd ab ((mZ (72 + 9) nw)) kp wy 0 mm dd tn) := hD
          refine lv_aload_n hx hb dX2_lay_93 rfl (lv_at hl 1 rfl) ?_
          refine va_get (D := D) (ci := 2) (v := .ref (a 4)) (C := RX2) (T := TX2) (N := 10) hx hb hts iw_X2_lay_X2 hown hK hP 0 rfl rfl 6 (by decide) (hts (.fieldLink RX2 26 "MarbleRampsModel" "now" "[I") (mg 5 rfl)) (fun _ h9 => h9) rfl dX2_lay_94 ?_
          refine lv_bipush (v := 83) hx hb dX2_lay_97 (by decide) ?_
          refine lv_iconst (v := 0) hx hb dX2_lay_99 (by decide) ?_
          refine va_iast hx hb hK hP hD hS 4 0 rfl rfl (vp_in_nI (n := 83) (by decide) (by decide)) dX2_lay_100 (fun H locs hP hD hS => ?_)
          rw [show (83 : Int32).toNatClampNeg = 83 from by decide] at hP hD
          have hP : va_P D vwCl (wN cI a ((mZ 72 pt)) pd ab ((upd (mZ (72 + 9) nw) 83 0)) kp wy 0 mm dd tn) H := hP
          have hD : va_D (va_A (wN cI a pt pd ab nw kp wy th (nI cN) (nI rN) tn) sz) (wN cI a ((mZ 72 pt)) pd ab ((upd (mZ (72 + 9) nw) 83 0)) kp wy 0 mm dd tn) := hD
          refine lv_aload_n hx hb dX2_lay_101 rfl (lv_at hl 1 rfl) ?_
          refine va_get (D := D) (ci := 2) (v := .ref (a 3)) (C := RX2) (T := TX2) (N := 10) hx hb hts iw_X2_lay_X2 hown hK hP 0 rfl rfl 5 (by decide) (hts (.fieldLink RX2 23 "MarbleRampsModel" "above" "[I") (mg 6 rfl)) (fun _ h9 => h9) rfl dX2_lay_102 ?_
          refine lv_iconst (v := 0) hx hb dX2_lay_105 (by decide) ?_
          refine lv_iconst (v := 0) hx hb dX2_lay_106 (by decide) ?_
          refine va_iast hx hb hK hP hD hS 3 0 rfl rfl (vp_in_nI (n := 0) (by decide) (by decide)) dX2_lay_107 (fun H locs hP hD hS => ?_)
          rw [show (0 : Int32).toNatClampNeg = 0 from by decide] at hP hD
          have hP : va_P D vwCl (wN cI a ((mZ 72 pt)) pd ((upd ab 0 0)) ((upd (mZ (72 + 9) nw) 83 0)) kp wy 0 mm dd tn) H := hP
          have hD : va_D (va_A (wN cI a pt pd ab nw kp wy th (nI cN) (nI rN) tn) sz) (wN cI a ((mZ 72 pt)) pd ((upd ab 0 0)) ((upd (mZ (72 + 9) nw) 83 0)) kp wy 0 mm dd tn) := hD
          refine lv_aload_n hx hb dX2_lay_108 rfl (lv_at hl 1 rfl) ?_
          refine va_get (D := D) (ci := 2) (v := .ref (a 3)) (C := RX2) (T := TX2) (N := 10) hx hb hts iw_X2_lay_X2 hown hK hP 0 rfl rfl 5 (by decide) (hts (.fieldLink RX2 23 "MarbleRampsModel" "above" "[I") (mg 6 rfl)) (fun _ h9 => h9) rfl dX2_lay_109 ?_
          refine lv_iconst (v := 1) hx hb dX2_lay_112 (by decide) ?_
          refine lv_iload_n hx hb dX2_lay_113 rfl (lv_at hl 2 rfl) ?_
          refine lv_iconst (v := 1) hx hb dX2_lay_114 (by decide) ?_
          refine lv_isub hx hb dX2_lay_115 ?_
          refine va_iast hx hb hK hP hD hS 3 0 rfl rfl (vp_in_nI (n := 1) (by decide) (by decide)) dX2_lay_116 (fun H locs hP hD hS => ?_)
          rw [show (1 : Int32).toNatClampNeg = 1 from by decide] at hP hD
          have hP : va_P D vwCl (wN cI a ((mZ 72 pt)) pd ((upd (upd ab 0 0) 1 (mm - 1))) ((upd (mZ (72 + 9) nw) 83 0)) kp wy 0 mm dd tn) H := hP
          have hD : va_D (va_A (wN cI a pt pd ab nw kp wy th (nI cN) (nI rN) tn) sz) (wN cI a ((mZ 72 pt)) pd ((upd (upd ab 0 0) 1 (mm - 1))) ((upd (mZ (72 + 9) nw) 83 0)) kp wy 0 mm dd tn) := hD
          refine lv_iload_n hx hb dX2_lay_117 rfl (lv_at hl 2 rfl) ?_
          refine lv_iload_n hx hb dX2_lay_118 rfl (lv_at hl 3 rfl) ?_
          refine lv_imul hx hb dX2_lay_119 ?_
          exact eQi () hx hb hr hlocks hP hD hK hS dX2_lay_120 (rfl)
        | succ n2 ih71 =>
          intro k2 hkn71 H locs hP hD hS ls hl
          refine lv_iload_n hx hb dX2_lay_71 rfl (lv_at hl 0 rfl) ?_
          refine lv_bipush (v := 9) hx hb dX2_lay_72 (by decide) ?_
          refine lv_icmp_ge (tgt := 93) hx hb dX2_lay_74 (by decide) (fun c9 => absurd c9 (by rw [show (9 : Int32) = nI 9 from rfl]; exact nI_ge (by omega) (by decide))) (fun c_7 => ?_)
          refine lv_aload_n hx hb dX2_lay_77 rfl (lv_at hl 1 rfl) ?_
          refine va_get (D := D) (ci := 2) (v := .ref (a 4)) (C := RX2) (T := TX2) (N := 10) hx hb hts iw_X2_lay_X2 hown hK hP 0 rfl rfl 6 (by decide) (hts (.fieldLink RX2 26 "MarbleRampsModel" "now" "[I") (mg 5 rfl)) (fun _ h9 => h9) rfl dX2_lay_78 ?_
          refine lv_bipush (v := 72) hx hb dX2_lay_81 (by decide) ?_
          refine lv_iload_n hx hb dX2_lay_83 rfl (lv_at hl 0 rfl) ?_
          refine lv_iadd hx hb dX2_lay_84 ?_
          refine lv_iconst (v := 0) hx hb dX2_lay_85 (by decide) ?_
          refine va_iast hx hb hK hP hD hS 4 0 rfl rfl (inbin (cN := 9) (by decide) ⟨k2, by omega, rfl⟩) dX2_lay_86 (fun H locs hP hD hS => ?_)
          rw [mZ_i (show k2 < 2 ^ 20 by omega)] at hP hD
          have hP : va_P D vwCl (wN cI a ((mZ 72 pt)) pd ab ((upd (mZ (72 + k2) nw) (72 + k2) 0)) kp wy 0 mm dd tn) H := hP
          have hD : va_D (va_A (wN cI a pt pd ab nw kp wy th (nI cN) (nI rN) tn) sz) (wN cI a ((mZ 72 pt)) pd ab ((upd (mZ (72 + k2) nw) (72 + k2) 0)) kp wy 0 mm dd tn) := hD
          refine lv_iinc (v := (nI (k2 + 1))) (lv' := [(3, .int (nI (k2 + 1))), (0, .ref (a 0)), (1, .int mm), (2, .int dd)]) hx hb dX2_lay_87 hl (k := 0) rfl (nI_1 k2) (by decide) rfl (fun ls hl => ?_)
          refine lv_goto (tgt := 71) hx hb dX2_lay_90 (by decide) ?_
          rw [mZ_s] at hP hD
          exact ih71 (k2 + 1)  (by omega)  _ _ hP hD hS ls (lv_sub hl [0, 1, 2, 3] rfl)
      exact L71 9 0  (by omega)  _ _ hP hD hS ls (lv_sub hl [0, 1, 2, 3] rfl)
    | succ n ih43 =>
      intro k hkn43 H locs hP hD hS ls hl
      refine lv_iload_n hx hb dX2_lay_43 rfl (lv_at hl 0 rfl) ?_
      refine lv_bipush (v := 72) hx hb dX2_lay_44 (by decide) ?_
      refine lv_icmp_ge (tgt := 69) hx hb dX2_lay_46 (by decide) (fun c9 => absurd c9 (by rw [show (72 : Int32) = nI 72 from rfl]; exact nI_ge (by omega) (by decide))) (fun c_8 => ?_)
      refine lv_aload_n hx hb dX2_lay_49 rfl (lv_at hl 1 rfl) ?_
      refine va_get (D := D) (ci := 2) (v := .ref (a 1)) (C := RX2) (T := TX2) (N := 10) hx hb hts iw_X2_lay_X2 hown hK hP 0 rfl rfl 3 (by decide) (hts (.fieldLink RX2 16 "MarbleRampsModel" "part" "[I") (mg 4 rfl)) (fun _ h9 => h9) rfl dX2_lay_50 ?_
      refine lv_iload_n hx hb dX2_lay_53 rfl (lv_at hl 0 rfl) ?_
      refine lv_iconst (v := 0) hx hb dX2_lay_54 (by decide) ?_
      refine va_iast hx hb hK hP hD hS 1 0 rfl rfl (vp_in_nI (by omega) (by decide)) dX2_lay_55 (fun H locs hP hD hS => ?_)
      rw [nI_clamp (show k < 2 ^ 31 by omega)] at hP hD
      have hP : va_P D vwCl (wN cI a ((upd (mZ k pt) k 0)) pd ab ((mZ k nw)) kp wy 0 mm dd tn) H := hP
      have hD : va_D (va_A (wN cI a pt pd ab nw kp wy th (nI cN) (nI rN) tn) sz) (wN cI a ((upd (mZ k pt) k 0)) pd ab ((mZ k nw)) kp wy 0 mm dd tn) := hD
      refine lv_aload_n hx hb dX2_lay_56 rfl (lv_at hl 1 rfl) ?_
      refine va_get (D := D) (ci := 2) (v := .ref (a 4)) (C := RX2) (T := TX2) (N := 10) hx hb hts iw_X2_lay_X2 hown hK hP 0 rfl rfl 6 (by decide) (hts (.fieldLink RX2 26 "MarbleRampsModel" "now" "[I") (mg 5 rfl)) (fun _ h9 => h9) rfl dX2_lay_57 ?_
      refine lv_iload_n hx hb dX2_lay_60 rfl (lv_at hl 0 rfl) ?_
      refine lv_iconst (v := 0) hx hb dX2_lay_61 (by decide) ?_
      refine va_iast hx hb hK hP hD hS 4 0 rfl rfl (vp_in_nI (by omega) (by decide)) dX2_lay_62 (fun H locs hP hD hS => ?_)
      rw [nI_clamp (show k < 2 ^ 31 by omega)] at hP hD
      have hP : va_P D vwCl (wN cI a ((upd (mZ k pt) k 0)) pd ab ((upd (mZ k nw) k 0)) kp wy 0 mm dd tn) H := hP
      have hD : va_D (va_A (wN cI a pt pd ab nw kp wy th (nI cN) (nI rN) tn) sz) (wN cI a ((upd (mZ k pt) k 0)) pd ab ((upd (mZ k nw) k 0)) kp wy 0 mm dd tn) := hD
      refine lv_iinc (v := (nI (k + 1))) (lv' := [(3, .int (nI (k + 1))), (0, .ref (a 0)), (1, .int mm), (2, .int dd)]) hx hb dX2_lay_63 hl (k := 0) rfl (nI_1 k) (by decide) rfl (fun ls hl => ?_)
      refine lv_goto (tgt := 43) hx hb dX2_lay_66 (by decide) ?_
      rw [mZ_s, mZ_s] at hP hD
      exact ih43 (k + 1)  (by omega)  _ _ hP hD hS ls (lv_sub hl [0, 1, 2, 3] rfl)
  exact L43 72 0  (by omega)  _ _ hP hD hS ls (lv_sub hl [0, 1, 2, 3] rfl)
set_option maxHeartbeats 4000000 in
set_option maxRecDepth 100000 in
theorem mX2_lay_1 (l : Launch) (D : va_G) (cI : ClassId) (a : Nat → Nat) (pt pd ab nw kp wy : Nat → Int32) (th : Int32) (cN rN : Nat) (tn : Int32) (mm dd : Int32) (hp : mFrom mm 2 9 = false) (sz : Nat) : Met l yX2_lay wsX2_lay ({ frames := 1, cells := 0, slots := 0, locals := 22 } : Room) (va_Pc [.ref (a 0), .int mm, .int dd] (wPQ D [(cI, .int)] sz (wN cI a pt pd ab nw kp wy th (nI cN) (nI rN) tn))) (va_Qi (fun (zz : Int32) (_ : Unit) => zz = 0) (wB D [(cI, .int)] (va_A (wN cI a pt pd ab nw kp wy th (nI cN) (nI rN) tn) sz) (fun _ : Unit => (wN cI a pt pd ab nw kp wy 1 (nI cN) (nI rN) tn))) (va_A (wN cI a pt pd ab nw kp wy th (nI cN) (nI rN) tn) sz)) 0 0 (va_A (wN cI a pt pd ab nw kp wy th (nI cN) (nI rN) tn) sz) := by
  refine mQ_of (by decide) rfl (Nat.le_of_ble_eq_true rfl) ?_
  intro p e s m below meth c hx hb hr hml hown hin hts hlocks hsz hP hK hN hD hA hS ls hl
  have hown : s.vm.findClass RX2 = some m.cls := hown
  have hl : lv_has ls 4 [(0, .ref (a 0)), (1, .int mm), (2, .int dd)] := hl
  have hP : va_P D vwCl (wN cI a pt pd ab nw kp wy th (nI cN) (nI rN) tn) s.heap := hP
  refine lv_aload_n hx hb dX2_lay_0 rfl (lv_at hl 0 rfl) ?_
  refine lv_iconst (v := 0) hx hb dX2_lay_1 (by decide) ?_
  refine va_put (D := D) (ci := 2) (v := .int 0) (ty := .int) (C := RX2) (T := TX2) (N := 10) hx hb hts iw_X2_lay_X2 tyX2 tyX2_ok nmX2 hown hK hP hD hS 0 rfl rfl 0 (by decide) (hts (.fieldLink RX2 35 "MarbleRampsModel" "thrown" "I") (mg 1 rfl)) (fun _ h9 => h9) rfl (by decide +kernel) rfl rfl (Nat.le_of_ble_eq_true rfl) dX2_lay_2 (fun H locs hP hD hS => ?_)
  have hP : va_P D vwCl (wN cI a pt pd ab nw kp wy 0 (nI cN) (nI rN) tn) H := hP
  have hD : va_D (va_A (wN cI a pt pd ab nw kp wy th (nI cN) (nI rN) tn) sz) (wN cI a pt pd ab nw kp wy 0 (nI cN) (nI rN) tn) := hD
  refine lv_iload_n hx hb dX2_lay_5 rfl (lv_at hl 1 rfl) ?_
  refine lv_iconst (v := 2) hx hb dX2_lay_6 (by decide) ?_
  refine lv_bipush (v := 9) hx hb dX2_lay_7 (by decide) ?_
  refine kRSi (As := [.int mm, .int 2, .int 9]) (rest := []) ⟨hx, hb, hml, hown, hts⟩ (mX2_isFrom l D cI mm 2 9) (va_cwS 3 hts gX2_lay_X2_isFrom rfl rfl rfl (by decide +kernel) ⟨Nat.le_of_ble_eq_true rfl, Nat.le_of_ble_eq_true rfl⟩) hP hK hN [] rfl [0] rfl rfl hl.1 rfl (Nat.le_of_ble_eq_true rfl) dX2_lay_9 ⟨Nat.zero_le _, Nat.zero_le _⟩ (fun r_1 hr_1 => ?_)
  subst r_1
  refine lv_if_eq (tgt := 25) hx hb dX2_lay_12 (by decide) (fun c_2 => ?_) (fun c9 => absurd (by rw [hp]; decide) c9)
  refine lv_aload_n hx hb dX2_lay_25 rfl (lv_at hl 0 rfl) ?_
  refine lv_iconst (v := 1) hx hb dX2_lay_26 (by decide) ?_
  refine kQVi (As := [.int 1]) (rest := []) (wr := []) (W2 := (fun _ => (wN cI a pt pd ab nw kp wy 1 (nI cN) (nI rN) tn))) ⟨hx, hb, hml, hown, hts⟩ (mX2_no l D cI a pt pd ab nw kp wy 0 cN rN tn 1 _) (cwV 1 hts gX2_lay_X2_no rfl rfl rfl (by decide +kernel) ⟨Nat.le_of_ble_eq_true rfl, Nat.le_of_ble_eq_true rfl⟩) hP hD hK hN hS hA [0, 1, 2, 3, 4, 5, 6] (by decide) rfl [] (by decide) rfl (by decide) [0, 1, 2, 3, 4, 5, 6] (by decide) (fun _ => rfl) [0] rfl rfl rfl rfl hl.1 rfl (Nat.le_of_ble_eq_true rfl) dX2_lay_27 ⟨Nat.le_of_ble_eq_true rfl, Nat.le_of_ble_eq_true rfl⟩ (fun r_3 u_3 H locs hr_3 hP hD hS => ?_)
  subst r_3
  have hP : va_P D vwCl (wN cI a pt pd ab nw kp wy 1 (nI cN) (nI rN) tn) H := hP
  have hD : va_D (va_A (wN cI a pt pd ab nw kp wy th (nI cN) (nI rN) tn) sz) (wN cI a pt pd ab nw kp wy 1 (nI cN) (nI rN) tn) := hD
  exact eQi () hx hb hr hlocks hP hD hK hS dX2_lay_30 (rfl)
set_option maxHeartbeats 4000000 in
set_option maxRecDepth 100000 in
theorem mX2_lay_1r (l : Launch) (D : va_G) (cI : ClassId) (a : Nat → Nat) (pt pd ab nw kp wy : Nat → Int32) (th : Int32) (cN rN : Nat) (tn : Int32) (mm dd : Int32) (hp : mFrom mm 2 9 = true) (hq : mFrom dd 1 8 = false) (sz : Nat) : Met l yX2_lay wsX2_lay ({ frames := 1, cells := 0, slots := 0, locals := 22 } : Room) (va_Pc [.ref (a 0), .int mm, .int dd] (wPQ D [(cI, .int)] sz (wN cI a pt pd ab nw kp wy th (nI cN) (nI rN) tn))) (va_Qi (fun (zz : Int32) (_ : Unit) => zz = 0) (wB D [(cI, .int)] (va_A (wN cI a pt pd ab nw kp wy th (nI cN) (nI rN) tn) sz) (fun _ : Unit => (wN cI a pt pd ab nw kp wy 1 (nI cN) (nI rN) tn))) (va_A (wN cI a pt pd ab nw kp wy th (nI cN) (nI rN) tn) sz)) 0 0 (va_A (wN cI a pt pd ab nw kp wy th (nI cN) (nI rN) tn) sz) := by
  refine mQ_of (by decide) rfl (Nat.le_of_ble_eq_true rfl) ?_
  intro p e s m below meth c hx hb hr hml hown hin hts hlocks hsz hP hK hN hD hA hS ls hl
  have hown : s.vm.findClass RX2 = some m.cls := hown
  have hl : lv_has ls 4 [(0, .ref (a 0)), (1, .int mm), (2, .int dd)] := hl
  have hP : va_P D vwCl (wN cI a pt pd ab nw kp wy th (nI cN) (nI rN) tn) s.heap := hP
  refine lv_aload_n hx hb dX2_lay_0 rfl (lv_at hl 0 rfl) ?_
  refine lv_iconst (v := 0) hx hb dX2_lay_1 (by decide) ?_
  refine va_put (D := D) (ci := 2) (v := .int 0) (ty := .int) (C := RX2) (T := TX2) (N := 10) hx hb hts iw_X2_lay_X2 tyX2 tyX2_ok nmX2 hown hK hP hD hS 0 rfl rfl 0 (by decide) (hts (.fieldLink RX2 35 "MarbleRampsModel" "thrown" "I") (mg 1 rfl)) (fun _ h9 => h9) rfl (by decide +kernel) rfl rfl (Nat.le_of_ble_eq_true rfl) dX2_lay_2 (fun H locs hP hD hS => ?_)
  have hP : va_P D vwCl (wN cI a pt pd ab nw kp wy 0 (nI cN) (nI rN) tn) H := hP
  have hD : va_D (va_A (wN cI a pt pd ab nw kp wy th (nI cN) (nI rN) tn) sz) (wN cI a pt pd ab nw kp wy 0 (nI cN) (nI rN) tn) := hD
  refine lv_iload_n hx hb dX2_lay_5 rfl (lv_at hl 1 rfl) ?_
  refine lv_iconst (v := 2) hx hb dX2_lay_6 (by decide) ?_
  refine lv_bipush (v := 9) hx hb dX2_lay_7 (by decide) ?_
  refine kRSi (As := [.int mm, .int 2, .int 9]) (rest := []) ⟨hx, hb, hml, hown, hts⟩ (mX2_isFrom l D cI mm 2 9) (va_cwS 3 hts gX2_lay_X2_isFrom rfl rfl rfl (by decide +kernel) ⟨Nat.le_of_ble_eq_true rfl, Nat.le_of_ble_eq_true rfl⟩) hP hK hN [] rfl [0] rfl rfl hl.1 rfl (Nat.le_of_ble_eq_true rfl) dX2_lay_9 ⟨Nat.zero_le _, Nat.zero_le _⟩ (fun r_1 hr_1 => ?_)
  subst r_1
  refine lv_if_eq (tgt := 25) hx hb dX2_lay_12 (by decide) (fun c9 => absurd c9 (by rw [hp]; decide)) (fun c_2 => ?_)
  refine lv_iload_n hx hb dX2_lay_15 rfl (lv_at hl 2 rfl) ?_
  refine lv_iconst (v := 1) hx hb dX2_lay_16 (by decide) ?_
  refine lv_bipush (v := 8) hx hb dX2_lay_17 (by decide) ?_
  refine kRSi (As := [.int dd, .int 1, .int 8]) (rest := []) ⟨hx, hb, hml, hown, hts⟩ (mX2_isFrom l D cI dd 1 8) (va_cwS 3 hts gX2_lay_X2_isFrom rfl rfl rfl (by decide +kernel) ⟨Nat.le_of_ble_eq_true rfl, Nat.le_of_ble_eq_true rfl⟩) hP hK hN [] rfl [0] rfl rfl hl.1 rfl (Nat.le_of_ble_eq_true rfl) dX2_lay_19 ⟨Nat.zero_le _, Nat.zero_le _⟩ (fun r_3 hr_3 => ?_)
  subst r_3
  refine lv_if_ne (tgt := 31) hx hb dX2_lay_22 (by decide) (fun c9 => absurd (by rw [hq]; decide) c9) (fun c_4 => ?_)
  refine lv_aload_n hx hb dX2_lay_25 rfl (lv_at hl 0 rfl) ?_
  refine lv_iconst (v := 1) hx hb dX2_lay_26 (by decide) ?_
  refine kQVi (As := [.int 1]) (rest := []) (wr := []) (W2 := (fun _ => (wN cI a pt pd ab nw kp wy 1 (nI cN) (nI rN) tn))) ⟨hx, hb, hml, hown, hts⟩ (mX2_no l D cI a pt pd ab nw kp wy 0 cN rN tn 1 _) (cwV 1 hts gX2_lay_X2_no rfl rfl rfl (by decide +kernel) ⟨Nat.le_of_ble_eq_true rfl, Nat.le_of_ble_eq_true rfl⟩) hP hD hK hN hS hA [0, 1, 2, 3, 4, 5, 6] (by decide) rfl [] (by decide) rfl (by decide) [0, 1, 2, 3, 4, 5, 6] (by decide) (fun _ => rfl) [0] rfl rfl rfl rfl hl.1 rfl (Nat.le_of_ble_eq_true rfl) dX2_lay_27 ⟨Nat.le_of_ble_eq_true rfl, Nat.le_of_ble_eq_true rfl⟩ (fun r_5 u_5 H locs hr_5 hP hD hS => ?_)
  subst r_5
  have hP : va_P D vwCl (wN cI a pt pd ab nw kp wy 1 (nI cN) (nI rN) tn) H := hP
  have hD : va_D (va_A (wN cI a pt pd ab nw kp wy th (nI cN) (nI rN) tn) sz) (wN cI a pt pd ab nw kp wy 1 (nI cN) (nI rN) tn) := hD
  exact eQi () hx hb hr hlocks hP hD hK hS dX2_lay_30 (rfl)
