set_option maxHeartbeats 4000000 in
set_option maxRecDepth 100000 in
theorem mX2_isFrom (l : Launch) (D : va_G) (cI : ClassId)  (vv lo_ hi_ : Int32) : Met l yX2_isFrom wsX2_isFrom ({ frames := 0, cells := 0, slots := 0, locals := 0 } : Room) (va_Pc [.int vv, .int lo_, .int hi_] (wPR D [(cI, .int)] [])) (vp_Si (fun zz : Int32 => zz = bi (mFrom vv lo_ hi_))) 0 0 (fun _ => False) := by
  refine mR_of (by decide) rfl (Nat.le_of_ble_eq_true rfl) ?_
  intro p e s m below meth c hx hb hr hml hown hts hlocks hP hK hN ls hl
  have hown : s.vm.findClass RX2 = some m.cls := hown
  have hl : lv_has ls 3 [(0, .int vv), (1, .int lo_), (2, .int hi_)] := hl
  refine lv_iload_n hx hb dX2_isFrom_0 rfl (lv_at hl 0 rfl) ?_
  refine lv_iload_n hx hb dX2_isFrom_1 rfl (lv_at hl 1 rfl) ?_
  refine lv_icmp_lt (tgt := 14) hx hb dX2_isFrom_2 (by decide) (fun c_1 => ?_) (fun c_1 => ?_)
  · refine lv_iconst (v := 0) hx hb dX2_isFrom_14 (by decide) ?_
    exact eRz hx hb hr hlocks dX2_isFrom_15 (Or.inl rfl) (by simp [bi, mFrom, c_1])
  · refine lv_iload_n hx hb dX2_isFrom_5 rfl (lv_at hl 0 rfl) ?_
    refine lv_iload_n hx hb dX2_isFrom_6 rfl (lv_at hl 2 rfl) ?_
    refine lv_icmp_gt (tgt := 14) hx hb dX2_isFrom_7 (by decide) (fun c_2 => ?_) (fun c_2 => ?_)
    · refine lv_iconst (v := 0) hx hb dX2_isFrom_14 (by decide) ?_
      exact eRz hx hb hr hlocks dX2_isFrom_15 (Or.inl rfl) (by simp [bi, mFrom, c_1, c_2])
    · refine lv_iconst (v := 1) hx hb dX2_isFrom_10 (by decide) ?_
      refine lv_goto (tgt := 15) hx hb dX2_isFrom_11 (by decide) ?_
      exact eRz hx hb hr hlocks dX2_isFrom_15 (Or.inr rfl) (by simp [bi, mFrom, c_1, c_2])
theorem iw_X2_isColumn_X2 : ∀ w ∈ wsX20, w ∈ wsX2_isColumn := mem_pos [6, 7, 8, 9, 10, 11, 12, 13, 14, 15] (by decide +kernel)
set_option maxHeartbeats 4000000 in
set_option maxRecDepth 100000 in
theorem mX2_isColumn (l : Launch) (D : va_G) (cI : ClassId) (a : Nat → Nat) (pt pd ab nw kp wy : Nat → Int32) (th : Int32) (cN rN : Nat) (tn : Int32) (kk : Int32) : Met l yX2_isColumn wsX2_isColumn ({ frames := 1, cells := 0, slots := 0, locals := 22 } : Room) (va_Pc [.ref (a 0), .int kk] (wPR D [(cI, .int)] (wN cI a pt pd ab nw kp wy th (nI cN) (nI rN) tn))) (vp_Si (fun zz : Int32 => zz = bi (mFrom kk 0 (nI cN - 1)))) 0 0 (fun _ => False) := by
  refine mR_of (by decide) rfl (Nat.le_of_ble_eq_true rfl) ?_
  intro p e s m below meth c hx hb hr hml hown hts hlocks hP hK hN ls hl
  have hown : s.vm.findClass RX2 = some m.cls := hown
  have hl : lv_has ls 2 [(0, .ref (a 0)), (1, .int kk)] := hl
  refine lv_iload_n hx hb dX2_isColumn_0 rfl (lv_at hl 1 rfl) ?_
  refine lv_iconst (v := 0) hx hb dX2_isColumn_1 (by decide) ?_
  refine lv_aload_n hx hb dX2_isColumn_2 rfl (lv_at hl 0 rfl) ?_
  refine va_get (D := D) (ci := 2) (v := .int (nI cN)) (C := RX2) (T := TX2) (N := 10) hx hb hts iw_X2_isColumn_X2 hown hK hP 0 rfl rfl 1 (by decide) (hts (.fieldLink RX2 9 "MarbleRampsModel" "columns" "I") (mg 1 rfl)) (fun _ h9 => h9) rfl dX2_isColumn_3 ?_
  refine lv_iconst (v := 1) hx hb dX2_isColumn_6 (by decide) ?_
  refine lv_isub hx hb dX2_isColumn_7 ?_
  refine kRSi (As := [.int kk, .int 0, .int (nI cN - 1)]) (rest := []) ⟨hx, hb, hml, hown, hts⟩ (mX2_isFrom l D cI kk 0 (nI cN - 1)) (va_cwS 3 hts gX2_isColumn_X2_isFrom rfl rfl rfl (by decide +kernel) ⟨Nat.le_of_ble_eq_true rfl, Nat.le_of_ble_eq_true rfl⟩) hP hK hN [] rfl [0] rfl rfl hl.1 rfl (Nat.le_of_ble_eq_true rfl) dX2_isColumn_8 ⟨Nat.zero_le _, Nat.zero_le _⟩ (fun r_1 hr_1 => ?_)
  subst r_1
  exact eRz hx hb hr hlocks dX2_isColumn_11 (bi01 _) (rfl)
theorem iw_X2_isRow_X2 : ∀ w ∈ wsX20, w ∈ wsX2_isRow := mem_pos [6, 7, 8, 9, 10, 11, 12, 13, 14, 15] (by decide +kernel)
set_option maxHeartbeats 4000000 in
set_option maxRecDepth 100000 in
theorem mX2_isRow (l : Launch) (D : va_G) (cI : ClassId) (a : Nat → Nat) (pt pd ab nw kp wy : Nat → Int32) (th : Int32) (cN rN : Nat) (tn : Int32) (rr : Int32) : Met l yX2_isRow wsX2_isRow ({ frames := 1, cells := 0, slots := 0, locals := 22 } : Room) (va_Pc [.ref (a 0), .int rr] (wPR D [(cI, .int)] (wN cI a pt pd ab nw kp wy th (nI cN) (nI rN) tn))) (vp_Si (fun zz : Int32 => zz = bi (mFrom rr 0 (nI rN - 1)))) 0 0 (fun _ => False) := by
  refine mR_of (by decide) rfl (Nat.le_of_ble_eq_true rfl) ?_
  intro p e s m below meth c hx hb hr hml hown hts hlocks hP hK hN ls hl
  have hown : s.vm.findClass RX2 = some m.cls := hown
  have hl : lv_has ls 2 [(0, .ref (a 0)), (1, .int rr)] := hl
  refine lv_iload_n hx hb dX2_isRow_0 rfl (lv_at hl 1 rfl) ?_
  refine lv_iconst (v := 0) hx hb dX2_isRow_1 (by decide) ?_
  refine lv_aload_n hx hb dX2_isRow_2 rfl (lv_at hl 0 rfl) ?_
  refine va_get (D := D) (ci := 2) (v := .int (nI rN)) (C := RX2) (T := TX2) (N := 10) hx hb hts iw_X2_isRow_X2 hown hK hP 0 rfl rfl 2 (by decide) (hts (.fieldLink RX2 13 "MarbleRampsModel" "rows" "I") (mg 1 rfl)) (fun _ h9 => h9) rfl dX2_isRow_3 ?_
  refine lv_iconst (v := 1) hx hb dX2_isRow_6 (by decide) ?_
  refine lv_isub hx hb dX2_isRow_7 ?_
  refine kRSi (As := [.int rr, .int 0, .int (nI rN - 1)]) (rest := []) ⟨hx, hb, hml, hown, hts⟩ (mX2_isFrom l D cI rr 0 (nI rN - 1)) (va_cwS 3 hts gX2_isRow_X2_isFrom rfl rfl rfl (by decide +kernel) ⟨Nat.le_of_ble_eq_true rfl, Nat.le_of_ble_eq_true rfl⟩) hP hK hN [] rfl [0] rfl rfl hl.1 rfl (Nat.le_of_ble_eq_true rfl) dX2_isRow_8 ⟨Nat.zero_le _, Nat.zero_le _⟩ (fun r_1 hr_1 => ?_)
  subst r_1
  exact eRz hx hb hr hlocks dX2_isRow_11 (bi01 _) (rfl)
set_option maxHeartbeats 4000000 in
set_option maxRecDepth 100000 in
theorem mX2_isPlace (l : Launch) (D : va_G) (cI : ClassId) (a : Nat → Nat) (pt pd ab nw kp wy : Nat → Int32) (th : Int32) (cN rN : Nat) (tn : Int32) (rr kk : Int32) : Met l yX2_isPlace wsX2_isPlace ({ frames := 2, cells := 0, slots := 0, locals := 43 } : Room) (va_Pc [.ref (a 0), .int rr, .int kk] (wPR D [(cI, .int)] (wN cI a pt pd ab nw kp wy th (nI cN) (nI rN) tn))) (vp_Si (fun zz : Int32 => zz = bi (mPlace (nI rN) (nI cN) rr kk))) 0 0 (fun _ => False) := by
  refine mR_of (by decide) rfl (Nat.le_of_ble_eq_true rfl) ?_
  intro p e s m below meth c hx hb hr hml hown hts hlocks hP hK hN ls hl
  have hown : s.vm.findClass RX2 = some m.cls := hown
  have hl : lv_has ls 3 [(0, .ref (a 0)), (1, .int rr), (2, .int kk)] := hl
  refine lv_aload_n hx hb dX2_isPlace_0 rfl (lv_at hl 0 rfl) ?_
  refine lv_iload_n hx hb dX2_isPlace_1 rfl (lv_at hl 1 rfl) ?_
  refine kRVi (As := [.int rr]) (rest := []) ⟨hx, hb, hml, hown, hts⟩ (mX2_isRow l D cI a pt pd ab nw kp wy th cN rN tn rr) (cwV 1 hts gX2_isPlace_X2_isRow rfl rfl rfl (by decide +kernel) ⟨Nat.le_of_ble_eq_true rfl, Nat.le_of_ble_eq_true rfl⟩) hP hK hN [0, 1, 2, 3, 4, 5, 6] rfl [0] rfl rfl rfl rfl hl.1 rfl (Nat.le_of_ble_eq_true rfl) dX2_isPlace_2 ⟨Nat.zero_le _, Nat.zero_le _⟩ (fun r_1 hr_1 => ?_)
  subst r_1
  refine lv_if_eq (tgt := 20) hx hb dX2_isPlace_5 (by decide) (fun c_2 => ?_) (fun c_2 => ?_)
  · simp only [ne_eq, bi_e0, Bool.not_eq_false] at c_2
    refine lv_iconst (v := 0) hx hb dX2_isPlace_20 (by decide) ?_
    exact eRz hx hb hr hlocks dX2_isPlace_21 (Or.inl rfl) (by simp [bi, mPlace, c_2])
  · simp only [ne_eq, bi_e0, Bool.not_eq_false] at c_2
    refine lv_aload_n hx hb dX2_isPlace_8 rfl (lv_at hl 0 rfl) ?_
    refine lv_iload_n hx hb dX2_isPlace_9 rfl (lv_at hl 2 rfl) ?_
    refine kRVi (As := [.int kk]) (rest := []) ⟨hx, hb, hml, hown, hts⟩ (mX2_isColumn l D cI a pt pd ab nw kp wy th cN rN tn kk) (cwV 1 hts gX2_isPlace_X2_isColumn rfl rfl rfl (by decide +kernel) ⟨Nat.le_of_ble_eq_true rfl, Nat.le_of_ble_eq_true rfl⟩) hP hK hN [0, 1, 2, 3, 4, 5, 6] rfl [0] rfl rfl rfl rfl hl.1 rfl (Nat.le_of_ble_eq_true rfl) dX2_isPlace_10 ⟨Nat.zero_le _, Nat.zero_le _⟩ (fun r_3 hr_3 => ?_)
    subst r_3
    refine lv_if_eq (tgt := 20) hx hb dX2_isPlace_13 (by decide) (fun c_4 => ?_) (fun c_4 => ?_)
    · simp only [ne_eq, bi_e0, Bool.not_eq_false] at c_4
      refine lv_iconst (v := 0) hx hb dX2_isPlace_20 (by decide) ?_
      exact eRz hx hb hr hlocks dX2_isPlace_21 (Or.inl rfl) (by simp [bi, mPlace, c_2, c_4])
    · simp only [ne_eq, bi_e0, Bool.not_eq_false] at c_4
      refine lv_iconst (v := 1) hx hb dX2_isPlace_16 (by decide) ?_
      refine lv_goto (tgt := 21) hx hb dX2_isPlace_17 (by decide) ?_
      exact eRz hx hb hr hlocks dX2_isPlace_21 (Or.inr rfl) (by simp [bi, mPlace, c_2, c_4])
theorem iw_X2_thrown_X2 : ∀ w ∈ wsX20, w ∈ wsX2_thrown := mem_pos [2, 3, 4, 5, 6, 7, 8, 9, 10, 11] (by decide +kernel)
set_option maxHeartbeats 4000000 in
set_option maxRecDepth 100000 in
theorem mX2_thrown (l : Launch) (D : va_G) (cI : ClassId) (a : Nat → Nat) (pt pd ab nw kp wy : Nat → Int32) (th : Int32) (cN rN : Nat) (tn : Int32) : Met l yX2_thrown wsX2_thrown ({ frames := 0, cells := 0, slots := 0, locals := 0 } : Room) (va_Pc [.ref (a 0)] (wPR D [(cI, .int)] (wN cI a pt pd ab nw kp wy th (nI cN) (nI rN) tn))) (vp_Si (fun zz : Int32 => zz = th)) 0 0 (fun _ => False) := by
  refine mR_of (by decide) rfl (Nat.le_of_ble_eq_true rfl) ?_
  intro p e s m below meth c hx hb hr hml hown hts hlocks hP hK hN ls hl
  have hown : s.vm.findClass RX2 = some m.cls := hown
  have hl : lv_has ls 1 [(0, .ref (a 0))] := hl
  refine lv_aload_n hx hb dX2_thrown_0 rfl (lv_at hl 0 rfl) ?_
  refine va_get (D := D) (ci := 2) (v := .int th) (C := RX2) (T := TX2) (N := 10) hx hb hts iw_X2_thrown_X2 hown hK hP 0 rfl rfl 0 (by decide) (hts (.fieldLink RX2 35 "MarbleRampsModel" "thrown" "I") (mg 1 rfl)) (fun _ h9 => h9) rfl dX2_thrown_1 ?_
  exact eRi hx hb hr hlocks dX2_thrown_4 (rfl)
theorem iw_X2_no_X2 : ∀ w ∈ wsX20, w ∈ wsX2_no := mem_pos [2, 3, 4, 5, 6, 7, 8, 9, 10, 11] (by decide +kernel)
set_option maxHeartbeats 4000000 in
set_option maxRecDepth 100000 in
theorem mX2_no (l : Launch) (D : va_G) (cI : ClassId) (a : Nat → Nat) (pt pd ab nw kp wy : Nat → Int32) (th : Int32) (cN rN : Nat) (tn : Int32) (num : Int32) (sz : Nat) : Met l yX2_no wsX2_no ({ frames := 0, cells := 0, slots := 0, locals := 0 } : Room) (va_Pc [.ref (a 0), .int num] (wPQ D [(cI, .int)] sz (wN cI a pt pd ab nw kp wy th (nI cN) (nI rN) tn))) (va_Qi (fun (zz : Int32) (_ : Unit) => zz = 0) (wB D [(cI, .int)] (va_A (wN cI a pt pd ab nw kp wy th (nI cN) (nI rN) tn) sz) (fun _ : Unit => (wN cI a pt pd ab nw kp wy num (nI cN) (nI rN) tn))) (va_A (wN cI a pt pd ab nw kp wy th (nI cN) (nI rN) tn) sz)) 0 0 (va_A (wN cI a pt pd ab nw kp wy th (nI cN) (nI rN) tn) sz) := by
  refine mQ_of (by decide) rfl (Nat.le_of_ble_eq_true rfl) ?_
  intro p e s m below meth c hx hb hr hml hown hin hts hlocks hsz hP hK hN hD hA hS ls hl
  have hown : s.vm.findClass RX2 = some m.cls := hown
  have hl : lv_has ls 2 [(0, .ref (a 0)), (1, .int num)] := hl
  have hP : va_P D vwCl (wN cI a pt pd ab nw kp wy th (nI cN) (nI rN) tn) s.heap := hP
  refine lv_aload_n hx hb dX2_no_0 rfl (lv_at hl 0 rfl) ?_
  refine lv_iload_n hx hb dX2_no_1 rfl (lv_at hl 1 rfl) ?_
  refine va_put (D := D) (ci := 2) (v := .int num) (ty := .int) (C := RX2) (T := TX2) (N := 10) hx hb hts iw_X2_no_X2 tyX2 tyX2_ok nmX2 hown hK hP hD hS 0 rfl rfl 0 (by decide) (hts (.fieldLink RX2 35 "MarbleRampsModel" "thrown" "I") (mg 1 rfl)) (fun _ h9 => h9) rfl (by decide +kernel) rfl rfl (Nat.le_of_ble_eq_true rfl) dX2_no_2 (fun H locs hP hD hS => ?_)
  have hP : va_P D vwCl (wN cI a pt pd ab nw kp wy num (nI cN) (nI rN) tn) H := hP
  have hD : va_D (va_A (wN cI a pt pd ab nw kp wy th (nI cN) (nI rN) tn) sz) (wN cI a pt pd ab nw kp wy num (nI cN) (nI rN) tn) := hD
  refine lv_iconst (v := 0) hx hb dX2_no_5 (by decide) ?_
  exact eQi () hx hb hr hlocks hP hD hK hS dX2_no_6 (rfl)
theorem iw_X2_isNot_X2 : ∀ w ∈ wsX20, w ∈ wsX2_isNot := mem_pos [2, 3, 4, 5, 6, 7, 8, 9, 10, 11] (by decide +kernel)
set_option maxHeartbeats 4000000 in
set_option maxRecDepth 100000 in
theorem mX2_isNot (l : Launch) (D : va_G) (cI : ClassId) (a : Nat → Nat) (pt pd ab nw kp wy : Nat → Int32) (th : Int32) (cN rN : Nat) (tn : Int32) (num : Int32) (sz : Nat) : Met l yX2_isNot wsX2_isNot ({ frames := 0, cells := 0, slots := 0, locals := 0 } : Room) (va_Pc [.ref (a 0), .int num] (wPQ D [(cI, .int)] sz (wN cI a pt pd ab nw kp wy th (nI cN) (nI rN) tn))) (va_Qi (fun (zz : Int32) (_ : Unit) => zz = 0) (wB D [(cI, .int)] (va_A (wN cI a pt pd ab nw kp wy th (nI cN) (nI rN) tn) sz) (fun _ : Unit => (wN cI a pt pd ab nw kp wy num (nI cN) (nI rN) tn))) (va_A (wN cI a pt pd ab nw kp wy th (nI cN) (nI rN) tn) sz)) 0 0 (va_A (wN cI a pt pd ab nw kp wy th (nI cN) (nI rN) tn) sz) := by
  refine mQ_of (by decide) rfl (Nat.le_of_ble_eq_true rfl) ?_
  intro p e s m below meth c hx hb hr hml hown hin hts hlocks hsz hP hK hN hD hA hS ls hl
  have hown : s.vm.findClass RX2 = some m.cls := hown
  have hl : lv_has ls 2 [(0, .ref (a 0)), (1, .int num)] := hl
  have hP : va_P D vwCl (wN cI a pt pd ab nw kp wy th (nI cN) (nI rN) tn) s.heap := hP
  refine lv_aload_n hx hb dX2_isNot_0 rfl (lv_at hl 0 rfl) ?_
  refine lv_iload_n hx hb dX2_isNot_1 rfl (lv_at hl 1 rfl) ?_
  refine va_put (D := D) (ci := 2) (v := .int num) (ty := .int) (C := RX2) (T := TX2) (N := 10) hx hb hts iw_X2_isNot_X2 tyX2 tyX2_ok nmX2 hown hK hP hD hS 0 rfl rfl 0 (by decide) (hts (.fieldLink RX2 35 "MarbleRampsModel" "thrown" "I") (mg 1 rfl)) (fun _ h9 => h9) rfl (by decide +kernel) rfl rfl (Nat.le_of_ble_eq_true rfl) dX2_isNot_2 (fun H locs hP hD hS => ?_)
  have hP : va_P D vwCl (wN cI a pt pd ab nw kp wy num (nI cN) (nI rN) tn) H := hP
  have hD : va_D (va_A (wN cI a pt pd ab nw kp wy th (nI cN) (nI rN) tn) sz) (wN cI a pt pd ab nw kp wy num (nI cN) (nI rN) tn) := hD
  refine lv_iconst (v := 0) hx hb dX2_isNot_5 (by decide) ?_
  exact eQz () hx hb hr hlocks hP hD hK hS dX2_isNot_6 (Or.inl rfl) (rfl)
theorem iw_X2_ok_X2 : ∀ w ∈ wsX20, w ∈ wsX2_ok := mem_pos [2, 3, 4, 5, 6, 7, 8, 9, 10, 11] (by decide +kernel)
set_option maxHeartbeats 4000000 in
set_option maxRecDepth 100000 in
theorem mX2_ok (l : Launch) (D : va_G) (cI : ClassId) (a : Nat → Nat) (pt pd ab nw kp wy : Nat → Int32) (th : Int32) (cN rN : Nat) (tn : Int32) (tl : Int32) (sz : Nat) : Met l yX2_ok wsX2_ok ({ frames := 0, cells := 0, slots := 0, locals := 0 } : Room) (va_Pc [.ref (a 0), .int tl] (wPQ D [(cI, .int)] sz (wN cI a pt pd ab nw kp wy th (nI cN) (nI rN) tn))) (va_Qi (fun (zz : Int32) (_ : Unit) => zz = tl) (wB D [(cI, .int)] (va_A (wN cI a pt pd ab nw kp wy th (nI cN) (nI rN) tn) sz) (fun _ : Unit => (wN cI a pt pd ab nw kp wy 0 (nI cN) (nI rN) tn))) (va_A (wN cI a pt pd ab nw kp wy th (nI cN) (nI rN) tn) sz)) 0 0 (va_A (wN cI a pt pd ab nw kp wy th (nI cN) (nI rN) tn) sz) := by
  refine mQ_of (by decide) rfl (Nat.le_of_ble_eq_true rfl) ?_
  intro p e s m below meth c hx hb hr hml hown hin hts hlocks hsz hP hK hN hD hA hS ls hl
  have hown : s.vm.findClass RX2 = some m.cls := hown
  have hl : lv_has ls 2 [(0, .ref (a 0)), (1, .int tl)] := hl
  have hP : va_P D vwCl (wN cI a pt pd ab nw kp wy th (nI cN) (nI rN) tn) s.heap := hP
  refine lv_aload_n hx hb dX2_ok_0 rfl (lv_at hl 0 rfl) ?_
  refine lv_iconst (v := 0) hx hb dX2_ok_1 (by decide) ?_
  refine va_put (D := D) (ci := 2) (v := .int 0) (ty := .int) (C := RX2) (T := TX2) (N := 10) hx hb hts iw_X2_ok_X2 tyX2 tyX2_ok nmX2 hown hK hP hD hS 0 rfl rfl 0 (by decide) (hts (.fieldLink RX2 35 "MarbleRampsModel" "thrown" "I") (mg 1 rfl)) (fun _ h9 => h9) rfl (by decide +kernel) rfl rfl (Nat.le_of_ble_eq_true rfl) dX2_ok_2 (fun H locs hP hD hS => ?_)
  have hP : va_P D vwCl (wN cI a pt pd ab nw kp wy 0 (nI cN) (nI rN) tn) H := hP
  have hD : va_D (va_A (wN cI a pt pd ab nw kp wy th (nI cN) (nI rN) tn) sz) (wN cI a pt pd ab nw kp wy 0 (nI cN) (nI rN) tn) := hD
  refine lv_iload_n hx hb dX2_ok_5 rfl (lv_at hl 1 rfl) ?_
  exact eQi () hx hb hr hlocks hP hD hK hS dX2_ok_6 (rfl)
set_option maxHeartbeats 4000000 in
set_option maxRecDepth 100000 in
theorem mJ6_signum_0f7a4 (l : Launch) (D : va_G) (cI : ClassId)  (vv : Int32) : Met l yJ6_signum_0f7a4 wsJ6_signum_0f7a4 ({ frames := 0, cells := 0, slots := 0, locals := 0 } : Room) (va_Pc [.int vv] (wPR D [(cI, .int)] [])) (vp_Si (fun zz : Int32 => zz = sg vv)) 0 0 (fun _ => False) := by
  refine mR_of (by decide) rfl (Nat.le_of_ble_eq_true rfl) ?_
  intro p e s m below meth c hx hb hr hml hown hts hlocks hP hK hN ls hl
  have hown : s.vm.findClass RJ6 = some m.cls := hown
  have hl : lv_has ls 1 [(0, .int vv)] := hl
  refine lv_iload_n hx hb dJ6_signum_0f7a4_0 rfl (lv_at hl 0 rfl) ?_
  refine lv_bipush (v := 31) hx hb dJ6_signum_0f7a4_1 (by decide) ?_
  refine lv_ishr hx hb dJ6_signum_0f7a4_3 ?_
  refine lv_iload_n hx hb dJ6_signum_0f7a4_4 rfl (lv_at hl 0 rfl) ?_
  refine lv_ineg hx hb dJ6_signum_0f7a4_5 ?_
  refine lv_bipush (v := 31) hx hb dJ6_signum_0f7a4_6 (by decide) ?_
  refine lv_iushr (v := (((-vv)).toUInt32 >>> ((31 : Int32).toUInt32 &&& Int32.toUInt32 31)).toInt32) hx hb dJ6_signum_0f7a4_8 rfl ?_
  refine lv_ior hx hb dJ6_signum_0f7a4_9 ?_
  exact eRi hx hb hr hlocks dJ6_signum_0f7a4_10 (rfl)
theorem iw_X2_goes_X2 : ∀ w ∈ wsX20, w ∈ wsX2_goes := mem_pos [5, 6, 7, 8, 9, 10, 11, 12, 13, 14] (by decide +kernel)
set_option maxHeartbeats 4000000 in
set_option maxRecDepth 100000 in
theorem mX2_goes (l : Launch) (D : va_G) (cI : ClassId) (a : Nat → Nat) (pt pd ab nw kp wy : Nat → Int32) (th : Int32) (cN rN : Nat) (tn : Int32) (at_ came : Int32) (hat : ∃ q, q < 72 ∧ at_ = nI q) (hz : ∀ q, q < 72 → pt q = 5 → ¬ pd q = 0) (sz : Nat) : Met l yX2_goes wsX2_goes ({ frames := 0, cells := 0, slots := 0, locals := 0 } : Room) (va_Pc [.ref (a 0), .int at_, .int came] (wPQ D [(cI, .int)] sz (wN cI a pt pd ab nw kp wy th (nI cN) (nI rN) tn))) (va_Qi (fun (zz : Int32) (_ : Unit) => zz = (mGo pt pd nw tn at_.toNatClampNeg came).1) (wB D [(cI, .int)] (va_A (wN cI a pt pd ab nw kp wy th (nI cN) (nI rN) tn) sz) (fun _ : Unit => (wN cI a pt pd ab ((mGo pt pd nw tn at_.toNatClampNeg came).2.1) kp wy th (nI cN) (nI rN) ((mGo pt pd nw tn at_.toNatClampNeg came).2.2)))) (va_A (wN cI a pt pd ab nw kp wy th (nI cN) (nI rN) tn) sz)) 0 0 (va_A (wN cI a pt pd ab nw kp wy th (nI cN) (nI rN) tn) sz) := by
  refine mQ_of (by decide) rfl (Nat.le_of_ble_eq_true rfl) ?_
  intro p e s m below meth c hx hb hr hml hown hin hts hlocks hsz hP hK hN hD hA hS ls hl
  have hown : s.vm.findClass RX2 = some m.cls := hown
  have hl : lv_has ls 4 [(0, .ref (a 0)), (1, .int at_), (2, .int came)] := hl
  have hP : va_P D vwCl (wN cI a pt pd ab nw kp wy th (nI cN) (nI rN) tn) s.heap := hP
  refine lv_aload_n hx hb dX2_goes_0 rfl (lv_at hl 0 rfl) ?_
  refine va_get (D := D) (ci := 2) (v := .ref (a 4)) (C := RX2) (T := TX2) (N := 10) hx hb hts iw_X2_goes_X2 hown hK hP 0 rfl rfl 6 (by decide) (hts (.fieldLink RX2 26 "MarbleRampsModel" "now" "[I") (mg 1 rfl)) (fun _ h9 => h9) rfl dX2_goes_1 ?_
  refine lv_iload_n hx hb dX2_goes_4 rfl (lv_at hl 1 rfl) ?_
  refine va_iald hx hb hK hP 4 0 rfl rfl (in84 hat) dX2_goes_5 ?_
  refine lv_istore_n (lv' := [(3, .int (nw at_.toNatClampNeg)), (0, .ref (a 0)), (1, .int at_), (2, .int came)]) hx hb dX2_goes_6 rfl hl (by decide) rfl (fun ls hl => ?_)
  refine lv_aload_n hx hb dX2_goes_7 rfl (lv_at hl 1 rfl) ?_
  refine va_get (D := D) (ci := 2) (v := .ref (a 1)) (C := RX2) (T := TX2) (N := 10) hx hb hts iw_X2_goes_X2 hown hK hP 0 rfl rfl 3 (by decide) (hts (.fieldLink RX2 16 "MarbleRampsModel" "part" "[I") (mg 2 rfl)) (fun _ h9 => h9) rfl dX2_goes_8 ?_
  refine lv_iload_n hx hb dX2_goes_11 rfl (lv_at hl 2 rfl) ?_
  refine va_iald hx hb hK hP 1 0 rfl rfl (in72 hat) dX2_goes_12 ?_
  rcases sw_1_5 (pt at_.toNatClampNeg) with c_1 | c_1 | c_1 | c_1 | c_1 | c_1
  · refine lv_tableIn (tgt := 48) (off := 35) hx hb dX2_goes_13 (by rw [c_1]; decide) (by rw [c_1]; decide) (by rw [c_1]; rfl) (by decide) ?_
    refine lv_iconst (v := (-1)) hx hb dX2_goes_48 (by decide) ?_
    have hP : va_P D vwCl (wN cI a pt pd ab ((mGo pt pd nw tn at_.toNatClampNeg came).2.1) kp wy th (nI cN) (nI rN) ((mGo pt pd nw tn at_.toNatClampNeg came).2.2)) s.heap := by simp [mGo, mRem, c_1]; exact hP
    have hD : va_D (va_A (wN cI a pt pd ab nw kp wy th (nI cN) (nI rN) tn) sz) (wN cI a pt pd ab ((mGo pt pd nw tn at_.toNatClampNeg came).2.1) kp wy th (nI cN) (nI rN) ((mGo pt pd nw tn at_.toNatClampNeg came).2.2)) := by simp [mGo, mRem, c_1]; exact hD
    exact eQi () hx hb hr hlocks hP hD hK hS dX2_goes_49 (by simp [mGo, mRem, c_1])
  · refine lv_tableIn (tgt := 50) (off := 37) hx hb dX2_goes_13 (by rw [c_1]; decide) (by rw [c_1]; decide) (by rw [c_1]; rfl) (by decide) ?_
    refine lv_iconst (v := 1) hx hb dX2_goes_50 (by decide) ?_
    have hP : va_P D vwCl (wN cI a pt pd ab ((mGo pt pd nw tn at_.toNatClampNeg came).2.1) kp wy th (nI cN) (nI rN) ((mGo pt pd nw tn at_.toNatClampNeg came).2.2)) s.heap := by simp [mGo, mRem, c_1]; exact hP
    have hD : va_D (va_A (wN cI a pt pd ab nw kp wy th (nI cN) (nI rN) tn) sz) (wN cI a pt pd ab ((mGo pt pd nw tn at_.toNatClampNeg came).2.1) kp wy th (nI cN) (nI rN) ((mGo pt pd nw tn at_.toNatClampNeg came).2.2)) := by simp [mGo, mRem, c_1]; exact hD
    exact eQi () hx hb hr hlocks hP hD hK hS dX2_goes_51 (by simp [mGo, mRem, c_1])
  · refine lv_tableIn (tgt := 52) (off := 39) hx hb dX2_goes_13 (by rw [c_1]; decide) (by rw [c_1]; decide) (by rw [c_1]; rfl) (by decide) ?_
    refine lv_aload_n hx hb dX2_goes_52 rfl (lv_at hl 1 rfl) ?_
    refine va_get (D := D) (ci := 2) (v := .ref (a 4)) (C := RX2) (T := TX2) (N := 10) hx hb hts iw_X2_goes_X2 hown hK hP 0 rfl rfl 6 (by decide) (hts (.fieldLink RX2 26 "MarbleRampsModel" "now" "[I") (mg 1 rfl)) (fun _ h9 => h9) rfl dX2_goes_53 ?_
    refine lv_iload_n hx hb dX2_goes_56 rfl (lv_at hl 2 rfl) ?_
    refine lv_iconst (v := 1) hx hb dX2_goes_57 (by decide) ?_
    refine lv_iload_n hx hb dX2_goes_58 rfl (lv_at hl 0 rfl) ?_
    refine lv_isub hx hb dX2_goes_59 ?_
    refine va_iast hx hb hK hP hD hS 4 0 rfl rfl (in84 hat) dX2_goes_60 (fun H locs hP hD hS => ?_)
    have hP : va_P D vwCl (wN cI a pt pd ab ((upd nw at_.toNatClampNeg (1 - (nw at_.toNatClampNeg)))) kp wy th (nI cN) (nI rN) tn) H := hP
    have hD : va_D (va_A (wN cI a pt pd ab nw kp wy th (nI cN) (nI rN) tn) sz) (wN cI a pt pd ab ((upd nw at_.toNatClampNeg (1 - (nw at_.toNatClampNeg)))) kp wy th (nI cN) (nI rN) tn) := hD
    refine lv_aload_n hx hb dX2_goes_61 rfl (lv_at hl 1 rfl) ?_
    refine lv_dup hx hb dX2_goes_62 rfl ?_
    refine va_get (D := D) (ci := 2) (v := .int tn) (C := RX2) (T := TX2) (N := 10) hx hb hts iw_X2_goes_X2 hown hK hP 0 rfl rfl 8 (by decide) (hts (.fieldLink RX2 55 "MarbleRampsModel" "turned" "I") (mg 3 rfl)) (fun _ h9 => h9) rfl dX2_goes_63 ?_
    refine lv_iconst (v := 1) hx hb dX2_goes_66 (by decide) ?_
    refine lv_iadd hx hb dX2_goes_67 ?_
    refine va_put (D := D) (ci := 2) (v := .int (tn + 1)) (ty := .int) (C := RX2) (T := TX2) (N := 10) hx hb hts iw_X2_goes_X2 tyX2 tyX2_ok nmX2 hown hK hP hD hS 0 rfl rfl 8 (by decide) (hts (.fieldLink RX2 55 "MarbleRampsModel" "turned" "I") (mg 3 rfl)) (fun _ h9 => h9) rfl (by decide +kernel) rfl rfl (Nat.le_of_ble_eq_true rfl) dX2_goes_68 (fun H locs hP hD hS => ?_)
    have hP : va_P D vwCl (wN cI a pt pd ab ((upd nw at_.toNatClampNeg (1 - (nw at_.toNatClampNeg)))) kp wy th (nI cN) (nI rN) ((tn + 1))) H := hP
    have hD : va_D (va_A (wN cI a pt pd ab nw kp wy th (nI cN) (nI rN) tn) sz) (wN cI a pt pd ab ((upd nw at_.toNatClampNeg (1 - (nw at_.toNatClampNeg)))) kp wy th (nI cN) (nI rN) ((tn + 1))) := hD
    refine lv_iload_n hx hb dX2_goes_71 rfl (lv_at hl 0 rfl) ?_
    refine lv_iconst (v := 1) hx hb dX2_goes_72 (by decide) ?_
    refine lv_icmp_ne (tgt := 80) hx hb dX2_goes_73 (by decide) (fun c_2 => ?_) (fun c_2 => ?_)
    · refine lv_iconst (v := (-1)) hx hb dX2_goes_80 (by decide) ?_
      have hP : va_P D vwCl (wN cI a pt pd ab ((mGo pt pd nw tn at_.toNatClampNeg came).2.1) kp wy th (nI cN) (nI rN) ((mGo pt pd nw tn at_.toNatClampNeg came).2.2)) H := by simp [mGo, mRem, c_1]; exact hP
      have hD : va_D (va_A (wN cI a pt pd ab nw kp wy th (nI cN) (nI rN) tn) sz) (wN cI a pt pd ab ((mGo pt pd nw tn at_.toNatClampNeg came).2.1) kp wy th (nI cN) (nI rN) ((mGo pt pd nw tn at_.toNatClampNeg came).2.2)) := by simp [mGo, mRem, c_1]; exact hD
      exact eQi () hx hb hr hlocks hP hD hK hS dX2_goes_81 (by simp [mGo, mRem, c_1, c_2])
    · refine lv_iconst (v := 1) hx hb dX2_goes_76 (by decide) ?_
      refine lv_goto (tgt := 81) hx hb dX2_goes_77 (by decide) ?_
      have hP : va_P D vwCl (wN cI a pt pd ab ((mGo pt pd nw tn at_.toNatClampNeg came).2.1) kp wy th (nI cN) (nI rN) ((mGo pt pd nw tn at_.toNatClampNeg came).2.2)) H := by simp [mGo, mRem, c_1]; exact hP
      have hD : va_D (va_A (wN cI a pt pd ab nw kp wy th (nI cN) (nI rN) tn) sz) (wN cI a pt pd ab ((mGo pt pd nw tn at_.toNatClampNeg came).2.1) kp wy th (nI cN) (nI rN) ((mGo pt pd nw tn at_.toNatClampNeg came).2.2)) := by simp [mGo, mRem, c_1]; exact hD
      exact eQi () hx hb hr hlocks hP hD hK hS dX2_goes_81 (by simp [mGo, mRem, c_1, c_2])
  · refine lv_tableIn (tgt := 82) (off := 69) hx hb dX2_goes_13 (by rw [c_1]; decide) (by rw [c_1]; decide) (by rw [c_1]; rfl) (by decide) ?_
    refine lv_iload_n hx hb dX2_goes_82 rfl (lv_at hl 3 rfl) ?_
    have hP : va_P D vwCl (wN cI a pt pd ab ((mGo pt pd nw tn at_.toNatClampNeg came).2.1) kp wy th (nI cN) (nI rN) ((mGo pt pd nw tn at_.toNatClampNeg came).2.2)) s.heap := by simp [mGo, mRem, c_1]; exact hP
    have hD : va_D (va_A (wN cI a pt pd ab nw kp wy th (nI cN) (nI rN) tn) sz) (wN cI a pt pd ab ((mGo pt pd nw tn at_.toNatClampNeg came).2.1) kp wy th (nI cN) (nI rN) ((mGo pt pd nw tn at_.toNatClampNeg came).2.2)) := by simp [mGo, mRem, c_1]; exact hD
    exact eQi () hx hb hr hlocks hP hD hK hS dX2_goes_83 (by simp [mGo, mRem, c_1])
  · refine lv_tableIn (tgt := 84) (off := 71) hx hb dX2_goes_13 (by rw [c_1]; decide) (by rw [c_1]; decide) (by rw [c_1]; rfl) (by decide) ?_
    refine lv_aload_n hx hb dX2_goes_84 rfl (lv_at hl 1 rfl) ?_
    refine va_get (D := D) (ci := 2) (v := .ref (a 4)) (C := RX2) (T := TX2) (N := 10) hx hb hts iw_X2_goes_X2 hown hK hP 0 rfl rfl 6 (by decide) (hts (.fieldLink RX2 26 "MarbleRampsModel" "now" "[I") (mg 1 rfl)) (fun _ h9 => h9) rfl dX2_goes_85 ?_
    refine lv_iload_n hx hb dX2_goes_88 rfl (lv_at hl 2 rfl) ?_
    refine lv_iload_n hx hb dX2_goes_89 rfl (lv_at hl 0 rfl) ?_
    refine lv_iconst (v := 1) hx hb dX2_goes_90 (by decide) ?_
    refine lv_iadd hx hb dX2_goes_91 ?_
    refine lv_aload_n hx hb dX2_goes_92 rfl (lv_at hl 1 rfl) ?_
    refine va_get (D := D) (ci := 2) (v := .ref (a 2)) (C := RX2) (T := TX2) (N := 10) hx hb hts iw_X2_goes_X2 hown hK hP 0 rfl rfl 4 (by decide) (hts (.fieldLink RX2 20 "MarbleRampsModel" "period" "[I") (mg 4 rfl)) (fun _ h9 => h9) rfl dX2_goes_93 ?_
    refine lv_iload_n hx hb dX2_goes_96 rfl (lv_at hl 2 rfl) ?_
    refine va_iald hx hb hK hP 2 0 rfl rfl (in72 hat) dX2_goes_97 ?_
    refine lv_irem hx hb dX2_goes_98 (hz _ (at_lt hat) c_1) ?_
    refine va_iast hx hb hK hP hD hS 4 0 rfl rfl (in84 hat) dX2_goes_99 (fun H locs hP hD hS => ?_)
    have hP : va_P D vwCl (wN cI a pt pd ab ((upd nw at_.toNatClampNeg (((nw at_.toNatClampNeg) + 1) - ((nw at_.toNatClampNeg) + 1) / (pd at_.toNatClampNeg) * (pd at_.toNatClampNeg)))) kp wy th (nI cN) (nI rN) tn) H := hP
    have hD : va_D (va_A (wN cI a pt pd ab nw kp wy th (nI cN) (nI rN) tn) sz) (wN cI a pt pd ab ((upd nw at_.toNatClampNeg (((nw at_.toNatClampNeg) + 1) - ((nw at_.toNatClampNeg) + 1) / (pd at_.toNatClampNeg) * (pd at_.toNatClampNeg)))) kp wy th (nI cN) (nI rN) tn) := hD
    refine lv_aload_n hx hb dX2_goes_100 rfl (lv_at hl 1 rfl) ?_
    refine va_get (D := D) (ci := 2) (v := .ref (a 4)) (C := RX2) (T := TX2) (N := 10) hx hb hts iw_X2_goes_X2 hown hK hP 0 rfl rfl 6 (by decide) (hts (.fieldLink RX2 26 "MarbleRampsModel" "now" "[I") (mg 1 rfl)) (fun _ h9 => h9) rfl dX2_goes_101 ?_
    refine lv_iload_n hx hb dX2_goes_104 rfl (lv_at hl 2 rfl) ?_
    refine va_iald hx hb hK hP 4 0 rfl rfl (in84 hat) dX2_goes_105 ?_
    rw [pk_us]
    refine lv_if_ne (tgt := 113) hx hb dX2_goes_106 (by decide) (fun c_3 => ?_) (fun c_3 => ?_)
    · refine lv_iconst (v := (-1)) hx hb dX2_goes_113 (by decide) ?_
      have hP : va_P D vwCl (wN cI a pt pd ab ((mGo pt pd nw tn at_.toNatClampNeg came).2.1) kp wy th (nI cN) (nI rN) ((mGo pt pd nw tn at_.toNatClampNeg came).2.2)) H := by simp [mGo, mRem, c_1]; exact hP
      have hD : va_D (va_A (wN cI a pt pd ab nw kp wy th (nI cN) (nI rN) tn) sz) (wN cI a pt pd ab ((mGo pt pd nw tn at_.toNatClampNeg came).2.1) kp wy th (nI cN) (nI rN) ((mGo pt pd nw tn at_.toNatClampNeg came).2.2)) := by simp [mGo, mRem, c_1]; exact hD
      exact eQi () hx hb hr hlocks hP hD hK hS dX2_goes_114 (by simp [mGo, mRem, c_1, c_3])
    · refine lv_iconst (v := 1) hx hb dX2_goes_109 (by decide) ?_
      refine lv_goto (tgt := 114) hx hb dX2_goes_110 (by decide) ?_
      have hP : va_P D vwCl (wN cI a pt pd ab ((mGo pt pd nw tn at_.toNatClampNeg came).2.1) kp wy th (nI cN) (nI rN) ((mGo pt pd nw tn at_.toNatClampNeg came).2.2)) H := by simp [mGo, mRem, c_1]; exact hP
      have hD : va_D (va_A (wN cI a pt pd ab nw kp wy th (nI cN) (nI rN) tn) sz) (wN cI a pt pd ab ((mGo pt pd nw tn at_.toNatClampNeg came).2.1) kp wy th (nI cN) (nI rN) ((mGo pt pd nw tn at_.toNatClampNeg came).2.2)) := by simp [mGo, mRem, c_1]; exact hD
      exact eQi () hx hb hr hlocks hP hD hK hS dX2_goes_114 (by simp [mGo, mRem, c_1, c_3])
  · refine lv_tableOut (tgt := 115) hx hb dX2_goes_13 c_1.1 (by decide) ?_
    refine lv_iconst (v := 0) hx hb dX2_goes_115 (by decide) ?_
    have hP : va_P D vwCl (wN cI a pt pd ab ((mGo pt pd nw tn at_.toNatClampNeg came).2.1) kp wy th (nI cN) (nI rN) ((mGo pt pd nw tn at_.toNatClampNeg came).2.2)) s.heap := by simp [mGo, mRem, c_1]; exact hP
    have hD : va_D (va_A (wN cI a pt pd ab nw kp wy th (nI cN) (nI rN) tn) sz) (wN cI a pt pd ab ((mGo pt pd nw tn at_.toNatClampNeg came).2.1) kp wy th (nI cN) (nI rN) ((mGo pt pd nw tn at_.toNatClampNeg came).2.2)) := by simp [mGo, mRem, c_1]; exact hD
    exact eQi () hx hb hr hlocks hP hD hK hS dX2_goes_116 (by simp [mGo, mRem, c_1])
theorem iw_X2_fall_X2 : ∀ w ∈ wsX20, w ∈ wsX2_fall := mem_pos [20, 21, 22, 23, 24, 25, 26, 27, 28, 29] (by decide +kernel)
set_option maxHeartbeats 4000000 in
set_option maxRecDepth 100000 in
theorem mX2_fall (l : Launch) (D : va_G) (cI : ClassId) (a : Nat → Nat) (pt pd ab nw kp wy : Nat → Int32) (th : Int32) (cN rN : Nat) (tn : Int32) (co : Int32) (hI : mInv cN rN pt pd ab) (hco : ∃ j, j < cN ∧ co = nI j) (sz : Nat) : Met l yX2_fall wsX2_fall ({ frames := 2, cells := 0, slots := 0, locals := 43 } : Room) (va_Pc [.ref (a 0), .int co] (wPQ D [(cI, .int)] sz (wN cI a pt pd ab nw kp wy th (nI cN) (nI rN) tn))) (va_Qi (fun (zz : Int32) (_ : Unit) => zz = (mFall pt pd cN rN nw co).1) (wB D [(cI, .int)] (va_A (wN cI a pt pd ab nw kp wy th (nI cN) (nI rN) tn) sz) (fun _ : Unit => (wN cI a pt pd ab ((mFall pt pd cN rN nw co).2.1) kp ((mFall pt pd cN rN nw co).2.2.2) th (nI cN) (nI rN) ((mFall pt pd cN rN nw co).2.2.1)))) (va_A (wN cI a pt pd ab nw kp wy th (nI cN) (nI rN) tn) sz)) 0 0 (va_A (wN cI a pt pd ab nw kp wy th (nI cN) (nI rN) tn) sz) := by
  refine mQ_of (by decide) rfl (Nat.le_of_ble_eq_true rfl) ?_
  intro p e s m below meth c hx hb hr hml hown hin hts hlocks hsz hP hK hN hD hA hS ls hl
  have hown : s.vm.findClass RX2 = some m.cls := hown
  have hl : lv_has ls 5 [(0, .ref (a 0)), (1, .int co)] := hl
  obtain ⟨⟨hc1, hc9⟩, hr8, hz, hab⟩ := id hI
  have hP : va_P D vwCl (wN cI a pt pd ab nw kp wy th (nI cN) (nI rN) tn) s.heap := hP
  refine lv_iload_n hx hb dX2_fall_0 rfl (lv_at hl 1 rfl) ?_
  refine lv_istore_n (lv' := [(2, .int co), (0, .ref (a 0)), (1, .int co)]) hx hb dX2_fall_1 rfl hl (by decide) rfl (fun ls hl => ?_)
  refine lv_iconst (v := 0) hx hb dX2_fall_2 (by decide) ?_
  refine lv_istore_n (lv' := [(3, .int 0), (2, .int co), (0, .ref (a 0)), (1, .int co)]) hx hb dX2_fall_3 rfl hl (by decide) rfl (fun ls hl => ?_)
  refine lv_aload_n hx hb dX2_fall_4 rfl (lv_at hl 2 rfl) ?_
  refine lv_iconst (v := 0) hx hb dX2_fall_5 (by decide) ?_
  refine va_put (D := D) (ci := 2) (v := .int 0) (ty := .int) (C := RX2) (T := TX2) (N := 10) hx hb hts iw_X2_fall_X2 tyX2 tyX2_ok nmX2 hown hK hP hD hS 0 rfl rfl 8 (by decide) (hts (.fieldLink RX2 55 "MarbleRampsModel" "turned" "I") (mg 1 rfl)) (fun _ h9 => h9) rfl (by decide +kernel) rfl rfl (Nat.le_of_ble_eq_true rfl) dX2_fall_6 (fun H locs hP hD hS => ?_)
  have hP : va_P D vwCl (wN cI a pt pd ab nw kp wy th (nI cN) (nI rN) 0) H := hP
  have hD : va_D (va_A (wN cI a pt pd ab nw kp wy th (nI cN) (nI rN) tn) sz) (wN cI a pt pd ab nw kp wy th (nI cN) (nI rN) 0) := hD
  refine lv_iconst (v := 0) hx hb dX2_fall_9 (by decide) ?_
  refine lv_istore (lv' := [(4, .int 0), (3, .int 0), (2, .int co), (0, .ref (a 0)), (1, .int co)]) hx hb dX2_fall_10 hl (by decide) rfl (fun ls hl => ?_)
  have L12 : ∀ (n k : Nat) (wv : Nat → Int32), k + n = 8 → (∀ j, j < k → wv j = -1) → ∀ (H : Heap) (locs : List Loc), va_P D vwCl (wN cI a pt pd ab nw kp wv th (nI cN) (nI rN) 0) H → va_D (va_A (wN cI a pt pd ab nw kp wy th (nI cN) (nI rN) tn) sz) (wN cI a pt pd ab nw kp wv th (nI cN) (nI rN) 0) → va_S (va_A (wN cI a pt pd ab nw kp wy th (nI cN) (nI rN) tn) sz) s.heap H locs → ∀ ls : Array Slot, lv_has ls 5 [(4, .int (nI k)), (3, .int 0), (2, .int co), (0, .ref (a 0)), (1, .int co)] → W p l e ({ frames := 2, cells := 0, slots := 0, locals := 43 } : Room) s m [.ref (a 0), .int co].toArray below meth c H locs 0 0 (MQ below (va_Qi (fun (zz : Int32) (_ : Unit) => zz = (mFall pt pd cN rN nw co).1) (wB D [(cI, .int)] (va_A (wN cI a pt pd ab nw kp wy th (nI cN) (nI rN) tn) sz) (fun _ : Unit => (wN cI a pt pd ab ((mFall pt pd cN rN nw co).2.1) kp ((mFall pt pd cN rN nw co).2.2.2) th (nI cN) (nI rN) ((mFall pt pd cN rN nw co).2.2.1)))) (va_A (wN cI a pt pd ab nw kp wy th (nI cN) (nI rN) tn) sz)) [.ref (a 0), .int co].toArray s 0 0 (va_A (wN cI a pt pd ab nw kp wy th (nI cN) (nI rN) tn) sz)) (F0 m 12 ls []) := by
    intro n
    induction n with
    | zero =>
      intro k wv hkn12 hg H locs hP hD hS ls hl
      refine lv_iload hx hb dX2_fall_12 (lv_at hl 0 rfl) ?_
      refine lv_bipush (v := 8) hx hb dX2_fall_14 (by decide) ?_
      refine lv_icmp_ge (tgt := 33) hx hb dX2_fall_16 (by decide) (fun c_1 => ?_) (fun c9 => absurd (by rw [show (8 : Int32) = nI 8 from rfl]; exact nI_le (by omega) (by omega)) c9)
      have hP : va_P D vwCl (wN cI a pt pd ab nw kp ((fun _ => -1)) th (nI cN) (nI rN) 0) H := hP.ext 6 rfl (fun j hj => hg j (by omega)) rfl
      have hD : va_D (va_A (wN cI a pt pd ab nw kp wy th (nI cN) (nI rN) tn) sz) (wN cI a pt pd ab nw kp ((fun _ => -1)) th (nI cN) (nI rN) 0) := hD.set (p := 6) rfl
      refine lv_iconst (v := 0) hx hb dX2_fall_33 (by decide) ?_
      refine lv_istore (lv' := [(4, .int 0), (3, .int 0), (2, .int co), (0, .ref (a 0)), (1, .int co)]) hx hb dX2_fall_34 hl (by decide) rfl (fun ls hl => ?_)
      have L36 : ∀ (n2 k2 : Nat) (ca : Int32) (came : Int32) (nv : Nat → Int32) (tv : Int32) (wv2 : Nat → Int32), k2 + n2 = rN → (∃ j, j < cN ∧ ca = nI j) → mFall pt pd cN rN nw co = mFallL pt pd cN n2 k2 ca came nv tv wv2 → ∀ (H : Heap) (locs : List Loc), va_P D vwCl (wN cI a pt pd ab nv kp wv2 th (nI cN) (nI rN) tv) H → va_D (va_A (wN cI a pt pd ab nw kp wy th (nI cN) (nI rN) tn) sz) (wN cI a pt pd ab nv kp wv2 th (nI cN) (nI rN) tv) → va_S (va_A (wN cI a pt pd ab nw kp wy th (nI cN) (nI rN) tn) sz) s.heap H locs → ∀ ls : Array Slot, lv_has ls 5 [(4, .int (nI k2)), (3, .int came), (2, .int ca), (0, .ref (a 0)), (1, .int co)] → W p l e ({ frames := 2, cells := 0, slots := 0, locals := 43 } : Room) s m [.ref (a 0), .int co].toArray below meth c H locs 0 0 (MQ below (va_Qi (fun (zz : Int32) (_ : Unit) => zz = (mFall pt pd cN rN nw co).1) (wB D [(cI, .int)] (va_A (wN cI a pt pd ab nw kp wy th (nI cN) (nI rN) tn) sz) (fun _ : Unit => (wN cI a pt pd ab ((mFall pt pd cN rN nw co).2.1) kp ((mFall pt pd cN rN nw co).2.2.2) th (nI cN) (nI rN) ((mFall pt pd cN rN nw co).2.2.1)))) (va_A (wN cI a pt pd ab nw kp wy th (nI cN) (nI rN) tn) sz)) [.ref (a 0), .int co].toArray s 0 0 (va_A (wN cI a pt pd ab nw kp wy th (nI cN) (nI rN) tn) sz)) (F0 m 36 ls []) := by
        intro n2
        induction n2 with
        | zero =>
          intro k2 ca came nv tv wv2 hkn36 hca hf H locs hP hD hS ls hl
          refine lv_iload hx hb dX2_fall_36 (lv_at hl 0 rfl) ?_
          refine lv_aload_n hx hb dX2_fall_38 rfl (lv_at hl 3 rfl) ?_
          refine va_get (D := D) (ci := 2) (v := .int (nI rN)) (C := RX2) (T := TX2) (N := 10) hx hb hts iw_X2_fall_X2 hown hK hP 0 rfl rfl 2 (by decide) (hts (.fieldLink RX2 13 "MarbleRampsModel" "rows" "I") (mg 3 rfl)) (fun _ h9 => h9) rfl dX2_fall_39 ?_
          refine lv_icmp_ge (tgt := 100) hx hb dX2_fall_42 (by decide) (fun c_2 => ?_) (fun c9 => absurd (nI_le (by omega) (by omega)) c9)
          refine lv_aload_n hx hb dX2_fall_100 rfl (lv_at hl 3 rfl) ?_
          refine va_get (D := D) (ci := 2) (v := .ref (a 4)) (C := RX2) (T := TX2) (N := 10) hx hb hts iw_X2_fall_X2 hown hK hP 0 rfl rfl 6 (by decide) (hts (.fieldLink RX2 26 "MarbleRampsModel" "now" "[I") (mg 4 rfl)) (fun _ h9 => h9) rfl dX2_fall_101 ?_
          refine lv_bipush (v := 72) hx hb dX2_fall_104 (by decide) ?_
          refine lv_iload_n hx hb dX2_fall_106 rfl (lv_at hl 2 rfl) ?_
          refine lv_iadd hx hb dX2_fall_107 ?_
          refine lv_dup2_11 hx hb dX2_fall_108 rfl rfl ?_
          refine va_iald hx hb hK hP 4 0 rfl rfl (inbin hc9 hca) dX2_fall_109 ?_
          refine lv_iconst (v := 1) hx hb dX2_fall_110 (by decide) ?_
          refine lv_iadd hx hb dX2_fall_111 ?_
          refine va_iast hx hb hK hP hD hS 4 0 rfl rfl (inbin hc9 hca) dX2_fall_112 (fun H locs hP hD hS => ?_)
          have hP : va_P D vwCl (wN cI a pt pd ab ((upd nv (72 + ca).toNatClampNeg ((nv (72 + ca).toNatClampNeg) + 1))) kp wv2 th (nI cN) (nI rN) tv) H := hP
          have hD : va_D (va_A (wN cI a pt pd ab nw kp wy th (nI cN) (nI rN) tn) sz) (wN cI a pt pd ab ((upd nv (72 + ca).toNatClampNeg ((nv (72 + ca).toNatClampNeg) + 1))) kp wv2 th (nI cN) (nI rN) tv) := hD
          refine lv_iload_n hx hb dX2_fall_113 rfl (lv_at hl 2 rfl) ?_
          have hP : va_P D vwCl (wN cI a pt pd ab ((mFall pt pd cN rN nw co).2.1) kp ((mFall pt pd cN rN nw co).2.2.2) th (nI cN) (nI rN) ((mFall pt pd cN rN nw co).2.2.1)) H := by rw [hf]; simp only [mFallL]; exact hP
          have hD : va_D (va_A (wN cI a pt pd ab nw kp wy th (nI cN) (nI rN) tn) sz) (wN cI a pt pd ab ((mFall pt pd cN rN nw co).2.1) kp ((mFall pt pd cN rN nw co).2.2.2) th (nI cN) (nI rN) ((mFall pt pd cN rN nw co).2.2.1)) := by rw [hf]; simp only [mFallL]; exact hD
          exact eQi () hx hb hr hlocks hP hD hK hS dX2_fall_114 (by rw [hf]; rfl)
        | succ n2 ih36 =>
          intro k2 ca came nv tv wv2 hkn36 hca hf H locs hP hD hS ls hl
          refine lv_iload hx hb dX2_fall_36 (lv_at hl 0 rfl) ?_
          refine lv_aload_n hx hb dX2_fall_38 rfl (lv_at hl 3 rfl) ?_
          refine va_get (D := D) (ci := 2) (v := .int (nI rN)) (C := RX2) (T := TX2) (N := 10) hx hb hts iw_X2_fall_X2 hown hK hP 0 rfl rfl 2 (by decide) (hts (.fieldLink RX2 13 "MarbleRampsModel" "rows" "I") (mg 3 rfl)) (fun _ h9 => h9) rfl dX2_fall_39 ?_
          refine lv_icmp_ge (tgt := 100) hx hb dX2_fall_42 (by decide) (fun c9 => absurd c9 (nI_ge (by omega) (by omega))) (fun c_3 => ?_)
          refine lv_aload_n hx hb dX2_fall_45 rfl (lv_at hl 3 rfl) ?_
          refine va_get (D := D) (ci := 2) (v := .ref (a 6)) (C := RX2) (T := TX2) (N := 10) hx hb hts iw_X2_fall_X2 hown hK hP 0 rfl rfl 9 (by decide) (hts (.fieldLink RX2 32 "MarbleRampsModel" "way" "[I") (mg 2 rfl)) (fun _ h9 => h9) rfl dX2_fall_46 ?_
          refine lv_iload hx hb dX2_fall_49 (lv_at hl 0 rfl) ?_
          refine lv_iload_n hx hb dX2_fall_51 rfl (lv_at hl 2 rfl) ?_
          refine va_iast hx hb hK hP hD hS 6 0 rfl rfl (vp_in_nI (by omega) (by decide)) dX2_fall_52 (fun H locs hP hD hS => ?_)
          rw [nI_clamp (show k2 < 2 ^ 31 by omega)] at hP hD
          have hP : va_P D vwCl (wN cI a pt pd ab nv kp ((upd wv2 k2 ca)) th (nI cN) (nI rN) tv) H := hP
          have hD : va_D (va_A (wN cI a pt pd ab nw kp wy th (nI cN) (nI rN) tn) sz) (wN cI a pt pd ab nv kp ((upd wv2 k2 ca)) th (nI cN) (nI rN) tv) := hD
          refine lv_aload_n hx hb dX2_fall_53 rfl (lv_at hl 3 rfl) ?_
          refine lv_bipush (v := 9) hx hb dX2_fall_54 (by decide) ?_
          refine lv_iload hx hb dX2_fall_56 (lv_at hl 0 rfl) ?_
          refine lv_imul hx hb dX2_fall_58 ?_
          refine lv_iload_n hx hb dX2_fall_59 rfl (lv_at hl 2 rfl) ?_
          refine lv_iadd hx hb dX2_fall_60 ?_
          refine lv_iload_n hx hb dX2_fall_61 rfl (lv_at hl 1 rfl) ?_
          refine kQVi (As := [.int ((9 * nI k2) + ca), .int came]) (rest := []) (wr := []) (W2 := (fun _ => (wN cI a pt pd ab ((mGo pt pd nv tv ((9 * nI k2) + ca).toNatClampNeg came).2.1) kp ((upd wv2 k2 ca)) th (nI cN) (nI rN) ((mGo pt pd nv tv ((9 * nI k2) + ca).toNatClampNeg came).2.2)))) ⟨hx, hb, hml, hown, hts⟩ (mX2_goes l D cI a pt pd ab nv kp (upd wv2 k2 ca) th cN rN tv ((9 * nI k2) + ca) came (mat (by omega) hc9 hca) hz _) (cwV 2 hts gX2_fall_X2_goes rfl rfl rfl (by decide +kernel) ⟨Nat.le_of_ble_eq_true rfl, Nat.le_of_ble_eq_true rfl⟩) hP hD hK hN hS hA [0, 1, 2, 3, 4, 5, 6] (by decide) rfl [] (by decide) rfl (by decide) [0, 1, 2, 3, 4, 5, 6] (by decide) (fun _ => rfl) [0] rfl rfl rfl rfl hl.1 rfl (Nat.le_of_ble_eq_true rfl) dX2_fall_62 ⟨Nat.le_of_ble_eq_true rfl, Nat.le_of_ble_eq_true rfl⟩ (fun r_4 u_4 H locs hr_4 hP hD hS => ?_)
          subst r_4
          have hP : va_P D vwCl (wN cI a pt pd ab ((mGo pt pd nv tv ((9 * nI k2) + ca).toNatClampNeg came).2.1) kp ((upd wv2 k2 ca)) th (nI cN) (nI rN) ((mGo pt pd nv tv ((9 * nI k2) + ca).toNatClampNeg came).2.2)) H := hP
          have hD : va_D (va_A (wN cI a pt pd ab nw kp wy th (nI cN) (nI rN) tn) sz) (wN cI a pt pd ab ((mGo pt pd nv tv ((9 * nI k2) + ca).toNatClampNeg came).2.1) kp ((upd wv2 k2 ca)) th (nI cN) (nI rN) ((mGo pt pd nv tv ((9 * nI k2) + ca).toNatClampNeg came).2.2)) := hD
          refine lv_istore_n (lv' := [(3, .int ((mGo pt pd nv tv ((9 * nI k2) + ca).toNatClampNeg came).1)), (4, .int (nI k2)), (2, .int ca), (0, .ref (a 0)), (1, .int co)]) hx hb dX2_fall_65 rfl hl (by decide) rfl (fun ls hl => ?_)
          refine lv_iload_n hx hb dX2_fall_66 rfl (lv_at hl 2 rfl) ?_
          refine lv_iload_n hx hb dX2_fall_67 rfl (lv_at hl 0 rfl) ?_
          refine lv_iadd hx hb dX2_fall_68 ?_
          refine lv_istore_n (lv' := [(2, .int (ca + (mGo pt pd nv tv ((9 * nI k2) + ca).toNatClampNeg came).1)), (3, .int ((mGo pt pd nv tv ((9 * nI k2) + ca).toNatClampNeg came).1)), (4, .int (nI k2)), (0, .ref (a 0)), (1, .int co)]) hx hb dX2_fall_69 rfl hl (by decide) rfl (fun ls hl => ?_)
          refine lv_aload_n hx hb dX2_fall_70 rfl (lv_at hl 3 rfl) ?_
          refine lv_iload_n hx hb dX2_fall_71 rfl (lv_at hl 0 rfl) ?_
          refine kRVi (As := [.int (ca + (mGo pt pd nv tv ((9 * nI k2) + ca).toNatClampNeg came).1)]) (rest := []) ⟨hx, hb, hml, hown, hts⟩ (mX2_isColumn l D cI a pt pd ab ((mGo pt pd nv tv ((9 * nI k2) + ca).toNatClampNeg came).2.1) kp (upd wv2 k2 ca) th cN rN ((mGo pt pd nv tv ((9 * nI k2) + ca).toNatClampNeg came).2.2) (ca + (mGo pt pd nv tv ((9 * nI k2) + ca).toNatClampNeg came).1)) (cwV 1 hts gX2_fall_X2_isColumn rfl rfl rfl (by decide +kernel) ⟨Nat.le_of_ble_eq_true rfl, Nat.le_of_ble_eq_true rfl⟩) hP hK hN [0, 1, 2, 3, 4, 5, 6] rfl [0] rfl rfl rfl rfl hl.1 rfl (Nat.le_of_ble_eq_true rfl) dX2_fall_72 ⟨Nat.zero_le _, Nat.zero_le _⟩ (fun r_5 hr_5 => ?_)
          subst r_5
          refine lv_if_eq (tgt := 81) hx hb dX2_fall_75 (by decide) (fun c_6 => ?_) (fun c_6 => ?_)
          · simp only [ne_eq, bi_e0, Bool.not_eq_false] at c_6
            refine lv_aload_n hx hb dX2_fall_81 rfl (lv_at hl 3 rfl) ?_
            refine va_get (D := D) (ci := 2) (v := .ref (a 4)) (C := RX2) (T := TX2) (N := 10) hx hb hts iw_X2_fall_X2 hown hK hP 0 rfl rfl 6 (by decide) (hts (.fieldLink RX2 26 "MarbleRampsModel" "now" "[I") (mg 4 rfl)) (fun _ h9 => h9) rfl dX2_fall_82 ?_
            refine lv_bipush (v := 83) hx hb dX2_fall_85 (by decide) ?_
            refine lv_dup2_11 hx hb dX2_fall_87 rfl rfl ?_
            refine va_iald hx hb hK hP 4 0 rfl rfl (vp_in_nI (n := 83) (by decide) (by decide)) dX2_fall_88 ?_
            rw [show (83 : Int32).toNatClampNeg = 83 from by decide]
            refine lv_iconst (v := 1) hx hb dX2_fall_89 (by decide) ?_
            refine lv_iadd hx hb dX2_fall_90 ?_
            refine va_iast hx hb hK hP hD hS 4 0 rfl rfl (vp_in_nI (n := 83) (by decide) (by decide)) dX2_fall_91 (fun H locs hP hD hS => ?_)
            rw [show (83 : Int32).toNatClampNeg = 83 from by decide] at hP hD
            have hP : va_P D vwCl (wN cI a pt pd ab ((upd ((mGo pt pd nv tv ((9 * nI k2) + ca).toNatClampNeg came).2.1) 83 ((((mGo pt pd nv tv ((9 * nI k2) + ca).toNatClampNeg came).2.1) 83) + 1))) kp ((upd wv2 k2 ca)) th (nI cN) (nI rN) ((mGo pt pd nv tv ((9 * nI k2) + ca).toNatClampNeg came).2.2)) H := hP
            have hD : va_D (va_A (wN cI a pt pd ab nw kp wy th (nI cN) (nI rN) tn) sz) (wN cI a pt pd ab ((upd ((mGo pt pd nv tv ((9 * nI k2) + ca).toNatClampNeg came).2.1) 83 ((((mGo pt pd nv tv ((9 * nI k2) + ca).toNatClampNeg came).2.1) 83) + 1))) kp ((upd wv2 k2 ca)) th (nI cN) (nI rN) ((mGo pt pd nv tv ((9 * nI k2) + ca).toNatClampNeg came).2.2)) := hD
            refine lv_iconst (v := (-1)) hx hb dX2_fall_92 (by decide) ?_
            have hP : va_P D vwCl (wN cI a pt pd ab ((mFall pt pd cN rN nw co).2.1) kp ((mFall pt pd cN rN nw co).2.2.2) th (nI cN) (nI rN) ((mFall pt pd cN rN nw co).2.2.1)) H := by rw [hf]; simp only [mFallL, c_6, Bool.false_eq_true, if_false]; exact hP
            have hD : va_D (va_A (wN cI a pt pd ab nw kp wy th (nI cN) (nI rN) tn) sz) (wN cI a pt pd ab ((mFall pt pd cN rN nw co).2.1) kp ((mFall pt pd cN rN nw co).2.2.2) th (nI cN) (nI rN) ((mFall pt pd cN rN nw co).2.2.1)) := by rw [hf]; simp only [mFallL, c_6, Bool.false_eq_true, if_false]; exact hD
            exact eQi () hx hb hr hlocks hP hD hK hS dX2_fall_93 (by rw [hf]; simp [mFallL, c_6])
          · simp only [ne_eq, bi_e0, Bool.not_eq_false] at c_6
            refine lv_goto (tgt := 94) hx hb dX2_fall_78 (by decide) ?_
            refine lv_iinc (v := (nI (k2 + 1))) (lv' := [(4, .int (nI (k2 + 1))), (2, .int (ca + (mGo pt pd nv tv ((9 * nI k2) + ca).toNatClampNeg came).1)), (3, .int ((mGo pt pd nv tv ((9 * nI k2) + ca).toNatClampNeg came).1)), (0, .ref (a 0)), (1, .int co)]) hx hb dX2_fall_94 hl (k := 2) rfl (nI_1 k2) (by decide) rfl (fun ls hl => ?_)
            refine lv_goto (tgt := 36) hx hb dX2_fall_97 (by decide) ?_
            exact ih36 (k2 + 1) (ca + (mGo pt pd nv tv ((9 * nI k2) + ca).toNatClampNeg came).1) ((mGo pt pd nv tv ((9 * nI k2) + ca).toNatClampNeg came).1) ((mGo pt pd nv tv ((9 * nI k2) + ca).toNatClampNeg came).2.1) ((mGo pt pd nv tv ((9 * nI k2) + ca).toNatClampNeg came).2.2) (upd wv2 k2 ca) (by omega) (mFrom_n c_6 hc1 (by omega)) (by rw [hf]; simp [mFallL, c_6]) _ _ hP hD hS ls (lv_sub hl [0, 2, 1, 3, 4] rfl)
      exact L36 rN 0 co 0 nw 0 (fun _ => -1) (by omega) hco rfl _ _ hP hD hS ls (lv_sub hl [0, 1, 2, 3, 4] rfl)
    | succ n ih12 =>
      intro k wv hkn12 hg H locs hP hD hS ls hl
      refine lv_iload hx hb dX2_fall_12 (lv_at hl 0 rfl) ?_
      refine lv_bipush (v := 8) hx hb dX2_fall_14 (by decide) ?_
      refine lv_icmp_ge (tgt := 33) hx hb dX2_fall_16 (by decide) (fun c9 => absurd c9 (by rw [show (8 : Int32) = nI 8 from rfl]; exact nI_ge (by omega) (by decide))) (fun c_7 => ?_)
      refine lv_aload_n hx hb dX2_fall_19 rfl (lv_at hl 3 rfl) ?_
      refine va_get (D := D) (ci := 2) (v := .ref (a 6)) (C := RX2) (T := TX2) (N := 10) hx hb hts iw_X2_fall_X2 hown hK hP 0 rfl rfl 9 (by decide) (hts (.fieldLink RX2 32 "MarbleRampsModel" "way" "[I") (mg 2 rfl)) (fun _ h9 => h9) rfl dX2_fall_20 ?_
      refine lv_iload hx hb dX2_fall_23 (lv_at hl 0 rfl) ?_
      refine lv_iconst (v := (-1)) hx hb dX2_fall_25 (by decide) ?_
      refine va_iast hx hb hK hP hD hS 6 0 rfl rfl (vp_in_nI (by omega) (by decide)) dX2_fall_26 (fun H locs hP hD hS => ?_)
      rw [nI_clamp (show k < 2 ^ 31 by omega)] at hP hD
      have hP : va_P D vwCl (wN cI a pt pd ab nw kp ((upd wv k (-1))) th (nI cN) (nI rN) 0) H := hP
      have hD : va_D (va_A (wN cI a pt pd ab nw kp wy th (nI cN) (nI rN) tn) sz) (wN cI a pt pd ab nw kp ((upd wv k (-1))) th (nI cN) (nI rN) 0) := hD
      refine lv_iinc (v := (nI (k + 1))) (lv' := [(4, .int (nI (k + 1))), (3, .int 0), (2, .int co), (0, .ref (a 0)), (1, .int co)]) hx hb dX2_fall_27 hl (k := 0) rfl (nI_1 k) (by decide) rfl (fun ls hl => ?_)
      refine lv_goto (tgt := 12) hx hb dX2_fall_30 (by decide) ?_
      exact ih12 (k + 1) (upd wv k (-1)) (by omega) (upd_fill hg) _ _ hP hD hS ls (lv_sub hl [0, 1, 2, 3, 4] rfl)
  exact L12 8 0 wy (by omega) (fun j hj => absurd hj (Nat.not_lt_zero j)) _ _ hP hD hS ls (lv_sub hl [0, 1, 2, 3, 4] rfl)
theorem iw_X2_runFrom_X2 : ∀ w ∈ wsX20, w ∈ wsX2_runFrom := mem_pos [29, 30, 31, 32, 33, 34, 35, 36, 37, 38] (by decide +kernel)
set_option maxHeartbeats 4000000 in
set_option maxRecDepth 100000 in
theorem mX2_runFrom (l : Launch) (D : va_G) (cI : ClassId) (a : Nat → Nat) (pt pd ab nw kp wy : Nat → Int32) (th : Int32) (cN rN : Nat) (tn : Int32) (hv most : Int32) (hI : mInv cN rN pt pd ab) (hh : hv = -1 ∨ hv = 0 ∨ hv = 1) (sz : Nat) : Met l yX2_runFrom wsX2_runFrom ({ frames := 3, cells := 0, slots := 0, locals := 67 } : Room) (va_Pc [.ref (a 0), .int hv, .int most] (wPQ D [(cI, .int)] sz (wN cI a pt pd ab nw kp wy th (nI cN) (nI rN) tn))) (va_Qi (fun (zz : Int32) (_ : Unit) => zz = (mRun pt pd ab cN rN nw tn wy hv most).1) (wB D [(cI, .int)] (va_A (wN cI a pt pd ab nw kp wy th (nI cN) (nI rN) tn) sz) (fun _ : Unit => (wN cI a pt pd ab ((mRun pt pd ab cN rN nw tn wy hv most).2.1) kp ((mRun pt pd ab cN rN nw tn wy hv most).2.2.2) th (nI cN) (nI rN) ((mRun pt pd ab cN rN nw tn wy hv most).2.2.1)))) (va_A (wN cI a pt pd ab nw kp wy th (nI cN) (nI rN) tn) sz)) 0 0 (va_A (wN cI a pt pd ab nw kp wy th (nI cN) (nI rN) tn) sz) := by
  refine mQ_of (by decide) rfl (Nat.le_of_ble_eq_true rfl) ?_
  intro p e s m below meth c hx hb hr hml hown hin hts hlocks hsz hP hK hN hD hA hS ls hl
  have hown : s.vm.findClass RX2 = some m.cls := hown
  have hl : lv_has ls 7 [(0, .ref (a 0)), (1, .int hv), (2, .int most)] := hl
  obtain ⟨⟨hc1, hc9⟩, hr8, hz, hab⟩ := id hI
  have hP : va_P D vwCl (wN cI a pt pd ab nw kp wy th (nI cN) (nI rN) tn) s.heap := hP
  refine lv_iload_n hx hb dX2_runFrom_0 rfl (lv_at hl 1 rfl) ?_
  refine lv_istore_n (lv' := [(3, .int hv), (0, .ref (a 0)), (1, .int hv), (2, .int most)]) hx hb dX2_runFrom_1 rfl hl (by decide) rfl (fun ls hl => ?_)
  refine lv_iconst (v := 0) hx hb dX2_runFrom_2 (by decide) ?_
  refine lv_istore (lv' := [(4, .int 0), (3, .int hv), (0, .ref (a 0)), (1, .int hv), (2, .int most)]) hx hb dX2_runFrom_3 hl (by decide) rfl (fun ls hl => ?_)
  have L5 : ∀ (n k : Nat) (h2 : Int32) (nv : Nat → Int32) (tv : Int32) (wv : Nat → Int32), k + n = most.toNatClampNeg → (h2 = -1 ∨ h2 = 0 ∨ h2 = 1) → mRun pt pd ab cN rN nw tn wy hv most = mRunL pt pd ab cN rN n k h2 nv tv wv → ∀ (H : Heap) (locs : List Loc), va_P D vwCl (wN cI a pt pd ab nv kp wv th (nI cN) (nI rN) tv) H → va_D (va_A (wN cI a pt pd ab nw kp wy th (nI cN) (nI rN) tn) sz) (wN cI a pt pd ab nv kp wv th (nI cN) (nI rN) tv) → va_S (va_A (wN cI a pt pd ab nw kp wy th (nI cN) (nI rN) tn) sz) s.heap H locs → ∀ ls : Array Slot, lv_has ls 7 [(4, .int (nI k)), (3, .int h2), (0, .ref (a 0)), (1, .int hv), (2, .int most)] → W p l e ({ frames := 3, cells := 0, slots := 0, locals := 67 } : Room) s m [.ref (a 0), .int hv, .int most].toArray below meth c H locs 0 0 (MQ below (va_Qi (fun (zz : Int32) (_ : Unit) => zz = (mRun pt pd ab cN rN nw tn wy hv most).1) (wB D [(cI, .int)] (va_A (wN cI a pt pd ab nw kp wy th (nI cN) (nI rN) tn) sz) (fun _ : Unit => (wN cI a pt pd ab ((mRun pt pd ab cN rN nw tn wy hv most).2.1) kp ((mRun pt pd ab cN rN nw tn wy hv most).2.2.2) th (nI cN) (nI rN) ((mRun pt pd ab cN rN nw tn wy hv most).2.2.1)))) (va_A (wN cI a pt pd ab nw kp wy th (nI cN) (nI rN) tn) sz)) [.ref (a 0), .int hv, .int most].toArray s 0 0 (va_A (wN cI a pt pd ab nw kp wy th (nI cN) (nI rN) tn) sz)) (F0 m 5 ls []) := by
    intro n
    induction n with
    | zero =>
      intro k h2 nv tv wv hkn5 hh2 hf H locs hP hD hS ls hl
      refine lv_iload_n hx hb dX2_runFrom_5 rfl (lv_at hl 1 rfl) ?_
      refine lv_if_lt (tgt := 99) hx hb dX2_runFrom_6 (by decide) (fun c_1 => ?_) (fun c_1 => ?_)
      · refine lv_iload hx hb dX2_runFrom_99 (lv_at hl 0 rfl) ?_
        have hP : va_P D vwCl (wN cI a pt pd ab ((mRun pt pd ab cN rN nw tn wy hv most).2.1) kp ((mRun pt pd ab cN rN nw tn wy hv most).2.2.2) th (nI cN) (nI rN) ((mRun pt pd ab cN rN nw tn wy hv most).2.2.1)) H := by rw [hf]; simp only [mRunL]; exact hP
        have hD : va_D (va_A (wN cI a pt pd ab nw kp wy th (nI cN) (nI rN) tn) sz) (wN cI a pt pd ab ((mRun pt pd ab cN rN nw tn wy hv most).2.1) kp ((mRun pt pd ab cN rN nw tn wy hv most).2.2.2) th (nI cN) (nI rN) ((mRun pt pd ab cN rN nw tn wy hv most).2.2.1)) := by rw [hf]; simp only [mRunL]; exact hD
        exact eQi () hx hb hr hlocks hP hD hK hS dX2_runFrom_101 (by rw [hf]; rfl)
      · refine lv_iload hx hb dX2_runFrom_9 (lv_at hl 0 rfl) ?_
        refine lv_iload_n hx hb dX2_runFrom_11 rfl (lv_at hl 4 rfl) ?_
        refine lv_icmp_ge (tgt := 99) hx hb dX2_runFrom_12 (by decide) (fun c_2 => ?_) (fun c9 => absurd (by rw [lc_le (by have := clampLt most; omega)]; omega) c9)
        refine lv_iload hx hb dX2_runFrom_99 (lv_at hl 0 rfl) ?_
        have hP : va_P D vwCl (wN cI a pt pd ab ((mRun pt pd ab cN rN nw tn wy hv most).2.1) kp ((mRun pt pd ab cN rN nw tn wy hv most).2.2.2) th (nI cN) (nI rN) ((mRun pt pd ab cN rN nw tn wy hv most).2.2.1)) H := by rw [hf]; simp only [mRunL]; exact hP
        have hD : va_D (va_A (wN cI a pt pd ab nw kp wy th (nI cN) (nI rN) tn) sz) (wN cI a pt pd ab ((mRun pt pd ab cN rN nw tn wy hv most).2.1) kp ((mRun pt pd ab cN rN nw tn wy hv most).2.2.2) th (nI cN) (nI rN) ((mRun pt pd ab cN rN nw tn wy hv most).2.2.1)) := by rw [hf]; simp only [mRunL]; exact hD
        exact eQi () hx hb hr hlocks hP hD hK hS dX2_runFrom_101 (by rw [hf]; rfl)
    | succ n ih5 =>
      intro k h2 nv tv wv hkn5 hh2 hf H locs hP hD hS ls hl
      refine lv_iload_n hx hb dX2_runFrom_5 rfl (lv_at hl 1 rfl) ?_
      refine lv_if_lt (tgt := 99) hx hb dX2_runFrom_6 (by decide) (fun c_3 => ?_) (fun c_3 => ?_)
      · refine lv_iload hx hb dX2_runFrom_99 (lv_at hl 0 rfl) ?_
        have hP : va_P D vwCl (wN cI a pt pd ab ((mRun pt pd ab cN rN nw tn wy hv most).2.1) kp ((mRun pt pd ab cN rN nw tn wy hv most).2.2.2) th (nI cN) (nI rN) ((mRun pt pd ab cN rN nw tn wy hv most).2.2.1)) H := by rw [hf]; simp only [mRunL, if_pos c_3]; exact hP
        have hD : va_D (va_A (wN cI a pt pd ab nw kp wy th (nI cN) (nI rN) tn) sz) (wN cI a pt pd ab ((mRun pt pd ab cN rN nw tn wy hv most).2.1) kp ((mRun pt pd ab cN rN nw tn wy hv most).2.2.2) th (nI cN) (nI rN) ((mRun pt pd ab cN rN nw tn wy hv most).2.2.1)) := by rw [hf]; simp only [mRunL, if_pos c_3]; exact hD
        exact eQi () hx hb hr hlocks hP hD hK hS dX2_runFrom_101 (by rw [hf]; simp [mRunL, c_3])
      · refine lv_iload hx hb dX2_runFrom_9 (lv_at hl 0 rfl) ?_
        refine lv_iload_n hx hb dX2_runFrom_11 rfl (lv_at hl 4 rfl) ?_
        refine lv_icmp_ge (tgt := 99) hx hb dX2_runFrom_12 (by decide) (fun c9 => absurd c9 (by rw [lc_le (by have := clampLt most; omega)]; omega)) (fun c_4 => ?_)
        refine lv_aload_n hx hb dX2_runFrom_15 rfl (lv_at hl 2 rfl) ?_
        refine va_get (D := D) (ci := 2) (v := .ref (a 4)) (C := RX2) (T := TX2) (N := 10) hx hb hts iw_X2_runFrom_X2 hown hK hP 0 rfl rfl 6 (by decide) (hts (.fieldLink RX2 26 "MarbleRampsModel" "now" "[I") (mg 1 rfl)) (fun _ h9 => h9) rfl dX2_runFrom_16 ?_
        refine lv_bipush (v := 81) hx hb dX2_runFrom_19 (by decide) ?_
        refine lv_iload_n hx hb dX2_runFrom_21 rfl (lv_at hl 1 rfl) ?_
        refine lv_iadd hx hb dX2_runFrom_22 ?_
        refine va_iald hx hb hK hP 4 0 rfl rfl (hop_in hh2 c_3).1 dX2_runFrom_23 ?_
        refine lv_if_le (tgt := 99) hx hb dX2_runFrom_24 (by decide) (fun c_5 => ?_) (fun c_5 => ?_)
        · refine lv_iload hx hb dX2_runFrom_99 (lv_at hl 0 rfl) ?_
          have hP : va_P D vwCl (wN cI a pt pd ab ((mRun pt pd ab cN rN nw tn wy hv most).2.1) kp ((mRun pt pd ab cN rN nw tn wy hv most).2.2.2) th (nI cN) (nI rN) ((mRun pt pd ab cN rN nw tn wy hv most).2.2.1)) H := by rw [hf]; simp only [mRunL, if_neg c_3, if_pos c_5]; exact hP
          have hD : va_D (va_A (wN cI a pt pd ab nw kp wy th (nI cN) (nI rN) tn) sz) (wN cI a pt pd ab ((mRun pt pd ab cN rN nw tn wy hv most).2.1) kp ((mRun pt pd ab cN rN nw tn wy hv most).2.2.2) th (nI cN) (nI rN) ((mRun pt pd ab cN rN nw tn wy hv most).2.2.1)) := by rw [hf]; simp only [mRunL, if_neg c_3, if_pos c_5]; exact hD
          exact eQi () hx hb hr hlocks hP hD hK hS dX2_runFrom_101 (by rw [hf]; simp [mRunL, c_3, c_5])
        · refine lv_aload_n hx hb dX2_runFrom_27 rfl (lv_at hl 2 rfl) ?_
          refine va_get (D := D) (ci := 2) (v := .ref (a 4)) (C := RX2) (T := TX2) (N := 10) hx hb hts iw_X2_runFrom_X2 hown hK hP 0 rfl rfl 6 (by decide) (hts (.fieldLink RX2 26 "MarbleRampsModel" "now" "[I") (mg 1 rfl)) (fun _ h9 => h9) rfl dX2_runFrom_28 ?_
          refine lv_bipush (v := 81) hx hb dX2_runFrom_31 (by decide) ?_
          refine lv_iload_n hx hb dX2_runFrom_33 rfl (lv_at hl 1 rfl) ?_
          refine lv_iadd hx hb dX2_runFrom_34 ?_
          refine lv_dup2_11 hx hb dX2_runFrom_35 rfl rfl ?_
          refine va_iald hx hb hK hP 4 0 rfl rfl (hop_in hh2 c_3).1 dX2_runFrom_36 ?_
          refine lv_iconst (v := 1) hx hb dX2_runFrom_37 (by decide) ?_
          refine lv_isub hx hb dX2_runFrom_38 ?_
          refine va_iast hx hb hK hP hD hS 4 0 rfl rfl (hop_in hh2 c_3).1 dX2_runFrom_39 (fun H locs hP hD hS => ?_)
          have hP : va_P D vwCl (wN cI a pt pd ab ((upd nv (81 + h2).toNatClampNeg ((nv (81 + h2).toNatClampNeg) - 1))) kp wv th (nI cN) (nI rN) tv) H := hP
          have hD : va_D (va_A (wN cI a pt pd ab nw kp wy th (nI cN) (nI rN) tn) sz) (wN cI a pt pd ab ((upd nv (81 + h2).toNatClampNeg ((nv (81 + h2).toNatClampNeg) - 1))) kp wv th (nI cN) (nI rN) tv) := hD
          refine lv_iinc (v := (nI (k + 1))) (lv' := [(4, .int (nI (k + 1))), (3, .int h2), (0, .ref (a 0)), (1, .int hv), (2, .int most)]) hx hb dX2_runFrom_40 hl (k := 0) rfl (nI_1 k) (by decide) rfl (fun ls hl => ?_)
          refine lv_aload_n hx hb dX2_runFrom_43 rfl (lv_at hl 2 rfl) ?_
          refine lv_aload_n hx hb dX2_runFrom_44 rfl (lv_at hl 2 rfl) ?_
          refine va_get (D := D) (ci := 2) (v := .ref (a 3)) (C := RX2) (T := TX2) (N := 10) hx hb hts iw_X2_runFrom_X2 hown hK hP 0 rfl rfl 5 (by decide) (hts (.fieldLink RX2 23 "MarbleRampsModel" "above" "[I") (mg 2 rfl)) (fun _ h9 => h9) rfl dX2_runFrom_45 ?_
          refine lv_iload_n hx hb dX2_runFrom_48 rfl (lv_at hl 1 rfl) ?_
          refine va_iald hx hb hK hP 3 0 rfl rfl (hop_in hh2 c_3).2.1 dX2_runFrom_49 ?_
          refine kQVi (As := [.int (ab h2.toNatClampNeg)]) (rest := []) (wr := []) (W2 := (fun _ => (wN cI a pt pd ab ((mFall pt pd cN rN (upd nv (81 + h2).toNatClampNeg ((nv (81 + h2).toNatClampNeg) - 1)) (ab h2.toNatClampNeg)).2.1) kp ((mFall pt pd cN rN (upd nv (81 + h2).toNatClampNeg ((nv (81 + h2).toNatClampNeg) - 1)) (ab h2.toNatClampNeg)).2.2.2) th (nI cN) (nI rN) ((mFall pt pd cN rN (upd nv (81 + h2).toNatClampNeg ((nv (81 + h2).toNatClampNeg) - 1)) (ab h2.toNatClampNeg)).2.2.1)))) ⟨hx, hb, hml, hown, hts⟩ (mX2_fall l D cI a pt pd ab (upd nv (81 + h2).toNatClampNeg ((nv (81 + h2).toNatClampNeg) - 1)) kp wv th cN rN tv (ab h2.toNatClampNeg) hI (hab _ (hop_in hh2 c_3).2.2) _) (cwV 1 hts gX2_runFrom_X2_fall rfl rfl rfl (by decide +kernel) ⟨Nat.le_of_ble_eq_true rfl, Nat.le_of_ble_eq_true rfl⟩) hP hD hK hN hS hA [0, 1, 2, 3, 4, 5, 6] (by decide) rfl [] (by decide) rfl (by decide) [0, 1, 2, 3, 4, 5, 6] (by decide) (fun _ => rfl) [0] rfl rfl rfl rfl hl.1 rfl (Nat.le_of_ble_eq_true rfl) dX2_runFrom_50 ⟨Nat.le_of_ble_eq_true rfl, Nat.le_of_ble_eq_true rfl⟩ (fun r_6 u_6 H locs hr_6 hP hD hS => ?_)
          subst r_6
          have hP : va_P D vwCl (wN cI a pt pd ab ((mFall pt pd cN rN (upd nv (81 + h2).toNatClampNeg ((nv (81 + h2).toNatClampNeg) - 1)) (ab h2.toNatClampNeg)).2.1) kp ((mFall pt pd cN rN (upd nv (81 + h2).toNatClampNeg ((nv (81 + h2).toNatClampNeg) - 1)) (ab h2.toNatClampNeg)).2.2.2) th (nI cN) (nI rN) ((mFall pt pd cN rN (upd nv (81 + h2).toNatClampNeg ((nv (81 + h2).toNatClampNeg) - 1)) (ab h2.toNatClampNeg)).2.2.1)) H := hP
          have hD : va_D (va_A (wN cI a pt pd ab nw kp wy th (nI cN) (nI rN) tn) sz) (wN cI a pt pd ab ((mFall pt pd cN rN (upd nv (81 + h2).toNatClampNeg ((nv (81 + h2).toNatClampNeg) - 1)) (ab h2.toNatClampNeg)).2.1) kp ((mFall pt pd cN rN (upd nv (81 + h2).toNatClampNeg ((nv (81 + h2).toNatClampNeg) - 1)) (ab h2.toNatClampNeg)).2.2.2) th (nI cN) (nI rN) ((mFall pt pd cN rN (upd nv (81 + h2).toNatClampNeg ((nv (81 + h2).toNatClampNeg) - 1)) (ab h2.toNatClampNeg)).2.2.1)) := hD
          refine lv_istore (lv' := [(5, .int ((mFall pt pd cN rN (upd nv (81 + h2).toNatClampNeg ((nv (81 + h2).toNatClampNeg) - 1)) (ab h2.toNatClampNeg)).1)), (4, .int (nI (k + 1))), (3, .int h2), (0, .ref (a 0)), (1, .int hv), (2, .int most)]) hx hb dX2_runFrom_53 hl (by decide) rfl (fun ls hl => ?_)
          refine lv_iconst (v := 2) hx hb dX2_runFrom_55 (by decide) ?_
          refine lv_iload hx hb dX2_runFrom_56 (lv_at hl 0 rfl) ?_
          refine lv_imul hx hb dX2_runFrom_58 ?_
          refine lv_aload_n hx hb dX2_runFrom_59 rfl (lv_at hl 3 rfl) ?_
          refine va_get (D := D) (ci := 2) (v := .int (nI cN)) (C := RX2) (T := TX2) (N := 10) hx hb hts iw_X2_runFrom_X2 hown hK hP 0 rfl rfl 1 (by decide) (hts (.fieldLink RX2 9 "MarbleRampsModel" "columns" "I") (mg 3 rfl)) (fun _ h9 => h9) rfl dX2_runFrom_60 ?_
          refine lv_isub hx hb dX2_runFrom_63 ?_
          refine lv_iconst (v := 1) hx hb dX2_runFrom_64 (by decide) ?_
          refine lv_iadd hx hb dX2_runFrom_65 ?_
          refine kRSi (As := [.int (((2 * (mFall pt pd cN rN (upd nv (81 + h2).toNatClampNeg ((nv (81 + h2).toNatClampNeg) - 1)) (ab h2.toNatClampNeg)).1) - nI cN) + 1)]) (rest := []) ⟨hx, hb, hml, hown, hts⟩ (mJ6_signum_0f7a4 l D cI (((2 * (mFall pt pd cN rN (upd nv (81 + h2).toNatClampNeg ((nv (81 + h2).toNatClampNeg) - 1)) (ab h2.toNatClampNeg)).1) - nI cN) + 1)) (va_cwS 1 hts gX2_runFrom_J6_signum_0f7a4 rfl rfl rfl (by decide +kernel) ⟨Nat.le_of_ble_eq_true rfl, Nat.le_of_ble_eq_true rfl⟩) hP hK hN [] rfl [0] rfl rfl hl.1 rfl (Nat.le_of_ble_eq_true rfl) dX2_runFrom_66 ⟨Nat.zero_le _, Nat.zero_le _⟩ (fun r_7 hr_7 => ?_)
          subst r_7
          refine lv_istore (lv' := [(6, .int (sg (((2 * (mFall pt pd cN rN (upd nv (81 + h2).toNatClampNeg ((nv (81 + h2).toNatClampNeg) - 1)) (ab h2.toNatClampNeg)).1) - nI cN) + 1))), (5, .int ((mFall pt pd cN rN (upd nv (81 + h2).toNatClampNeg ((nv (81 + h2).toNatClampNeg) - 1)) (ab h2.toNatClampNeg)).1)), (4, .int (nI (k + 1))), (3, .int h2), (0, .ref (a 0)), (1, .int hv), (2, .int most)]) hx hb dX2_runFrom_69 hl (by decide) rfl (fun ls hl => ?_)
          refine lv_iload hx hb dX2_runFrom_71 (lv_at hl 1 rfl) ?_
          refine lv_if_lt (tgt := 81) hx hb dX2_runFrom_73 (by decide) (fun c_8 => ?_) (fun c_8 => ?_)
          · refine lv_iconst (v := (-1)) hx hb dX2_runFrom_81 (by decide) ?_
            refine lv_goto (tgt := 95) hx hb dX2_runFrom_82 (by decide) ?_
            refine lv_istore_n (lv' := [(3, .int (-1)), (6, .int (sg (((2 * (mFall pt pd cN rN (upd nv (81 + h2).toNatClampNeg ((nv (81 + h2).toNatClampNeg) - 1)) (ab h2.toNatClampNeg)).1) - nI cN) + 1))), (5, .int ((mFall pt pd cN rN (upd nv (81 + h2).toNatClampNeg ((nv (81 + h2).toNatClampNeg) - 1)) (ab h2.toNatClampNeg)).1)), (4, .int (nI (k + 1))), (0, .ref (a 0)), (1, .int hv), (2, .int most)]) hx hb dX2_runFrom_95 rfl hl (by decide) rfl (fun ls hl => ?_)
            refine lv_goto (tgt := 5) hx hb dX2_runFrom_96 (by decide) ?_
            exact ih5 (k + 1) (-1) ((mFall pt pd cN rN (upd nv (81 + h2).toNatClampNeg ((nv (81 + h2).toNatClampNeg) - 1)) (ab h2.toNatClampNeg)).2.1) ((mFall pt pd cN rN (upd nv (81 + h2).toNatClampNeg ((nv (81 + h2).toNatClampNeg) - 1)) (ab h2.toNatClampNeg)).2.2.1) ((mFall pt pd cN rN (upd nv (81 + h2).toNatClampNeg ((nv (81 + h2).toNatClampNeg) - 1)) (ab h2.toNatClampNeg)).2.2.2) (by omega) (by decide) (by rw [hf]; simp [mRunL, mNext, c_3, c_5, c_8]) _ _ hP hD hS ls (lv_sub hl [3, 0, 4, 5, 6] rfl)
          · refine lv_iload hx hb dX2_runFrom_76 (lv_at hl 0 rfl) ?_
            refine lv_if_ne (tgt := 85) hx hb dX2_runFrom_78 (by decide) (fun c_9 => ?_) (fun c_9 => ?_)
            · refine lv_iload hx hb dX2_runFrom_85 (lv_at hl 0 rfl) ?_
              refine lv_if_ge (tgt := 94) hx hb dX2_runFrom_87 (by decide) (fun c_10 => ?_) (fun c_10 => ?_)
              · refine lv_iconst (v := 1) hx hb dX2_runFrom_94 (by decide) ?_
                refine lv_istore_n (lv' := [(3, .int 1), (6, .int (sg (((2 * (mFall pt pd cN rN (upd nv (81 + h2).toNatClampNeg ((nv (81 + h2).toNatClampNeg) - 1)) (ab h2.toNatClampNeg)).1) - nI cN) + 1))), (5, .int ((mFall pt pd cN rN (upd nv (81 + h2).toNatClampNeg ((nv (81 + h2).toNatClampNeg) - 1)) (ab h2.toNatClampNeg)).1)), (4, .int (nI (k + 1))), (0, .ref (a 0)), (1, .int hv), (2, .int most)]) hx hb dX2_runFrom_95 rfl hl (by decide) rfl (fun ls hl => ?_)
                refine lv_goto (tgt := 5) hx hb dX2_runFrom_96 (by decide) ?_
                exact ih5 (k + 1) 1 ((mFall pt pd cN rN (upd nv (81 + h2).toNatClampNeg ((nv (81 + h2).toNatClampNeg) - 1)) (ab h2.toNatClampNeg)).2.1) ((mFall pt pd cN rN (upd nv (81 + h2).toNatClampNeg ((nv (81 + h2).toNatClampNeg) - 1)) (ab h2.toNatClampNeg)).2.2.1) ((mFall pt pd cN rN (upd nv (81 + h2).toNatClampNeg ((nv (81 + h2).toNatClampNeg) - 1)) (ab h2.toNatClampNeg)).2.2.2) (by omega) (by decide) (by rw [hf]; simp [mRunL, mNext, c_3, c_5, c_8, c_9, c_10]) _ _ hP hD hS ls (lv_sub hl [3, 0, 4, 5, 6] rfl)
              · refine lv_iconst (v := 0) hx hb dX2_runFrom_90 (by decide) ?_
                refine lv_goto (tgt := 95) hx hb dX2_runFrom_91 (by decide) ?_
                refine lv_istore_n (lv' := [(3, .int 0), (6, .int (sg (((2 * (mFall pt pd cN rN (upd nv (81 + h2).toNatClampNeg ((nv (81 + h2).toNatClampNeg) - 1)) (ab h2.toNatClampNeg)).1) - nI cN) + 1))), (5, .int ((mFall pt pd cN rN (upd nv (81 + h2).toNatClampNeg ((nv (81 + h2).toNatClampNeg) - 1)) (ab h2.toNatClampNeg)).1)), (4, .int (nI (k + 1))), (0, .ref (a 0)), (1, .int hv), (2, .int most)]) hx hb dX2_runFrom_95 rfl hl (by decide) rfl (fun ls hl => ?_)
                refine lv_goto (tgt := 5) hx hb dX2_runFrom_96 (by decide) ?_
                exact ih5 (k + 1) 0 ((mFall pt pd cN rN (upd nv (81 + h2).toNatClampNeg ((nv (81 + h2).toNatClampNeg) - 1)) (ab h2.toNatClampNeg)).2.1) ((mFall pt pd cN rN (upd nv (81 + h2).toNatClampNeg ((nv (81 + h2).toNatClampNeg) - 1)) (ab h2.toNatClampNeg)).2.2.1) ((mFall pt pd cN rN (upd nv (81 + h2).toNatClampNeg ((nv (81 + h2).toNatClampNeg) - 1)) (ab h2.toNatClampNeg)).2.2.2) (by omega) (by decide) (by rw [hf]; simp [mRunL, mNext, c_3, c_5, c_8, c_9, c_10]) _ _ hP hD hS ls (lv_sub hl [3, 0, 4, 5, 6] rfl)
            · refine lv_iconst (v := (-1)) hx hb dX2_runFrom_81 (by decide) ?_
              refine lv_goto (tgt := 95) hx hb dX2_runFrom_82 (by decide) ?_
              refine lv_istore_n (lv' := [(3, .int (-1)), (6, .int (sg (((2 * (mFall pt pd cN rN (upd nv (81 + h2).toNatClampNeg ((nv (81 + h2).toNatClampNeg) - 1)) (ab h2.toNatClampNeg)).1) - nI cN) + 1))), (5, .int ((mFall pt pd cN rN (upd nv (81 + h2).toNatClampNeg ((nv (81 + h2).toNatClampNeg) - 1)) (ab h2.toNatClampNeg)).1)), (4, .int (nI (k + 1))), (0, .ref (a 0)), (1, .int hv), (2, .int most)]) hx hb dX2_runFrom_95 rfl hl (by decide) rfl (fun ls hl => ?_)
              refine lv_goto (tgt := 5) hx hb dX2_runFrom_96 (by decide) ?_
              exact ih5 (k + 1) (-1) ((mFall pt pd cN rN (upd nv (81 + h2).toNatClampNeg ((nv (81 + h2).toNatClampNeg) - 1)) (ab h2.toNatClampNeg)).2.1) ((mFall pt pd cN rN (upd nv (81 + h2).toNatClampNeg ((nv (81 + h2).toNatClampNeg) - 1)) (ab h2.toNatClampNeg)).2.2.1) ((mFall pt pd cN rN (upd nv (81 + h2).toNatClampNeg ((nv (81 + h2).toNatClampNeg) - 1)) (ab h2.toNatClampNeg)).2.2.2) (by omega) (by decide) (by rw [hf]; simp [mRunL, mNext, c_3, c_5, c_8, c_9]) _ _ hP hD hS ls (lv_sub hl [3, 0, 4, 5, 6] rfl)
  exact L5 most.toNatClampNeg 0 hv nw tn wy (by omega) hh rfl _ _ hP hD hS ls (lv_sub hl [0, 1, 2, 3, 4] rfl)
theorem iw_X2_placed_X2 : ∀ w ∈ wsX20, w ∈ wsX2_placed := mem_pos [3, 4, 5, 6, 7, 8, 9, 10, 11, 12] (by decide +kernel)
set_option maxHeartbeats 4000000 in
set_option maxRecDepth 100000 in
theorem mX2_placed (l : Launch) (D : va_G) (cI : ClassId) (a : Nat → Nat) (pt pd ab nw kp wy : Nat → Int32) (th : Int32) (cN rN : Nat) (tn : Int32) (rr kk np : Int32) (hat : ∃ q, q < 72 ∧ 9 * rr + kk = nI q) (sz : Nat) : Met l yX2_placed wsX2_placed ({ frames := 0, cells := 0, slots := 0, locals := 0 } : Room) (va_Pc [.ref (a 0), .int rr, .int kk, .int np] (wPQ D [(cI, .int)] sz (wN cI a pt pd ab nw kp wy th (nI cN) (nI rN) tn))) (va_Qi (fun (zz : Int32) (_ : Unit) => zz = pt (9 * rr + kk).toNatClampNeg) (wB D [(cI, .int)] (va_A (wN cI a pt pd ab nw kp wy th (nI cN) (nI rN) tn) sz) (fun _ : Unit => (wN cI a ((upd pt (9 * rr + kk).toNatClampNeg np)) pd ab ((upd nw (9 * rr + kk).toNatClampNeg 0)) kp wy th (nI cN) (nI rN) tn))) (va_A (wN cI a pt pd ab nw kp wy th (nI cN) (nI rN) tn) sz)) 0 0 (va_A (wN cI a pt pd ab nw kp wy th (nI cN) (nI rN) tn) sz) := by
  refine mQ_of (by decide) rfl (Nat.le_of_ble_eq_true rfl) ?_
  intro p e s m below meth c hx hb hr hml hown hin hts hlocks hsz hP hK hN hD hA hS ls hl
  have hown : s.vm.findClass RX2 = some m.cls := hown
  have hl : lv_has ls 6 [(0, .ref (a 0)), (1, .int rr), (2, .int kk), (3, .int np)] := hl
  have hP : va_P D vwCl (wN cI a pt pd ab nw kp wy th (nI cN) (nI rN) tn) s.heap := hP
  refine lv_bipush (v := 9) hx hb dX2_placed_0 (by decide) ?_
  refine lv_iload_n hx hb dX2_placed_2 rfl (lv_at hl 1 rfl) ?_
  refine lv_imul hx hb dX2_placed_3 ?_
  refine lv_iload_n hx hb dX2_placed_4 rfl (lv_at hl 2 rfl) ?_
  refine lv_iadd hx hb dX2_placed_5 ?_
  refine lv_istore (lv' := [(4, .int ((9 * rr) + kk)), (0, .ref (a 0)), (1, .int rr), (2, .int kk), (3, .int np)]) hx hb dX2_placed_6 hl (by decide) rfl (fun ls hl => ?_)
  refine lv_aload_n hx hb dX2_placed_8 rfl (lv_at hl 1 rfl) ?_
  refine va_get (D := D) (ci := 2) (v := .ref (a 1)) (C := RX2) (T := TX2) (N := 10) hx hb hts iw_X2_placed_X2 hown hK hP 0 rfl rfl 3 (by decide) (hts (.fieldLink RX2 16 "MarbleRampsModel" "part" "[I") (mg 1 rfl)) (fun _ h9 => h9) rfl dX2_placed_9 ?_
  refine lv_iload hx hb dX2_placed_12 (lv_at hl 0 rfl) ?_
  refine va_iald hx hb hK hP 1 0 rfl rfl (in72 hat) dX2_placed_14 ?_
  refine lv_istore (lv' := [(5, .int (pt ((9 * rr) + kk).toNatClampNeg)), (4, .int ((9 * rr) + kk)), (0, .ref (a 0)), (1, .int rr), (2, .int kk), (3, .int np)]) hx hb dX2_placed_15 hl (by decide) rfl (fun ls hl => ?_)
  refine lv_aload_n hx hb dX2_placed_17 rfl (lv_at hl 2 rfl) ?_
  refine va_get (D := D) (ci := 2) (v := .ref (a 1)) (C := RX2) (T := TX2) (N := 10) hx hb hts iw_X2_placed_X2 hown hK hP 0 rfl rfl 3 (by decide) (hts (.fieldLink RX2 16 "MarbleRampsModel" "part" "[I") (mg 1 rfl)) (fun _ h9 => h9) rfl dX2_placed_18 ?_
  refine lv_iload hx hb dX2_placed_21 (lv_at hl 1 rfl) ?_
  refine lv_iload_n hx hb dX2_placed_23 rfl (lv_at hl 5 rfl) ?_
  refine va_iast hx hb hK hP hD hS 1 0 rfl rfl (in72 hat) dX2_placed_24 (fun H locs hP hD hS => ?_)
  have hP : va_P D vwCl (wN cI a ((upd pt ((9 * rr) + kk).toNatClampNeg np)) pd ab nw kp wy th (nI cN) (nI rN) tn) H := hP
  have hD : va_D (va_A (wN cI a pt pd ab nw kp wy th (nI cN) (nI rN) tn) sz) (wN cI a ((upd pt ((9 * rr) + kk).toNatClampNeg np)) pd ab nw kp wy th (nI cN) (nI rN) tn) := hD
  refine lv_aload_n hx hb dX2_placed_25 rfl (lv_at hl 2 rfl) ?_
  refine va_get (D := D) (ci := 2) (v := .ref (a 4)) (C := RX2) (T := TX2) (N := 10) hx hb hts iw_X2_placed_X2 hown hK hP 0 rfl rfl 6 (by decide) (hts (.fieldLink RX2 26 "MarbleRampsModel" "now" "[I") (mg 2 rfl)) (fun _ h9 => h9) rfl dX2_placed_26 ?_
  refine lv_iload hx hb dX2_placed_29 (lv_at hl 1 rfl) ?_
  refine lv_iconst (v := 0) hx hb dX2_placed_31 (by decide) ?_
  refine va_iast hx hb hK hP hD hS 4 0 rfl rfl (in84 hat) dX2_placed_32 (fun H locs hP hD hS => ?_)
  have hP : va_P D vwCl (wN cI a ((upd pt ((9 * rr) + kk).toNatClampNeg np)) pd ab ((upd nw ((9 * rr) + kk).toNatClampNeg 0)) kp wy th (nI cN) (nI rN) tn) H := hP
  have hD : va_D (va_A (wN cI a pt pd ab nw kp wy th (nI cN) (nI rN) tn) sz) (wN cI a ((upd pt ((9 * rr) + kk).toNatClampNeg np)) pd ab ((upd nw ((9 * rr) + kk).toNatClampNeg 0)) kp wy th (nI cN) (nI rN) tn) := hD
  refine lv_iload hx hb dX2_placed_33 (lv_at hl 0 rfl) ?_
  exact eQi () hx hb hr hlocks hP hD hK hS dX2_placed_35 (rfl)
theorem iw_X2_inBins_X2 : ∀ w ∈ wsX20, w ∈ wsX2_inBins := mem_pos [3, 4, 5, 6, 7, 8, 9, 10, 11, 12] (by decide +kernel)
set_option maxHeartbeats 4000000 in
set_option maxRecDepth 100000 in
theorem mX2_inBins (l : Launch) (D : va_G) (cI : ClassId) (a : Nat → Nat) (pt pd ab nw kp wy : Nat → Int32) (th : Int32) (cN rN : Nat) (tn : Int32) (hc9 : cN ≤ 9) : Met l yX2_inBins wsX2_inBins ({ frames := 0, cells := 0, slots := 0, locals := 0 } : Room) (va_Pc [.ref (a 0)] (wPR D [(cI, .int)] (wN cI a pt pd ab nw kp wy th (nI cN) (nI rN) tn))) (vp_Si (fun zz : Int32 => zz = mSum nw cN)) 0 0 (fun _ => False) := by
  refine mR_of (by decide) rfl (Nat.le_of_ble_eq_true rfl) ?_
  intro p e s m below meth c hx hb hr hml hown hts hlocks hP hK hN ls hl
  have hown : s.vm.findClass RX2 = some m.cls := hown
  have hl : lv_has ls 3 [(0, .ref (a 0))] := hl
  refine lv_iconst (v := 0) hx hb dX2_inBins_0 (by decide) ?_
  refine lv_istore_n (lv' := [(1, .int 0), (0, .ref (a 0))]) hx hb dX2_inBins_1 rfl hl (by decide) rfl (fun ls hl => ?_)
  refine lv_iconst (v := 0) hx hb dX2_inBins_2 (by decide) ?_
  refine lv_istore_n (lv' := [(2, .int 0), (1, .int 0), (0, .ref (a 0))]) hx hb dX2_inBins_3 rfl hl (by decide) rfl (fun ls hl => ?_)
  have L4 : ∀ (n k : Nat) (t : Int32), k + n = cN → mSum nw cN = mSumL nw n k t → ∀ ls : Array Slot, lv_has ls 3 [(2, .int (nI k)), (1, .int t), (0, .ref (a 0))] → W p l e ({ frames := 0, cells := 0, slots := 0, locals := 0 } : Room) s m [.ref (a 0)].toArray below meth c s.heap [] 0 0 (MQ below (vp_Si (fun zz : Int32 => zz = mSum nw cN)) [.ref (a 0)].toArray s 0 0 (fun _ => False)) (F0 m 4 ls []) := by
    intro n
    induction n with
    | zero =>
      intro k t hkn4 hf ls hl
      refine lv_iload_n hx hb dX2_inBins_4 rfl (lv_at hl 0 rfl) ?_
      refine lv_aload_n hx hb dX2_inBins_5 rfl (lv_at hl 2 rfl) ?_
      refine va_get (D := D) (ci := 2) (v := .int (nI cN)) (C := RX2) (T := TX2) (N := 10) hx hb hts iw_X2_inBins_X2 hown hK hP 0 rfl rfl 1 (by decide) (hts (.fieldLink RX2 9 "MarbleRampsModel" "columns" "I") (mg 1 rfl)) (fun _ h9 => h9) rfl dX2_inBins_6 ?_
      refine lv_icmp_ge (tgt := 30) hx hb dX2_inBins_9 (by decide) (fun c_1 => ?_) (fun c9 => absurd (nI_le (by omega) (by omega)) c9)
      refine lv_iload_n hx hb dX2_inBins_30 rfl (lv_at hl 1 rfl) ?_
      exact eRi hx hb hr hlocks dX2_inBins_31 (by rw [hf]; rfl)
    | succ n ih4 =>
      intro k t hkn4 hf ls hl
      refine lv_iload_n hx hb dX2_inBins_4 rfl (lv_at hl 0 rfl) ?_
      refine lv_aload_n hx hb dX2_inBins_5 rfl (lv_at hl 2 rfl) ?_
      refine va_get (D := D) (ci := 2) (v := .int (nI cN)) (C := RX2) (T := TX2) (N := 10) hx hb hts iw_X2_inBins_X2 hown hK hP 0 rfl rfl 1 (by decide) (hts (.fieldLink RX2 9 "MarbleRampsModel" "columns" "I") (mg 1 rfl)) (fun _ h9 => h9) rfl dX2_inBins_6 ?_
      refine lv_icmp_ge (tgt := 30) hx hb dX2_inBins_9 (by decide) (fun c9 => absurd c9 (nI_ge (by omega) (by omega))) (fun c_2 => ?_)
      refine lv_iload_n hx hb dX2_inBins_12 rfl (lv_at hl 1 rfl) ?_
      refine lv_aload_n hx hb dX2_inBins_13 rfl (lv_at hl 2 rfl) ?_
      refine va_get (D := D) (ci := 2) (v := .ref (a 4)) (C := RX2) (T := TX2) (N := 10) hx hb hts iw_X2_inBins_X2 hown hK hP 0 rfl rfl 6 (by decide) (hts (.fieldLink RX2 26 "MarbleRampsModel" "now" "[I") (mg 2 rfl)) (fun _ h9 => h9) rfl dX2_inBins_14 ?_
      refine lv_bipush (v := 72) hx hb dX2_inBins_17 (by decide) ?_
      refine lv_iload_n hx hb dX2_inBins_19 rfl (lv_at hl 0 rfl) ?_
      refine lv_iadd hx hb dX2_inBins_20 ?_
      refine va_iald hx hb hK hP 4 0 rfl rfl (inbin hc9 ⟨k, by omega, rfl⟩) dX2_inBins_21 ?_
      refine lv_iadd hx hb dX2_inBins_22 ?_
      refine lv_istore_n (lv' := [(1, .int (t + (nw (72 + nI k).toNatClampNeg))), (2, .int (nI k)), (0, .ref (a 0))]) hx hb dX2_inBins_23 rfl hl (by decide) rfl (fun ls hl => ?_)
      refine lv_iinc (v := (nI (k + 1))) (lv' := [(2, .int (nI (k + 1))), (1, .int (t + (nw (72 + nI k).toNatClampNeg))), (0, .ref (a 0))]) hx hb dX2_inBins_24 hl (k := 1) rfl (nI_1 k) (by decide) rfl (fun ls hl => ?_)
      refine lv_goto (tgt := 4) hx hb dX2_inBins_27 (by decide) ?_
      exact ih4 (k + 1) (t + (nw (72 + nI k).toNatClampNeg)) (by omega) (by rw [hf]; simp [mSumL]) ls (lv_sub hl [0, 1, 2] rfl)
  exact L4 cN 0 0 (by omega) rfl ls (lv_sub hl [0, 1, 2] rfl)
theorem iw_X2_isRight_X2 : ∀ w ∈ wsX20, w ∈ wsX2_isRight := mem_pos [3, 4, 5, 6, 7, 8, 9, 10, 11, 12] (by decide +kernel)
set_option maxHeartbeats 4000000 in
set_option maxRecDepth 100000 in
theorem mX2_isRight (l : Launch) (D : va_G) (cI : ClassId) (a : Nat → Nat) (pt pd ab nw kp wy : Nat → Int32) (th : Int32) (cN rN : Nat) (tn : Int32) (rr kk : Int32) (hat : ∃ q, q < 72 ∧ 9 * rr + kk = nI q) : Met l yX2_isRight wsX2_isRight ({ frames := 0, cells := 0, slots := 0, locals := 0 } : Room) (va_Pc [.ref (a 0), .int rr, .int kk] (wPR D [(cI, .int)] (wN cI a pt pd ab nw kp wy th (nI cN) (nI rN) tn))) (vp_Si (fun zz : Int32 => zz = bi (mRight pt nw (9 * rr + kk)))) 0 0 (fun _ => False) := by
  refine mR_of (by decide) rfl (Nat.le_of_ble_eq_true rfl) ?_
  intro p e s m below meth c hx hb hr hml hown hts hlocks hP hK hN ls hl
  have hown : s.vm.findClass RX2 = some m.cls := hown
  have hl : lv_has ls 3 [(0, .ref (a 0)), (1, .int rr), (2, .int kk)] := hl
  refine lv_aload_n hx hb dX2_isRight_0 rfl (lv_at hl 0 rfl) ?_
  refine va_get (D := D) (ci := 2) (v := .ref (a 1)) (C := RX2) (T := TX2) (N := 10) hx hb hts iw_X2_isRight_X2 hown hK hP 0 rfl rfl 3 (by decide) (hts (.fieldLink RX2 16 "MarbleRampsModel" "part" "[I") (mg 1 rfl)) (fun _ h9 => h9) rfl dX2_isRight_1 ?_
  refine lv_bipush (v := 9) hx hb dX2_isRight_4 (by decide) ?_
  refine lv_iload_n hx hb dX2_isRight_6 rfl (lv_at hl 1 rfl) ?_
  refine lv_imul hx hb dX2_isRight_7 ?_
  refine lv_iload_n hx hb dX2_isRight_8 rfl (lv_at hl 2 rfl) ?_
  refine lv_iadd hx hb dX2_isRight_9 ?_
  refine va_iald hx hb hK hP 1 0 rfl rfl (in72 hat) dX2_isRight_10 ?_
  refine lv_iconst (v := 3) hx hb dX2_isRight_11 (by decide) ?_
  refine lv_icmp_ne (tgt := 34) hx hb dX2_isRight_12 (by decide) (fun c_1 => ?_) (fun c_1 => ?_)
  · refine lv_iconst (v := 0) hx hb dX2_isRight_34 (by decide) ?_
    exact eRz hx hb hr hlocks dX2_isRight_35 (Or.inl rfl) (by simp [bi, mRight, c_1])
  · refine lv_aload_n hx hb dX2_isRight_15 rfl (lv_at hl 0 rfl) ?_
    refine va_get (D := D) (ci := 2) (v := .ref (a 4)) (C := RX2) (T := TX2) (N := 10) hx hb hts iw_X2_isRight_X2 hown hK hP 0 rfl rfl 6 (by decide) (hts (.fieldLink RX2 26 "MarbleRampsModel" "now" "[I") (mg 2 rfl)) (fun _ h9 => h9) rfl dX2_isRight_16 ?_
    refine lv_bipush (v := 9) hx hb dX2_isRight_19 (by decide) ?_
    refine lv_iload_n hx hb dX2_isRight_21 rfl (lv_at hl 1 rfl) ?_
    refine lv_imul hx hb dX2_isRight_22 ?_
    refine lv_iload_n hx hb dX2_isRight_23 rfl (lv_at hl 2 rfl) ?_
    refine lv_iadd hx hb dX2_isRight_24 ?_
    refine va_iald hx hb hK hP 4 0 rfl rfl (in84 hat) dX2_isRight_25 ?_
    refine lv_iconst (v := 1) hx hb dX2_isRight_26 (by decide) ?_
    refine lv_icmp_ne (tgt := 34) hx hb dX2_isRight_27 (by decide) (fun c_2 => ?_) (fun c_2 => ?_)
    · refine lv_iconst (v := 0) hx hb dX2_isRight_34 (by decide) ?_
      exact eRz hx hb hr hlocks dX2_isRight_35 (Or.inl rfl) (by simp [bi, mRight, c_1, c_2])
    · refine lv_iconst (v := 1) hx hb dX2_isRight_30 (by decide) ?_
      refine lv_goto (tgt := 35) hx hb dX2_isRight_31 (by decide) ?_
      exact eRz hx hb hr hlocks dX2_isRight_35 (Or.inr rfl) (by simp [bi, mRight, c_1, c_2])
theorem iw_X2_counted_X2 : ∀ w ∈ wsX20, w ∈ wsX2_counted := mem_pos [3, 4, 5, 6, 7, 8, 9, 10, 11, 12] (by decide +kernel)
set_option maxHeartbeats 4000000 in
set_option maxRecDepth 100000 in
theorem mX2_counted (l : Launch) (D : va_G) (cI : ClassId) (a : Nat → Nat) (pt pd ab nw kp wy : Nat → Int32) (th : Int32) (cN rN : Nat) (tn : Int32) (rr kk : Int32) (hat : ∃ q, q < 72 ∧ 9 * rr + kk = nI q) : Met l yX2_counted wsX2_counted ({ frames := 0, cells := 0, slots := 0, locals := 0 } : Room) (va_Pc [.ref (a 0), .int rr, .int kk] (wPR D [(cI, .int)] (wN cI a pt pd ab nw kp wy th (nI cN) (nI rN) tn))) (vp_Si (fun zz : Int32 => zz = mCnt pt nw (9 * rr + kk))) 0 0 (fun _ => False) := by
  refine mR_of (by decide) rfl (Nat.le_of_ble_eq_true rfl) ?_
  intro p e s m below meth c hx hb hr hml hown hts hlocks hP hK hN ls hl
  have hown : s.vm.findClass RX2 = some m.cls := hown
  have hl : lv_has ls 3 [(0, .ref (a 0)), (1, .int rr), (2, .int kk)] := hl
  refine lv_aload_n hx hb dX2_counted_0 rfl (lv_at hl 0 rfl) ?_
  refine va_get (D := D) (ci := 2) (v := .ref (a 1)) (C := RX2) (T := TX2) (N := 10) hx hb hts iw_X2_counted_X2 hown hK hP 0 rfl rfl 3 (by decide) (hts (.fieldLink RX2 16 "MarbleRampsModel" "part" "[I") (mg 1 rfl)) (fun _ h9 => h9) rfl dX2_counted_1 ?_
  refine lv_bipush (v := 9) hx hb dX2_counted_4 (by decide) ?_
  refine lv_iload_n hx hb dX2_counted_6 rfl (lv_at hl 1 rfl) ?_
  refine lv_imul hx hb dX2_counted_7 ?_
  refine lv_iload_n hx hb dX2_counted_8 rfl (lv_at hl 2 rfl) ?_
  refine lv_iadd hx hb dX2_counted_9 ?_
  refine va_iald hx hb hK hP 1 0 rfl rfl (in72 hat) dX2_counted_10 ?_
  refine lv_iconst (v := 5) hx hb dX2_counted_11 (by decide) ?_
  refine lv_icmp_ne (tgt := 29) hx hb dX2_counted_12 (by decide) (fun c_1 => ?_) (fun c_1 => ?_)
  · refine lv_iconst (v := 0) hx hb dX2_counted_29 (by decide) ?_
    exact eRi hx hb hr hlocks dX2_counted_30 (by simp [mCnt, c_1])
  · refine lv_aload_n hx hb dX2_counted_15 rfl (lv_at hl 0 rfl) ?_
    refine va_get (D := D) (ci := 2) (v := .ref (a 4)) (C := RX2) (T := TX2) (N := 10) hx hb hts iw_X2_counted_X2 hown hK hP 0 rfl rfl 6 (by decide) (hts (.fieldLink RX2 26 "MarbleRampsModel" "now" "[I") (mg 2 rfl)) (fun _ h9 => h9) rfl dX2_counted_16 ?_
    refine lv_bipush (v := 9) hx hb dX2_counted_19 (by decide) ?_
    refine lv_iload_n hx hb dX2_counted_21 rfl (lv_at hl 1 rfl) ?_
    refine lv_imul hx hb dX2_counted_22 ?_
    refine lv_iload_n hx hb dX2_counted_23 rfl (lv_at hl 2 rfl) ?_
    refine lv_iadd hx hb dX2_counted_24 ?_
    refine va_iald hx hb hK hP 4 0 rfl rfl (in84 hat) dX2_counted_25 ?_
    refine lv_goto (tgt := 30) hx hb dX2_counted_26 (by decide) ?_
    exact eRi hx hb hr hlocks dX2_counted_30 (by simp [mCnt, c_1])
theorem iw_X2_togglesNow_X2 : ∀ w ∈ wsX20, w ∈ wsX2_togglesNow := mem_pos [2, 3, 4, 5, 6, 7, 8, 9, 10, 11] (by decide +kernel)
set_option maxHeartbeats 4000000 in
set_option maxRecDepth 100000 in
theorem mX2_togglesNow (l : Launch) (D : va_G) (cI : ClassId) (a : Nat → Nat) (pt pd ab nw kp wy : Nat → Int32) (th : Int32) (cN rN : Nat) (tn : Int32) : Met l yX2_togglesNow wsX2_togglesNow ({ frames := 0, cells := 0, slots := 0, locals := 0 } : Room) (va_Pc [.ref (a 0)] (wPR D [(cI, .int)] (wN cI a pt pd ab nw kp wy th (nI cN) (nI rN) tn))) (vp_Si (fun zz : Int32 => zz = mTog pt)) 0 0 (fun _ => False) := by
  refine mR_of (by decide) rfl (Nat.le_of_ble_eq_true rfl) ?_
  intro p e s m below meth c hx hb hr hml hown hts hlocks hP hK hN ls hl
  have hown : s.vm.findClass RX2 = some m.cls := hown
  have hl : lv_has ls 3 [(0, .ref (a 0))] := hl
  refine lv_iconst (v := 0) hx hb dX2_togglesNow_0 (by decide) ?_
  refine lv_istore_n (lv' := [(1, .int 0), (0, .ref (a 0))]) hx hb dX2_togglesNow_1 rfl hl (by decide) rfl (fun ls hl => ?_)
  refine lv_iconst (v := 0) hx hb dX2_togglesNow_2 (by decide) ?_
  refine lv_istore_n (lv' := [(2, .int 0), (1, .int 0), (0, .ref (a 0))]) hx hb dX2_togglesNow_3 rfl hl (by decide) rfl (fun ls hl => ?_)
  have L4 : ∀ (n k : Nat) (t : Int32), k + n = 72 → mTog pt = mTogL pt n k t → ∀ ls : Array Slot, lv_has ls 3 [(2, .int (nI k)), (1, .int t), (0, .ref (a 0))] → W p l e ({ frames := 0, cells := 0, slots := 0, locals := 0 } : Room) s m [.ref (a 0)].toArray below meth c s.heap [] 0 0 (MQ below (vp_Si (fun zz : Int32 => zz = mTog pt)) [.ref (a 0)].toArray s 0 0 (fun _ => False)) (F0 m 4 ls []) := by
    intro n
    induction n with
    | zero =>
      intro k t hkn4 hf ls hl
      refine lv_iload_n hx hb dX2_togglesNow_4 rfl (lv_at hl 0 rfl) ?_
      refine lv_bipush (v := 72) hx hb dX2_togglesNow_5 (by decide) ?_
      refine lv_icmp_ge (tgt := 34) hx hb dX2_togglesNow_7 (by decide) (fun c_1 => ?_) (fun c9 => absurd (by rw [show (72 : Int32) = nI 72 from rfl]; exact nI_le (by omega) (by omega)) c9)
      refine lv_iload_n hx hb dX2_togglesNow_34 rfl (lv_at hl 1 rfl) ?_
      exact eRi hx hb hr hlocks dX2_togglesNow_35 (by rw [hf]; rfl)
    | succ n ih4 =>
      intro k t hkn4 hf ls hl
      refine lv_iload_n hx hb dX2_togglesNow_4 rfl (lv_at hl 0 rfl) ?_
      refine lv_bipush (v := 72) hx hb dX2_togglesNow_5 (by decide) ?_
      refine lv_icmp_ge (tgt := 34) hx hb dX2_togglesNow_7 (by decide) (fun c9 => absurd c9 (by rw [show (72 : Int32) = nI 72 from rfl]; exact nI_ge (by omega) (by decide))) (fun c_2 => ?_)
      refine lv_iload_n hx hb dX2_togglesNow_10 rfl (lv_at hl 1 rfl) ?_
      refine lv_aload_n hx hb dX2_togglesNow_11 rfl (lv_at hl 2 rfl) ?_
      refine va_get (D := D) (ci := 2) (v := .ref (a 1)) (C := RX2) (T := TX2) (N := 10) hx hb hts iw_X2_togglesNow_X2 hown hK hP 0 rfl rfl 3 (by decide) (hts (.fieldLink RX2 16 "MarbleRampsModel" "part" "[I") (mg 1 rfl)) (fun _ h9 => h9) rfl dX2_togglesNow_12 ?_
      refine lv_iload_n hx hb dX2_togglesNow_15 rfl (lv_at hl 0 rfl) ?_
      refine va_iald hx hb hK hP 1 0 rfl rfl (vp_in_nI (by omega) (by decide)) dX2_togglesNow_16 ?_
      rw [nI_clamp (show k < 2 ^ 31 by omega)]
      refine lv_iconst (v := 3) hx hb dX2_togglesNow_17 (by decide) ?_
      refine lv_icmp_ne (tgt := 25) hx hb dX2_togglesNow_18 (by decide) (fun c_3 => ?_) (fun c_3 => ?_)
      · refine lv_iconst (v := 0) hx hb dX2_togglesNow_25 (by decide) ?_
        refine lv_iadd hx hb dX2_togglesNow_26 ?_
        refine lv_istore_n (lv' := [(1, .int (t + 0)), (2, .int (nI k)), (0, .ref (a 0))]) hx hb dX2_togglesNow_27 rfl hl (by decide) rfl (fun ls hl => ?_)
        refine lv_iinc (v := (nI (k + 1))) (lv' := [(2, .int (nI (k + 1))), (1, .int (t + 0)), (0, .ref (a 0))]) hx hb dX2_togglesNow_28 hl (k := 1) rfl (nI_1 k) (by decide) rfl (fun ls hl => ?_)
        refine lv_goto (tgt := 4) hx hb dX2_togglesNow_31 (by decide) ?_
        exact ih4 (k + 1) (t + 0) (by omega) (by rw [hf, mTogL]; first | rw [if_pos c_3] | rw [if_neg c_3]) ls (lv_sub hl [0, 1, 2] rfl)
      · refine lv_iconst (v := 1) hx hb dX2_togglesNow_21 (by decide) ?_
        refine lv_goto (tgt := 26) hx hb dX2_togglesNow_22 (by decide) ?_
        refine lv_iadd hx hb dX2_togglesNow_26 ?_
        refine lv_istore_n (lv' := [(1, .int (t + 1)), (2, .int (nI k)), (0, .ref (a 0))]) hx hb dX2_togglesNow_27 rfl hl (by decide) rfl (fun ls hl => ?_)
        refine lv_iinc (v := (nI (k + 1))) (lv' := [(2, .int (nI (k + 1))), (1, .int (t + 1)), (0, .ref (a 0))]) hx hb dX2_togglesNow_28 hl (k := 1) rfl (nI_1 k) (by decide) rfl (fun ls hl => ?_)
        refine lv_goto (tgt := 4) hx hb dX2_togglesNow_31 (by decide) ?_
        exact ih4 (k + 1) (t + 1) (by omega) (by rw [hf, mTogL]; first | rw [if_pos c_3] | rw [if_neg c_3]) ls (lv_sub hl [0, 1, 2] rfl)
  exact L4 72 0 0 (by omega) rfl ls (lv_sub hl [0, 1, 2] rfl)
theorem iw_X2_number_X2 : ∀ w ∈ wsX20, w ∈ wsX2_number := mem_pos [9, 10, 11, 12, 13, 14, 15, 16, 17, 18] (by decide +kernel)
set_option maxHeartbeats 4000000 in
set_option maxRecDepth 100000 in
theorem mX2_number (l : Launch) (D : va_G) (cI : ClassId) (a : Nat → Nat) (pt pd ab nw kp wy : Nat → Int32) (th : Int32) (cN rN : Nat) (tn : Int32) (rr : Int32) (hc9 : cN ≤ 9) (hrr : ∃ k, k < 8 ∧ rr = nI k) : Met l yX2_number wsX2_number ({ frames := 1, cells := 0, slots := 0, locals := 22 } : Room) (va_Pc [.ref (a 0), .int rr] (wPR D [(cI, .int)] (wN cI a pt pd ab nw kp wy th (nI cN) (nI rN) tn))) (vp_Si (fun zz : Int32 => zz = mNum pt nw cN rr)) 0 0 (fun _ => False) := by
  refine mR_of (by decide) rfl (Nat.le_of_ble_eq_true rfl) ?_
  intro p e s m below meth c hx hb hr hml hown hts hlocks hP hK hN ls hl
  have hown : s.vm.findClass RX2 = some m.cls := hown
  have hl : lv_has ls 5 [(0, .ref (a 0)), (1, .int rr)] := hl
  refine lv_iconst (v := 0) hx hb dX2_number_0 (by decide) ?_
  refine lv_istore_n (lv' := [(2, .int 0), (0, .ref (a 0)), (1, .int rr)]) hx hb dX2_number_1 rfl hl (by decide) rfl (fun ls hl => ?_)
  refine lv_iconst (v := 1) hx hb dX2_number_2 (by decide) ?_
  refine lv_istore_n (lv' := [(3, .int 1), (2, .int 0), (0, .ref (a 0)), (1, .int rr)]) hx hb dX2_number_3 rfl hl (by decide) rfl (fun ls hl => ?_)
  refine lv_iconst (v := 0) hx hb dX2_number_4 (by decide) ?_
  refine lv_istore (lv' := [(4, .int 0), (3, .int 1), (2, .int 0), (0, .ref (a 0)), (1, .int rr)]) hx hb dX2_number_5 hl (by decide) rfl (fun ls hl => ?_)
  have L7 : ∀ (n k : Nat) (t : Int32) (wt : Int32), k + n = cN → mNum pt nw cN rr = mNumL pt nw rr n k t wt → ∀ ls : Array Slot, lv_has ls 5 [(4, .int (nI k)), (3, .int wt), (2, .int t), (0, .ref (a 0)), (1, .int rr)] → W p l e ({ frames := 1, cells := 0, slots := 0, locals := 22 } : Room) s m [.ref (a 0), .int rr].toArray below meth c s.heap [] 0 0 (MQ below (vp_Si (fun zz : Int32 => zz = mNum pt nw cN rr)) [.ref (a 0), .int rr].toArray s 0 0 (fun _ => False)) (F0 m 7 ls []) := by
    intro n
    induction n with
    | zero =>
      intro k t wt hkn7 hf ls hl
      refine lv_iload hx hb dX2_number_7 (lv_at hl 0 rfl) ?_
      refine lv_aload_n hx hb dX2_number_9 rfl (lv_at hl 3 rfl) ?_
      refine va_get (D := D) (ci := 2) (v := .int (nI cN)) (C := RX2) (T := TX2) (N := 10) hx hb hts iw_X2_number_X2 hown hK hP 0 rfl rfl 1 (by decide) (hts (.fieldLink RX2 9 "MarbleRampsModel" "columns" "I") (mg 1 rfl)) (fun _ h9 => h9) rfl dX2_number_10 ?_
      refine lv_icmp_ge (tgt := 63) hx hb dX2_number_13 (by decide) (fun c_1 => ?_) (fun c9 => absurd (nI_le (by omega) (by omega)) c9)
      refine lv_iload_n hx hb dX2_number_63 rfl (lv_at hl 2 rfl) ?_
      exact eRi hx hb hr hlocks dX2_number_64 (by rw [hf]; rfl)
    | succ n ih7 =>
      intro k t wt hkn7 hf ls hl
      refine lv_iload hx hb dX2_number_7 (lv_at hl 0 rfl) ?_
      refine lv_aload_n hx hb dX2_number_9 rfl (lv_at hl 3 rfl) ?_
      refine va_get (D := D) (ci := 2) (v := .int (nI cN)) (C := RX2) (T := TX2) (N := 10) hx hb hts iw_X2_number_X2 hown hK hP 0 rfl rfl 1 (by decide) (hts (.fieldLink RX2 9 "MarbleRampsModel" "columns" "I") (mg 1 rfl)) (fun _ h9 => h9) rfl dX2_number_10 ?_
      refine lv_icmp_ge (tgt := 63) hx hb dX2_number_13 (by decide) (fun c9 => absurd c9 (nI_ge (by omega) (by omega))) (fun c_2 => ?_)
      refine lv_aload_n hx hb dX2_number_16 rfl (lv_at hl 3 rfl) ?_
      refine va_get (D := D) (ci := 2) (v := .ref (a 1)) (C := RX2) (T := TX2) (N := 10) hx hb hts iw_X2_number_X2 hown hK hP 0 rfl rfl 3 (by decide) (hts (.fieldLink RX2 16 "MarbleRampsModel" "part" "[I") (mg 2 rfl)) (fun _ h9 => h9) rfl dX2_number_17 ?_
      refine lv_bipush (v := 9) hx hb dX2_number_20 (by decide) ?_
      refine lv_iload_n hx hb dX2_number_22 rfl (lv_at hl 4 rfl) ?_
      refine lv_imul hx hb dX2_number_23 ?_
      refine lv_iload hx hb dX2_number_24 (lv_at hl 0 rfl) ?_
      refine lv_iadd hx hb dX2_number_26 ?_
      refine va_iald hx hb hK hP 1 0 rfl rfl (in72 (mat2 (by omega) hc9 hrr)) dX2_number_27 ?_
      refine lv_iconst (v := 3) hx hb dX2_number_28 (by decide) ?_
      refine lv_icmp_eq (tgt := 35) hx hb dX2_number_29 (by decide) (fun c_3 => ?_) (fun c_3 => ?_)
      · refine lv_iload_n hx hb dX2_number_35 rfl (lv_at hl 2 rfl) ?_
        refine lv_aload_n hx hb dX2_number_36 rfl (lv_at hl 3 rfl) ?_
        refine lv_iload_n hx hb dX2_number_37 rfl (lv_at hl 4 rfl) ?_
        refine lv_iload hx hb dX2_number_38 (lv_at hl 0 rfl) ?_
        refine kRVi (As := [.int rr, .int (nI k)]) (rest := [.int t]) ⟨hx, hb, hml, hown, hts⟩ (mX2_isRight l D cI a pt pd ab nw kp wy th cN rN tn rr (nI k) (mat2 (by omega) hc9 hrr)) (cwV 2 hts gX2_number_X2_isRight rfl rfl rfl (by decide +kernel) ⟨Nat.le_of_ble_eq_true rfl, Nat.le_of_ble_eq_true rfl⟩) hP hK hN [0, 1, 2, 3, 4, 5, 6] rfl [0] rfl rfl rfl rfl hl.1 rfl (Nat.le_of_ble_eq_true rfl) dX2_number_40 ⟨Nat.zero_le _, Nat.zero_le _⟩ (fun r_4 hr_4 => ?_)
        subst r_4
        refine lv_if_eq (tgt := 50) hx hb dX2_number_43 (by decide) (fun c_5 => ?_) (fun c_5 => ?_)
        · simp only [ne_eq, bi_e0, Bool.not_eq_false] at c_5
          refine lv_iconst (v := 0) hx hb dX2_number_50 (by decide) ?_
          refine lv_iadd hx hb dX2_number_51 ?_
          refine lv_istore_n (lv' := [(2, .int (t + 0)), (4, .int (nI k)), (3, .int wt), (0, .ref (a 0)), (1, .int rr)]) hx hb dX2_number_52 rfl hl (by decide) rfl (fun ls hl => ?_)
          refine lv_iload_n hx hb dX2_number_53 rfl (lv_at hl 2 rfl) ?_
          refine lv_iconst (v := 2) hx hb dX2_number_54 (by decide) ?_
          refine lv_imul hx hb dX2_number_55 ?_
          refine lv_istore_n (lv' := [(3, .int (wt * 2)), (2, .int (t + 0)), (4, .int (nI k)), (0, .ref (a 0)), (1, .int rr)]) hx hb dX2_number_56 rfl hl (by decide) rfl (fun ls hl => ?_)
          refine lv_iinc (v := (nI (k + 1))) (lv' := [(4, .int (nI (k + 1))), (3, .int (wt * 2)), (2, .int (t + 0)), (0, .ref (a 0)), (1, .int rr)]) hx hb dX2_number_57 hl (k := 2) rfl (nI_1 k) (by decide) rfl (fun ls hl => ?_)
          refine lv_goto (tgt := 7) hx hb dX2_number_60 (by decide) ?_
          exact ih7 (k + 1) (t + 0) (wt * 2) (by omega) (by rw [hf]; simp [mNumL, c_3, c_5]) ls (lv_sub hl [0, 1, 2, 3, 4] rfl)
        · simp only [ne_eq, bi_e0, Bool.not_eq_false] at c_5
          refine lv_iload_n hx hb dX2_number_46 rfl (lv_at hl 1 rfl) ?_
          refine lv_goto (tgt := 51) hx hb dX2_number_47 (by decide) ?_
          refine lv_iadd hx hb dX2_number_51 ?_
          refine lv_istore_n (lv' := [(2, .int (t + wt)), (4, .int (nI k)), (3, .int wt), (0, .ref (a 0)), (1, .int rr)]) hx hb dX2_number_52 rfl hl (by decide) rfl (fun ls hl => ?_)
          refine lv_iload_n hx hb dX2_number_53 rfl (lv_at hl 2 rfl) ?_
          refine lv_iconst (v := 2) hx hb dX2_number_54 (by decide) ?_
          refine lv_imul hx hb dX2_number_55 ?_
          refine lv_istore_n (lv' := [(3, .int (wt * 2)), (2, .int (t + wt)), (4, .int (nI k)), (0, .ref (a 0)), (1, .int rr)]) hx hb dX2_number_56 rfl hl (by decide) rfl (fun ls hl => ?_)
          refine lv_iinc (v := (nI (k + 1))) (lv' := [(4, .int (nI (k + 1))), (3, .int (wt * 2)), (2, .int (t + wt)), (0, .ref (a 0)), (1, .int rr)]) hx hb dX2_number_57 hl (k := 2) rfl (nI_1 k) (by decide) rfl (fun ls hl => ?_)
          refine lv_goto (tgt := 7) hx hb dX2_number_60 (by decide) ?_
          exact ih7 (k + 1) (t + wt) (wt * 2) (by omega) (by rw [hf]; simp [mNumL, c_3, c_5]) ls (lv_sub hl [0, 1, 2, 3, 4] rfl)
      · refine lv_goto (tgt := 57) hx hb dX2_number_32 (by decide) ?_
        refine lv_iinc (v := (nI (k + 1))) (lv' := [(4, .int (nI (k + 1))), (3, .int wt), (2, .int t), (0, .ref (a 0)), (1, .int rr)]) hx hb dX2_number_57 hl (k := 0) rfl (nI_1 k) (by decide) rfl (fun ls hl => ?_)
        refine lv_goto (tgt := 7) hx hb dX2_number_60 (by decide) ?_
        exact ih7 (k + 1) t wt (by omega) (by rw [hf]; simp [mNumL, c_3]) ls (lv_sub hl [0, 1, 2, 3, 4] rfl)
  exact L7 cN 0 0 1 (by omega) rfl ls (lv_sub hl [0, 1, 2, 3, 4] rfl)
