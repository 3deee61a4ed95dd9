set_option maxHeartbeats 4000000 in
set_option maxRecDepth 100000 in
theorem mX1_cell (l : Launch) (D : va_G) (cI : ClassId) (q : Nat) (f : Nat → Int32)(nn : Nat) (hnn : nn < 2 ^ 31) (i : Int32) : Met l yX1_cell wsX1_cell ({ frames := 0, cells := 0, slots := 0, locals := 0 } : Room) (va_Pc [.ref q, .int i] (wPR D [(cI, .int)] (wA cI q nn f))) (vp_Si (fun zz : Int32 => zz = xcl nn f i)) 0 0 (fun _ => False) := by
  refine mR_of (by decide) rfl (Nat.le_of_ble_eq_true rfl) ?_
  intro p e s m below meth c hx hb hr hml hown hts hlocks hP hK hN ls hl
  have hown : s.vm.findClass RX1 = some m.cls := hown
  have hl : lv_has ls 2 [(0, .ref q), (1, .int i)] := hl
  refine lv_iload_n hx hb dX1_cell_0 rfl (lv_at hl 1 rfl) ?_
  refine lv_if_lt (tgt := 16) hx hb dX1_cell_1 (by decide) (fun c_1 => ?_) (fun c_1 => ?_)
  · refine lv_iconst (v := 0) hx hb dX1_cell_16 (by decide) ?_
    exact eRi hx hb hr hlocks dX1_cell_17 (by simp [xcl, c_1])
  · refine lv_iload_n hx hb dX1_cell_4 rfl (lv_at hl 1 rfl) ?_
    refine lv_aload_n hx hb dX1_cell_5 rfl (lv_at hl 0 rfl) ?_
    refine va_alen hx hb hK hP 0 0 rfl rfl (v := (nI nn)) rfl dX1_cell_6 ?_
    refine lv_icmp_ge (tgt := 16) hx hb dX1_cell_7 (by decide) (fun c_2 => ?_) (fun c_2 => ?_)
    · refine lv_iconst (v := 0) hx hb dX1_cell_16 (by decide) ?_
      exact eRi hx hb hr hlocks dX1_cell_17 (by simp [xcl, c_1, c_2])
    · refine lv_aload_n hx hb dX1_cell_10 rfl (lv_at hl 0 rfl) ?_
      refine lv_iload_n hx hb dX1_cell_11 rfl (lv_at hl 1 rfl) ?_
      refine va_iald hx hb hK hP 0 0 rfl rfl (in_cmp hnn c_1 c_2) dX1_cell_12 ?_
      refine lv_goto (tgt := 17) hx hb dX1_cell_13 (by decide) ?_
      exact eRi hx hb hr hlocks dX1_cell_17 (by simp [xcl, c_1, c_2])
set_option maxHeartbeats 4000000 in
set_option maxRecDepth 100000 in
theorem mX1_setCell (l : Launch) (D : va_G) (cI : ClassId) (q : Nat) (f : Nat → Int32)(nn : Nat) (hnn : nn < 2 ^ 31) (i v : Int32) (sz : Nat) : Met l yX1_setCell wsX1_setCell ({ frames := 0, cells := 0, slots := 0, locals := 0 } : Room) (va_Pc [.ref q, .int i, .int v] (wPQ D [(cI, .int)] sz (wA cI q nn f))) (va_Qv (fun _ : Unit => True) (wB D [(cI, .int)] (va_A (wA cI q nn f) sz) (fun _ : Unit => (wA cI q nn ((xsc nn f i v))))) (va_A (wA cI q nn f) sz)) 0 0 (va_A (wA cI q nn f) sz) := by
  refine mQ_of (by decide) rfl (Nat.le_of_ble_eq_true rfl) ?_
  intro p e s m below meth c hx hb hr hml hown hin hts hlocks hsz hP hK hN hD hA hS ls hl
  have hown : s.vm.findClass RX1 = some m.cls := hown
  have hl : lv_has ls 3 [(0, .ref q), (1, .int i), (2, .int v)] := hl
  have hP : va_P D vwCl (wA cI q nn f) s.heap := hP
  refine lv_iload_n hx hb dX1_setCell_0 rfl (lv_at hl 1 rfl) ?_
  refine lv_if_lt (tgt := 14) hx hb dX1_setCell_1 (by decide) (fun c_1 => ?_) (fun c_1 => ?_)
  · have hP : va_P D vwCl (wA cI q nn ((xsc nn f i v))) s.heap := by simp only [xsc, if_pos c_1]; exact hP
    have hD : va_D (va_A (wA cI q nn f) sz) (wA cI q nn ((xsc nn f i v))) := by simp only [xsc, if_pos c_1]; exact hD
    exact eQv () hx hb hr hlocks hP hD hK hS dX1_setCell_14 (trivial)
  · refine lv_iload_n hx hb dX1_setCell_4 rfl (lv_at hl 1 rfl) ?_
    refine lv_aload_n hx hb dX1_setCell_5 rfl (lv_at hl 0 rfl) ?_
    refine va_alen hx hb hK hP 0 0 rfl rfl (v := (nI nn)) rfl dX1_setCell_6 ?_
    refine lv_icmp_ge (tgt := 14) hx hb dX1_setCell_7 (by decide) (fun c_2 => ?_) (fun c_2 => ?_)
    · have hP : va_P D vwCl (wA cI q nn ((xsc nn f i v))) s.heap := by simp only [xsc, if_neg c_1, if_pos c_2]; exact hP
      have hD : va_D (va_A (wA cI q nn f) sz) (wA cI q nn ((xsc nn f i v))) := by simp only [xsc, if_neg c_1, if_pos c_2]; exact hD
      exact eQv () hx hb hr hlocks hP hD hK hS dX1_setCell_14 (trivial)
    · refine lv_aload_n hx hb dX1_setCell_10 rfl (lv_at hl 0 rfl) ?_
      refine lv_iload_n hx hb dX1_setCell_11 rfl (lv_at hl 1 rfl) ?_
      refine lv_iload_n hx hb dX1_setCell_12 rfl (lv_at hl 2 rfl) ?_
      refine va_iast hx hb hK hP hD hS 0 0 rfl rfl (in_cmp hnn c_1 c_2) dX1_setCell_13 (fun H locs hP hD hS => ?_)
      have hP : va_P D vwCl (wA cI q nn ((upd f i.toNatClampNeg v))) H := hP
      have hD : va_D (va_A (wA cI q nn f) sz) (wA cI q nn ((upd f i.toNatClampNeg v))) := hD
      have hP : va_P D vwCl (wA cI q nn ((xsc nn f i v))) H := by simp only [xsc, if_neg c_1, if_neg c_2]; exact hP
      have hD : va_D (va_A (wA cI q nn f) sz) (wA cI q nn ((xsc nn f i v))) := by simp only [xsc, if_neg c_1, if_neg c_2]; exact hD
      exact eQv () hx hb hr hlocks hP hD hK hS dX1_setCell_14 (trivial)
theorem iw_X0_hasRow_X0 : ∀ w ∈ wsX00, w ∈ wsX0_hasRow := mem_pos [2, 3, 4, 5, 6, 7, 8, 9, 10] (by decide +kernel)
set_option maxHeartbeats 4000000 in
set_option maxRecDepth 100000 in
theorem mX0_hasRow (l : Launch) (D : va_G) (cI : ClassId) (a : Nat → Nat) (pa pe st bn hc hm : Nat → Int32) (C R lo : Int32) (i : Int32) : Met l yX0_hasRow wsX0_hasRow ({ frames := 0, cells := 0, slots := 0, locals := 0 } : Room) (va_Pc [.ref (a 0), .int i] (wPR D [(cI, .int)] (wM cI a pa pe st bn hc hm C R lo))) (vp_Si (fun zz : Int32 => zz = bi (xhas R i))) 0 0 (fun _ => False) := by
  refine mR_of (by decide) rfl (Nat.le_of_ble_eq_true rfl) ?_
  intro p e s m below meth c hx hb hr hml hown hts hlocks hP hK hN ls hl
  have hown : s.vm.findClass RX0 = some m.cls := hown
  have hl : lv_has ls 2 [(0, .ref (a 0)), (1, .int i)] := hl
  refine lv_iload_n hx hb dX0_hasRow_0 rfl (lv_at hl 1 rfl) ?_
  refine lv_if_lt (tgt := 16) hx hb dX0_hasRow_1 (by decide) (fun c_1 => ?_) (fun c_1 => ?_)
  · refine lv_iconst (v := 0) hx hb dX0_hasRow_16 (by decide) ?_
    exact eRz hx hb hr hlocks dX0_hasRow_17 (Or.inl rfl) (by simp [bi, xhas, c_1])
  · refine lv_iload_n hx hb dX0_hasRow_4 rfl (lv_at hl 1 rfl) ?_
    refine lv_aload_n hx hb dX0_hasRow_5 rfl (lv_at hl 0 rfl) ?_
    refine va_get (D := D) (ci := 0) (v := .int R) (C := RX0) (T := TX0) (N := 9) hx hb hts iw_X0_hasRow_X0 hown hK hP 0 rfl rfl 7 (by decide) (hts (.fieldLink RX0 38 "MarbleRamps$Machine" "rowCount" "I") (mg 1 rfl)) (fun _ h9 => h9) rfl dX0_hasRow_6 ?_
    refine lv_icmp_ge (tgt := 16) hx hb dX0_hasRow_9 (by decide) (fun c_2 => ?_) (fun c_2 => ?_)
    · refine lv_iconst (v := 0) hx hb dX0_hasRow_16 (by decide) ?_
      exact eRz hx hb hr hlocks dX0_hasRow_17 (Or.inl rfl) (by simp [bi, xhas, c_1, c_2])
    · refine lv_iconst (v := 1) hx hb dX0_hasRow_12 (by decide) ?_
      refine lv_goto (tgt := 17) hx hb dX0_hasRow_13 (by decide) ?_
      exact eRz hx hb hr hlocks dX0_hasRow_17 (Or.inr rfl) (by simp [bi, xhas, c_1, c_2])
theorem iw_X0_hasColumn_X0 : ∀ w ∈ wsX00, w ∈ wsX0_hasColumn := mem_pos [2, 3, 4, 5, 6, 7, 8, 9, 10] (by decide +kernel)
set_option maxHeartbeats 4000000 in
set_option maxRecDepth 100000 in
theorem mX0_hasColumn (l : Launch) (D : va_G) (cI : ClassId) (a : Nat → Nat) (pa pe st bn hc hm : Nat → Int32) (C R lo : Int32) (i : Int32) : Met l yX0_hasColumn wsX0_hasColumn ({ frames := 0, cells := 0, slots := 0, locals := 0 } : Room) (va_Pc [.ref (a 0), .int i] (wPR D [(cI, .int)] (wM cI a pa pe st bn hc hm C R lo))) (vp_Si (fun zz : Int32 => zz = bi (xhas C i))) 0 0 (fun _ => False) := by
  refine mR_of (by decide) rfl (Nat.le_of_ble_eq_true rfl) ?_
  intro p e s m below meth c hx hb hr hml hown hts hlocks hP hK hN ls hl
  have hown : s.vm.findClass RX0 = some m.cls := hown
  have hl : lv_has ls 2 [(0, .ref (a 0)), (1, .int i)] := hl
  refine lv_iload_n hx hb dX0_hasColumn_0 rfl (lv_at hl 1 rfl) ?_
  refine lv_if_lt (tgt := 16) hx hb dX0_hasColumn_1 (by decide) (fun c_1 => ?_) (fun c_1 => ?_)
  · refine lv_iconst (v := 0) hx hb dX0_hasColumn_16 (by decide) ?_
    exact eRz hx hb hr hlocks dX0_hasColumn_17 (Or.inl rfl) (by simp [bi, xhas, c_1])
  · refine lv_iload_n hx hb dX0_hasColumn_4 rfl (lv_at hl 1 rfl) ?_
    refine lv_aload_n hx hb dX0_hasColumn_5 rfl (lv_at hl 0 rfl) ?_
    refine va_get (D := D) (ci := 0) (v := .int C) (C := RX0) (T := TX0) (N := 9) hx hb hts iw_X0_hasColumn_X0 hown hK hP 0 rfl rfl 6 (by decide) (hts (.fieldLink RX0 34 "MarbleRamps$Machine" "columnCount" "I") (mg 1 rfl)) (fun _ h9 => h9) rfl dX0_hasColumn_6 ?_
    refine lv_icmp_ge (tgt := 16) hx hb dX0_hasColumn_9 (by decide) (fun c_2 => ?_) (fun c_2 => ?_)
    · refine lv_iconst (v := 0) hx hb dX0_hasColumn_16 (by decide) ?_
      exact eRz hx hb hr hlocks dX0_hasColumn_17 (Or.inl rfl) (by simp [bi, xhas, c_1, c_2])
    · refine lv_iconst (v := 1) hx hb dX0_hasColumn_12 (by decide) ?_
      refine lv_goto (tgt := 17) hx hb dX0_hasColumn_13 (by decide) ?_
      exact eRz hx hb hr hlocks dX0_hasColumn_17 (Or.inr rfl) (by simp [bi, xhas, c_1, c_2])
theorem iw_X0_placeOf_X0 : ∀ w ∈ wsX00, w ∈ wsX0_placeOf := mem_pos [2, 3, 4, 5, 6, 7, 8, 9, 10] (by decide +kernel)
set_option maxHeartbeats 4000000 in
set_option maxRecDepth 100000 in
theorem mX0_placeOf (l : Launch) (D : va_G) (cI : ClassId) (a : Nat → Nat) (pa pe st bn hc hm : Nat → Int32) (C R lo : Int32) (rr kk : Int32) : Met l yX0_placeOf wsX0_placeOf ({ frames := 0, cells := 0, slots := 0, locals := 0 } : Room) (va_Pc [.ref (a 0), .int rr, .int kk] (wPR D [(cI, .int)] (wM cI a pa pe st bn hc hm C R lo))) (vp_Si (fun zz : Int32 => zz = rr * C + kk)) 0 0 (fun _ => False) := by
  refine mR_of (by decide) rfl (Nat.le_of_ble_eq_true rfl) ?_
  intro p e s m below meth c hx hb hr hml hown hts hlocks hP hK hN ls hl
  have hown : s.vm.findClass RX0 = some m.cls := hown
  have hl : lv_has ls 3 [(0, .ref (a 0)), (1, .int rr), (2, .int kk)] := hl
  refine lv_iload_n hx hb dX0_placeOf_0 rfl (lv_at hl 1 rfl) ?_
  refine lv_aload_n hx hb dX0_placeOf_1 rfl (lv_at hl 0 rfl) ?_
  refine va_get (D := D) (ci := 0) (v := .int C) (C := RX0) (T := TX0) (N := 9) hx hb hts iw_X0_placeOf_X0 hown hK hP 0 rfl rfl 6 (by decide) (hts (.fieldLink RX0 34 "MarbleRamps$Machine" "columnCount" "I") (mg 1 rfl)) (fun _ h9 => h9) rfl dX0_placeOf_2 ?_
  refine lv_imul hx hb dX0_placeOf_5 ?_
  refine lv_iload_n hx hb dX0_placeOf_6 rfl (lv_at hl 2 rfl) ?_
  refine lv_iadd hx hb dX0_placeOf_7 ?_
  exact eRi hx hb hr hlocks dX0_placeOf_8 (rfl)
theorem iw_X0_partIn_X0 : ∀ w ∈ wsX00, w ∈ wsX0_partIn := mem_pos [5, 6, 7, 8, 9, 10, 11, 12, 13] (by decide +kernel)
set_option maxHeartbeats 4000000 in
set_option maxRecDepth 100000 in
theorem mX0_partIn (l : Launch) (D : va_G) (cI : ClassId) (a : Nat → Nat) (pa pe st bn hc hm : Nat → Int32) (C R lo : Int32) (q : Int32) : Met l yX0_partIn wsX0_partIn ({ frames := 1, cells := 0, slots := 0, locals := 21 } : Room) (va_Pc [.ref (a 0), .int q] (wPR D [(cI, .int)] (wM cI a pa pe st bn hc hm C R lo))) (vp_Si (fun zz : Int32 => zz = xcl 72 pa q)) 0 0 (fun _ => False) := by
  refine mR_of (by decide) rfl (Nat.le_of_ble_eq_true rfl) ?_
  intro p e s m below meth c hx hb hr hml hown hts hlocks hP hK hN ls hl
  have hown : s.vm.findClass RX0 = some m.cls := hown
  have hl : lv_has ls 2 [(0, .ref (a 0)), (1, .int q)] := hl
  refine lv_aload_n hx hb dX0_partIn_0 rfl (lv_at hl 0 rfl) ?_
  refine va_get (D := D) (ci := 0) (v := .ref (a 1)) (C := RX0) (T := TX0) (N := 9) hx hb hts iw_X0_partIn_X0 hown hK hP 0 rfl rfl 0 (by decide) (hts (.fieldLink RX0 9 "MarbleRamps$Machine" "parts" "[I") (mg 1 rfl)) (fun _ h9 => h9) rfl dX0_partIn_1 ?_
  refine lv_iload_n hx hb dX0_partIn_4 rfl (lv_at hl 1 rfl) ?_
  refine kRNi (As := [.ref (a 1), .int q]) (rest := []) ⟨hx, hb, hml, hown, hts⟩ (mX1_cell l D cI (a 1) pa 72 (by decide) q) ⟨va_cnB (host := RX1) 2 hts gX0_partIn_X1_cell_n61 rfl rfl rfl hN.2.2 (hts (.initialized RX1) (mg 3 rfl)) (by decide +kernel) ⟨Nat.le_of_ble_eq_true rfl, Nat.le_of_ble_eq_true rfl⟩, hts (.static yX1_cell) (mg 2 rfl), trivial⟩ hP hK hN [1] rfl [0] rfl rfl hl.1 rfl (Nat.le_of_ble_eq_true rfl) dX0_partIn_5 ⟨Nat.zero_le _, Nat.zero_le _⟩ (fun r_1 hr_1 => ?_)
  subst r_1
  exact eRi hx hb hr hlocks dX0_partIn_8 (rfl)
theorem iw_X0_isRightToggle_X0 : ∀ w ∈ wsX00, w ∈ wsX0_isRightToggle := mem_pos [11, 12, 13, 14, 15, 16, 17, 18, 19] (by decide +kernel)
set_option maxHeartbeats 4000000 in
set_option maxRecDepth 100000 in
theorem mX0_isRightToggle (l : Launch) (D : va_G) (cI : ClassId) (a : Nat → Nat) (pa pe st bn hc hm : Nat → Int32) (C R lo : Int32) (q : Int32) : Met l yX0_isRightToggle wsX0_isRightToggle ({ frames := 2, cells := 0, slots := 0, locals := 42 } : Room) (va_Pc [.ref (a 0), .int q] (wPR D [(cI, .int)] (wM cI a pa pe st bn hc hm C R lo))) (vp_Si (fun zz : Int32 => zz = bi (xRight pa st q))) 0 0 (fun _ => False) := by
  refine mR_of (by decide) rfl (Nat.le_of_ble_eq_true rfl) ?_
  intro p e s m below meth c hx hb hr hml hown hts hlocks hP hK hN ls hl
  have hown : s.vm.findClass RX0 = some m.cls := hown
  have hl : lv_has ls 2 [(0, .ref (a 0)), (1, .int q)] := hl
  refine lv_aload_n hx hb dX0_isRightToggle_0 rfl (lv_at hl 0 rfl) ?_
  refine lv_iload_n hx hb dX0_isRightToggle_1 rfl (lv_at hl 1 rfl) ?_
  refine kRVi (As := [.int q]) (rest := []) ⟨hx, hb, hml, hown, hts⟩ (mX0_partIn l D cI a pa pe st bn hc hm C R lo q) (cwV 1 hts gX0_isRightToggle_X0_partIn rfl rfl rfl (by decide +kernel) ⟨Nat.le_of_ble_eq_true rfl, Nat.le_of_ble_eq_true rfl⟩) hP hK hN [0, 1, 2, 3, 4, 5, 6] rfl [0] rfl rfl rfl rfl hl.1 rfl (Nat.le_of_ble_eq_true rfl) dX0_isRightToggle_2 ⟨Nat.zero_le _, Nat.zero_le _⟩ (fun r_1 hr_1 => ?_)
  subst r_1
  refine lv_iconst (v := 3) hx hb dX0_isRightToggle_5 (by decide) ?_
  refine lv_icmp_ne (tgt := 25) hx hb dX0_isRightToggle_6 (by decide) (fun c_2 => ?_) (fun c_2 => ?_)
  · refine lv_iconst (v := 0) hx hb dX0_isRightToggle_25 (by decide) ?_
    exact eRz hx hb hr hlocks dX0_isRightToggle_26 (Or.inl rfl) (by simp [bi, xRight, c_2])
  · refine lv_aload_n hx hb dX0_isRightToggle_9 rfl (lv_at hl 0 rfl) ?_
    refine va_get (D := D) (ci := 0) (v := .ref (a 3)) (C := RX0) (T := TX0) (N := 9) hx hb hts iw_X0_isRightToggle_X0 hown hK hP 0 rfl rfl 2 (by decide) (hts (.fieldLink RX0 18 "MarbleRamps$Machine" "states" "[I") (mg 1 rfl)) (fun _ h9 => h9) rfl dX0_isRightToggle_10 ?_
    refine lv_iload_n hx hb dX0_isRightToggle_13 rfl (lv_at hl 1 rfl) ?_
    refine kRNi (As := [.ref (a 3), .int q]) (rest := []) ⟨hx, hb, hml, hown, hts⟩ (mX1_cell l D cI (a 3) st 72 (by decide) q) ⟨va_cnB (host := RX1) 2 hts gX0_isRightToggle_X1_cell_n61 rfl rfl rfl hN.2.2 (hts (.initialized RX1) (mg 9 rfl)) (by decide +kernel) ⟨Nat.le_of_ble_eq_true rfl, Nat.le_of_ble_eq_true rfl⟩, hts (.static yX1_cell) (mg 8 rfl), trivial⟩ hP hK hN [3] rfl [0] rfl rfl hl.1 rfl (Nat.le_of_ble_eq_true rfl) dX0_isRightToggle_14 ⟨Nat.zero_le _, Nat.zero_le _⟩ (fun r_3 hr_3 => ?_)
    subst r_3
    refine lv_iconst (v := 1) hx hb dX0_isRightToggle_17 (by decide) ?_
    refine lv_icmp_ne (tgt := 25) hx hb dX0_isRightToggle_18 (by decide) (fun c_4 => ?_) (fun c_4 => ?_)
    · refine lv_iconst (v := 0) hx hb dX0_isRightToggle_25 (by decide) ?_
      exact eRz hx hb hr hlocks dX0_isRightToggle_26 (Or.inl rfl) (by simp [bi, xRight, c_2, c_4])
    · refine lv_iconst (v := 1) hx hb dX0_isRightToggle_21 (by decide) ?_
      refine lv_goto (tgt := 26) hx hb dX0_isRightToggle_22 (by decide) ?_
      exact eRz hx hb hr hlocks dX0_isRightToggle_26 (Or.inr rfl) (by simp [bi, xRight, c_2, c_4])
theorem iw_X0_countedIn_X0 : ∀ w ∈ wsX00, w ∈ wsX0_countedIn := mem_pos [11, 12, 13, 14, 15, 16, 17, 18, 19] (by decide +kernel)
set_option maxHeartbeats 4000000 in
set_option maxRecDepth 100000 in
theorem mX0_countedIn (l : Launch) (D : va_G) (cI : ClassId) (a : Nat → Nat) (pa pe st bn hc hm : Nat → Int32) (C R lo : Int32) (q : Int32) : Met l yX0_countedIn wsX0_countedIn ({ frames := 2, cells := 0, slots := 0, locals := 42 } : Room) (va_Pc [.ref (a 0), .int q] (wPR D [(cI, .int)] (wM cI a pa pe st bn hc hm C R lo))) (vp_Si (fun zz : Int32 => zz = xCnt pa st q)) 0 0 (fun _ => False) := by
  refine mR_of (by decide) rfl (Nat.le_of_ble_eq_true rfl) ?_
  intro p e s m below meth c hx hb hr hml hown hts hlocks hP hK hN ls hl
  have hown : s.vm.findClass RX0 = some m.cls := hown
  have hl : lv_has ls 2 [(0, .ref (a 0)), (1, .int q)] := hl
  refine lv_aload_n hx hb dX0_countedIn_0 rfl (lv_at hl 0 rfl) ?_
  refine lv_iload_n hx hb dX0_countedIn_1 rfl (lv_at hl 1 rfl) ?_
  refine kRVi (As := [.int q]) (rest := []) ⟨hx, hb, hml, hown, hts⟩ (mX0_partIn l D cI a pa pe st bn hc hm C R lo q) (cwV 1 hts gX0_countedIn_X0_partIn rfl rfl rfl (by decide +kernel) ⟨Nat.le_of_ble_eq_true rfl, Nat.le_of_ble_eq_true rfl⟩) hP hK hN [0, 1, 2, 3, 4, 5, 6] rfl [0] rfl rfl rfl rfl hl.1 rfl (Nat.le_of_ble_eq_true rfl) dX0_countedIn_2 ⟨Nat.zero_le _, Nat.zero_le _⟩ (fun r_1 hr_1 => ?_)
  subst r_1
  refine lv_iconst (v := 5) hx hb dX0_countedIn_5 (by decide) ?_
  refine lv_icmp_ne (tgt := 20) hx hb dX0_countedIn_6 (by decide) (fun c_2 => ?_) (fun c_2 => ?_)
  · refine lv_iconst (v := 0) hx hb dX0_countedIn_20 (by decide) ?_
    exact eRi hx hb hr hlocks dX0_countedIn_21 (by simp [xCnt, c_2])
  · refine lv_aload_n hx hb dX0_countedIn_9 rfl (lv_at hl 0 rfl) ?_
    refine va_get (D := D) (ci := 0) (v := .ref (a 3)) (C := RX0) (T := TX0) (N := 9) hx hb hts iw_X0_countedIn_X0 hown hK hP 0 rfl rfl 2 (by decide) (hts (.fieldLink RX0 18 "MarbleRamps$Machine" "states" "[I") (mg 1 rfl)) (fun _ h9 => h9) rfl dX0_countedIn_10 ?_
    refine lv_iload_n hx hb dX0_countedIn_13 rfl (lv_at hl 1 rfl) ?_
    refine kRNi (As := [.ref (a 3), .int q]) (rest := []) ⟨hx, hb, hml, hown, hts⟩ (mX1_cell l D cI (a 3) st 72 (by decide) q) ⟨va_cnB (host := RX1) 2 hts gX0_countedIn_X1_cell_n61 rfl rfl rfl hN.2.2 (hts (.initialized RX1) (mg 9 rfl)) (by decide +kernel) ⟨Nat.le_of_ble_eq_true rfl, Nat.le_of_ble_eq_true rfl⟩, hts (.static yX1_cell) (mg 8 rfl), trivial⟩ hP hK hN [3] rfl [0] rfl rfl hl.1 rfl (Nat.le_of_ble_eq_true rfl) dX0_countedIn_14 ⟨Nat.zero_le _, Nat.zero_le _⟩ (fun r_3 hr_3 => ?_)
    subst r_3
    refine lv_goto (tgt := 21) hx hb dX0_countedIn_17 (by decide) ?_
    exact eRi hx hb hr hlocks dX0_countedIn_21 (by simp [xCnt, c_2])
