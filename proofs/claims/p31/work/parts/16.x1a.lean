theorem iw_X1_needRow_X1 : ∀ w ∈ wsX10, w ∈ wsX1_needRow := mem_pos [10, 11] (by decide +kernel)
set_option maxHeartbeats 4000000 in
set_option maxRecDepth 100000 in
theorem mX1_needRow (l : Launch) (D : va_G) (cI : ClassId) (x : Nat) (b : Nat → Nat) (a : Nat → Nat) (pa pe st bn hc hm : Nat → Int32) (C R lo : Int32) (rr : Int32) (hp : xhas R rr = true) : Met l yX1_needRow wsX1_needRow ({ frames := 6, cells := 0, slots := 0, locals := 90 } : Room) (va_Pc [.ref x, .int rr] (wPR D [(cI, .int)] (wX x a b ++ wM cI a pa pe st bn hc hm C R lo))) (va_Sv (fun _ => True)) 0 0 (fun _ => False) := by
  refine mR_of (by decide) rfl (Nat.le_of_ble_eq_true rfl) ?_
  intro p e s m below meth c hx hb hr hml hown hts hlocks hP hK hN ls hl
  have hown : s.vm.findClass RX1 = some m.cls := hown
  have hl : lv_has ls 2 [(0, .ref x), (1, .int rr)] := hl
  refine lv_aload_n hx hb dX1_needRow_0 rfl (lv_at hl 0 rfl) ?_
  refine va_get (D := D) (ci := 1) (v := .ref (a 0)) (C := RX1) (T := TX1) (N := 2) hx hb hts iw_X1_needRow_X1 hown hK hP 0 rfl rfl 0 (by decide) (hts (.fieldLink RX1 10 "MarbleRamps" "now" "LMarbleRamps$Machine;") (mg 3 rfl)) (fun _ h9 => h9) rfl dX1_needRow_1 ?_
  refine lv_iload_n hx hb dX1_needRow_4 rfl (lv_at hl 1 rfl) ?_
  refine kRVi (As := [.int rr]) (rest := []) ⟨hx, hb, hml, hown, hts⟩ (mX0_hasRow l D cI a pa pe st bn hc hm C R lo rr) (cwV 1 hts gX1_needRow_X0_hasRow rfl rfl rfl (by decide +kernel) ⟨Nat.le_of_ble_eq_true rfl, Nat.le_of_ble_eq_true rfl⟩) hP hK hN [1, 2, 3, 4, 5, 6, 7] rfl [0] rfl rfl rfl rfl hl.1 rfl (Nat.le_of_ble_eq_true rfl) dX1_needRow_5 ⟨Nat.zero_le _, Nat.zero_le _⟩ (fun r_1 hr_1 => ?_)
  subst r_1
  refine lv_if_ne (tgt := 21) hx hb dX1_needRow_8 (by decide) (fun c_2 => ?_) (fun c9 => absurd c9 (by rw [hp]; decide))
  exact eRv hx hb hr hlocks dX1_needRow_21 trivial
theorem iw_X1_needColumn_X1 : ∀ w ∈ wsX10, w ∈ wsX1_needColumn := mem_pos [10, 11] (by decide +kernel)
set_option maxHeartbeats 4000000 in
set_option maxRecDepth 100000 in
theorem mX1_needColumn (l : Launch) (D : va_G) (cI : ClassId) (x : Nat) (b : Nat → Nat) (a : Nat → Nat) (pa pe st bn hc hm : Nat → Int32) (C R lo : Int32) (kk : Int32) (hq : xhas C kk = true) : Met l yX1_needColumn wsX1_needColumn ({ frames := 6, cells := 0, slots := 0, locals := 90 } : Room) (va_Pc [.ref x, .int kk] (wPR D [(cI, .int)] (wX x a b ++ wM cI a pa pe st bn hc hm C R lo))) (va_Sv (fun _ => True)) 0 0 (fun _ => False) := by
  refine mR_of (by decide) rfl (Nat.le_of_ble_eq_true rfl) ?_
  intro p e s m below meth c hx hb hr hml hown hts hlocks hP hK hN ls hl
  have hown : s.vm.findClass RX1 = some m.cls := hown
  have hl : lv_has ls 2 [(0, .ref x), (1, .int kk)] := hl
  refine lv_aload_n hx hb dX1_needColumn_0 rfl (lv_at hl 0 rfl) ?_
  refine va_get (D := D) (ci := 1) (v := .ref (a 0)) (C := RX1) (T := TX1) (N := 2) hx hb hts iw_X1_needColumn_X1 hown hK hP 0 rfl rfl 0 (by decide) (hts (.fieldLink RX1 10 "MarbleRamps" "now" "LMarbleRamps$Machine;") (mg 3 rfl)) (fun _ h9 => h9) rfl dX1_needColumn_1 ?_
  refine lv_iload_n hx hb dX1_needColumn_4 rfl (lv_at hl 1 rfl) ?_
  refine kRVi (As := [.int kk]) (rest := []) ⟨hx, hb, hml, hown, hts⟩ (mX0_hasColumn l D cI a pa pe st bn hc hm C R lo kk) (cwV 1 hts gX1_needColumn_X0_hasColumn rfl rfl rfl (by decide +kernel) ⟨Nat.le_of_ble_eq_true rfl, Nat.le_of_ble_eq_true rfl⟩) hP hK hN [1, 2, 3, 4, 5, 6, 7] rfl [0] rfl rfl rfl rfl hl.1 rfl (Nat.le_of_ble_eq_true rfl) dX1_needColumn_5 ⟨Nat.zero_le _, Nat.zero_le _⟩ (fun r_1 hr_1 => ?_)
  subst r_1
  refine lv_if_ne (tgt := 21) hx hb dX1_needColumn_8 (by decide) (fun c_2 => ?_) (fun c9 => absurd c9 (by rw [hq]; decide))
  exact eRv hx hb hr hlocks dX1_needColumn_21 trivial
set_option maxHeartbeats 4000000 in
set_option maxRecDepth 100000 in
theorem mX1_needPlace (l : Launch) (D : va_G) (cI : ClassId) (x : Nat) (b : Nat → Nat) (a : Nat → Nat) (pa pe st bn hc hm : Nat → Int32) (C R lo : Int32) (rr kk : Int32) (hp : xhas R rr = true) (hq : xhas C kk = true) : Met l yX1_needPlace wsX1_needPlace ({ frames := 7, cells := 0, slots := 0, locals := 111 } : Room) (va_Pc [.ref x, .int rr, .int kk] (wPR D [(cI, .int)] (wX x a b ++ wM cI a pa pe st bn hc hm C R lo))) (va_Sv (fun _ => True)) 0 0 (fun _ => False) := by
  refine mR_of (by decide) rfl (Nat.le_of_ble_eq_true rfl) ?_
  intro p e s m below meth c hx hb hr hml hown hts hlocks hP hK hN ls hl
  have hown : s.vm.findClass RX1 = some m.cls := hown
  have hl : lv_has ls 3 [(0, .ref x), (1, .int rr), (2, .int kk)] := hl
  refine lv_aload_n hx hb dX1_needPlace_0 rfl (lv_at hl 0 rfl) ?_
  refine lv_iload_n hx hb dX1_needPlace_1 rfl (lv_at hl 1 rfl) ?_
  refine kRVv (As := [.int rr]) (rest := []) ⟨hx, hb, hml, hown, hts⟩ (mX1_needRow l D cI x b a pa pe st bn hc hm C R lo rr hp) (cwV 1 hts gX1_needPlace_X1_needRow rfl rfl rfl (by decide +kernel) ⟨Nat.le_of_ble_eq_true rfl, Nat.le_of_ble_eq_true rfl⟩) hP hK hN [0, 1, 2, 3, 4, 5, 6, 7] rfl [0] rfl rfl rfl rfl hl.1 rfl (Nat.le_of_ble_eq_true rfl) dX1_needPlace_2 ⟨Nat.zero_le _, Nat.zero_le _⟩ ?_
  refine lv_aload_n hx hb dX1_needPlace_5 rfl (lv_at hl 0 rfl) ?_
  refine lv_iload_n hx hb dX1_needPlace_6 rfl (lv_at hl 2 rfl) ?_
  refine kRVv (As := [.int kk]) (rest := []) ⟨hx, hb, hml, hown, hts⟩ (mX1_needColumn l D cI x b a pa pe st bn hc hm C R lo kk hq) (cwV 1 hts gX1_needPlace_X1_needColumn rfl rfl rfl (by decide +kernel) ⟨Nat.le_of_ble_eq_true rfl, Nat.le_of_ble_eq_true rfl⟩) hP hK hN [0, 1, 2, 3, 4, 5, 6, 7] rfl [0] rfl rfl rfl rfl hl.1 rfl (Nat.le_of_ble_eq_true rfl) dX1_needPlace_7 ⟨Nat.zero_le _, Nat.zero_le _⟩ ?_
  exact eRv hx hb hr hlocks dX1_needPlace_10 trivial
set_option maxHeartbeats 4000000 in
set_option maxRecDepth 100000 in
theorem mX1_needHopper (l : Launch) (D : va_G) (cI : ClassId)  (hh : Int32) (hp : xhas 2 hh = true) : Met l yX1_needHopper wsX1_needHopper ({ frames := 6, cells := 0, slots := 0, locals := 90 } : Room) (va_Pc [.int hh] (wPR D [(cI, .int)] [])) (va_Sv (fun _ => True)) 0 0 (fun _ => False) := by
  refine mR_of (by decide) rfl (Nat.le_of_ble_eq_true rfl) ?_
  intro p e s m below meth c hx hb hr hml hown hts hlocks hP hK hN ls hl
  have hown : s.vm.findClass RX1 = some m.cls := hown
  have hl : lv_has ls 1 [(0, .int hh)] := hl
  refine lv_iload_n hx hb dX1_needHopper_0 rfl (lv_at hl 0 rfl) ?_
  refine lv_if_lt (tgt := 9) hx hb dX1_needHopper_1 (by decide) (fun c9 => absurd c9 (xhas_spec hp).1) (fun c_1 => ?_)
  refine lv_iload_n hx hb dX1_needHopper_4 rfl (lv_at hl 0 rfl) ?_
  refine lv_iconst (v := 2) hx hb dX1_needHopper_5 (by decide) ?_
  refine lv_icmp_lt (tgt := 19) hx hb dX1_needHopper_6 (by decide) (fun c_2 => ?_) (fun c9 => absurd (xhas_2 hp) c9)
  exact eRv hx hb hr hlocks dX1_needHopper_19 trivial
set_option maxHeartbeats 4000000 in
set_option maxRecDepth 100000 in
theorem mX1_needWithin (l : Launch) (D : va_G) (cI : ClassId)  (vv lo_ hi_ : Int32) (hp : xin vv lo_ hi_ = true) : Met l yX1_needWithin wsX1_needWithin ({ frames := 6, cells := 0, slots := 0, locals := 90 } : Room) (va_Pc [.int vv, .int lo_, .int hi_] (wPR D [(cI, .int)] [])) (va_Sv (fun _ => True)) 0 0 (fun _ => False) := by
  refine mR_of (by decide) rfl (Nat.le_of_ble_eq_true rfl) ?_
  intro p e s m below meth c hx hb hr hml hown hts hlocks hP hK hN ls hl
  have hown : s.vm.findClass RX1 = some m.cls := hown
  have hl : lv_has ls 3 [(0, .int vv), (1, .int lo_), (2, .int hi_)] := hl
  refine lv_iload_n hx hb dX1_needWithin_0 rfl (lv_at hl 0 rfl) ?_
  refine lv_iload_n hx hb dX1_needWithin_1 rfl (lv_at hl 1 rfl) ?_
  refine lv_icmp_lt (tgt := 10) hx hb dX1_needWithin_2 (by decide) (fun c9 => absurd c9 (xin_spec hp).1) (fun c_1 => ?_)
  refine lv_iload_n hx hb dX1_needWithin_5 rfl (lv_at hl 0 rfl) ?_
  refine lv_iload_n hx hb dX1_needWithin_6 rfl (lv_at hl 2 rfl) ?_
  refine lv_icmp_le (tgt := 20) hx hb dX1_needWithin_7 (by decide) (fun c_2 => ?_) (fun c9 => absurd (xin_spec hp).2 c9)
  exact eRv hx hb hr hlocks dX1_needWithin_20 trivial
theorem iw_X1_columns_X0 : ∀ w ∈ wsX00, w ∈ wsX1_columns := mem_pos [5, 6, 7, 8, 9, 10, 11, 12, 13] (by decide +kernel)
theorem iw_X1_columns_X1 : ∀ w ∈ wsX10, w ∈ wsX1_columns := mem_pos [3, 4] (by decide +kernel)
set_option maxHeartbeats 4000000 in
set_option maxRecDepth 100000 in
theorem mX1_columns (l : Launch) (D : va_G) (cI : ClassId) (x : Nat) (b : Nat → Nat) (a : Nat → Nat) (pa pe st bn hc hm : Nat → Int32) (C R lo : Int32) : Met l yX1_columns wsX1_columns ({ frames := 0, cells := 0, slots := 0, locals := 0 } : Room) (va_Pc [.ref x] (wPR D [(cI, .int)] (wX x a b ++ wM cI a pa pe st bn hc hm C R lo))) (vp_Si (fun zz : Int32 => zz = C)) 0 0 (fun _ => False) := by
  refine mR_of (by decide) rfl (Nat.le_of_ble_eq_true rfl) ?_
  intro p e s m below meth c hx hb hr hml hown hts hlocks hP hK hN ls hl
  have hown : s.vm.findClass RX1 = some m.cls := hown
  have hl : lv_has ls 1 [(0, .ref x)] := hl
  refine lv_aload_n hx hb dX1_columns_0 rfl (lv_at hl 0 rfl) ?_
  refine va_get (D := D) (ci := 1) (v := .ref (a 0)) (C := RX1) (T := TX1) (N := 2) hx hb hts iw_X1_columns_X1 hown hK hP 0 rfl rfl 0 (by decide) (hts (.fieldLink RX1 10 "MarbleRamps" "now" "LMarbleRamps$Machine;") (mg 1 rfl)) (fun _ h9 => h9) rfl dX1_columns_1 ?_
  refine va_get (D := D) (ci := 0) (v := .int C) (C := RX0) (T := TX0) (N := 9) hx hb hts iw_X1_columns_X0 hown hK hP 1 rfl rfl 6 (by decide) (hts (.fieldLink RX1 80 "MarbleRamps$Machine" "columnCount" "I") (mg 2 rfl)) (fun _ h9 => h9) rfl dX1_columns_4 ?_
  exact eRi hx hb hr hlocks dX1_columns_7 (rfl)
theorem iw_X1_rows_X0 : ∀ w ∈ wsX00, w ∈ wsX1_rows := mem_pos [5, 6, 7, 8, 9, 10, 11, 12, 13] (by decide +kernel)
theorem iw_X1_rows_X1 : ∀ w ∈ wsX10, w ∈ wsX1_rows := mem_pos [3, 4] (by decide +kernel)
set_option maxHeartbeats 4000000 in
set_option maxRecDepth 100000 in
theorem mX1_rows (l : Launch) (D : va_G) (cI : ClassId) (x : Nat) (b : Nat → Nat) (a : Nat → Nat) (pa pe st bn hc hm : Nat → Int32) (C R lo : Int32) : Met l yX1_rows wsX1_rows ({ frames := 0, cells := 0, slots := 0, locals := 0 } : Room) (va_Pc [.ref x] (wPR D [(cI, .int)] (wX x a b ++ wM cI a pa pe st bn hc hm C R lo))) (vp_Si (fun zz : Int32 => zz = R)) 0 0 (fun _ => False) := by
  refine mR_of (by decide) rfl (Nat.le_of_ble_eq_true rfl) ?_
  intro p e s m below meth c hx hb hr hml hown hts hlocks hP hK hN ls hl
  have hown : s.vm.findClass RX1 = some m.cls := hown
  have hl : lv_has ls 1 [(0, .ref x)] := hl
  refine lv_aload_n hx hb dX1_rows_0 rfl (lv_at hl 0 rfl) ?_
  refine va_get (D := D) (ci := 1) (v := .ref (a 0)) (C := RX1) (T := TX1) (N := 2) hx hb hts iw_X1_rows_X1 hown hK hP 0 rfl rfl 0 (by decide) (hts (.fieldLink RX1 10 "MarbleRamps" "now" "LMarbleRamps$Machine;") (mg 1 rfl)) (fun _ h9 => h9) rfl dX1_rows_1 ?_
  refine va_get (D := D) (ci := 0) (v := .int R) (C := RX0) (T := TX0) (N := 9) hx hb hts iw_X1_rows_X0 hown hK hP 1 rfl rfl 7 (by decide) (hts (.fieldLink RX1 84 "MarbleRamps$Machine" "rowCount" "I") (mg 2 rfl)) (fun _ h9 => h9) rfl dX1_rows_4 ?_
  exact eRi hx hb hr hlocks dX1_rows_7 (rfl)
theorem iw_X1_lost_X0 : ∀ w ∈ wsX00, w ∈ wsX1_lost := mem_pos [5, 6, 7, 8, 9, 10, 11, 12, 13] (by decide +kernel)
theorem iw_X1_lost_X1 : ∀ w ∈ wsX10, w ∈ wsX1_lost := mem_pos [3, 4] (by decide +kernel)
set_option maxHeartbeats 4000000 in
set_option maxRecDepth 100000 in
theorem mX1_lost (l : Launch) (D : va_G) (cI : ClassId) (x : Nat) (b : Nat → Nat) (a : Nat → Nat) (pa pe st bn hc hm : Nat → Int32) (C R lo : Int32) : Met l yX1_lost wsX1_lost ({ frames := 0, cells := 0, slots := 0, locals := 0 } : Room) (va_Pc [.ref x] (wPR D [(cI, .int)] (wX x a b ++ wM cI a pa pe st bn hc hm C R lo))) (vp_Si (fun zz : Int32 => zz = lo)) 0 0 (fun _ => False) := by
  refine mR_of (by decide) rfl (Nat.le_of_ble_eq_true rfl) ?_
  intro p e s m below meth c hx hb hr hml hown hts hlocks hP hK hN ls hl
  have hown : s.vm.findClass RX1 = some m.cls := hown
  have hl : lv_has ls 1 [(0, .ref x)] := hl
  refine lv_aload_n hx hb dX1_lost_0 rfl (lv_at hl 0 rfl) ?_
  refine va_get (D := D) (ci := 1) (v := .ref (a 0)) (C := RX1) (T := TX1) (N := 2) hx hb hts iw_X1_lost_X1 hown hK hP 0 rfl rfl 0 (by decide) (hts (.fieldLink RX1 10 "MarbleRamps" "now" "LMarbleRamps$Machine;") (mg 1 rfl)) (fun _ h9 => h9) rfl dX1_lost_1 ?_
  refine va_get (D := D) (ci := 0) (v := .int lo) (C := RX0) (T := TX0) (N := 9) hx hb hts iw_X1_lost_X0 hown hK hP 1 rfl rfl 8 (by decide) (hts (.fieldLink RX1 98 "MarbleRamps$Machine" "lostCount" "I") (mg 2 rfl)) (fun _ h9 => h9) rfl dX1_lost_4 ?_
  exact eRi hx hb hr hlocks dX1_lost_7 (rfl)
theorem iw_X1_toggles_X1 : ∀ w ∈ wsX10, w ∈ wsX1_toggles := mem_pos [8, 9] (by decide +kernel)
set_option maxHeartbeats 4000000 in
set_option maxRecDepth 100000 in
theorem mX1_toggles (l : Launch) (D : va_G) (cI : ClassId) (x : Nat) (b : Nat → Nat) (a : Nat → Nat) (pa pe st bn hc hm : Nat → Int32) (C R lo : Int32) : Met l yX1_toggles wsX1_toggles ({ frames := 1, cells := 0, slots := 0, locals := 25 } : Room) (va_Pc [.ref x] (wPR D [(cI, .int)] (wX x a b ++ wM cI a pa pe st bn hc hm C R lo))) (vp_Si (fun zz : Int32 => zz = xTog pa)) 0 0 (fun _ => False) := by
  refine mR_of (by decide) rfl (Nat.le_of_ble_eq_true rfl) ?_
  intro p e s m below meth c hx hb hr hml hown hts hlocks hP hK hN ls hl
  have hown : s.vm.findClass RX1 = some m.cls := hown
  have hl : lv_has ls 1 [(0, .ref x)] := hl
  refine lv_aload_n hx hb dX1_toggles_0 rfl (lv_at hl 0 rfl) ?_
  refine va_get (D := D) (ci := 1) (v := .ref (a 0)) (C := RX1) (T := TX1) (N := 2) hx hb hts iw_X1_toggles_X1 hown hK hP 0 rfl rfl 0 (by decide) (hts (.fieldLink RX1 10 "MarbleRamps" "now" "LMarbleRamps$Machine;") (mg 1 rfl)) (fun _ h9 => h9) rfl dX1_toggles_1 ?_
  refine kRVi (As := []) (rest := []) ⟨hx, hb, hml, hown, hts⟩ (mX0_countToggles l D cI a pa pe st bn hc hm C R lo) (cwV 0 hts gX1_toggles_X0_countToggles rfl rfl rfl (by decide +kernel) ⟨Nat.le_of_ble_eq_true rfl, Nat.le_of_ble_eq_true rfl⟩) hP hK hN [1, 2, 3, 4, 5, 6, 7] rfl [0] rfl rfl rfl rfl hl.1 rfl (Nat.le_of_ble_eq_true rfl) dX1_toggles_4 ⟨Nat.zero_le _, Nat.zero_le _⟩ (fun r_1 hr_1 => ?_)
  subst r_1
  exact eRi hx hb hr hlocks dX1_toggles_7 (rfl)
theorem iw_X1_partAt_X1 : ∀ w ∈ wsX10, w ∈ wsX1_partAt := mem_pos [39, 40] (by decide +kernel)
set_option maxHeartbeats 4000000 in
set_option maxRecDepth 100000 in
theorem mX1_partAt (l : Launch) (D : va_G) (cI : ClassId) (x : Nat) (b : Nat → Nat) (a : Nat → Nat) (pa pe st bn hc hm : Nat → Int32) (C R lo : Int32) (rr kk : Int32) (hp : xhas R rr = true) (hq : xhas C kk = true) : Met l yX1_partAt wsX1_partAt ({ frames := 8, cells := 0, slots := 0, locals := 133 } : Room) (va_Pc [.ref x, .int rr, .int kk] (wPR D [(cI, .int)] (wX x a b ++ wM cI a pa pe st bn hc hm C R lo))) (vp_Si (fun zz : Int32 => zz = xcl 72 pa (rr * C + kk))) 0 0 (fun _ => False) := by
  refine mR_of (by decide) rfl (Nat.le_of_ble_eq_true rfl) ?_
  intro p e s m below meth c hx hb hr hml hown hts hlocks hP hK hN ls hl
  have hown : s.vm.findClass RX1 = some m.cls := hown
  have hl : lv_has ls 3 [(0, .ref x), (1, .int rr), (2, .int kk)] := hl
  refine lv_aload_n hx hb dX1_partAt_0 rfl (lv_at hl 0 rfl) ?_
  refine lv_iload_n hx hb dX1_partAt_1 rfl (lv_at hl 1 rfl) ?_
  refine lv_iload_n hx hb dX1_partAt_2 rfl (lv_at hl 2 rfl) ?_
  refine kRVv (As := [.int rr, .int kk]) (rest := []) ⟨hx, hb, hml, hown, hts⟩ (mX1_needPlace l D cI x b a pa pe st bn hc hm C R lo rr kk hp hq) (cwV 2 hts gX1_partAt_X1_needPlace rfl rfl rfl (by decide +kernel) ⟨Nat.le_of_ble_eq_true rfl, Nat.le_of_ble_eq_true rfl⟩) hP hK hN [0, 1, 2, 3, 4, 5, 6, 7] rfl [0] rfl rfl rfl rfl hl.1 rfl (Nat.le_of_ble_eq_true rfl) dX1_partAt_3 ⟨Nat.zero_le _, Nat.zero_le _⟩ ?_
  refine lv_aload_n hx hb dX1_partAt_6 rfl (lv_at hl 0 rfl) ?_
  refine va_get (D := D) (ci := 1) (v := .ref (a 0)) (C := RX1) (T := TX1) (N := 2) hx hb hts iw_X1_partAt_X1 hown hK hP 0 rfl rfl 0 (by decide) (hts (.fieldLink RX1 10 "MarbleRamps" "now" "LMarbleRamps$Machine;") (mg 1 rfl)) (fun _ h9 => h9) rfl dX1_partAt_7 ?_
  refine lv_aload_n hx hb dX1_partAt_10 rfl (lv_at hl 0 rfl) ?_
  refine va_get (D := D) (ci := 1) (v := .ref (a 0)) (C := RX1) (T := TX1) (N := 2) hx hb hts iw_X1_partAt_X1 hown hK hP 0 rfl rfl 0 (by decide) (hts (.fieldLink RX1 10 "MarbleRamps" "now" "LMarbleRamps$Machine;") (mg 1 rfl)) (fun _ h9 => h9) rfl dX1_partAt_11 ?_
  refine lv_iload_n hx hb dX1_partAt_14 rfl (lv_at hl 1 rfl) ?_
  refine lv_iload_n hx hb dX1_partAt_15 rfl (lv_at hl 2 rfl) ?_
  refine kRVi (As := [.int rr, .int kk]) (rest := [.ref (a 0)]) ⟨hx, hb, hml, hown, hts⟩ (mX0_placeOf l D cI a pa pe st bn hc hm C R lo rr kk) (cwV 2 hts gX1_partAt_X0_placeOf rfl rfl rfl (by decide +kernel) ⟨Nat.le_of_ble_eq_true rfl, Nat.le_of_ble_eq_true rfl⟩) hP hK hN [1, 2, 3, 4, 5, 6, 7] rfl [0] rfl rfl rfl rfl hl.1 rfl (Nat.le_of_ble_eq_true rfl) dX1_partAt_16 ⟨Nat.zero_le _, Nat.zero_le _⟩ (fun r_1 hr_1 => ?_)
  subst r_1
  refine kRVi (As := [.int (rr * C + kk)]) (rest := []) ⟨hx, hb, hml, hown, hts⟩ (mX0_partIn l D cI a pa pe st bn hc hm C R lo (rr * C + kk)) (cwV 1 hts gX1_partAt_X0_partIn rfl rfl rfl (by decide +kernel) ⟨Nat.le_of_ble_eq_true rfl, Nat.le_of_ble_eq_true rfl⟩) hP hK hN [1, 2, 3, 4, 5, 6, 7] rfl [0] rfl rfl rfl rfl hl.1 rfl (Nat.le_of_ble_eq_true rfl) dX1_partAt_19 ⟨Nat.zero_le _, Nat.zero_le _⟩ (fun r_2 hr_2 => ?_)
  subst r_2
  exact eRi hx hb hr hlocks dX1_partAt_22 (rfl)
theorem iw_X1_leadsRight_X1 : ∀ w ∈ wsX10, w ∈ wsX1_leadsRight := mem_pos [44, 45] (by decide +kernel)
set_option maxHeartbeats 4000000 in
set_option maxRecDepth 100000 in
theorem mX1_leadsRight (l : Launch) (D : va_G) (cI : ClassId) (x : Nat) (b : Nat → Nat) (a : Nat → Nat) (pa pe st bn hc hm : Nat → Int32) (C R lo : Int32) (rr kk : Int32) (hp : xhas R rr = true) (hq : xhas C kk = true) : Met l yX1_leadsRight wsX1_leadsRight ({ frames := 8, cells := 0, slots := 0, locals := 133 } : Room) (va_Pc [.ref x, .int rr, .int kk] (wPR D [(cI, .int)] (wX x a b ++ wM cI a pa pe st bn hc hm C R lo))) (vp_Si (fun zz : Int32 => zz = bi (xRight pa st (rr * C + kk)))) 0 0 (fun _ => False) := by
  refine mR_of (by decide) rfl (Nat.le_of_ble_eq_true rfl) ?_
  intro p e s m below meth c hx hb hr hml hown hts hlocks hP hK hN ls hl
  have hown : s.vm.findClass RX1 = some m.cls := hown
  have hl : lv_has ls 3 [(0, .ref x), (1, .int rr), (2, .int kk)] := hl
  refine lv_aload_n hx hb dX1_leadsRight_0 rfl (lv_at hl 0 rfl) ?_
  refine lv_iload_n hx hb dX1_leadsRight_1 rfl (lv_at hl 1 rfl) ?_
  refine lv_iload_n hx hb dX1_leadsRight_2 rfl (lv_at hl 2 rfl) ?_
  refine kRVv (As := [.int rr, .int kk]) (rest := []) ⟨hx, hb, hml, hown, hts⟩ (mX1_needPlace l D cI x b a pa pe st bn hc hm C R lo rr kk hp hq) (cwV 2 hts gX1_leadsRight_X1_needPlace rfl rfl rfl (by decide +kernel) ⟨Nat.le_of_ble_eq_true rfl, Nat.le_of_ble_eq_true rfl⟩) hP hK hN [0, 1, 2, 3, 4, 5, 6, 7] rfl [0] rfl rfl rfl rfl hl.1 rfl (Nat.le_of_ble_eq_true rfl) dX1_leadsRight_3 ⟨Nat.zero_le _, Nat.zero_le _⟩ ?_
  refine lv_aload_n hx hb dX1_leadsRight_6 rfl (lv_at hl 0 rfl) ?_
  refine va_get (D := D) (ci := 1) (v := .ref (a 0)) (C := RX1) (T := TX1) (N := 2) hx hb hts iw_X1_leadsRight_X1 hown hK hP 0 rfl rfl 0 (by decide) (hts (.fieldLink RX1 10 "MarbleRamps" "now" "LMarbleRamps$Machine;") (mg 1 rfl)) (fun _ h9 => h9) rfl dX1_leadsRight_7 ?_
  refine lv_aload_n hx hb dX1_leadsRight_10 rfl (lv_at hl 0 rfl) ?_
  refine va_get (D := D) (ci := 1) (v := .ref (a 0)) (C := RX1) (T := TX1) (N := 2) hx hb hts iw_X1_leadsRight_X1 hown hK hP 0 rfl rfl 0 (by decide) (hts (.fieldLink RX1 10 "MarbleRamps" "now" "LMarbleRamps$Machine;") (mg 1 rfl)) (fun _ h9 => h9) rfl dX1_leadsRight_11 ?_
  refine lv_iload_n hx hb dX1_leadsRight_14 rfl (lv_at hl 1 rfl) ?_
  refine lv_iload_n hx hb dX1_leadsRight_15 rfl (lv_at hl 2 rfl) ?_
  refine kRVi (As := [.int rr, .int kk]) (rest := [.ref (a 0)]) ⟨hx, hb, hml, hown, hts⟩ (mX0_placeOf l D cI a pa pe st bn hc hm C R lo rr kk) (cwV 2 hts gX1_leadsRight_X0_placeOf rfl rfl rfl (by decide +kernel) ⟨Nat.le_of_ble_eq_true rfl, Nat.le_of_ble_eq_true rfl⟩) hP hK hN [1, 2, 3, 4, 5, 6, 7] rfl [0] rfl rfl rfl rfl hl.1 rfl (Nat.le_of_ble_eq_true rfl) dX1_leadsRight_16 ⟨Nat.zero_le _, Nat.zero_le _⟩ (fun r_1 hr_1 => ?_)
  subst r_1
  refine kRVi (As := [.int (rr * C + kk)]) (rest := []) ⟨hx, hb, hml, hown, hts⟩ (mX0_isRightToggle l D cI a pa pe st bn hc hm C R lo (rr * C + kk)) (cwV 1 hts gX1_leadsRight_X0_isRightToggle rfl rfl rfl (by decide +kernel) ⟨Nat.le_of_ble_eq_true rfl, Nat.le_of_ble_eq_true rfl⟩) hP hK hN [1, 2, 3, 4, 5, 6, 7] rfl [0] rfl rfl rfl rfl hl.1 rfl (Nat.le_of_ble_eq_true rfl) dX1_leadsRight_19 ⟨Nat.zero_le _, Nat.zero_le _⟩ (fun r_2 hr_2 => ?_)
  subst r_2
  exact eRz hx hb hr hlocks dX1_leadsRight_22 (bi01 _) (rfl)
theorem iw_X1_countAt_X1 : ∀ w ∈ wsX10, w ∈ wsX1_countAt := mem_pos [44, 45] (by decide +kernel)
set_option maxHeartbeats 4000000 in
set_option maxRecDepth 100000 in
theorem mX1_countAt (l : Launch) (D : va_G) (cI : ClassId) (x : Nat) (b : Nat → Nat) (a : Nat → Nat) (pa pe st bn hc hm : Nat → Int32) (C R lo : Int32) (rr kk : Int32) (hp : xhas R rr = true) (hq : xhas C kk = true) : Met l yX1_countAt wsX1_countAt ({ frames := 8, cells := 0, slots := 0, locals := 133 } : Room) (va_Pc [.ref x, .int rr, .int kk] (wPR D [(cI, .int)] (wX x a b ++ wM cI a pa pe st bn hc hm C R lo))) (vp_Si (fun zz : Int32 => zz = xCnt pa st (rr * C + kk))) 0 0 (fun _ => False) := by
  refine mR_of (by decide) rfl (Nat.le_of_ble_eq_true rfl) ?_
  intro p e s m below meth c hx hb hr hml hown hts hlocks hP hK hN ls hl
  have hown : s.vm.findClass RX1 = some m.cls := hown
  have hl : lv_has ls 3 [(0, .ref x), (1, .int rr), (2, .int kk)] := hl
  refine lv_aload_n hx hb dX1_countAt_0 rfl (lv_at hl 0 rfl) ?_
  refine lv_iload_n hx hb dX1_countAt_1 rfl (lv_at hl 1 rfl) ?_
  refine lv_iload_n hx hb dX1_countAt_2 rfl (lv_at hl 2 rfl) ?_
  refine kRVv (As := [.int rr, .int kk]) (rest := []) ⟨hx, hb, hml, hown, hts⟩ (mX1_needPlace l D cI x b a pa pe st bn hc hm C R lo rr kk hp hq) (cwV 2 hts gX1_countAt_X1_needPlace rfl rfl rfl (by decide +kernel) ⟨Nat.le_of_ble_eq_true rfl, Nat.le_of_ble_eq_true rfl⟩) hP hK hN [0, 1, 2, 3, 4, 5, 6, 7] rfl [0] rfl rfl rfl rfl hl.1 rfl (Nat.le_of_ble_eq_true rfl) dX1_countAt_3 ⟨Nat.zero_le _, Nat.zero_le _⟩ ?_
  refine lv_aload_n hx hb dX1_countAt_6 rfl (lv_at hl 0 rfl) ?_
  refine va_get (D := D) (ci := 1) (v := .ref (a 0)) (C := RX1) (T := TX1) (N := 2) hx hb hts iw_X1_countAt_X1 hown hK hP 0 rfl rfl 0 (by decide) (hts (.fieldLink RX1 10 "MarbleRamps" "now" "LMarbleRamps$Machine;") (mg 1 rfl)) (fun _ h9 => h9) rfl dX1_countAt_7 ?_
  refine lv_aload_n hx hb dX1_countAt_10 rfl (lv_at hl 0 rfl) ?_
  refine va_get (D := D) (ci := 1) (v := .ref (a 0)) (C := RX1) (T := TX1) (N := 2) hx hb hts iw_X1_countAt_X1 hown hK hP 0 rfl rfl 0 (by decide) (hts (.fieldLink RX1 10 "MarbleRamps" "now" "LMarbleRamps$Machine;") (mg 1 rfl)) (fun _ h9 => h9) rfl dX1_countAt_11 ?_
  refine lv_iload_n hx hb dX1_countAt_14 rfl (lv_at hl 1 rfl) ?_
  refine lv_iload_n hx hb dX1_countAt_15 rfl (lv_at hl 2 rfl) ?_
  refine kRVi (As := [.int rr, .int kk]) (rest := [.ref (a 0)]) ⟨hx, hb, hml, hown, hts⟩ (mX0_placeOf l D cI a pa pe st bn hc hm C R lo rr kk) (cwV 2 hts gX1_countAt_X0_placeOf rfl rfl rfl (by decide +kernel) ⟨Nat.le_of_ble_eq_true rfl, Nat.le_of_ble_eq_true rfl⟩) hP hK hN [1, 2, 3, 4, 5, 6, 7] rfl [0] rfl rfl rfl rfl hl.1 rfl (Nat.le_of_ble_eq_true rfl) dX1_countAt_16 ⟨Nat.zero_le _, Nat.zero_le _⟩ (fun r_1 hr_1 => ?_)
  subst r_1
  refine kRVi (As := [.int (rr * C + kk)]) (rest := []) ⟨hx, hb, hml, hown, hts⟩ (mX0_countedIn l D cI a pa pe st bn hc hm C R lo (rr * C + kk)) (cwV 1 hts gX1_countAt_X0_countedIn rfl rfl rfl (by decide +kernel) ⟨Nat.le_of_ble_eq_true rfl, Nat.le_of_ble_eq_true rfl⟩) hP hK hN [1, 2, 3, 4, 5, 6, 7] rfl [0] rfl rfl rfl rfl hl.1 rfl (Nat.le_of_ble_eq_true rfl) dX1_countAt_19 ⟨Nat.zero_le _, Nat.zero_le _⟩ (fun r_2 hr_2 => ?_)
  subst r_2
  exact eRi hx hb hr hlocks dX1_countAt_22 (rfl)
theorem iw_X1_binOf_X0 : ∀ w ∈ wsX00, w ∈ wsX1_binOf := mem_pos [21, 22, 23, 24, 25, 26, 27, 28, 29] (by decide +kernel)
theorem iw_X1_binOf_X1 : ∀ w ∈ wsX10, w ∈ wsX1_binOf := mem_pos [19, 20] (by decide +kernel)
set_option maxHeartbeats 4000000 in
set_option maxRecDepth 100000 in
theorem mX1_binOf (l : Launch) (D : va_G) (cI : ClassId) (x : Nat) (b : Nat → Nat) (a : Nat → Nat) (pa pe st bn hc hm : Nat → Int32) (C R lo : Int32) (kk : Int32) (hq : xhas C kk = true) : Met l yX1_binOf wsX1_binOf ({ frames := 7, cells := 0, slots := 0, locals := 111 } : Room) (va_Pc [.ref x, .int kk] (wPR D [(cI, .int)] (wX x a b ++ wM cI a pa pe st bn hc hm C R lo))) (vp_Si (fun zz : Int32 => zz = xcl 9 bn kk)) 0 0 (fun _ => False) := by
  refine mR_of (by decide) rfl (Nat.le_of_ble_eq_true rfl) ?_
  intro p e s m below meth c hx hb hr hml hown hts hlocks hP hK hN ls hl
  have hown : s.vm.findClass RX1 = some m.cls := hown
  have hl : lv_has ls 2 [(0, .ref x), (1, .int kk)] := hl
  refine lv_aload_n hx hb dX1_binOf_0 rfl (lv_at hl 0 rfl) ?_
  refine lv_iload_n hx hb dX1_binOf_1 rfl (lv_at hl 1 rfl) ?_
  refine kRVv (As := [.int kk]) (rest := []) ⟨hx, hb, hml, hown, hts⟩ (mX1_needColumn l D cI x b a pa pe st bn hc hm C R lo kk hq) (cwV 1 hts gX1_binOf_X1_needColumn rfl rfl rfl (by decide +kernel) ⟨Nat.le_of_ble_eq_true rfl, Nat.le_of_ble_eq_true rfl⟩) hP hK hN [0, 1, 2, 3, 4, 5, 6, 7] rfl [0] rfl rfl rfl rfl hl.1 rfl (Nat.le_of_ble_eq_true rfl) dX1_binOf_2 ⟨Nat.zero_le _, Nat.zero_le _⟩ ?_
  refine lv_aload_n hx hb dX1_binOf_5 rfl (lv_at hl 0 rfl) ?_
  refine va_get (D := D) (ci := 1) (v := .ref (a 0)) (C := RX1) (T := TX1) (N := 2) hx hb hts iw_X1_binOf_X1 hown hK hP 0 rfl rfl 0 (by decide) (hts (.fieldLink RX1 10 "MarbleRamps" "now" "LMarbleRamps$Machine;") (mg 1 rfl)) (fun _ h9 => h9) rfl dX1_binOf_6 ?_
  refine va_get (D := D) (ci := 0) (v := .ref (a 4)) (C := RX0) (T := TX0) (N := 9) hx hb hts iw_X1_binOf_X0 hown hK hP 1 rfl rfl 3 (by decide) (hts (.fieldLink RX1 90 "MarbleRamps$Machine" "bins" "[I") (mg 2 rfl)) (fun _ h9 => h9) rfl dX1_binOf_9 ?_
  refine lv_iload_n hx hb dX1_binOf_12 rfl (lv_at hl 1 rfl) ?_
  refine kRSi (As := [.ref (a 4), .int kk]) (rest := []) ⟨hx, hb, hml, hown, hts⟩ (mX1_cell l D cI (a 4) bn 9 (by decide) kk) (va_cwS 2 hts gX1_binOf_X1_cell rfl rfl rfl (by decide +kernel) ⟨Nat.le_of_ble_eq_true rfl, Nat.le_of_ble_eq_true rfl⟩) hP hK hN [5] rfl [0] rfl rfl hl.1 rfl (Nat.le_of_ble_eq_true rfl) dX1_binOf_13 ⟨Nat.zero_le _, Nat.zero_le _⟩ (fun r_1 hr_1 => ?_)
  subst r_1
  exact eRi hx hb hr hlocks dX1_binOf_16 (rfl)
theorem iw_X1_marblesIn_X0 : ∀ w ∈ wsX00, w ∈ wsX1_marblesIn := mem_pos [14, 15, 16, 17, 18, 19, 20, 21, 22] (by decide +kernel)
theorem iw_X1_marblesIn_X1 : ∀ w ∈ wsX10, w ∈ wsX1_marblesIn := mem_pos [12, 13] (by decide +kernel)
set_option maxHeartbeats 4000000 in
set_option maxRecDepth 100000 in
theorem mX1_marblesIn (l : Launch) (D : va_G) (cI : ClassId) (x : Nat) (b : Nat → Nat) (a : Nat → Nat) (pa pe st bn hc hm : Nat → Int32) (C R lo : Int32) (hh : Int32) (hp : xhas 2 hh = true) : Met l yX1_marblesIn wsX1_marblesIn ({ frames := 7, cells := 0, slots := 0, locals := 110 } : Room) (va_Pc [.ref x, .int hh] (wPR D [(cI, .int)] (wX x a b ++ wM cI a pa pe st bn hc hm C R lo))) (vp_Si (fun zz : Int32 => zz = xcl 2 hm hh)) 0 0 (fun _ => False) := by
  refine mR_of (by decide) rfl (Nat.le_of_ble_eq_true rfl) ?_
  intro p e s m below meth c hx hb hr hml hown hts hlocks hP hK hN ls hl
  have hown : s.vm.findClass RX1 = some m.cls := hown
  have hl : lv_has ls 2 [(0, .ref x), (1, .int hh)] := hl
  refine lv_iload_n hx hb dX1_marblesIn_0 rfl (lv_at hl 1 rfl) ?_
  refine kRSv (As := [.int hh]) (rest := []) ⟨hx, hb, hml, hown, hts⟩ (mX1_needHopper l D cI hh hp) (va_cwS 1 hts gX1_marblesIn_X1_needHopper rfl rfl rfl (by decide +kernel) ⟨Nat.le_of_ble_eq_true rfl, Nat.le_of_ble_eq_true rfl⟩) hP hK hN [] rfl [0] rfl rfl hl.1 rfl (Nat.le_of_ble_eq_true rfl) dX1_marblesIn_1 ⟨Nat.zero_le _, Nat.zero_le _⟩ ?_
  refine lv_aload_n hx hb dX1_marblesIn_4 rfl (lv_at hl 0 rfl) ?_
  refine va_get (D := D) (ci := 1) (v := .ref (a 0)) (C := RX1) (T := TX1) (N := 2) hx hb hts iw_X1_marblesIn_X1 hown hK hP 0 rfl rfl 0 (by decide) (hts (.fieldLink RX1 10 "MarbleRamps" "now" "LMarbleRamps$Machine;") (mg 1 rfl)) (fun _ h9 => h9) rfl dX1_marblesIn_5 ?_
  refine va_get (D := D) (ci := 0) (v := .ref (a 6)) (C := RX0) (T := TX0) (N := 9) hx hb hts iw_X1_marblesIn_X0 hown hK hP 1 rfl rfl 5 (by decide) (hts (.fieldLink RX1 101 "MarbleRamps$Machine" "hopperMarbles" "[I") (mg 2 rfl)) (fun _ h9 => h9) rfl dX1_marblesIn_8 ?_
  refine lv_iload_n hx hb dX1_marblesIn_11 rfl (lv_at hl 1 rfl) ?_
  refine kRSi (As := [.ref (a 6), .int hh]) (rest := []) ⟨hx, hb, hml, hown, hts⟩ (mX1_cell l D cI (a 6) hm 2 (by decide) hh) (va_cwS 2 hts gX1_marblesIn_X1_cell rfl rfl rfl (by decide +kernel) ⟨Nat.le_of_ble_eq_true rfl, Nat.le_of_ble_eq_true rfl⟩) hP hK hN [7] rfl [0] rfl rfl hl.1 rfl (Nat.le_of_ble_eq_true rfl) dX1_marblesIn_12 ⟨Nat.zero_le _, Nat.zero_le _⟩ (fun r_1 hr_1 => ?_)
  subst r_1
  exact eRi hx hb hr hlocks dX1_marblesIn_15 (rfl)
theorem iw_X1_columnOf_X0 : ∀ w ∈ wsX00, w ∈ wsX1_columnOf := mem_pos [14, 15, 16, 17, 18, 19, 20, 21, 22] (by decide +kernel)
theorem iw_X1_columnOf_X1 : ∀ w ∈ wsX10, w ∈ wsX1_columnOf := mem_pos [12, 13] (by decide +kernel)
set_option maxHeartbeats 4000000 in
set_option maxRecDepth 100000 in
theorem mX1_columnOf (l : Launch) (D : va_G) (cI : ClassId) (x : Nat) (b : Nat → Nat) (a : Nat → Nat) (pa pe st bn hc hm : Nat → Int32) (C R lo : Int32) (hh : Int32) (hp : xhas 2 hh = true) : Met l yX1_columnOf wsX1_columnOf ({ frames := 7, cells := 0, slots := 0, locals := 110 } : Room) (va_Pc [.ref x, .int hh] (wPR D [(cI, .int)] (wX x a b ++ wM cI a pa pe st bn hc hm C R lo))) (vp_Si (fun zz : Int32 => zz = xcl 2 hc hh)) 0 0 (fun _ => False) := by
  refine mR_of (by decide) rfl (Nat.le_of_ble_eq_true rfl) ?_
  intro p e s m below meth c hx hb hr hml hown hts hlocks hP hK hN ls hl
  have hown : s.vm.findClass RX1 = some m.cls := hown
  have hl : lv_has ls 2 [(0, .ref x), (1, .int hh)] := hl
  refine lv_iload_n hx hb dX1_columnOf_0 rfl (lv_at hl 1 rfl) ?_
  refine kRSv (As := [.int hh]) (rest := []) ⟨hx, hb, hml, hown, hts⟩ (mX1_needHopper l D cI hh hp) (va_cwS 1 hts gX1_columnOf_X1_needHopper rfl rfl rfl (by decide +kernel) ⟨Nat.le_of_ble_eq_true rfl, Nat.le_of_ble_eq_true rfl⟩) hP hK hN [] rfl [0] rfl rfl hl.1 rfl (Nat.le_of_ble_eq_true rfl) dX1_columnOf_1 ⟨Nat.zero_le _, Nat.zero_le _⟩ ?_
  refine lv_aload_n hx hb dX1_columnOf_4 rfl (lv_at hl 0 rfl) ?_
  refine va_get (D := D) (ci := 1) (v := .ref (a 0)) (C := RX1) (T := TX1) (N := 2) hx hb hts iw_X1_columnOf_X1 hown hK hP 0 rfl rfl 0 (by decide) (hts (.fieldLink RX1 10 "MarbleRamps" "now" "LMarbleRamps$Machine;") (mg 1 rfl)) (fun _ h9 => h9) rfl dX1_columnOf_5 ?_
  refine va_get (D := D) (ci := 0) (v := .ref (a 5)) (C := RX0) (T := TX0) (N := 9) hx hb hts iw_X1_columnOf_X0 hown hK hP 1 rfl rfl 4 (by decide) (hts (.fieldLink RX1 104 "MarbleRamps$Machine" "hopperColumns" "[I") (mg 2 rfl)) (fun _ h9 => h9) rfl dX1_columnOf_8 ?_
  refine lv_iload_n hx hb dX1_columnOf_11 rfl (lv_at hl 1 rfl) ?_
  refine kRSi (As := [.ref (a 5), .int hh]) (rest := []) ⟨hx, hb, hml, hown, hts⟩ (mX1_cell l D cI (a 5) hc 2 (by decide) hh) (va_cwS 2 hts gX1_columnOf_X1_cell rfl rfl rfl (by decide +kernel) ⟨Nat.le_of_ble_eq_true rfl, Nat.le_of_ble_eq_true rfl⟩) hP hK hN [6] rfl [0] rfl rfl hl.1 rfl (Nat.le_of_ble_eq_true rfl) dX1_columnOf_12 ⟨Nat.zero_le _, Nat.zero_le _⟩ (fun r_1 hr_1 => ?_)
  subst r_1
  exact eRi hx hb hr hlocks dX1_columnOf_15 (rfl)
theorem iw_X1_numberIn_X1 : ∀ w ∈ wsX10, w ∈ wsX1_numberIn := mem_pos [36, 37] (by decide +kernel)
set_option maxHeartbeats 4000000 in
set_option maxRecDepth 100000 in
theorem mX1_numberIn (l : Launch) (D : va_G) (cI : ClassId) (x : Nat) (b : Nat → Nat) (a : Nat → Nat) (pa pe st bn hc hm : Nat → Int32) (C R lo : Int32) (rr : Int32) (hp : xhas R rr = true) : Met l yX1_numberIn wsX1_numberIn ({ frames := 7, cells := 0, slots := 0, locals := 111 } : Room) (va_Pc [.ref x, .int rr] (wPR D [(cI, .int)] (wX x a b ++ wM cI a pa pe st bn hc hm C R lo))) (vp_Si (fun zz : Int32 => zz = xNum pa st C rr)) 0 0 (fun _ => False) := by
  refine mR_of (by decide) rfl (Nat.le_of_ble_eq_true rfl) ?_
  intro p e s m below meth c hx hb hr hml hown hts hlocks hP hK hN ls hl
  have hown : s.vm.findClass RX1 = some m.cls := hown
  have hl : lv_has ls 2 [(0, .ref x), (1, .int rr)] := hl
  refine lv_aload_n hx hb dX1_numberIn_0 rfl (lv_at hl 0 rfl) ?_
  refine lv_iload_n hx hb dX1_numberIn_1 rfl (lv_at hl 1 rfl) ?_
  refine kRVv (As := [.int rr]) (rest := []) ⟨hx, hb, hml, hown, hts⟩ (mX1_needRow l D cI x b a pa pe st bn hc hm C R lo rr hp) (cwV 1 hts gX1_numberIn_X1_needRow rfl rfl rfl (by decide +kernel) ⟨Nat.le_of_ble_eq_true rfl, Nat.le_of_ble_eq_true rfl⟩) hP hK hN [0, 1, 2, 3, 4, 5, 6, 7] rfl [0] rfl rfl rfl rfl hl.1 rfl (Nat.le_of_ble_eq_true rfl) dX1_numberIn_2 ⟨Nat.zero_le _, Nat.zero_le _⟩ ?_
  refine lv_aload_n hx hb dX1_numberIn_5 rfl (lv_at hl 0 rfl) ?_
  refine va_get (D := D) (ci := 1) (v := .ref (a 0)) (C := RX1) (T := TX1) (N := 2) hx hb hts iw_X1_numberIn_X1 hown hK hP 0 rfl rfl 0 (by decide) (hts (.fieldLink RX1 10 "MarbleRamps" "now" "LMarbleRamps$Machine;") (mg 1 rfl)) (fun _ h9 => h9) rfl dX1_numberIn_6 ?_
  refine lv_iload_n hx hb dX1_numberIn_9 rfl (lv_at hl 1 rfl) ?_
  refine kRVi (As := [.int rr]) (rest := []) ⟨hx, hb, hml, hown, hts⟩ (mX0_numberToldBy l D cI a pa pe st bn hc hm C R lo rr) (cwV 1 hts gX1_numberIn_X0_numberToldBy rfl rfl rfl (by decide +kernel) ⟨Nat.le_of_ble_eq_true rfl, Nat.le_of_ble_eq_true rfl⟩) hP hK hN [1, 2, 3, 4, 5, 6, 7] rfl [0] rfl rfl rfl rfl hl.1 rfl (Nat.le_of_ble_eq_true rfl) dX1_numberIn_10 ⟨Nat.zero_le _, Nat.zero_le _⟩ (fun r_1 hr_1 => ?_)
  subst r_1
  exact eRi hx hb hr hlocks dX1_numberIn_13 (rfl)
