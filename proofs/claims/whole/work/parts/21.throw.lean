theorem xhas_n2 {i : Int32} (h : xhas 2 i = false) (h1 : ¬ i < 0) : ¬ i < 2 := by
  intro h2
  rw [xhas, if_neg h1, if_neg (Int32.not_le.mpr h2)] at h
  cases h
theorem xin_n {v lo hi : Int32} (h : xin v lo hi = false) (h1 : ¬ v < lo) : ¬ v ≤ hi := by
  intro h2
  rw [xin, if_neg h1, if_pos h2] at h
  cases h
set_option maxHeartbeats 4000000 in
set_option maxRecDepth 100000 in
theorem tX1_needRow (l : Launch) (hst : l.stackTraces = false) (D : va_G) (cI : ClassId) (x : Nat) (b : Nat → Nat) (a : Nat → Nat) (pa pe st bn hc hm : Nat → Int32) (C R lo : Int32) (rr : Int32) (hp : xhas R rr = false) : vx_Met l yX1_needRow wsX1_needRow ({ frames := 6, cells := 1, slots := 6, locals := 90 } : Room) (va_Pc [.ref x, .int rr] (wPX D [(cI, .int)] (wX x a b ++ wM cI a pa pe st bn hc hm C R lo))) XN (XT eIO) 1 6 (fun _ => False) := by
  refine mX_of (by decide) rfl (Nat.le_of_ble_eq_true rfl) ?_
  intro p e s m below meth c hx hb hr hml hown hts hlocks ht hP hK hN hX hZ ls hl
  have hown : s.vm.findClass RX1 = some m.cls := hown
  have hl : lv_has ls 2 [(0, .ref x), (1, .int rr)] := hl
  refine lv_aload_n hx hb dX1_needRow_0 rfl (lv_at hl 0 rfl) ?_
  refine va_get (D := D) (ci := 1) (v := .ref (a 0)) (C := RX1) (T := TX1) (N := 2) hx hb hts iw_X1_needRow_X1 hown hK hP 0 rfl rfl 0 (by decide) (hts (.fieldLink RX1 10 "MarbleRamps" "now" "LMarbleRamps$Machine;") (mg 3 rfl)) (fun _ h9 => h9) rfl dX1_needRow_1 ?_
  refine lv_iload_n hx hb dX1_needRow_4 rfl (lv_at hl 1 rfl) ?_
  refine kRVi (As := [.int rr]) (rest := []) ⟨hx, hb, hml, hown, hts⟩ (mX0_hasRow l D cI a pa pe st bn hc hm C R lo rr) (cwV 1 hts gX1_needRow_X0_hasRow rfl rfl rfl (by decide +kernel) ⟨Nat.le_of_ble_eq_true rfl, Nat.le_of_ble_eq_true rfl⟩) hP hK hN [1, 2, 3, 4, 5, 6, 7] rfl [0] rfl rfl rfl rfl hl.1 rfl (Nat.le_of_ble_eq_true rfl) dX1_needRow_5 ⟨Nat.le_of_ble_eq_true rfl, Nat.le_of_ble_eq_true rfl⟩ (fun r_1 hr_1 => ?_)
  subst r_1
  refine lv_if_ne (tgt := 21) hx hb dX1_needRow_8 (by decide) (fun c9 => absurd (by rw [hp]; decide) c9) (fun c_2 => ?_)
  obtain ⟨sa, hstr⟩ := hX.2.2.1
  exact vx_throwS hx hb hst (A := fun q => s.heap.size ≤ q) (own := RX1) (cls := eIO) (text := "there is no such row") (names := eNm) (ik := 187) (is := 189) (ic := 191) (sa := sa) (mc := 1) (ms := 6) hown (by decide) (by decide) (hts (.classLink RX1 187 eIO) (mg 1 rfl)) (hts (.initialized eIO) (mg 2 rfl)) hstr (vx_hat (B := [.castable eIO eIO, .declares (Bundle.initS "java/lang/RuntimeException"), .declares (Bundle.initS "java/lang/Exception"), .declares (Bundle.initS Bundle.tN)]) (fun w h => hts w (List.mem_cons_of_mem _ (List.mem_append_right _ h))) (by decide +kernel) (vx_c (va_Nw.use rfl hX.2.2.2.2.2.1) (vx_c (va_Nw.use rfl hX.2.2.2.2.2.2.2.2.2.2.1) (vx_c (va_Nw.use rfl hX.2.2.2.2.2.2.2.2.2.2.2.1) (vx_c (va_Nw.use rfl hX.2.2.2.2.2.2.2.2.2.2.2.2) vx_n))))) (by decide +kernel) hZ.1 hZ.2 va_S.rf (hl.1.trans hml.symm) dX1_needRow_11 dX1_needRow_14 dX1_needRow_15 dX1_needRow_17 dX1_needRow_20 (fun x hx => (ht x hx).elim) (Nat.le_of_ble_eq_true rfl) (Nat.le_of_ble_eq_true rfl) (Nat.le_of_ble_eq_true rfl) (Nat.le_of_ble_eq_true rfl) hlocks (fun t _ h1 h2 => ⟨rfl, h1, h2⟩) (fun z hz => absurd hz List.not_mem_nil) (by decide) (by decide)
set_option maxHeartbeats 4000000 in
set_option maxRecDepth 100000 in
theorem tX1_needColumn (l : Launch) (hst : l.stackTraces = false) (D : va_G) (cI : ClassId) (x : Nat) (b : Nat → Nat) (a : Nat → Nat) (pa pe st bn hc hm : Nat → Int32) (C R lo : Int32) (kk : Int32) (hq : xhas C kk = false) : vx_Met l yX1_needColumn wsX1_needColumn ({ frames := 6, cells := 1, slots := 6, locals := 90 } : Room) (va_Pc [.ref x, .int kk] (wPX D [(cI, .int)] (wX x a b ++ wM cI a pa pe st bn hc hm C R lo))) XN (XT eIO) 1 6 (fun _ => False) := by
  refine mX_of (by decide) rfl (Nat.le_of_ble_eq_true rfl) ?_
  intro p e s m below meth c hx hb hr hml hown hts hlocks ht hP hK hN hX hZ ls hl
  have hown : s.vm.findClass RX1 = some m.cls := hown
  have hl : lv_has ls 2 [(0, .ref x), (1, .int kk)] := hl
  refine lv_aload_n hx hb dX1_needColumn_0 rfl (lv_at hl 0 rfl) ?_
  refine va_get (D := D) (ci := 1) (v := .ref (a 0)) (C := RX1) (T := TX1) (N := 2) hx hb hts iw_X1_needColumn_X1 hown hK hP 0 rfl rfl 0 (by decide) (hts (.fieldLink RX1 10 "MarbleRamps" "now" "LMarbleRamps$Machine;") (mg 3 rfl)) (fun _ h9 => h9) rfl dX1_needColumn_1 ?_
  refine lv_iload_n hx hb dX1_needColumn_4 rfl (lv_at hl 1 rfl) ?_
  refine kRVi (As := [.int kk]) (rest := []) ⟨hx, hb, hml, hown, hts⟩ (mX0_hasColumn l D cI a pa pe st bn hc hm C R lo kk) (cwV 1 hts gX1_needColumn_X0_hasColumn rfl rfl rfl (by decide +kernel) ⟨Nat.le_of_ble_eq_true rfl, Nat.le_of_ble_eq_true rfl⟩) hP hK hN [1, 2, 3, 4, 5, 6, 7] rfl [0] rfl rfl rfl rfl hl.1 rfl (Nat.le_of_ble_eq_true rfl) dX1_needColumn_5 ⟨Nat.le_of_ble_eq_true rfl, Nat.le_of_ble_eq_true rfl⟩ (fun r_1 hr_1 => ?_)
  subst r_1
  refine lv_if_ne (tgt := 21) hx hb dX1_needColumn_8 (by decide) (fun c9 => absurd (by rw [hq]; decide) c9) (fun c_2 => ?_)
  obtain ⟨sa, hstr⟩ := hX.1
  exact vx_throwS hx hb hst (A := fun q => s.heap.size ≤ q) (own := RX1) (cls := eIO) (text := "there is no such column") (names := eNm) (ik := 187) (is := 195) (ic := 191) (sa := sa) (mc := 1) (ms := 6) hown (by decide) (by decide) (hts (.classLink RX1 187 eIO) (mg 1 rfl)) (hts (.initialized eIO) (mg 2 rfl)) hstr (vx_hat (B := [.castable eIO eIO, .declares (Bundle.initS "java/lang/RuntimeException"), .declares (Bundle.initS "java/lang/Exception"), .declares (Bundle.initS Bundle.tN)]) (fun w h => hts w (List.mem_cons_of_mem _ (List.mem_append_right _ h))) (by decide +kernel) (vx_c (va_Nw.use rfl hX.2.2.2.2.2.1) (vx_c (va_Nw.use rfl hX.2.2.2.2.2.2.2.2.2.2.1) (vx_c (va_Nw.use rfl hX.2.2.2.2.2.2.2.2.2.2.2.1) (vx_c (va_Nw.use rfl hX.2.2.2.2.2.2.2.2.2.2.2.2) vx_n))))) (by decide +kernel) hZ.1 hZ.2 va_S.rf (hl.1.trans hml.symm) dX1_needColumn_11 dX1_needColumn_14 dX1_needColumn_15 dX1_needColumn_17 dX1_needColumn_20 (fun x hx => (ht x hx).elim) (Nat.le_of_ble_eq_true rfl) (Nat.le_of_ble_eq_true rfl) (Nat.le_of_ble_eq_true rfl) (Nat.le_of_ble_eq_true rfl) hlocks (fun t _ h1 h2 => ⟨rfl, h1, h2⟩) (fun z hz => absurd hz List.not_mem_nil) (by decide) (by decide)
set_option maxHeartbeats 4000000 in
set_option maxRecDepth 100000 in
theorem tX1_needPlace_r (l : Launch) (hst : l.stackTraces = false) (D : va_G) (cI : ClassId) (x : Nat) (b : Nat → Nat) (a : Nat → Nat) (pa pe st bn hc hm : Nat → Int32) (C R lo : Int32) (rr kk : Int32) (hp : xhas R rr = false) : vx_Met l yX1_needPlace wsX1_needPlace ({ frames := 7, cells := 1, slots := 6, locals := 111 } : Room) (va_Pc [.ref x, .int rr, .int kk] (wPX D [(cI, .int)] (wX x a b ++ wM cI a pa pe st bn hc hm C R lo))) XN (XT eIO) 1 6 (fun _ => False) := by
  refine mX_of (by decide) rfl (Nat.le_of_ble_eq_true rfl) ?_
  intro p e s m below meth c hx hb hr hml hown hts hlocks ht hP hK hN hX hZ ls hl
  have hown : s.vm.findClass RX1 = some m.cls := hown
  have hl : lv_has ls 3 [(0, .ref x), (1, .int rr), (2, .int kk)] := hl
  refine lv_aload_n hx hb dX1_needPlace_0 rfl (lv_at hl 0 rfl) ?_
  refine lv_iload_n hx hb dX1_needPlace_1 rfl (lv_at hl 1 rfl) ?_
  exact kXVo (As := [.int rr]) (rest := []) ⟨hx, hb, hml, hown, hts⟩ (tX1_needRow l hst D cI x b a pa pe st bn hc hm C R lo rr hp) (cwV 1 hts gX1_needPlace_X1_needRow rfl rfl rfl (by decide +kernel) ⟨Nat.le_of_ble_eq_true rfl, Nat.le_of_ble_eq_true rfl⟩) hP hK hN hX hZ [0, 1, 2, 3, 4, 5, 6, 7] rfl [0] rfl rfl rfl rfl hl.1 rfl (Nat.le_of_ble_eq_true rfl) dX1_needPlace_2 ⟨Nat.le_of_ble_eq_true rfl, Nat.le_of_ble_eq_true rfl⟩ hlocks ht
set_option maxHeartbeats 4000000 in
set_option maxRecDepth 100000 in
theorem tX1_needPlace_c (l : Launch) (hst : l.stackTraces = false) (D : va_G) (cI : ClassId) (x : Nat) (b : Nat → Nat) (a : Nat → Nat) (pa pe st bn hc hm : Nat → Int32) (C R lo : Int32) (rr kk : Int32) (hp : xhas R rr = true) (hq : xhas C kk = false) : vx_Met l yX1_needPlace wsX1_needPlace ({ frames := 7, cells := 1, slots := 6, locals := 111 } : Room) (va_Pc [.ref x, .int rr, .int kk] (wPX D [(cI, .int)] (wX x a b ++ wM cI a pa pe st bn hc hm C R lo))) XN (XT eIO) 1 6 (fun _ => False) := by
  refine mX_of (by decide) rfl (Nat.le_of_ble_eq_true rfl) ?_
  intro p e s m below meth c hx hb hr hml hown hts hlocks ht hP hK hN hX hZ ls hl
  have hown : s.vm.findClass RX1 = some m.cls := hown
  have hl : lv_has ls 3 [(0, .ref x), (1, .int rr), (2, .int kk)] := hl
  refine lv_aload_n hx hb dX1_needPlace_0 rfl (lv_at hl 0 rfl) ?_
  refine lv_iload_n hx hb dX1_needPlace_1 rfl (lv_at hl 1 rfl) ?_
  refine kRVv (As := [.int rr]) (rest := []) ⟨hx, hb, hml, hown, hts⟩ (mX1_needRow l D cI x b a pa pe st bn hc hm C R lo rr hp) (cwV 1 hts gX1_needPlace_X1_needRow rfl rfl rfl (by decide +kernel) ⟨Nat.le_of_ble_eq_true rfl, Nat.le_of_ble_eq_true rfl⟩) hP hK hN [0, 1, 2, 3, 4, 5, 6, 7] rfl [0] rfl rfl rfl rfl hl.1 rfl (Nat.le_of_ble_eq_true rfl) dX1_needPlace_2 ⟨Nat.le_of_ble_eq_true rfl, Nat.le_of_ble_eq_true rfl⟩ ?_
  refine lv_aload_n hx hb dX1_needPlace_5 rfl (lv_at hl 0 rfl) ?_
  refine lv_iload_n hx hb dX1_needPlace_6 rfl (lv_at hl 2 rfl) ?_
  exact kXVo (As := [.int kk]) (rest := []) ⟨hx, hb, hml, hown, hts⟩ (tX1_needColumn l hst D cI x b a pa pe st bn hc hm C R lo kk hq) (cwV 1 hts gX1_needPlace_X1_needColumn rfl rfl rfl (by decide +kernel) ⟨Nat.le_of_ble_eq_true rfl, Nat.le_of_ble_eq_true rfl⟩) hP hK hN hX hZ [0, 1, 2, 3, 4, 5, 6, 7] rfl [0] rfl rfl rfl rfl hl.1 rfl (Nat.le_of_ble_eq_true rfl) dX1_needPlace_7 ⟨Nat.le_of_ble_eq_true rfl, Nat.le_of_ble_eq_true rfl⟩ hlocks ht
set_option maxHeartbeats 4000000 in
set_option maxRecDepth 100000 in
theorem tX1_needHopper (l : Launch) (hst : l.stackTraces = false) (D : va_G) (cI : ClassId)  (hh : Int32) (hp : xhas 2 hh = false) : vx_Met l yX1_needHopper wsX1_needHopper ({ frames := 6, cells := 1, slots := 6, locals := 90 } : Room) (va_Pc [.int hh] (wPX D [(cI, .int)] [])) XN (XT eIO) 1 6 (fun _ => False) := by
  refine mX_of (by decide) rfl (Nat.le_of_ble_eq_true rfl) ?_
  intro p e s m below meth c hx hb hr hml hown hts hlocks ht hP hK hN hX hZ ls hl
  have hown : s.vm.findClass RX1 = some m.cls := hown
  have hl : lv_has ls 1 [(0, .int hh)] := hl
  refine lv_iload_n hx hb dX1_needHopper_0 rfl (lv_at hl 0 rfl) ?_
  refine lv_if_lt (tgt := 9) hx hb dX1_needHopper_1 (by decide) (fun c_1 => ?_) (fun c_1 => ?_)
  · obtain ⟨sa, hstr⟩ := hX.2.1
    exact vx_throwS hx hb hst (A := fun q => s.heap.size ≤ q) (own := RX1) (cls := eIO) (text := "there is no such hopper") (names := eNm) (ik := 187) (is := 197) (ic := 191) (sa := sa) (mc := 1) (ms := 6) hown (by decide) (by decide) (hts (.classLink RX1 187 eIO) (mg 1 rfl)) (hts (.initialized eIO) (mg 2 rfl)) hstr (vx_hat (B := [.castable eIO eIO, .declares (Bundle.initS "java/lang/RuntimeException"), .declares (Bundle.initS "java/lang/Exception"), .declares (Bundle.initS Bundle.tN)]) (fun w h => hts w (List.mem_cons_of_mem _ (List.mem_append_right _ h))) (by decide +kernel) (vx_c (va_Nw.use rfl hX.2.2.2.2.2.1) (vx_c (va_Nw.use rfl hX.2.2.2.2.2.2.2.2.2.2.1) (vx_c (va_Nw.use rfl hX.2.2.2.2.2.2.2.2.2.2.2.1) (vx_c (va_Nw.use rfl hX.2.2.2.2.2.2.2.2.2.2.2.2) vx_n))))) (by decide +kernel) hZ.1 hZ.2 va_S.rf (hl.1.trans hml.symm) dX1_needHopper_9 dX1_needHopper_12 dX1_needHopper_13 dX1_needHopper_15 dX1_needHopper_18 (fun x hx => (ht x hx).elim) (Nat.le_of_ble_eq_true rfl) (Nat.le_of_ble_eq_true rfl) (Nat.le_of_ble_eq_true rfl) (Nat.le_of_ble_eq_true rfl) hlocks (fun t _ h1 h2 => ⟨rfl, h1, h2⟩) (fun z hz => absurd hz List.not_mem_nil) (by decide) (by decide)
  · refine lv_iload_n hx hb dX1_needHopper_4 rfl (lv_at hl 0 rfl) ?_
    refine lv_iconst (v := 2) hx hb dX1_needHopper_5 (by decide) ?_
    refine lv_icmp_lt (tgt := 19) hx hb dX1_needHopper_6 (by decide) (fun c9 => absurd c9 (xhas_n2 hp c_1)) (fun c_2 => ?_)
    obtain ⟨sa, hstr⟩ := hX.2.1
    exact vx_throwS hx hb hst (A := fun q => s.heap.size ≤ q) (own := RX1) (cls := eIO) (text := "there is no such hopper") (names := eNm) (ik := 187) (is := 197) (ic := 191) (sa := sa) (mc := 1) (ms := 6) hown (by decide) (by decide) (hts (.classLink RX1 187 eIO) (mg 1 rfl)) (hts (.initialized eIO) (mg 2 rfl)) hstr (vx_hat (B := [.castable eIO eIO, .declares (Bundle.initS "java/lang/RuntimeException"), .declares (Bundle.initS "java/lang/Exception"), .declares (Bundle.initS Bundle.tN)]) (fun w h => hts w (List.mem_cons_of_mem _ (List.mem_append_right _ h))) (by decide +kernel) (vx_c (va_Nw.use rfl hX.2.2.2.2.2.1) (vx_c (va_Nw.use rfl hX.2.2.2.2.2.2.2.2.2.2.1) (vx_c (va_Nw.use rfl hX.2.2.2.2.2.2.2.2.2.2.2.1) (vx_c (va_Nw.use rfl hX.2.2.2.2.2.2.2.2.2.2.2.2) vx_n))))) (by decide +kernel) hZ.1 hZ.2 va_S.rf (hl.1.trans hml.symm) dX1_needHopper_9 dX1_needHopper_12 dX1_needHopper_13 dX1_needHopper_15 dX1_needHopper_18 (fun x hx => (ht x hx).elim) (Nat.le_of_ble_eq_true rfl) (Nat.le_of_ble_eq_true rfl) (Nat.le_of_ble_eq_true rfl) (Nat.le_of_ble_eq_true rfl) hlocks (fun t _ h1 h2 => ⟨rfl, h1, h2⟩) (fun z hz => absurd hz List.not_mem_nil) (by decide) (by decide)
set_option maxHeartbeats 4000000 in
set_option maxRecDepth 100000 in
theorem tX1_needWithin (l : Launch) (hst : l.stackTraces = false) (D : va_G) (cI : ClassId)  (vv lo_ hi_ : Int32) (hp : xin vv lo_ hi_ = false) : vx_Met l yX1_needWithin wsX1_needWithin ({ frames := 6, cells := 1, slots := 6, locals := 90 } : Room) (va_Pc [.int vv, .int lo_, .int hi_] (wPX D [(cI, .int)] [])) XN (XT eIA) 1 6 (fun _ => False) := by
  refine mX_of (by decide) rfl (Nat.le_of_ble_eq_true rfl) ?_
  intro p e s m below meth c hx hb hr hml hown hts hlocks ht hP hK hN hX hZ ls hl
  have hown : s.vm.findClass RX1 = some m.cls := hown
  have hl : lv_has ls 3 [(0, .int vv), (1, .int lo_), (2, .int hi_)] := hl
  refine lv_iload_n hx hb dX1_needWithin_0 rfl (lv_at hl 0 rfl) ?_
  refine lv_iload_n hx hb dX1_needWithin_1 rfl (lv_at hl 1 rfl) ?_
  refine lv_icmp_lt (tgt := 10) hx hb dX1_needWithin_2 (by decide) (fun c_1 => ?_) (fun c_1 => ?_)
  · obtain ⟨sa, hstr⟩ := hX.2.2.2.1
    exact vx_throwS hx hb hst (A := fun q => s.heap.size ≤ q) (own := RX1) (cls := eIA) (text := "a number is too small or too large") (names := eNm) (ik := 199) (is := 201) (ic := 203) (sa := sa) (mc := 1) (ms := 6) hown (by decide) (by decide) (hts (.classLink RX1 199 eIA) (mg 1 rfl)) (hts (.initialized eIA) (mg 2 rfl)) hstr (vx_hat (B := [.castable eIA eIA, .declares (Bundle.initS "java/lang/RuntimeException"), .declares (Bundle.initS "java/lang/Exception"), .declares (Bundle.initS Bundle.tN)]) (fun w h => hts w (List.mem_cons_of_mem _ (List.mem_append_right _ h))) (by decide +kernel) (vx_c (va_Nw.use rfl hX.2.2.2.2.2.2.1) (vx_c (va_Nw.use rfl hX.2.2.2.2.2.2.2.2.2.2.1) (vx_c (va_Nw.use rfl hX.2.2.2.2.2.2.2.2.2.2.2.1) (vx_c (va_Nw.use rfl hX.2.2.2.2.2.2.2.2.2.2.2.2) vx_n))))) (by decide +kernel) hZ.1 hZ.2 va_S.rf (hl.1.trans hml.symm) dX1_needWithin_10 dX1_needWithin_13 dX1_needWithin_14 dX1_needWithin_16 dX1_needWithin_19 (fun x hx => (ht x hx).elim) (Nat.le_of_ble_eq_true rfl) (Nat.le_of_ble_eq_true rfl) (Nat.le_of_ble_eq_true rfl) (Nat.le_of_ble_eq_true rfl) hlocks (fun t _ h1 h2 => ⟨rfl, h1, h2⟩) (fun z hz => absurd hz List.not_mem_nil) (by decide) (by decide)
  · refine lv_iload_n hx hb dX1_needWithin_5 rfl (lv_at hl 0 rfl) ?_
    refine lv_iload_n hx hb dX1_needWithin_6 rfl (lv_at hl 2 rfl) ?_
    refine lv_icmp_le (tgt := 20) hx hb dX1_needWithin_7 (by decide) (fun c9 => absurd c9 (xin_n hp c_1)) (fun c_2 => ?_)
    obtain ⟨sa, hstr⟩ := hX.2.2.2.1
    exact vx_throwS hx hb hst (A := fun q => s.heap.size ≤ q) (own := RX1) (cls := eIA) (text := "a number is too small or too large") (names := eNm) (ik := 199) (is := 201) (ic := 203) (sa := sa) (mc := 1) (ms := 6) hown (by decide) (by decide) (hts (.classLink RX1 199 eIA) (mg 1 rfl)) (hts (.initialized eIA) (mg 2 rfl)) hstr (vx_hat (B := [.castable eIA eIA, .declares (Bundle.initS "java/lang/RuntimeException"), .declares (Bundle.initS "java/lang/Exception"), .declares (Bundle.initS Bundle.tN)]) (fun w h => hts w (List.mem_cons_of_mem _ (List.mem_append_right _ h))) (by decide +kernel) (vx_c (va_Nw.use rfl hX.2.2.2.2.2.2.1) (vx_c (va_Nw.use rfl hX.2.2.2.2.2.2.2.2.2.2.1) (vx_c (va_Nw.use rfl hX.2.2.2.2.2.2.2.2.2.2.2.1) (vx_c (va_Nw.use rfl hX.2.2.2.2.2.2.2.2.2.2.2.2) vx_n))))) (by decide +kernel) hZ.1 hZ.2 va_S.rf (hl.1.trans hml.symm) dX1_needWithin_10 dX1_needWithin_13 dX1_needWithin_14 dX1_needWithin_16 dX1_needWithin_19 (fun x hx => (ht x hx).elim) (Nat.le_of_ble_eq_true rfl) (Nat.le_of_ble_eq_true rfl) (Nat.le_of_ble_eq_true rfl) (Nat.le_of_ble_eq_true rfl) hlocks (fun t _ h1 h2 => ⟨rfl, h1, h2⟩) (fun z hz => absurd hz List.not_mem_nil) (by decide) (by decide)
set_option maxHeartbeats 4000000 in
set_option maxRecDepth 100000 in
theorem tX1_put_r (l : Launch) (hst : l.stackTraces = false) (D : va_G) (cI : ClassId) (x : Nat) (b : Nat → Nat) (a : Nat → Nat) (pa pe st bn hc hm : Nat → Int32) (C R lo : Int32) (rr kk np : Int32) (hp : xhas R rr = false) : vx_Met l yX1_put wsX1_put ({ frames := 8, cells := 1, slots := 6, locals := 133 } : Room) (va_Pc [.ref x, .int rr, .int kk, .int np] (wPX D [(cI, .int)] (wX x a b ++ wM cI a pa pe st bn hc hm C R lo))) XN (XT eIO) 1 6 (fun _ => False) := by
  refine mX_of (by decide) rfl (Nat.le_of_ble_eq_true rfl) ?_
  intro p e s m below meth c hx hb hr hml hown hts hlocks ht hP hK hN hX hZ ls hl
  have hown : s.vm.findClass RX1 = some m.cls := hown
  have hl : lv_has ls 4 [(0, .ref x), (1, .int rr), (2, .int kk), (3, .int np)] := hl
  refine lv_aload_n hx hb dX1_put_0 rfl (lv_at hl 0 rfl) ?_
  refine lv_iload_n hx hb dX1_put_1 rfl (lv_at hl 1 rfl) ?_
  refine lv_iload_n hx hb dX1_put_2 rfl (lv_at hl 2 rfl) ?_
  exact kXVo (As := [.int rr, .int kk]) (rest := []) ⟨hx, hb, hml, hown, hts⟩ (tX1_needPlace_r l hst D cI x b a pa pe st bn hc hm C R lo rr kk hp) (cwV 2 hts gX1_put_X1_needPlace rfl rfl rfl (by decide +kernel) ⟨Nat.le_of_ble_eq_true rfl, Nat.le_of_ble_eq_true rfl⟩) hP hK hN hX hZ [0, 1, 2, 3, 4, 5, 6, 7] rfl [0] rfl rfl rfl rfl hl.1 rfl (Nat.le_of_ble_eq_true rfl) dX1_put_3 ⟨Nat.le_of_ble_eq_true rfl, Nat.le_of_ble_eq_true rfl⟩ hlocks ht
set_option maxHeartbeats 4000000 in
set_option maxRecDepth 100000 in
theorem tX1_put_c (l : Launch) (hst : l.stackTraces = false) (D : va_G) (cI : ClassId) (x : Nat) (b : Nat → Nat) (a : Nat → Nat) (pa pe st bn hc hm : Nat → Int32) (C R lo : Int32) (rr kk np : Int32) (hp : xhas R rr = true) (hq : xhas C kk = false) : vx_Met l yX1_put wsX1_put ({ frames := 8, cells := 1, slots := 6, locals := 133 } : Room) (va_Pc [.ref x, .int rr, .int kk, .int np] (wPX D [(cI, .int)] (wX x a b ++ wM cI a pa pe st bn hc hm C R lo))) XN (XT eIO) 1 6 (fun _ => False) := by
  refine mX_of (by decide) rfl (Nat.le_of_ble_eq_true rfl) ?_
  intro p e s m below meth c hx hb hr hml hown hts hlocks ht hP hK hN hX hZ ls hl
  have hown : s.vm.findClass RX1 = some m.cls := hown
  have hl : lv_has ls 4 [(0, .ref x), (1, .int rr), (2, .int kk), (3, .int np)] := hl
  refine lv_aload_n hx hb dX1_put_0 rfl (lv_at hl 0 rfl) ?_
  refine lv_iload_n hx hb dX1_put_1 rfl (lv_at hl 1 rfl) ?_
  refine lv_iload_n hx hb dX1_put_2 rfl (lv_at hl 2 rfl) ?_
  exact kXVo (As := [.int rr, .int kk]) (rest := []) ⟨hx, hb, hml, hown, hts⟩ (tX1_needPlace_c l hst D cI x b a pa pe st bn hc hm C R lo rr kk hp hq) (cwV 2 hts gX1_put_X1_needPlace rfl rfl rfl (by decide +kernel) ⟨Nat.le_of_ble_eq_true rfl, Nat.le_of_ble_eq_true rfl⟩) hP hK hN hX hZ [0, 1, 2, 3, 4, 5, 6, 7] rfl [0] rfl rfl rfl rfl hl.1 rfl (Nat.le_of_ble_eq_true rfl) dX1_put_3 ⟨Nat.le_of_ble_eq_true rfl, Nat.le_of_ble_eq_true rfl⟩ hlocks ht
set_option maxHeartbeats 4000000 in
set_option maxRecDepth 100000 in
theorem tX1_putCounter_r (l : Launch) (hst : l.stackTraces = false) (D : va_G) (cI : ClassId) (x : Nat) (b : Nat → Nat) (a : Nat → Nat) (pa pe st bn hc hm : Nat → Int32) (C R lo : Int32) (rr kk nq : Int32) (hp : xhas R rr = false) : vx_Met l yX1_putCounter wsX1_putCounter ({ frames := 8, cells := 1, slots := 6, locals := 133 } : Room) (va_Pc [.ref x, .int rr, .int kk, .int nq] (wPX D [(cI, .int)] (wX x a b ++ wM cI a pa pe st bn hc hm C R lo))) XN (XT eIO) 1 6 (fun _ => False) := by
  refine mX_of (by decide) rfl (Nat.le_of_ble_eq_true rfl) ?_
  intro p e s m below meth c hx hb hr hml hown hts hlocks ht hP hK hN hX hZ ls hl
  have hown : s.vm.findClass RX1 = some m.cls := hown
  have hl : lv_has ls 4 [(0, .ref x), (1, .int rr), (2, .int kk), (3, .int nq)] := hl
  refine lv_aload_n hx hb dX1_putCounter_0 rfl (lv_at hl 0 rfl) ?_
  refine lv_iload_n hx hb dX1_putCounter_1 rfl (lv_at hl 1 rfl) ?_
  refine lv_iload_n hx hb dX1_putCounter_2 rfl (lv_at hl 2 rfl) ?_
  exact kXVo (As := [.int rr, .int kk]) (rest := []) ⟨hx, hb, hml, hown, hts⟩ (tX1_needPlace_r l hst D cI x b a pa pe st bn hc hm C R lo rr kk hp) (cwV 2 hts gX1_putCounter_X1_needPlace rfl rfl rfl (by decide +kernel) ⟨Nat.le_of_ble_eq_true rfl, Nat.le_of_ble_eq_true rfl⟩) hP hK hN hX hZ [0, 1, 2, 3, 4, 5, 6, 7] rfl [0] rfl rfl rfl rfl hl.1 rfl (Nat.le_of_ble_eq_true rfl) dX1_putCounter_3 ⟨Nat.le_of_ble_eq_true rfl, Nat.le_of_ble_eq_true rfl⟩ hlocks ht
set_option maxHeartbeats 4000000 in
set_option maxRecDepth 100000 in
theorem tX1_putCounter_c (l : Launch) (hst : l.stackTraces = false) (D : va_G) (cI : ClassId) (x : Nat) (b : Nat → Nat) (a : Nat → Nat) (pa pe st bn hc hm : Nat → Int32) (C R lo : Int32) (rr kk nq : Int32) (hp : xhas R rr = true) (hq : xhas C kk = false) : vx_Met l yX1_putCounter wsX1_putCounter ({ frames := 8, cells := 1, slots := 6, locals := 133 } : Room) (va_Pc [.ref x, .int rr, .int kk, .int nq] (wPX D [(cI, .int)] (wX x a b ++ wM cI a pa pe st bn hc hm C R lo))) XN (XT eIO) 1 6 (fun _ => False) := by
  refine mX_of (by decide) rfl (Nat.le_of_ble_eq_true rfl) ?_
  intro p e s m below meth c hx hb hr hml hown hts hlocks ht hP hK hN hX hZ ls hl
  have hown : s.vm.findClass RX1 = some m.cls := hown
  have hl : lv_has ls 4 [(0, .ref x), (1, .int rr), (2, .int kk), (3, .int nq)] := hl
  refine lv_aload_n hx hb dX1_putCounter_0 rfl (lv_at hl 0 rfl) ?_
  refine lv_iload_n hx hb dX1_putCounter_1 rfl (lv_at hl 1 rfl) ?_
  refine lv_iload_n hx hb dX1_putCounter_2 rfl (lv_at hl 2 rfl) ?_
  exact kXVo (As := [.int rr, .int kk]) (rest := []) ⟨hx, hb, hml, hown, hts⟩ (tX1_needPlace_c l hst D cI x b a pa pe st bn hc hm C R lo rr kk hp hq) (cwV 2 hts gX1_putCounter_X1_needPlace rfl rfl rfl (by decide +kernel) ⟨Nat.le_of_ble_eq_true rfl, Nat.le_of_ble_eq_true rfl⟩) hP hK hN hX hZ [0, 1, 2, 3, 4, 5, 6, 7] rfl [0] rfl rfl rfl rfl hl.1 rfl (Nat.le_of_ble_eq_true rfl) dX1_putCounter_3 ⟨Nat.le_of_ble_eq_true rfl, Nat.le_of_ble_eq_true rfl⟩ hlocks ht
set_option maxHeartbeats 4000000 in
set_option maxRecDepth 100000 in
theorem tX1_turn_r (l : Launch) (hst : l.stackTraces = false) (D : va_G) (cI : ClassId) (x : Nat) (b : Nat → Nat) (a : Nat → Nat) (pa pe st bn hc hm : Nat → Int32) (C R lo : Int32) (rr kk : Int32) (hp : xhas R rr = false) : vx_Met l yX1_turn wsX1_turn ({ frames := 8, cells := 1, slots := 6, locals := 133 } : Room) (va_Pc [.ref x, .int rr, .int kk] (wPX D [(cI, .int)] (wX x a b ++ wM cI a pa pe st bn hc hm C R lo))) XN (XT eIO) 1 6 (fun _ => False) := by
  refine mX_of (by decide) rfl (Nat.le_of_ble_eq_true rfl) ?_
  intro p e s m below meth c hx hb hr hml hown hts hlocks ht hP hK hN hX hZ ls hl
  have hown : s.vm.findClass RX1 = some m.cls := hown
  have hl : lv_has ls 4 [(0, .ref x), (1, .int rr), (2, .int kk)] := hl
  refine lv_aload_n hx hb dX1_turn_0 rfl (lv_at hl 0 rfl) ?_
  refine lv_iload_n hx hb dX1_turn_1 rfl (lv_at hl 1 rfl) ?_
  refine lv_iload_n hx hb dX1_turn_2 rfl (lv_at hl 2 rfl) ?_
  exact kXVo (As := [.int rr, .int kk]) (rest := []) ⟨hx, hb, hml, hown, hts⟩ (tX1_needPlace_r l hst D cI x b a pa pe st bn hc hm C R lo rr kk hp) (cwV 2 hts gX1_turn_X1_needPlace rfl rfl rfl (by decide +kernel) ⟨Nat.le_of_ble_eq_true rfl, Nat.le_of_ble_eq_true rfl⟩) hP hK hN hX hZ [0, 1, 2, 3, 4, 5, 6, 7] rfl [0] rfl rfl rfl rfl hl.1 rfl (Nat.le_of_ble_eq_true rfl) dX1_turn_3 ⟨Nat.le_of_ble_eq_true rfl, Nat.le_of_ble_eq_true rfl⟩ hlocks ht
set_option maxHeartbeats 4000000 in
set_option maxRecDepth 100000 in
theorem tX1_turn_c (l : Launch) (hst : l.stackTraces = false) (D : va_G) (cI : ClassId) (x : Nat) (b : Nat → Nat) (a : Nat → Nat) (pa pe st bn hc hm : Nat → Int32) (C R lo : Int32) (rr kk : Int32) (hp : xhas R rr = true) (hq : xhas C kk = false) : vx_Met l yX1_turn wsX1_turn ({ frames := 8, cells := 1, slots := 6, locals := 133 } : Room) (va_Pc [.ref x, .int rr, .int kk] (wPX D [(cI, .int)] (wX x a b ++ wM cI a pa pe st bn hc hm C R lo))) XN (XT eIO) 1 6 (fun _ => False) := by
  refine mX_of (by decide) rfl (Nat.le_of_ble_eq_true rfl) ?_
  intro p e s m below meth c hx hb hr hml hown hts hlocks ht hP hK hN hX hZ ls hl
  have hown : s.vm.findClass RX1 = some m.cls := hown
  have hl : lv_has ls 4 [(0, .ref x), (1, .int rr), (2, .int kk)] := hl
  refine lv_aload_n hx hb dX1_turn_0 rfl (lv_at hl 0 rfl) ?_
  refine lv_iload_n hx hb dX1_turn_1 rfl (lv_at hl 1 rfl) ?_
  refine lv_iload_n hx hb dX1_turn_2 rfl (lv_at hl 2 rfl) ?_
  exact kXVo (As := [.int rr, .int kk]) (rest := []) ⟨hx, hb, hml, hown, hts⟩ (tX1_needPlace_c l hst D cI x b a pa pe st bn hc hm C R lo rr kk hp hq) (cwV 2 hts gX1_turn_X1_needPlace rfl rfl rfl (by decide +kernel) ⟨Nat.le_of_ble_eq_true rfl, Nat.le_of_ble_eq_true rfl⟩) hP hK hN hX hZ [0, 1, 2, 3, 4, 5, 6, 7] rfl [0] rfl rfl rfl rfl hl.1 rfl (Nat.le_of_ble_eq_true rfl) dX1_turn_3 ⟨Nat.le_of_ble_eq_true rfl, Nat.le_of_ble_eq_true rfl⟩ hlocks ht
set_option maxHeartbeats 4000000 in
set_option maxRecDepth 100000 in
theorem tX1_partAt_r (l : Launch) (hst : l.stackTraces = false) (D : va_G) (cI : ClassId) (x : Nat) (b : Nat → Nat) (a : Nat → Nat) (pa pe st bn hc hm : Nat → Int32) (C R lo : Int32) (rr kk : Int32) (hp : xhas R rr = false) : vx_Met l yX1_partAt wsX1_partAt ({ frames := 8, cells := 1, slots := 6, locals := 133 } : Room) (va_Pc [.ref x, .int rr, .int kk] (wPX D [(cI, .int)] (wX x a b ++ wM cI a pa pe st bn hc hm C R lo))) XN (XT eIO) 1 6 (fun _ => False) := by
  refine mX_of (by decide) rfl (Nat.le_of_ble_eq_true rfl) ?_
  intro p e s m below meth c hx hb hr hml hown hts hlocks ht hP hK hN hX hZ ls hl
  have hown : s.vm.findClass RX1 = some m.cls := hown
  have hl : lv_has ls 3 [(0, .ref x), (1, .int rr), (2, .int kk)] := hl
  refine lv_aload_n hx hb dX1_partAt_0 rfl (lv_at hl 0 rfl) ?_
  refine lv_iload_n hx hb dX1_partAt_1 rfl (lv_at hl 1 rfl) ?_
  refine lv_iload_n hx hb dX1_partAt_2 rfl (lv_at hl 2 rfl) ?_
  exact kXVo (As := [.int rr, .int kk]) (rest := []) ⟨hx, hb, hml, hown, hts⟩ (tX1_needPlace_r l hst D cI x b a pa pe st bn hc hm C R lo rr kk hp) (cwV 2 hts gX1_partAt_X1_needPlace rfl rfl rfl (by decide +kernel) ⟨Nat.le_of_ble_eq_true rfl, Nat.le_of_ble_eq_true rfl⟩) hP hK hN hX hZ [0, 1, 2, 3, 4, 5, 6, 7] rfl [0] rfl rfl rfl rfl hl.1 rfl (Nat.le_of_ble_eq_true rfl) dX1_partAt_3 ⟨Nat.le_of_ble_eq_true rfl, Nat.le_of_ble_eq_true rfl⟩ hlocks ht
set_option maxHeartbeats 4000000 in
set_option maxRecDepth 100000 in
theorem tX1_partAt_c (l : Launch) (hst : l.stackTraces = false) (D : va_G) (cI : ClassId) (x : Nat) (b : Nat → Nat) (a : Nat → Nat) (pa pe st bn hc hm : Nat → Int32) (C R lo : Int32) (rr kk : Int32) (hp : xhas R rr = true) (hq : xhas C kk = false) : vx_Met l yX1_partAt wsX1_partAt ({ frames := 8, cells := 1, slots := 6, locals := 133 } : Room) (va_Pc [.ref x, .int rr, .int kk] (wPX D [(cI, .int)] (wX x a b ++ wM cI a pa pe st bn hc hm C R lo))) XN (XT eIO) 1 6 (fun _ => False) := by
  refine mX_of (by decide) rfl (Nat.le_of_ble_eq_true rfl) ?_
  intro p e s m below meth c hx hb hr hml hown hts hlocks ht hP hK hN hX hZ ls hl
  have hown : s.vm.findClass RX1 = some m.cls := hown
  have hl : lv_has ls 3 [(0, .ref x), (1, .int rr), (2, .int kk)] := hl
  refine lv_aload_n hx hb dX1_partAt_0 rfl (lv_at hl 0 rfl) ?_
  refine lv_iload_n hx hb dX1_partAt_1 rfl (lv_at hl 1 rfl) ?_
  refine lv_iload_n hx hb dX1_partAt_2 rfl (lv_at hl 2 rfl) ?_
  exact kXVo (As := [.int rr, .int kk]) (rest := []) ⟨hx, hb, hml, hown, hts⟩ (tX1_needPlace_c l hst D cI x b a pa pe st bn hc hm C R lo rr kk hp hq) (cwV 2 hts gX1_partAt_X1_needPlace rfl rfl rfl (by decide +kernel) ⟨Nat.le_of_ble_eq_true rfl, Nat.le_of_ble_eq_true rfl⟩) hP hK hN hX hZ [0, 1, 2, 3, 4, 5, 6, 7] rfl [0] rfl rfl rfl rfl hl.1 rfl (Nat.le_of_ble_eq_true rfl) dX1_partAt_3 ⟨Nat.le_of_ble_eq_true rfl, Nat.le_of_ble_eq_true rfl⟩ hlocks ht
set_option maxHeartbeats 4000000 in
set_option maxRecDepth 100000 in
theorem tX1_leadsRight_r (l : Launch) (hst : l.stackTraces = false) (D : va_G) (cI : ClassId) (x : Nat) (b : Nat → Nat) (a : Nat → Nat) (pa pe st bn hc hm : Nat → Int32) (C R lo : Int32) (rr kk : Int32) (hp : xhas R rr = false) : vx_Met l yX1_leadsRight wsX1_leadsRight ({ frames := 8, cells := 1, slots := 6, locals := 133 } : Room) (va_Pc [.ref x, .int rr, .int kk] (wPX D [(cI, .int)] (wX x a b ++ wM cI a pa pe st bn hc hm C R lo))) XN (XT eIO) 1 6 (fun _ => False) := by
  refine mX_of (by decide) rfl (Nat.le_of_ble_eq_true rfl) ?_
  intro p e s m below meth c hx hb hr hml hown hts hlocks ht hP hK hN hX hZ ls hl
  have hown : s.vm.findClass RX1 = some m.cls := hown
  have hl : lv_has ls 3 [(0, .ref x), (1, .int rr), (2, .int kk)] := hl
  refine lv_aload_n hx hb dX1_leadsRight_0 rfl (lv_at hl 0 rfl) ?_
  refine lv_iload_n hx hb dX1_leadsRight_1 rfl (lv_at hl 1 rfl) ?_
  refine lv_iload_n hx hb dX1_leadsRight_2 rfl (lv_at hl 2 rfl) ?_
  exact kXVo (As := [.int rr, .int kk]) (rest := []) ⟨hx, hb, hml, hown, hts⟩ (tX1_needPlace_r l hst D cI x b a pa pe st bn hc hm C R lo rr kk hp) (cwV 2 hts gX1_leadsRight_X1_needPlace rfl rfl rfl (by decide +kernel) ⟨Nat.le_of_ble_eq_true rfl, Nat.le_of_ble_eq_true rfl⟩) hP hK hN hX hZ [0, 1, 2, 3, 4, 5, 6, 7] rfl [0] rfl rfl rfl rfl hl.1 rfl (Nat.le_of_ble_eq_true rfl) dX1_leadsRight_3 ⟨Nat.le_of_ble_eq_true rfl, Nat.le_of_ble_eq_true rfl⟩ hlocks ht
set_option maxHeartbeats 4000000 in
set_option maxRecDepth 100000 in
theorem tX1_leadsRight_c (l : Launch) (hst : l.stackTraces = false) (D : va_G) (cI : ClassId) (x : Nat) (b : Nat → Nat) (a : Nat → Nat) (pa pe st bn hc hm : Nat → Int32) (C R lo : Int32) (rr kk : Int32) (hp : xhas R rr = true) (hq : xhas C kk = false) : vx_Met l yX1_leadsRight wsX1_leadsRight ({ frames := 8, cells := 1, slots := 6, locals := 133 } : Room) (va_Pc [.ref x, .int rr, .int kk] (wPX D [(cI, .int)] (wX x a b ++ wM cI a pa pe st bn hc hm C R lo))) XN (XT eIO) 1 6 (fun _ => False) := by
  refine mX_of (by decide) rfl (Nat.le_of_ble_eq_true rfl) ?_
  intro p e s m below meth c hx hb hr hml hown hts hlocks ht hP hK hN hX hZ ls hl
  have hown : s.vm.findClass RX1 = some m.cls := hown
  have hl : lv_has ls 3 [(0, .ref x), (1, .int rr), (2, .int kk)] := hl
  refine lv_aload_n hx hb dX1_leadsRight_0 rfl (lv_at hl 0 rfl) ?_
  refine lv_iload_n hx hb dX1_leadsRight_1 rfl (lv_at hl 1 rfl) ?_
  refine lv_iload_n hx hb dX1_leadsRight_2 rfl (lv_at hl 2 rfl) ?_
  exact kXVo (As := [.int rr, .int kk]) (rest := []) ⟨hx, hb, hml, hown, hts⟩ (tX1_needPlace_c l hst D cI x b a pa pe st bn hc hm C R lo rr kk hp hq) (cwV 2 hts gX1_leadsRight_X1_needPlace rfl rfl rfl (by decide +kernel) ⟨Nat.le_of_ble_eq_true rfl, Nat.le_of_ble_eq_true rfl⟩) hP hK hN hX hZ [0, 1, 2, 3, 4, 5, 6, 7] rfl [0] rfl rfl rfl rfl hl.1 rfl (Nat.le_of_ble_eq_true rfl) dX1_leadsRight_3 ⟨Nat.le_of_ble_eq_true rfl, Nat.le_of_ble_eq_true rfl⟩ hlocks ht
set_option maxHeartbeats 4000000 in
set_option maxRecDepth 100000 in
theorem tX1_countAt_r (l : Launch) (hst : l.stackTraces = false) (D : va_G) (cI : ClassId) (x : Nat) (b : Nat → Nat) (a : Nat → Nat) (pa pe st bn hc hm : Nat → Int32) (C R lo : Int32) (rr kk : Int32) (hp : xhas R rr = false) : vx_Met l yX1_countAt wsX1_countAt ({ frames := 8, cells := 1, slots := 6, locals := 133 } : Room) (va_Pc [.ref x, .int rr, .int kk] (wPX D [(cI, .int)] (wX x a b ++ wM cI a pa pe st bn hc hm C R lo))) XN (XT eIO) 1 6 (fun _ => False) := by
  refine mX_of (by decide) rfl (Nat.le_of_ble_eq_true rfl) ?_
  intro p e s m below meth c hx hb hr hml hown hts hlocks ht hP hK hN hX hZ ls hl
  have hown : s.vm.findClass RX1 = some m.cls := hown
  have hl : lv_has ls 3 [(0, .ref x), (1, .int rr), (2, .int kk)] := hl
  refine lv_aload_n hx hb dX1_countAt_0 rfl (lv_at hl 0 rfl) ?_
  refine lv_iload_n hx hb dX1_countAt_1 rfl (lv_at hl 1 rfl) ?_
  refine lv_iload_n hx hb dX1_countAt_2 rfl (lv_at hl 2 rfl) ?_
  exact kXVo (As := [.int rr, .int kk]) (rest := []) ⟨hx, hb, hml, hown, hts⟩ (tX1_needPlace_r l hst D cI x b a pa pe st bn hc hm C R lo rr kk hp) (cwV 2 hts gX1_countAt_X1_needPlace rfl rfl rfl (by decide +kernel) ⟨Nat.le_of_ble_eq_true rfl, Nat.le_of_ble_eq_true rfl⟩) hP hK hN hX hZ [0, 1, 2, 3, 4, 5, 6, 7] rfl [0] rfl rfl rfl rfl hl.1 rfl (Nat.le_of_ble_eq_true rfl) dX1_countAt_3 ⟨Nat.le_of_ble_eq_true rfl, Nat.le_of_ble_eq_true rfl⟩ hlocks ht
set_option maxHeartbeats 4000000 in
set_option maxRecDepth 100000 in
theorem tX1_countAt_c (l : Launch) (hst : l.stackTraces = false) (D : va_G) (cI : ClassId) (x : Nat) (b : Nat → Nat) (a : Nat → Nat) (pa pe st bn hc hm : Nat → Int32) (C R lo : Int32) (rr kk : Int32) (hp : xhas R rr = true) (hq : xhas C kk = false) : vx_Met l yX1_countAt wsX1_countAt ({ frames := 8, cells := 1, slots := 6, locals := 133 } : Room) (va_Pc [.ref x, .int rr, .int kk] (wPX D [(cI, .int)] (wX x a b ++ wM cI a pa pe st bn hc hm C R lo))) XN (XT eIO) 1 6 (fun _ => False) := by
  refine mX_of (by decide) rfl (Nat.le_of_ble_eq_true rfl) ?_
  intro p e s m below meth c hx hb hr hml hown hts hlocks ht hP hK hN hX hZ ls hl
  have hown : s.vm.findClass RX1 = some m.cls := hown
  have hl : lv_has ls 3 [(0, .ref x), (1, .int rr), (2, .int kk)] := hl
  refine lv_aload_n hx hb dX1_countAt_0 rfl (lv_at hl 0 rfl) ?_
  refine lv_iload_n hx hb dX1_countAt_1 rfl (lv_at hl 1 rfl) ?_
  refine lv_iload_n hx hb dX1_countAt_2 rfl (lv_at hl 2 rfl) ?_
  exact kXVo (As := [.int rr, .int kk]) (rest := []) ⟨hx, hb, hml, hown, hts⟩ (tX1_needPlace_c l hst D cI x b a pa pe st bn hc hm C R lo rr kk hp hq) (cwV 2 hts gX1_countAt_X1_needPlace rfl rfl rfl (by decide +kernel) ⟨Nat.le_of_ble_eq_true rfl, Nat.le_of_ble_eq_true rfl⟩) hP hK hN hX hZ [0, 1, 2, 3, 4, 5, 6, 7] rfl [0] rfl rfl rfl rfl hl.1 rfl (Nat.le_of_ble_eq_true rfl) dX1_countAt_3 ⟨Nat.le_of_ble_eq_true rfl, Nat.le_of_ble_eq_true rfl⟩ hlocks ht
set_option maxHeartbeats 4000000 in
set_option maxRecDepth 100000 in
theorem tX1_put_a (l : Launch) (hst : l.stackTraces = false) (D : va_G) (cI : ClassId) (x : Nat) (b : Nat → Nat) (a : Nat → Nat) (pa pe st bn hc hm : Nat → Int32) (C R lo : Int32) (rr kk np : Int32) (hp : xhas R rr = true) (hq : xhas C kk = true) (hr3 : xin np 0 4 = false) : vx_Met l yX1_put wsX1_put ({ frames := 8, cells := 1, slots := 6, locals := 133 } : Room) (va_Pc [.ref x, .int rr, .int kk, .int np] (wPX D [(cI, .int)] (wX x a b ++ wM cI a pa pe st bn hc hm C R lo))) XN (XT eIA) 1 6 (fun _ => False) := by
  refine mX_of (by decide) rfl (Nat.le_of_ble_eq_true rfl) ?_
  intro p e s m below meth c hx hb hr hml hown hts hlocks ht hP hK hN hX hZ ls hl
  have hown : s.vm.findClass RX1 = some m.cls := hown
  have hl : lv_has ls 4 [(0, .ref x), (1, .int rr), (2, .int kk), (3, .int np)] := hl
  refine lv_aload_n hx hb dX1_put_0 rfl (lv_at hl 0 rfl) ?_
  refine lv_iload_n hx hb dX1_put_1 rfl (lv_at hl 1 rfl) ?_
  refine lv_iload_n hx hb dX1_put_2 rfl (lv_at hl 2 rfl) ?_
  refine kRVv (As := [.int rr, .int kk]) (rest := []) ⟨hx, hb, hml, hown, hts⟩ (mX1_needPlace l D cI x b a pa pe st bn hc hm C R lo rr kk hp hq) (cwV 2 hts gX1_put_X1_needPlace rfl rfl rfl (by decide +kernel) ⟨Nat.le_of_ble_eq_true rfl, Nat.le_of_ble_eq_true rfl⟩) hP hK hN [0, 1, 2, 3, 4, 5, 6, 7] rfl [0] rfl rfl rfl rfl hl.1 rfl (Nat.le_of_ble_eq_true rfl) dX1_put_3 ⟨Nat.le_of_ble_eq_true rfl, Nat.le_of_ble_eq_true rfl⟩ ?_
  refine lv_iload_n hx hb dX1_put_6 rfl (lv_at hl 3 rfl) ?_
  refine lv_iconst (v := 0) hx hb dX1_put_7 (by decide) ?_
  refine lv_iconst (v := 4) hx hb dX1_put_8 (by decide) ?_
  exact kXSo (As := [.int np, .int 0, .int 4]) (rest := []) ⟨hx, hb, hml, hown, hts⟩ (tX1_needWithin l hst D cI np 0 4 hr3) (va_cwS 3 hts gX1_put_X1_needWithin rfl rfl rfl (by decide +kernel) ⟨Nat.le_of_ble_eq_true rfl, Nat.le_of_ble_eq_true rfl⟩) hP hK hN hX hZ [] rfl [0] rfl rfl hl.1 rfl (Nat.le_of_ble_eq_true rfl) dX1_put_9 ⟨Nat.le_of_ble_eq_true rfl, Nat.le_of_ble_eq_true rfl⟩ hlocks ht
set_option maxHeartbeats 4000000 in
set_option maxRecDepth 100000 in
theorem tX1_putCounter_a (l : Launch) (hst : l.stackTraces = false) (D : va_G) (cI : ClassId) (x : Nat) (b : Nat → Nat) (a : Nat → Nat) (pa pe st bn hc hm : Nat → Int32) (C R lo : Int32) (rr kk nq : Int32) (hp : xhas R rr = true) (hq : xhas C kk = true) (hr3 : xin nq 2 9 = false) : vx_Met l yX1_putCounter wsX1_putCounter ({ frames := 8, cells := 1, slots := 6, locals := 133 } : Room) (va_Pc [.ref x, .int rr, .int kk, .int nq] (wPX D [(cI, .int)] (wX x a b ++ wM cI a pa pe st bn hc hm C R lo))) XN (XT eIA) 1 6 (fun _ => False) := by
  refine mX_of (by decide) rfl (Nat.le_of_ble_eq_true rfl) ?_
  intro p e s m below meth c hx hb hr hml hown hts hlocks ht hP hK hN hX hZ ls hl
  have hown : s.vm.findClass RX1 = some m.cls := hown
  have hl : lv_has ls 4 [(0, .ref x), (1, .int rr), (2, .int kk), (3, .int nq)] := hl
  refine lv_aload_n hx hb dX1_putCounter_0 rfl (lv_at hl 0 rfl) ?_
  refine lv_iload_n hx hb dX1_putCounter_1 rfl (lv_at hl 1 rfl) ?_
  refine lv_iload_n hx hb dX1_putCounter_2 rfl (lv_at hl 2 rfl) ?_
  refine kRVv (As := [.int rr, .int kk]) (rest := []) ⟨hx, hb, hml, hown, hts⟩ (mX1_needPlace l D cI x b a pa pe st bn hc hm C R lo rr kk hp hq) (cwV 2 hts gX1_putCounter_X1_needPlace rfl rfl rfl (by decide +kernel) ⟨Nat.le_of_ble_eq_true rfl, Nat.le_of_ble_eq_true rfl⟩) hP hK hN [0, 1, 2, 3, 4, 5, 6, 7] rfl [0] rfl rfl rfl rfl hl.1 rfl (Nat.le_of_ble_eq_true rfl) dX1_putCounter_3 ⟨Nat.le_of_ble_eq_true rfl, Nat.le_of_ble_eq_true rfl⟩ ?_
  refine lv_iload_n hx hb dX1_putCounter_6 rfl (lv_at hl 3 rfl) ?_
  refine lv_iconst (v := 2) hx hb dX1_putCounter_7 (by decide) ?_
  refine lv_bipush (v := 9) hx hb dX1_putCounter_8 (by decide) ?_
  exact kXSo (As := [.int nq, .int 2, .int 9]) (rest := []) ⟨hx, hb, hml, hown, hts⟩ (tX1_needWithin l hst D cI nq 2 9 hr3) (va_cwS 3 hts gX1_putCounter_X1_needWithin rfl rfl rfl (by decide +kernel) ⟨Nat.le_of_ble_eq_true rfl, Nat.le_of_ble_eq_true rfl⟩) hP hK hN hX hZ [] rfl [0] rfl rfl hl.1 rfl (Nat.le_of_ble_eq_true rfl) dX1_putCounter_10 ⟨Nat.le_of_ble_eq_true rfl, Nat.le_of_ble_eq_true rfl⟩ hlocks ht
set_option maxHeartbeats 4000000 in
set_option maxRecDepth 100000 in
theorem tX1_turn_s (l : Launch) (hst : l.stackTraces = false) (D : va_G) (cI : ClassId) (x : Nat) (b : Nat → Nat) (a : Nat → Nat) (pa pe st bn hc hm : Nat → Int32) (C R lo : Int32) (rr kk : Int32) (hp : xhas R rr = true) (hq : xhas C kk = true) (hr3 : ¬ xcl 72 pa (rr * C + kk) = 3) : vx_Met l yX1_turn wsX1_turn ({ frames := 8, cells := 1, slots := 6, locals := 133 } : Room) (va_Pc [.ref x, .int rr, .int kk] (wPX D [(cI, .int)] (wX x a b ++ wM cI a pa pe st bn hc hm C R lo))) XN (XT eIS) 1 6 (fun _ => False) := by
  refine mX_of (by decide) rfl (Nat.le_of_ble_eq_true rfl) ?_
  intro p e s m below meth c hx hb hr hml hown hts hlocks ht hP hK hN hX hZ ls hl
  have hown : s.vm.findClass RX1 = some m.cls := hown
  have hl : lv_has ls 4 [(0, .ref x), (1, .int rr), (2, .int kk)] := hl
  refine lv_aload_n hx hb dX1_turn_0 rfl (lv_at hl 0 rfl) ?_
  refine lv_iload_n hx hb dX1_turn_1 rfl (lv_at hl 1 rfl) ?_
  refine lv_iload_n hx hb dX1_turn_2 rfl (lv_at hl 2 rfl) ?_
  refine kRVv (As := [.int rr, .int kk]) (rest := []) ⟨hx, hb, hml, hown, hts⟩ (mX1_needPlace l D cI x b a pa pe st bn hc hm C R lo rr kk hp hq) (cwV 2 hts gX1_turn_X1_needPlace rfl rfl rfl (by decide +kernel) ⟨Nat.le_of_ble_eq_true rfl, Nat.le_of_ble_eq_true rfl⟩) hP hK hN [0, 1, 2, 3, 4, 5, 6, 7] rfl [0] rfl rfl rfl rfl hl.1 rfl (Nat.le_of_ble_eq_true rfl) dX1_turn_3 ⟨Nat.le_of_ble_eq_true rfl, Nat.le_of_ble_eq_true rfl⟩ ?_
  refine lv_aload_n hx hb dX1_turn_6 rfl (lv_at hl 0 rfl) ?_
  refine va_get (D := D) (ci := 1) (v := .ref (a 0)) (C := RX1) (T := TX1) (N := 2) hx hb hts iw_X1_turn_X1 hown hK hP 0 rfl rfl 0 (by decide) (hts (.fieldLink RX1 10 "MarbleRamps" "now" "LMarbleRamps$Machine;") (mg 3 rfl)) (fun _ h9 => h9) rfl dX1_turn_7 ?_
  refine lv_iload_n hx hb dX1_turn_10 rfl (lv_at hl 1 rfl) ?_
  refine lv_iload_n hx hb dX1_turn_11 rfl (lv_at hl 2 rfl) ?_
  refine kRVi (As := [.int rr, .int kk]) (rest := []) ⟨hx, hb, hml, hown, hts⟩ (mX0_placeOf l D cI a pa pe st bn hc hm C R lo rr kk) (cwV 2 hts gX1_turn_X0_placeOf rfl rfl rfl (by decide +kernel) ⟨Nat.le_of_ble_eq_true rfl, Nat.le_of_ble_eq_true rfl⟩) hP hK hN [1, 2, 3, 4, 5, 6, 7] rfl [0] rfl rfl rfl rfl hl.1 rfl (Nat.le_of_ble_eq_true rfl) dX1_turn_12 ⟨Nat.le_of_ble_eq_true rfl, Nat.le_of_ble_eq_true rfl⟩ (fun r_1 hr_1 => ?_)
  subst r_1
  refine lv_istore_n (lv' := [(3, .int (rr * C + kk)), (0, .ref x), (1, .int rr), (2, .int kk)]) hx hb dX1_turn_15 rfl hl (by decide) rfl (fun ls hl => ?_)
  refine lv_aload_n hx hb dX1_turn_16 rfl (lv_at hl 1 rfl) ?_
  refine va_get (D := D) (ci := 1) (v := .ref (a 0)) (C := RX1) (T := TX1) (N := 2) hx hb hts iw_X1_turn_X1 hown hK hP 0 rfl rfl 0 (by decide) (hts (.fieldLink RX1 10 "MarbleRamps" "now" "LMarbleRamps$Machine;") (mg 3 rfl)) (fun _ h9 => h9) rfl dX1_turn_17 ?_
  refine lv_iload_n hx hb dX1_turn_20 rfl (lv_at hl 0 rfl) ?_
  refine kRVi (As := [.int (rr * C + kk)]) (rest := []) ⟨hx, hb, hml, hown, hts⟩ (mX0_partIn l D cI a pa pe st bn hc hm C R lo (rr * C + kk)) (cwV 1 hts gX1_turn_X0_partIn rfl rfl rfl (by decide +kernel) ⟨Nat.le_of_ble_eq_true rfl, Nat.le_of_ble_eq_true rfl⟩) hP hK hN [1, 2, 3, 4, 5, 6, 7] rfl [0] rfl rfl rfl rfl hl.1 rfl (Nat.le_of_ble_eq_true rfl) dX1_turn_21 ⟨Nat.le_of_ble_eq_true rfl, Nat.le_of_ble_eq_true rfl⟩ (fun r_2 hr_2 => ?_)
  subst r_2
  refine lv_iconst (v := 3) hx hb dX1_turn_24 (by decide) ?_
  refine lv_icmp_eq (tgt := 38) hx hb dX1_turn_25 (by decide) (fun c9 => absurd c9 hr3) (fun c_3 => ?_)
  obtain ⟨sa, hstr⟩ := hX.2.2.2.2.1
  exact vx_throwS hx hb hst (A := fun q => s.heap.size ≤ q) (own := RX1) (cls := eIS) (text := "there is no toggle") (names := eNm) (ik := 42) (is := 44) (ic := 46) (sa := sa) (mc := 1) (ms := 6) hown (by decide) (by decide) (hts (.classLink RX1 42 eIS) (mg 1 rfl)) (hts (.initialized eIS) (mg 2 rfl)) hstr (vx_hat (B := [.castable eIS eIS, .declares (Bundle.initS "java/lang/RuntimeException"), .declares (Bundle.initS "java/lang/Exception"), .declares (Bundle.initS Bundle.tN)]) (fun w h => hts w (List.mem_cons_of_mem _ (List.mem_append_left _ (List.mem_append_right _ h)))) (by decide +kernel) (vx_c (va_Nw.use rfl hX.2.2.2.2.2.2.2.1) (vx_c (va_Nw.use rfl hX.2.2.2.2.2.2.2.2.2.2.1) (vx_c (va_Nw.use rfl hX.2.2.2.2.2.2.2.2.2.2.2.1) (vx_c (va_Nw.use rfl hX.2.2.2.2.2.2.2.2.2.2.2.2) vx_n))))) (by decide +kernel) hZ.1 hZ.2 va_S.rf (hl.1.trans hml.symm) dX1_turn_28 dX1_turn_31 dX1_turn_32 dX1_turn_34 dX1_turn_37 (fun x hx => (ht x hx).elim) (Nat.le_of_ble_eq_true rfl) (Nat.le_of_ble_eq_true rfl) (Nat.le_of_ble_eq_true rfl) (Nat.le_of_ble_eq_true rfl) hlocks (fun t _ h1 h2 => ⟨rfl, h1, h2⟩) (fun z hz => absurd hz List.not_mem_nil) (by decide) (by decide)
set_option maxHeartbeats 4000000 in
set_option maxRecDepth 100000 in
theorem tX1_lay_c (l : Launch) (hst : l.stackTraces = false) (D : va_G) (cI : ClassId) (x : Nat) (b : Nat → Nat) (a : Nat → Nat) (pa pe st bn hc hm : Nat → Int32) (C R lo : Int32) (cc rr : Int32) (hp : xin cc 2 9 = false) : vx_Met l yX1_lay wsX1_lay ({ frames := 7, cells := 1, slots := 6, locals := 112 } : Room) (va_Pc [.ref x, .int cc, .int rr] (wPX D [(cI, .int)] (wX x a b ++ wM cI a pa pe st bn hc hm C R lo))) XN (XT eIA) 1 6 (fun _ => False) := by
  refine mX_of (by decide) rfl (Nat.le_of_ble_eq_true rfl) ?_
  intro p e s m below meth c hx hb hr hml hown hts hlocks ht hP hK hN hX hZ ls hl
  have hown : s.vm.findClass RX1 = some m.cls := hown
  have hl : lv_has ls 3 [(0, .ref x), (1, .int cc), (2, .int rr)] := hl
  refine lv_iload_n hx hb dX1_lay_0 rfl (lv_at hl 1 rfl) ?_
  refine lv_iconst (v := 2) hx hb dX1_lay_1 (by decide) ?_
  refine lv_bipush (v := 9) hx hb dX1_lay_2 (by decide) ?_
  exact kXSo (As := [.int cc, .int 2, .int 9]) (rest := []) ⟨hx, hb, hml, hown, hts⟩ (tX1_needWithin l hst D cI cc 2 9 hp) (va_cwS 3 hts gX1_lay_X1_needWithin rfl rfl rfl (by decide +kernel) ⟨Nat.le_of_ble_eq_true rfl, Nat.le_of_ble_eq_true rfl⟩) hP hK hN hX hZ [] rfl [0] rfl rfl hl.1 rfl (Nat.le_of_ble_eq_true rfl) dX1_lay_4 ⟨Nat.le_of_ble_eq_true rfl, Nat.le_of_ble_eq_true rfl⟩ hlocks ht
set_option maxHeartbeats 4000000 in
set_option maxRecDepth 100000 in
theorem tX1_lay_r (l : Launch) (hst : l.stackTraces = false) (D : va_G) (cI : ClassId) (x : Nat) (b : Nat → Nat) (a : Nat → Nat) (pa pe st bn hc hm : Nat → Int32) (C R lo : Int32) (cc rr : Int32) (hp : xin cc 2 9 = true) (hq : xin rr 1 8 = false) : vx_Met l yX1_lay wsX1_lay ({ frames := 7, cells := 1, slots := 6, locals := 112 } : Room) (va_Pc [.ref x, .int cc, .int rr] (wPX D [(cI, .int)] (wX x a b ++ wM cI a pa pe st bn hc hm C R lo))) XN (XT eIA) 1 6 (fun _ => False) := by
  refine mX_of (by decide) rfl (Nat.le_of_ble_eq_true rfl) ?_
  intro p e s m below meth c hx hb hr hml hown hts hlocks ht hP hK hN hX hZ ls hl
  have hown : s.vm.findClass RX1 = some m.cls := hown
  have hl : lv_has ls 3 [(0, .ref x), (1, .int cc), (2, .int rr)] := hl
  refine lv_iload_n hx hb dX1_lay_0 rfl (lv_at hl 1 rfl) ?_
  refine lv_iconst (v := 2) hx hb dX1_lay_1 (by decide) ?_
  refine lv_bipush (v := 9) hx hb dX1_lay_2 (by decide) ?_
  refine kRSv (As := [.int cc, .int 2, .int 9]) (rest := []) ⟨hx, hb, hml, hown, hts⟩ (mX1_needWithin l D cI cc 2 9 hp) (va_cwS 3 hts gX1_lay_X1_needWithin rfl rfl rfl (by decide +kernel) ⟨Nat.le_of_ble_eq_true rfl, Nat.le_of_ble_eq_true rfl⟩) hP hK hN [] rfl [0] rfl rfl hl.1 rfl (Nat.le_of_ble_eq_true rfl) dX1_lay_4 ⟨Nat.le_of_ble_eq_true rfl, Nat.le_of_ble_eq_true rfl⟩ ?_
  refine lv_iload_n hx hb dX1_lay_7 rfl (lv_at hl 2 rfl) ?_
  refine lv_iconst (v := 1) hx hb dX1_lay_8 (by decide) ?_
  refine lv_bipush (v := 8) hx hb dX1_lay_9 (by decide) ?_
  exact kXSo (As := [.int rr, .int 1, .int 8]) (rest := []) ⟨hx, hb, hml, hown, hts⟩ (tX1_needWithin l hst D cI rr 1 8 hq) (va_cwS 3 hts gX1_lay_X1_needWithin rfl rfl rfl (by decide +kernel) ⟨Nat.le_of_ble_eq_true rfl, Nat.le_of_ble_eq_true rfl⟩) hP hK hN hX hZ [] rfl [0] rfl rfl hl.1 rfl (Nat.le_of_ble_eq_true rfl) dX1_lay_11 ⟨Nat.le_of_ble_eq_true rfl, Nat.le_of_ble_eq_true rfl⟩ hlocks ht
set_option maxHeartbeats 4000000 in
set_option maxRecDepth 100000 in
theorem tX1_setHopper_h (l : Launch) (hst : l.stackTraces = false) (D : va_G) (cI : ClassId) (x : Nat) (b : Nat → Nat) (a : Nat → Nat) (pa pe st bn hc hm : Nat → Int32) (C R lo : Int32) (hh kk mm : Int32) (hp : xhas 2 hh = false) : vx_Met l yX1_setHopper wsX1_setHopper ({ frames := 7, cells := 1, slots := 6, locals := 112 } : Room) (va_Pc [.ref x, .int hh, .int kk, .int mm] (wPX D [(cI, .int)] (wX x a b ++ wM cI a pa pe st bn hc hm C R lo))) XN (XT eIO) 1 6 (fun _ => False) := by
  refine mX_of (by decide) rfl (Nat.le_of_ble_eq_true rfl) ?_
  intro p e s m below meth c hx hb hr hml hown hts hlocks ht hP hK hN hX hZ ls hl
  have hown : s.vm.findClass RX1 = some m.cls := hown
  have hl : lv_has ls 4 [(0, .ref x), (1, .int hh), (2, .int kk), (3, .int mm)] := hl
  refine lv_iload_n hx hb dX1_setHopper_0 rfl (lv_at hl 1 rfl) ?_
  exact kXSo (As := [.int hh]) (rest := []) ⟨hx, hb, hml, hown, hts⟩ (tX1_needHopper l hst D cI hh hp) (va_cwS 1 hts gX1_setHopper_X1_needHopper rfl rfl rfl (by decide +kernel) ⟨Nat.le_of_ble_eq_true rfl, Nat.le_of_ble_eq_true rfl⟩) hP hK hN hX hZ [] rfl [0] rfl rfl hl.1 rfl (Nat.le_of_ble_eq_true rfl) dX1_setHopper_1 ⟨Nat.le_of_ble_eq_true rfl, Nat.le_of_ble_eq_true rfl⟩ hlocks ht
set_option maxHeartbeats 4000000 in
set_option maxRecDepth 100000 in
theorem tX1_setHopper_c (l : Launch) (hst : l.stackTraces = false) (D : va_G) (cI : ClassId) (x : Nat) (b : Nat → Nat) (a : Nat → Nat) (pa pe st bn hc hm : Nat → Int32) (C R lo : Int32) (hh kk mm : Int32) (hp : xhas 2 hh = true) (hq : xhas C kk = false) : vx_Met l yX1_setHopper wsX1_setHopper ({ frames := 7, cells := 1, slots := 6, locals := 112 } : Room) (va_Pc [.ref x, .int hh, .int kk, .int mm] (wPX D [(cI, .int)] (wX x a b ++ wM cI a pa pe st bn hc hm C R lo))) XN (XT eIO) 1 6 (fun _ => False) := by
  refine mX_of (by decide) rfl (Nat.le_of_ble_eq_true rfl) ?_
  intro p e s m below meth c hx hb hr hml hown hts hlocks ht hP hK hN hX hZ ls hl
  have hown : s.vm.findClass RX1 = some m.cls := hown
  have hl : lv_has ls 4 [(0, .ref x), (1, .int hh), (2, .int kk), (3, .int mm)] := hl
  refine lv_iload_n hx hb dX1_setHopper_0 rfl (lv_at hl 1 rfl) ?_
  refine kRSv (As := [.int hh]) (rest := []) ⟨hx, hb, hml, hown, hts⟩ (mX1_needHopper l D cI hh hp) (va_cwS 1 hts gX1_setHopper_X1_needHopper rfl rfl rfl (by decide +kernel) ⟨Nat.le_of_ble_eq_true rfl, Nat.le_of_ble_eq_true rfl⟩) hP hK hN [] rfl [0] rfl rfl hl.1 rfl (Nat.le_of_ble_eq_true rfl) dX1_setHopper_1 ⟨Nat.le_of_ble_eq_true rfl, Nat.le_of_ble_eq_true rfl⟩ ?_
  refine lv_aload_n hx hb dX1_setHopper_4 rfl (lv_at hl 0 rfl) ?_
  refine lv_iload_n hx hb dX1_setHopper_5 rfl (lv_at hl 2 rfl) ?_
  exact kXVo (As := [.int kk]) (rest := []) ⟨hx, hb, hml, hown, hts⟩ (tX1_needColumn l hst D cI x b a pa pe st bn hc hm C R lo kk hq) (cwV 1 hts gX1_setHopper_X1_needColumn rfl rfl rfl (by decide +kernel) ⟨Nat.le_of_ble_eq_true rfl, Nat.le_of_ble_eq_true rfl⟩) hP hK hN hX hZ [0, 1, 2, 3, 4, 5, 6, 7] rfl [0] rfl rfl rfl rfl hl.1 rfl (Nat.le_of_ble_eq_true rfl) dX1_setHopper_6 ⟨Nat.le_of_ble_eq_true rfl, Nat.le_of_ble_eq_true rfl⟩ hlocks ht
set_option maxHeartbeats 4000000 in
set_option maxRecDepth 100000 in
theorem tX1_setHopper_a (l : Launch) (hst : l.stackTraces = false) (D : va_G) (cI : ClassId) (x : Nat) (b : Nat → Nat) (a : Nat → Nat) (pa pe st bn hc hm : Nat → Int32) (C R lo : Int32) (hh kk mm : Int32) (hp : xhas 2 hh = true) (hq : xhas C kk = true) (hr3 : xin mm 0 99 = false) : vx_Met l yX1_setHopper wsX1_setHopper ({ frames := 7, cells := 1, slots := 6, locals := 112 } : Room) (va_Pc [.ref x, .int hh, .int kk, .int mm] (wPX D [(cI, .int)] (wX x a b ++ wM cI a pa pe st bn hc hm C R lo))) XN (XT eIA) 1 6 (fun _ => False) := by
  refine mX_of (by decide) rfl (Nat.le_of_ble_eq_true rfl) ?_
  intro p e s m below meth c hx hb hr hml hown hts hlocks ht hP hK hN hX hZ ls hl
  have hown : s.vm.findClass RX1 = some m.cls := hown
  have hl : lv_has ls 4 [(0, .ref x), (1, .int hh), (2, .int kk), (3, .int mm)] := hl
  refine lv_iload_n hx hb dX1_setHopper_0 rfl (lv_at hl 1 rfl) ?_
  refine kRSv (As := [.int hh]) (rest := []) ⟨hx, hb, hml, hown, hts⟩ (mX1_needHopper l D cI hh hp) (va_cwS 1 hts gX1_setHopper_X1_needHopper rfl rfl rfl (by decide +kernel) ⟨Nat.le_of_ble_eq_true rfl, Nat.le_of_ble_eq_true rfl⟩) hP hK hN [] rfl [0] rfl rfl hl.1 rfl (Nat.le_of_ble_eq_true rfl) dX1_setHopper_1 ⟨Nat.le_of_ble_eq_true rfl, Nat.le_of_ble_eq_true rfl⟩ ?_
  refine lv_aload_n hx hb dX1_setHopper_4 rfl (lv_at hl 0 rfl) ?_
  refine lv_iload_n hx hb dX1_setHopper_5 rfl (lv_at hl 2 rfl) ?_
  refine kRVv (As := [.int kk]) (rest := []) ⟨hx, hb, hml, hown, hts⟩ (mX1_needColumn l D cI x b a pa pe st bn hc hm C R lo kk hq) (cwV 1 hts gX1_setHopper_X1_needColumn rfl rfl rfl (by decide +kernel) ⟨Nat.le_of_ble_eq_true rfl, Nat.le_of_ble_eq_true rfl⟩) hP hK hN [0, 1, 2, 3, 4, 5, 6, 7] rfl [0] rfl rfl rfl rfl hl.1 rfl (Nat.le_of_ble_eq_true rfl) dX1_setHopper_6 ⟨Nat.le_of_ble_eq_true rfl, Nat.le_of_ble_eq_true rfl⟩ ?_
  refine lv_iload_n hx hb dX1_setHopper_9 rfl (lv_at hl 3 rfl) ?_
  refine lv_iconst (v := 0) hx hb dX1_setHopper_10 (by decide) ?_
  refine lv_bipush (v := 99) hx hb dX1_setHopper_11 (by decide) ?_
  exact kXSo (As := [.int mm, .int 0, .int 99]) (rest := []) ⟨hx, hb, hml, hown, hts⟩ (tX1_needWithin l hst D cI mm 0 99 hr3) (va_cwS 3 hts gX1_setHopper_X1_needWithin rfl rfl rfl (by decide +kernel) ⟨Nat.le_of_ble_eq_true rfl, Nat.le_of_ble_eq_true rfl⟩) hP hK hN hX hZ [] rfl [0] rfl rfl hl.1 rfl (Nat.le_of_ble_eq_true rfl) dX1_setHopper_13 ⟨Nat.le_of_ble_eq_true rfl, Nat.le_of_ble_eq_true rfl⟩ hlocks ht
set_option maxHeartbeats 4000000 in
set_option maxRecDepth 100000 in
theorem tX1_run_h (l : Launch) (hst : l.stackTraces = false) (D : va_G) (cI : ClassId) (x : Nat) (b : Nat → Nat) (a : Nat → Nat) (pa pe st bn hc hm : Nat → Int32) (C R lo : Int32) (hh mm : Int32) (hp : xhas 2 hh = false) : vx_Met l yX1_run wsX1_run ({ frames := 7, cells := 1, slots := 6, locals := 117 } : Room) (va_Pc [.ref x, .int hh, .int mm] (wPX D [(cI, .int)] (wX x a b ++ wM cI a pa pe st bn hc hm C R lo))) XN (XT eIO) 1 6 (fun _ => False) := by
  refine mX_of (by decide) rfl (Nat.le_of_ble_eq_true rfl) ?_
  intro p e s m below meth c hx hb hr hml hown hts hlocks ht hP hK hN hX hZ ls hl
  have hown : s.vm.findClass RX1 = some m.cls := hown
  have hl : lv_has ls 3 [(0, .ref x), (1, .int hh), (2, .int mm)] := hl
  refine lv_iload_n hx hb dX1_run_0 rfl (lv_at hl 1 rfl) ?_
  exact kXSo (As := [.int hh]) (rest := []) ⟨hx, hb, hml, hown, hts⟩ (tX1_needHopper l hst D cI hh hp) (va_cwS 1 hts gX1_run_X1_needHopper rfl rfl rfl (by decide +kernel) ⟨Nat.le_of_ble_eq_true rfl, Nat.le_of_ble_eq_true rfl⟩) hP hK hN hX hZ [] rfl [0] rfl rfl hl.1 rfl (Nat.le_of_ble_eq_true rfl) dX1_run_1 ⟨Nat.le_of_ble_eq_true rfl, Nat.le_of_ble_eq_true rfl⟩ hlocks ht
set_option maxHeartbeats 4000000 in
set_option maxRecDepth 100000 in
theorem tX1_run_a (l : Launch) (hst : l.stackTraces = false) (D : va_G) (cI : ClassId) (x : Nat) (b : Nat → Nat) (a : Nat → Nat) (pa pe st bn hc hm : Nat → Int32) (C R lo : Int32) (hh mm : Int32) (hp : xhas 2 hh = true) (hr3 : xin mm 1 99 = false) : vx_Met l yX1_run wsX1_run ({ frames := 7, cells := 1, slots := 6, locals := 117 } : Room) (va_Pc [.ref x, .int hh, .int mm] (wPX D [(cI, .int)] (wX x a b ++ wM cI a pa pe st bn hc hm C R lo))) XN (XT eIA) 1 6 (fun _ => False) := by
  refine mX_of (by decide) rfl (Nat.le_of_ble_eq_true rfl) ?_
  intro p e s m below meth c hx hb hr hml hown hts hlocks ht hP hK hN hX hZ ls hl
  have hown : s.vm.findClass RX1 = some m.cls := hown
  have hl : lv_has ls 3 [(0, .ref x), (1, .int hh), (2, .int mm)] := hl
  refine lv_iload_n hx hb dX1_run_0 rfl (lv_at hl 1 rfl) ?_
  refine kRSv (As := [.int hh]) (rest := []) ⟨hx, hb, hml, hown, hts⟩ (mX1_needHopper l D cI hh hp) (va_cwS 1 hts gX1_run_X1_needHopper rfl rfl rfl (by decide +kernel) ⟨Nat.le_of_ble_eq_true rfl, Nat.le_of_ble_eq_true rfl⟩) hP hK hN [] rfl [0] rfl rfl hl.1 rfl (Nat.le_of_ble_eq_true rfl) dX1_run_1 ⟨Nat.le_of_ble_eq_true rfl, Nat.le_of_ble_eq_true rfl⟩ ?_
  refine lv_iload_n hx hb dX1_run_4 rfl (lv_at hl 2 rfl) ?_
  refine lv_iconst (v := 1) hx hb dX1_run_5 (by decide) ?_
  refine lv_bipush (v := 99) hx hb dX1_run_6 (by decide) ?_
  exact kXSo (As := [.int mm, .int 1, .int 99]) (rest := []) ⟨hx, hb, hml, hown, hts⟩ (tX1_needWithin l hst D cI mm 1 99 hr3) (va_cwS 3 hts gX1_run_X1_needWithin rfl rfl rfl (by decide +kernel) ⟨Nat.le_of_ble_eq_true rfl, Nat.le_of_ble_eq_true rfl⟩) hP hK hN hX hZ [] rfl [0] rfl rfl hl.1 rfl (Nat.le_of_ble_eq_true rfl) dX1_run_8 ⟨Nat.le_of_ble_eq_true rfl, Nat.le_of_ble_eq_true rfl⟩ hlocks ht
set_option maxHeartbeats 4000000 in
set_option maxRecDepth 100000 in
theorem tX1_marblesIn_h (l : Launch) (hst : l.stackTraces = false) (D : va_G) (cI : ClassId) (x : Nat) (b : Nat → Nat) (a : Nat → Nat) (pa pe st bn hc hm : Nat → Int32) (C R lo : Int32) (hh : Int32) (hp : xhas 2 hh = false) : vx_Met l yX1_marblesIn wsX1_marblesIn ({ frames := 7, cells := 1, slots := 6, locals := 110 } : Room) (va_Pc [.ref x, .int hh] (wPX D [(cI, .int)] (wX x a b ++ wM cI a pa pe st bn hc hm C R lo))) XN (XT eIO) 1 6 (fun _ => False) := by
  refine mX_of (by decide) rfl (Nat.le_of_ble_eq_true rfl) ?_
  intro p e s m below meth c hx hb hr hml hown hts hlocks ht hP hK hN hX hZ ls hl
  have hown : s.vm.findClass RX1 = some m.cls := hown
  have hl : lv_has ls 2 [(0, .ref x), (1, .int hh)] := hl
  refine lv_iload_n hx hb dX1_marblesIn_0 rfl (lv_at hl 1 rfl) ?_
  exact kXSo (As := [.int hh]) (rest := []) ⟨hx, hb, hml, hown, hts⟩ (tX1_needHopper l hst D cI hh hp) (va_cwS 1 hts gX1_marblesIn_X1_needHopper rfl rfl rfl (by decide +kernel) ⟨Nat.le_of_ble_eq_true rfl, Nat.le_of_ble_eq_true rfl⟩) hP hK hN hX hZ [] rfl [0] rfl rfl hl.1 rfl (Nat.le_of_ble_eq_true rfl) dX1_marblesIn_1 ⟨Nat.le_of_ble_eq_true rfl, Nat.le_of_ble_eq_true rfl⟩ hlocks ht
set_option maxHeartbeats 4000000 in
set_option maxRecDepth 100000 in
theorem tX1_columnOf_h (l : Launch) (hst : l.stackTraces = false) (D : va_G) (cI : ClassId) (x : Nat) (b : Nat → Nat) (a : Nat → Nat) (pa pe st bn hc hm : Nat → Int32) (C R lo : Int32) (hh : Int32) (hp : xhas 2 hh = false) : vx_Met l yX1_columnOf wsX1_columnOf ({ frames := 7, cells := 1, slots := 6, locals := 110 } : Room) (va_Pc [.ref x, .int hh] (wPX D [(cI, .int)] (wX x a b ++ wM cI a pa pe st bn hc hm C R lo))) XN (XT eIO) 1 6 (fun _ => False) := by
  refine mX_of (by decide) rfl (Nat.le_of_ble_eq_true rfl) ?_
  intro p e s m below meth c hx hb hr hml hown hts hlocks ht hP hK hN hX hZ ls hl
  have hown : s.vm.findClass RX1 = some m.cls := hown
  have hl : lv_has ls 2 [(0, .ref x), (1, .int hh)] := hl
  refine lv_iload_n hx hb dX1_columnOf_0 rfl (lv_at hl 1 rfl) ?_
  exact kXSo (As := [.int hh]) (rest := []) ⟨hx, hb, hml, hown, hts⟩ (tX1_needHopper l hst D cI hh hp) (va_cwS 1 hts gX1_columnOf_X1_needHopper rfl rfl rfl (by decide +kernel) ⟨Nat.le_of_ble_eq_true rfl, Nat.le_of_ble_eq_true rfl⟩) hP hK hN hX hZ [] rfl [0] rfl rfl hl.1 rfl (Nat.le_of_ble_eq_true rfl) dX1_columnOf_1 ⟨Nat.le_of_ble_eq_true rfl, Nat.le_of_ble_eq_true rfl⟩ hlocks ht
set_option maxHeartbeats 4000000 in
set_option maxRecDepth 100000 in
theorem tX1_wouldRun_h (l : Launch) (hst : l.stackTraces = false) (D : va_G) (cI : ClassId) (x : Nat) (b : Nat → Nat) (a : Nat → Nat) (pa pe st bn hc hm : Nat → Int32) (C R lo : Int32) (hh : Int32) (hp : xhas 2 hh = false) : vx_Met l yX1_wouldRun wsX1_wouldRun ({ frames := 7, cells := 1, slots := 6, locals := 117 } : Room) (va_Pc [.ref x, .int hh] (wPX D [(cI, .int)] (wX x a b ++ wM cI a pa pe st bn hc hm C R lo))) XN (XT eIO) 1 6 (fun _ => False) := by
  refine mX_of (by decide) rfl (Nat.le_of_ble_eq_true rfl) ?_
  intro p e s m below meth c hx hb hr hml hown hts hlocks ht hP hK hN hX hZ ls hl
  have hown : s.vm.findClass RX1 = some m.cls := hown
  have hl : lv_has ls 2 [(0, .ref x), (1, .int hh)] := hl
  refine lv_iload_n hx hb dX1_wouldRun_0 rfl (lv_at hl 1 rfl) ?_
  exact kXSo (As := [.int hh]) (rest := []) ⟨hx, hb, hml, hown, hts⟩ (tX1_needHopper l hst D cI hh hp) (va_cwS 1 hts gX1_wouldRun_X1_needHopper rfl rfl rfl (by decide +kernel) ⟨Nat.le_of_ble_eq_true rfl, Nat.le_of_ble_eq_true rfl⟩) hP hK hN hX hZ [] rfl [0] rfl rfl hl.1 rfl (Nat.le_of_ble_eq_true rfl) dX1_wouldRun_1 ⟨Nat.le_of_ble_eq_true rfl, Nat.le_of_ble_eq_true rfl⟩ hlocks ht
set_option maxHeartbeats 4000000 in
set_option maxRecDepth 100000 in
theorem tX1_numberIn_r (l : Launch) (hst : l.stackTraces = false) (D : va_G) (cI : ClassId) (x : Nat) (b : Nat → Nat) (a : Nat → Nat) (pa pe st bn hc hm : Nat → Int32) (C R lo : Int32) (rr : Int32) (hp : xhas R rr = false) : vx_Met l yX1_numberIn wsX1_numberIn ({ frames := 7, cells := 1, slots := 6, locals := 111 } : Room) (va_Pc [.ref x, .int rr] (wPX D [(cI, .int)] (wX x a b ++ wM cI a pa pe st bn hc hm C R lo))) XN (XT eIO) 1 6 (fun _ => False) := by
  refine mX_of (by decide) rfl (Nat.le_of_ble_eq_true rfl) ?_
  intro p e s m below meth c hx hb hr hml hown hts hlocks ht hP hK hN hX hZ ls hl
  have hown : s.vm.findClass RX1 = some m.cls := hown
  have hl : lv_has ls 2 [(0, .ref x), (1, .int rr)] := hl
  refine lv_aload_n hx hb dX1_numberIn_0 rfl (lv_at hl 0 rfl) ?_
  refine lv_iload_n hx hb dX1_numberIn_1 rfl (lv_at hl 1 rfl) ?_
  exact kXVo (As := [.int rr]) (rest := []) ⟨hx, hb, hml, hown, hts⟩ (tX1_needRow l hst D cI x b a pa pe st bn hc hm C R lo rr hp) (cwV 1 hts gX1_numberIn_X1_needRow rfl rfl rfl (by decide +kernel) ⟨Nat.le_of_ble_eq_true rfl, Nat.le_of_ble_eq_true rfl⟩) hP hK hN hX hZ [0, 1, 2, 3, 4, 5, 6, 7] rfl [0] rfl rfl rfl rfl hl.1 rfl (Nat.le_of_ble_eq_true rfl) dX1_numberIn_2 ⟨Nat.le_of_ble_eq_true rfl, Nat.le_of_ble_eq_true rfl⟩ hlocks ht
set_option maxHeartbeats 4000000 in
set_option maxRecDepth 100000 in
theorem tX1_drop_c (l : Launch) (hst : l.stackTraces = false) (D : va_G) (cI : ClassId) (x : Nat) (b : Nat → Nat) (a : Nat → Nat) (pa pe st bn hc hm : Nat → Int32) (C R lo : Int32) (kk : Int32) (hq : xhas C kk = false) : vx_Met l yX1_drop wsX1_drop ({ frames := 7, cells := 1, slots := 6, locals := 111 } : Room) (va_Pc [.ref x, .int kk] (wPX D [(cI, .int)] (wX x a b ++ wM cI a pa pe st bn hc hm C R lo))) XN (XT eIO) 1 6 (fun _ => False) := by
  refine mX_of (by decide) rfl (Nat.le_of_ble_eq_true rfl) ?_
  intro p e s m below meth c hx hb hr hml hown hts hlocks ht hP hK hN hX hZ ls hl
  have hown : s.vm.findClass RX1 = some m.cls := hown
  have hl : lv_has ls 2 [(0, .ref x), (1, .int kk)] := hl
  refine lv_aload_n hx hb dX1_drop_0 rfl (lv_at hl 0 rfl) ?_
  refine lv_iload_n hx hb dX1_drop_1 rfl (lv_at hl 1 rfl) ?_
  exact kXVo (As := [.int kk]) (rest := []) ⟨hx, hb, hml, hown, hts⟩ (tX1_needColumn l hst D cI x b a pa pe st bn hc hm C R lo kk hq) (cwV 1 hts gX1_drop_X1_needColumn rfl rfl rfl (by decide +kernel) ⟨Nat.le_of_ble_eq_true rfl, Nat.le_of_ble_eq_true rfl⟩) hP hK hN hX hZ [0, 1, 2, 3, 4, 5, 6, 7] rfl [0] rfl rfl rfl rfl hl.1 rfl (Nat.le_of_ble_eq_true rfl) dX1_drop_2 ⟨Nat.le_of_ble_eq_true rfl, Nat.le_of_ble_eq_true rfl⟩ hlocks ht
set_option maxHeartbeats 4000000 in
set_option maxRecDepth 100000 in
theorem tX1_binOf_c (l : Launch) (hst : l.stackTraces = false) (D : va_G) (cI : ClassId) (x : Nat) (b : Nat → Nat) (a : Nat → Nat) (pa pe st bn hc hm : Nat → Int32) (C R lo : Int32) (kk : Int32) (hq : xhas C kk = false) : vx_Met l yX1_binOf wsX1_binOf ({ frames := 7, cells := 1, slots := 6, locals := 111 } : Room) (va_Pc [.ref x, .int kk] (wPX D [(cI, .int)] (wX x a b ++ wM cI a pa pe st bn hc hm C R lo))) XN (XT eIO) 1 6 (fun _ => False) := by
  refine mX_of (by decide) rfl (Nat.le_of_ble_eq_true rfl) ?_
  intro p e s m below meth c hx hb hr hml hown hts hlocks ht hP hK hN hX hZ ls hl
  have hown : s.vm.findClass RX1 = some m.cls := hown
  have hl : lv_has ls 2 [(0, .ref x), (1, .int kk)] := hl
  refine lv_aload_n hx hb dX1_binOf_0 rfl (lv_at hl 0 rfl) ?_
  refine lv_iload_n hx hb dX1_binOf_1 rfl (lv_at hl 1 rfl) ?_
  exact kXVo (As := [.int kk]) (rest := []) ⟨hx, hb, hml, hown, hts⟩ (tX1_needColumn l hst D cI x b a pa pe st bn hc hm C R lo kk hq) (cwV 1 hts gX1_binOf_X1_needColumn rfl rfl rfl (by decide +kernel) ⟨Nat.le_of_ble_eq_true rfl, Nat.le_of_ble_eq_true rfl⟩) hP hK hN hX hZ [0, 1, 2, 3, 4, 5, 6, 7] rfl [0] rfl rfl rfl rfl hl.1 rfl (Nat.le_of_ble_eq_true rfl) dX1_binOf_2 ⟨Nat.le_of_ble_eq_true rfl, Nat.le_of_ble_eq_true rfl⟩ hlocks ht
set_option maxHeartbeats 4000000 in
set_option maxRecDepth 100000 in
theorem tX1_wouldLand_c (l : Launch) (hst : l.stackTraces = false) (D : va_G) (cI : ClassId) (x : Nat) (b : Nat → Nat) (a : Nat → Nat) (pa pe st bn hc hm : Nat → Int32) (C R lo : Int32) (kk : Int32) (hq : xhas C kk = false) : vx_Met l yX1_wouldLand wsX1_wouldLand ({ frames := 7, cells := 1, slots := 6, locals := 111 } : Room) (va_Pc [.ref x, .int kk] (wPX D [(cI, .int)] (wX x a b ++ wM cI a pa pe st bn hc hm C R lo))) XN (XT eIO) 1 6 (fun _ => False) := by
  refine mX_of (by decide) rfl (Nat.le_of_ble_eq_true rfl) ?_
  intro p e s m below meth c hx hb hr hml hown hts hlocks ht hP hK hN hX hZ ls hl
  have hown : s.vm.findClass RX1 = some m.cls := hown
  have hl : lv_has ls 2 [(0, .ref x), (1, .int kk)] := hl
  refine lv_aload_n hx hb dX1_wouldLand_0 rfl (lv_at hl 0 rfl) ?_
  refine lv_iload_n hx hb dX1_wouldLand_1 rfl (lv_at hl 1 rfl) ?_
  exact kXVo (As := [.int kk]) (rest := []) ⟨hx, hb, hml, hown, hts⟩ (tX1_needColumn l hst D cI x b a pa pe st bn hc hm C R lo kk hq) (cwV 1 hts gX1_wouldLand_X1_needColumn rfl rfl rfl (by decide +kernel) ⟨Nat.le_of_ble_eq_true rfl, Nat.le_of_ble_eq_true rfl⟩) hP hK hN hX hZ [0, 1, 2, 3, 4, 5, 6, 7] rfl [0] rfl rfl rfl rfl hl.1 rfl (Nat.le_of_ble_eq_true rfl) dX1_wouldLand_2 ⟨Nat.le_of_ble_eq_true rfl, Nat.le_of_ble_eq_true rfl⟩ hlocks ht
set_option maxHeartbeats 4000000 in
set_option maxRecDepth 100000 in
theorem tX1_wouldTurn_c (l : Launch) (hst : l.stackTraces = false) (D : va_G) (cI : ClassId) (x : Nat) (b : Nat → Nat) (a : Nat → Nat) (pa pe st bn hc hm : Nat → Int32) (C R lo : Int32) (kk : Int32) (hq : xhas C kk = false) : vx_Met l yX1_wouldTurn wsX1_wouldTurn ({ frames := 7, cells := 1, slots := 6, locals := 111 } : Room) (va_Pc [.ref x, .int kk] (wPX D [(cI, .int)] (wX x a b ++ wM cI a pa pe st bn hc hm C R lo))) XN (XT eIO) 1 6 (fun _ => False) := by
  refine mX_of (by decide) rfl (Nat.le_of_ble_eq_true rfl) ?_
  intro p e s m below meth c hx hb hr hml hown hts hlocks ht hP hK hN hX hZ ls hl
  have hown : s.vm.findClass RX1 = some m.cls := hown
  have hl : lv_has ls 2 [(0, .ref x), (1, .int kk)] := hl
  refine lv_aload_n hx hb dX1_wouldTurn_0 rfl (lv_at hl 0 rfl) ?_
  refine lv_iload_n hx hb dX1_wouldTurn_1 rfl (lv_at hl 1 rfl) ?_
  exact kXVo (As := [.int kk]) (rest := []) ⟨hx, hb, hml, hown, hts⟩ (tX1_needColumn l hst D cI x b a pa pe st bn hc hm C R lo kk hq) (cwV 1 hts gX1_wouldTurn_X1_needColumn rfl rfl rfl (by decide +kernel) ⟨Nat.le_of_ble_eq_true rfl, Nat.le_of_ble_eq_true rfl⟩) hP hK hN hX hZ [0, 1, 2, 3, 4, 5, 6, 7] rfl [0] rfl rfl rfl rfl hl.1 rfl (Nat.le_of_ble_eq_true rfl) dX1_wouldTurn_2 ⟨Nat.le_of_ble_eq_true rfl, Nat.le_of_ble_eq_true rfl⟩ hlocks ht
set_option maxHeartbeats 4000000 in
set_option maxRecDepth 100000 in
theorem tX1_asBeforeIn_c (l : Launch) (hst : l.stackTraces = false) (D : va_G) (cI : ClassId) (x : Nat) (b : Nat → Nat) (a : Nat → Nat) (pa pe st bn hc hm : Nat → Int32) (C R lo : Int32) (kk : Int32) (hq : xhas C kk = false) : vx_Met l yX1_asBeforeIn wsX1_asBeforeIn ({ frames := 7, cells := 1, slots := 6, locals := 111 } : Room) (va_Pc [.ref x, .int kk] (wPX D [(cI, .int)] (wX x a b ++ wM cI a pa pe st bn hc hm C R lo))) XN (XT eIO) 1 6 (fun _ => False) := by
  refine mX_of (by decide) rfl (Nat.le_of_ble_eq_true rfl) ?_
  intro p e s m below meth c hx hb hr hml hown hts hlocks ht hP hK hN hX hZ ls hl
  have hown : s.vm.findClass RX1 = some m.cls := hown
  have hl : lv_has ls 3 [(0, .ref x), (1, .int kk)] := hl
  refine lv_aload_n hx hb dX1_asBeforeIn_0 rfl (lv_at hl 0 rfl) ?_
  refine lv_iload_n hx hb dX1_asBeforeIn_1 rfl (lv_at hl 1 rfl) ?_
  exact kXVo (As := [.int kk]) (rest := []) ⟨hx, hb, hml, hown, hts⟩ (tX1_needColumn l hst D cI x b a pa pe st bn hc hm C R lo kk hq) (cwV 1 hts gX1_asBeforeIn_X1_needColumn rfl rfl rfl (by decide +kernel) ⟨Nat.le_of_ble_eq_true rfl, Nat.le_of_ble_eq_true rfl⟩) hP hK hN hX hZ [0, 1, 2, 3, 4, 5, 6, 7] rfl [0] rfl rfl rfl rfl hl.1 rfl (Nat.le_of_ble_eq_true rfl) dX1_asBeforeIn_2 ⟨Nat.le_of_ble_eq_true rfl, Nat.le_of_ble_eq_true rfl⟩ hlocks ht
set_option maxHeartbeats 4000000 in
set_option maxRecDepth 100000 in
theorem tX1_wouldBeIn_c (l : Launch) (hst : l.stackTraces = false) (D : va_G) (cI : ClassId) (x : Nat) (b : Nat → Nat) (a : Nat → Nat) (pa pe st bn hc hm : Nat → Int32) (C R lo : Int32) (kk rr : Int32) (hq : xhas C kk = false) : vx_Met l yX1_wouldBeIn wsX1_wouldBeIn ({ frames := 7, cells := 1, slots := 6, locals := 111 } : Room) (va_Pc [.ref x, .int kk, .int rr] (wPX D [(cI, .int)] (wX x a b ++ wM cI a pa pe st bn hc hm C R lo))) XN (XT eIO) 1 6 (fun _ => False) := by
  refine mX_of (by decide) rfl (Nat.le_of_ble_eq_true rfl) ?_
  intro p e s m below meth c hx hb hr hml hown hts hlocks ht hP hK hN hX hZ ls hl
  have hown : s.vm.findClass RX1 = some m.cls := hown
  have hl : lv_has ls 3 [(0, .ref x), (1, .int kk), (2, .int rr)] := hl
  refine lv_aload_n hx hb dX1_wouldBeIn_0 rfl (lv_at hl 0 rfl) ?_
  refine lv_iload_n hx hb dX1_wouldBeIn_1 rfl (lv_at hl 1 rfl) ?_
  exact kXVo (As := [.int kk]) (rest := []) ⟨hx, hb, hml, hown, hts⟩ (tX1_needColumn l hst D cI x b a pa pe st bn hc hm C R lo kk hq) (cwV 1 hts gX1_wouldBeIn_X1_needColumn rfl rfl rfl (by decide +kernel) ⟨Nat.le_of_ble_eq_true rfl, Nat.le_of_ble_eq_true rfl⟩) hP hK hN hX hZ [0, 1, 2, 3, 4, 5, 6, 7] rfl [0] rfl rfl rfl rfl hl.1 rfl (Nat.le_of_ble_eq_true rfl) dX1_wouldBeIn_2 ⟨Nat.le_of_ble_eq_true rfl, Nat.le_of_ble_eq_true rfl⟩ hlocks ht
set_option maxHeartbeats 4000000 in
set_option maxRecDepth 100000 in
theorem tX1_wouldBeIn_r (l : Launch) (hst : l.stackTraces = false) (D : va_G) (cI : ClassId) (x : Nat) (b : Nat → Nat) (a : Nat → Nat) (pa pe st bn hc hm : Nat → Int32) (C R lo : Int32) (kk rr : Int32) (hq : xhas C kk = true) (hp : xhas R rr = false) : vx_Met l yX1_wouldBeIn wsX1_wouldBeIn ({ frames := 7, cells := 1, slots := 6, locals := 111 } : Room) (va_Pc [.ref x, .int kk, .int rr] (wPX D [(cI, .int)] (wX x a b ++ wM cI a pa pe st bn hc hm C R lo))) XN (XT eIO) 1 6 (fun _ => False) := by
  refine mX_of (by decide) rfl (Nat.le_of_ble_eq_true rfl) ?_
  intro p e s m below meth c hx hb hr hml hown hts hlocks ht hP hK hN hX hZ ls hl
  have hown : s.vm.findClass RX1 = some m.cls := hown
  have hl : lv_has ls 3 [(0, .ref x), (1, .int kk), (2, .int rr)] := hl
  refine lv_aload_n hx hb dX1_wouldBeIn_0 rfl (lv_at hl 0 rfl) ?_
  refine lv_iload_n hx hb dX1_wouldBeIn_1 rfl (lv_at hl 1 rfl) ?_
  refine kRVv (As := [.int kk]) (rest := []) ⟨hx, hb, hml, hown, hts⟩ (mX1_needColumn l D cI x b a pa pe st bn hc hm C R lo kk hq) (cwV 1 hts gX1_wouldBeIn_X1_needColumn rfl rfl rfl (by decide +kernel) ⟨Nat.le_of_ble_eq_true rfl, Nat.le_of_ble_eq_true rfl⟩) hP hK hN [0, 1, 2, 3, 4, 5, 6, 7] rfl [0] rfl rfl rfl rfl hl.1 rfl (Nat.le_of_ble_eq_true rfl) dX1_wouldBeIn_2 ⟨Nat.le_of_ble_eq_true rfl, Nat.le_of_ble_eq_true rfl⟩ ?_
  refine lv_aload_n hx hb dX1_wouldBeIn_5 rfl (lv_at hl 0 rfl) ?_
  refine lv_iload_n hx hb dX1_wouldBeIn_6 rfl (lv_at hl 2 rfl) ?_
  exact kXVo (As := [.int rr]) (rest := []) ⟨hx, hb, hml, hown, hts⟩ (tX1_needRow l hst D cI x b a pa pe st bn hc hm C R lo rr hp) (cwV 1 hts gX1_wouldBeIn_X1_needRow rfl rfl rfl (by decide +kernel) ⟨Nat.le_of_ble_eq_true rfl, Nat.le_of_ble_eq_true rfl⟩) hP hK hN hX hZ [0, 1, 2, 3, 4, 5, 6, 7] rfl [0] rfl rfl rfl rfl hl.1 rfl (Nat.le_of_ble_eq_true rfl) dX1_wouldBeIn_7 ⟨Nat.le_of_ble_eq_true rfl, Nat.le_of_ble_eq_true rfl⟩ hlocks ht
set_option maxHeartbeats 4000000 in
set_option maxRecDepth 100000 in
theorem tX1_lastLands_c (l : Launch) (hst : l.stackTraces = false) (D : va_G) (cI : ClassId) (x : Nat) (b : Nat → Nat) (a : Nat → Nat) (pa pe st bn hc hm : Nat → Int32) (C R lo : Int32) (kk mm : Int32) (hq : xhas C kk = false) : vx_Met l yX1_lastLands wsX1_lastLands ({ frames := 7, cells := 1, slots := 6, locals := 112 } : Room) (va_Pc [.ref x, .int kk, .int mm] (wPX D [(cI, .int)] (wX x a b ++ wM cI a pa pe st bn hc hm C R lo))) XN (XT eIO) 1 6 (fun _ => False) := by
  refine mX_of (by decide) rfl (Nat.le_of_ble_eq_true rfl) ?_
  intro p e s m below meth c hx hb hr hml hown hts hlocks ht hP hK hN hX hZ ls hl
  have hown : s.vm.findClass RX1 = some m.cls := hown
  have hl : lv_has ls 5 [(0, .ref x), (1, .int kk), (2, .int mm)] := hl
  refine lv_aload_n hx hb dX1_lastLands_0 rfl (lv_at hl 0 rfl) ?_
  refine lv_iload_n hx hb dX1_lastLands_1 rfl (lv_at hl 1 rfl) ?_
  exact kXVo (As := [.int kk]) (rest := []) ⟨hx, hb, hml, hown, hts⟩ (tX1_needColumn l hst D cI x b a pa pe st bn hc hm C R lo kk hq) (cwV 1 hts gX1_lastLands_X1_needColumn rfl rfl rfl (by decide +kernel) ⟨Nat.le_of_ble_eq_true rfl, Nat.le_of_ble_eq_true rfl⟩) hP hK hN hX hZ [0, 1, 2, 3, 4, 5, 6, 7] rfl [0] rfl rfl rfl rfl hl.1 rfl (Nat.le_of_ble_eq_true rfl) dX1_lastLands_2 ⟨Nat.le_of_ble_eq_true rfl, Nat.le_of_ble_eq_true rfl⟩ hlocks ht
set_option maxHeartbeats 4000000 in
set_option maxRecDepth 100000 in
theorem tX1_lastLands_a (l : Launch) (hst : l.stackTraces = false) (D : va_G) (cI : ClassId) (x : Nat) (b : Nat → Nat) (a : Nat → Nat) (pa pe st bn hc hm : Nat → Int32) (C R lo : Int32) (kk mm : Int32) (hq : xhas C kk = true) (hr3 : xin mm 1 60 = false) : vx_Met l yX1_lastLands wsX1_lastLands ({ frames := 7, cells := 1, slots := 6, locals := 112 } : Room) (va_Pc [.ref x, .int kk, .int mm] (wPX D [(cI, .int)] (wX x a b ++ wM cI a pa pe st bn hc hm C R lo))) XN (XT eIA) 1 6 (fun _ => False) := by
  refine mX_of (by decide) rfl (Nat.le_of_ble_eq_true rfl) ?_
  intro p e s m below meth c hx hb hr hml hown hts hlocks ht hP hK hN hX hZ ls hl
  have hown : s.vm.findClass RX1 = some m.cls := hown
  have hl : lv_has ls 5 [(0, .ref x), (1, .int kk), (2, .int mm)] := hl
  refine lv_aload_n hx hb dX1_lastLands_0 rfl (lv_at hl 0 rfl) ?_
  refine lv_iload_n hx hb dX1_lastLands_1 rfl (lv_at hl 1 rfl) ?_
  refine kRVv (As := [.int kk]) (rest := []) ⟨hx, hb, hml, hown, hts⟩ (mX1_needColumn l D cI x b a pa pe st bn hc hm C R lo kk hq) (cwV 1 hts gX1_lastLands_X1_needColumn rfl rfl rfl (by decide +kernel) ⟨Nat.le_of_ble_eq_true rfl, Nat.le_of_ble_eq_true rfl⟩) hP hK hN [0, 1, 2, 3, 4, 5, 6, 7] rfl [0] rfl rfl rfl rfl hl.1 rfl (Nat.le_of_ble_eq_true rfl) dX1_lastLands_2 ⟨Nat.le_of_ble_eq_true rfl, Nat.le_of_ble_eq_true rfl⟩ ?_
  refine lv_iload_n hx hb dX1_lastLands_5 rfl (lv_at hl 2 rfl) ?_
  refine lv_iconst (v := 1) hx hb dX1_lastLands_6 (by decide) ?_
  refine lv_bipush (v := 60) hx hb dX1_lastLands_7 (by decide) ?_
  exact kXSo (As := [.int mm, .int 1, .int 60]) (rest := []) ⟨hx, hb, hml, hown, hts⟩ (tX1_needWithin l hst D cI mm 1 60 hr3) (va_cwS 3 hts gX1_lastLands_X1_needWithin rfl rfl rfl (by decide +kernel) ⟨Nat.le_of_ble_eq_true rfl, Nat.le_of_ble_eq_true rfl⟩) hP hK hN hX hZ [] rfl [0] rfl rfl hl.1 rfl (Nat.le_of_ble_eq_true rfl) dX1_lastLands_9 ⟨Nat.le_of_ble_eq_true rfl, Nat.le_of_ble_eq_true rfl⟩ hlocks ht
