theorem xhas_n2 {i : Int32} (h : xhas 2 i = false) (h1 : ¬ i < 0) : ¬ i < 2 := by
  intro h2
  rw [xhas, if_neg h1, if_neg (Int32.not_le.mpr h2)] at h
  cases h
theorem xin_n {v lo hi : Int32} (h : xin v lo hi = false) (h1 : ¬ v < lo) : ¬ v ≤ hi := by
  intro h2
  rw [xin, if_neg h1, if_pos h2] at h
  cases h
set_option maxHeartbeats 4000000 in
set_option maxRecDepth 100000 in
theorem tX1_turn_s (l : Launch) (hst : l.stackTraces = false) (D : va_G) (cI : ClassId) (x : Nat) (b : Nat → Nat) (a : Nat → Nat) (pa pe st bn hc hm : Nat → Int32) (C R lo : Int32) (rr kk : Int32) (hp : xhas R rr = true) (hq : xhas C kk = true) (hr3 : ¬ xcl 72 pa (rr * C + kk) = 3) : vx_Met l yX1_turn wsX1_turn ({ frames := 8, cells := 1, slots := 6, locals := 133 } : Room) (va_Pc [.ref x, .int rr, .int kk] (wPX D [(cI, .int)] (wX x a b ++ wM cI a pa pe st bn hc hm C R lo))) XN (XT eIS) 1 6 (fun _ => False) := by
  refine mX_of (by decide) rfl (Nat.le_of_ble_eq_true rfl) ?_
  intro p e s m below meth c hx hb hr hml hown hts hlocks ht hP hK hN hX hZ ls hl
  have hown : s.vm.findClass RX1 = some m.cls := hown
  have hl : lv_has ls 4 [(0, .ref x), (1, .int rr), (2, .int kk)] := hl
  refine lv_aload_n hx hb dX1_turn_0 rfl (lv_at hl 0 rfl) ?_
  refine lv_iload_n hx hb dX1_turn_1 rfl (lv_at hl 1 rfl) ?_
  refine lv_iload_n hx hb dX1_turn_2 rfl (lv_at hl 2 rfl) ?_
  refine kRVv (As := [.int rr, .int kk]) (rest := []) ⟨hx, hb, hml, hown, hts⟩ (mX1_needPlace l D cI x b a pa pe st bn hc hm C R lo rr kk hp hq) (cwV 2 hts gX1_turn_X1_needPlace rfl rfl rfl (by decide +kernel) ⟨Nat.le_of_ble_eq_true rfl, Nat.le_of_ble_eq_true rfl⟩) hP hK hN [0, 1, 2, 3, 4, 5, 6, 7] rfl [0] rfl rfl rfl rfl hl.1 rfl (Nat.le_of_ble_eq_true rfl) dX1_turn_3 ⟨Nat.le_of_ble_eq_true rfl, Nat.le_of_ble_eq_true rfl⟩ ?_
  refine lv_aload_n hx hb dX1_turn_6 rfl (lv_at hl 0 rfl) ?_
  refine va_get (D := D) (ci := 1) (v := .ref (a 0)) (C := RX1) (T := TX1) (N := 2) hx hb hts iw_X1_turn_X1 hown hK hP 0 rfl rfl 0 (by decide) (hts (.fieldLink RX1 10 "MarbleRamps" "now" "LMarbleRamps$Machine;") (mg 3 rfl)) (fun _ h9 => h9) rfl dX1_turn_7 ?_
  refine lv_iload_n hx hb dX1_turn_10 rfl (lv_at hl 1 rfl) ?_
  refine lv_iload_n hx hb dX1_turn_11 rfl (lv_at hl 2 rfl) ?_
  refine kRVi (As := [.int rr, .int kk]) (rest := []) ⟨hx, hb, hml, hown, hts⟩ (mX0_placeOf l D cI a pa pe st bn hc hm C R lo rr kk) (cwV 2 hts gX1_turn_X0_placeOf rfl rfl rfl (by decide +kernel) ⟨Nat.le_of_ble_eq_true rfl, Nat.le_of_ble_eq_true rfl⟩) hP hK hN [1, 2, 3, 4, 5, 6, 7] rfl [0] rfl rfl rfl rfl hl.1 rfl (Nat.le_of_ble_eq_true rfl) dX1_turn_12 ⟨Nat.le_of_ble_eq_true rfl, Nat.le_of_ble_eq_true rfl⟩ (fun r_1 hr_1 => ?_)
  subst r_1
  refine lv_istore_n (lv' := [(3, .int (rr * C + kk)), (0, .ref x), (1, .int rr), (2, .int kk)]) hx hb dX1_turn_15 rfl hl (by decide) rfl (fun ls hl => ?_)
  refine lv_aload_n hx hb dX1_turn_16 rfl (lv_at hl 1 rfl) ?_
  refine va_get (D := D) (ci := 1) (v := .ref (a 0)) (C := RX1) (T := TX1) (N := 2) hx hb hts iw_X1_turn_X1 hown hK hP 0 rfl rfl 0 (by decide) (hts (.fieldLink RX1 10 "MarbleRamps" "now" "LMarbleRamps$Machine;") (mg 3 rfl)) (fun _ h9 => h9) rfl dX1_turn_17 ?_
  refine lv_iload_n hx hb dX1_turn_20 rfl (lv_at hl 0 rfl) ?_
  refine kRVi (As := [.int (rr * C + kk)]) (rest := []) ⟨hx, hb, hml, hown, hts⟩ (mX0_partIn l D cI a pa pe st bn hc hm C R lo (rr * C + kk)) (cwV 1 hts gX1_turn_X0_partIn rfl rfl rfl (by decide +kernel) ⟨Nat.le_of_ble_eq_true rfl, Nat.le_of_ble_eq_true rfl⟩) hP hK hN [1, 2, 3, 4, 5, 6, 7] rfl [0] rfl rfl rfl rfl hl.1 rfl (Nat.le_of_ble_eq_true rfl) dX1_turn_21 ⟨Nat.le_of_ble_eq_true rfl, Nat.le_of_ble_eq_true rfl⟩ (fun r_2 hr_2 => ?_)
  subst r_2
  refine lv_iconst (v := 3) hx hb dX1_turn_24 (by decide) ?_
  refine lv_icmp_eq (tgt := 38) hx hb dX1_turn_25 (by decide) (fun c9 => absurd c9 hr3) (fun c_3 => ?_)
  obtain ⟨sa, hstr⟩ := hX.2.2.2.2.1
  exact vx_throwS hx hb hst (A := fun q => s.heap.size ≤ q) (own := RX1) (cls := eIS) (text := "there is no toggle") (names := eNm) (ik := 42) (is := 44) (ic := 46) (sa := sa) (mc := 1) (ms := 6) hown (by decide) (by decide) (hts (.classLink RX1 42 eIS) (mg 1 rfl)) (hts (.initialized eIS) (mg 2 rfl)) hstr (vx_hat (B := [.castable eIS eIS, .declares (Bundle.initS "java/lang/RuntimeException"), .declares (Bundle.initS "java/lang/Exception"), .declares (Bundle.initS Bundle.tN)]) (fun w h => hts w (List.mem_cons_of_mem _ (List.mem_append_left _ (List.mem_append_right _ h)))) (by decide +kernel) (vx_c (va_Nw.use rfl hX.2.2.2.2.2.2.2.1) (vx_c (va_Nw.use rfl hX.2.2.2.2.2.2.2.2.1) (vx_c (va_Nw.use rfl hX.2.2.2.2.2.2.2.2.2.1) (vx_c (va_Nw.use rfl hX.2.2.2.2.2.2.2.2.2.2) vx_n))))) (by decide +kernel) hZ.1 hZ.2 va_S.rf (hl.1.trans hml.symm) dX1_turn_28 dX1_turn_31 dX1_turn_32 dX1_turn_34 dX1_turn_37 (fun x hx => (ht x hx).elim) (Nat.le_of_ble_eq_true rfl) (Nat.le_of_ble_eq_true rfl) (Nat.le_of_ble_eq_true rfl) (Nat.le_of_ble_eq_true rfl) hlocks (fun t _ h1 h2 => ⟨rfl, h1, h2⟩) (fun z hz => absurd hz List.not_mem_nil) (by decide) (by decide)
