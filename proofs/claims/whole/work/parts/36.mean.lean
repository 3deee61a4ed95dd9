theorem iw_X1_meanInBins_X1 : ∀ w ∈ wsX10, w ∈ wsX1_meanInBins := mem_pos [14, 15] (by decide +kernel)
set_option maxHeartbeats 4000000 in
set_option maxRecDepth 100000 in
theorem mX1_meanInBins (l : Launch) (D : va_G) (cI : ClassId) (x : Nat) (b : Nat → Nat) (a : Nat → Nat) (pa pe st bn hc hm : Nat → Int32) (C R lo : Int32) (hC : ¬ C = 0) (sz : Nat) : MetD lw_cs l yX1_meanInBins wsX1_meanInBins ({ frames := 1, cells := 0, slots := 0, locals := 25 } : Room) (va_Pc [.ref x] (wPQ D [(cI, .int)] sz (wX x a b ++ wM cI a pa pe st bn hc hm C R lo))) (va_Qd (fun (zz : UInt64) (_ : Unit) => alike64 zz (FP.ddiv (FP.i2d (xSum bn)) (FP.i2d C)) = true) (wB D [(cI, .int)] (va_A (wX x a b ++ wM cI a pa pe st bn hc hm C R lo) sz) (fun _ : Unit => (wX x a b ++ wM cI a pa pe st bn hc hm C R lo))) (va_A (wX x a b ++ wM cI a pa pe st bn hc hm C R lo) sz)) 0 0 (va_A (wX x a b ++ wM cI a pa pe st bn hc hm C R lo) sz) := by
  refine mQD_of (by decide) rfl (Nat.le_of_ble_eq_true rfl) ?_
  intro p e s m below meth c hx hb hr hml hown hts hlocks hsz hP hK hN hD hA hS ls hl
  have hown : s.vm.findClass RX1 = some m.cls := hown
  have hl : lv_has ls 2 [(0, .ref x)] := hl
  have hP : va_P D vwCl (wX x a b ++ wM cI a pa pe st bn hc hm C R lo) s.heap := hP
  refine lv_aload_n hx hb dX1_meanInBins_0 rfl (lv_at hl 0 rfl) ?_
  refine kRVi (As := []) (rest := []) ⟨hx, hb, hml, hown, hts⟩ (mX1_columns l D cI x b a pa pe st bn hc hm C R lo) (cwV 0 hts gX1_meanInBins_X1_columns rfl rfl rfl (by decide +kernel) ⟨Nat.le_of_ble_eq_true rfl, Nat.le_of_ble_eq_true rfl⟩) hP hK hN [0, 1, 2, 3, 4, 5, 6, 7] rfl [0] rfl rfl rfl rfl hl.1 rfl (Nat.le_of_ble_eq_true rfl) dX1_meanInBins_1 ⟨Nat.zero_le _, Nat.zero_le _⟩ (fun r_1 hr_1 => ?_)
  subst r_1
  refine lv_istore_n (lv' := [(1, .int C), (0, .ref x)]) hx hb dX1_meanInBins_4 rfl hl (by decide) rfl (fun ls hl => ?_)
  refine lv_iload_n hx hb dX1_meanInBins_5 rfl (lv_at hl 0 rfl) ?_
  refine lv_if_ne (tgt := 13) hx hb dX1_meanInBins_6 (by decide) (fun c_2 => ?_) (fun c9 => absurd c9 hC)
  refine lv_aload_n hx hb dX1_meanInBins_13 rfl (lv_at hl 1 rfl) ?_
  refine va_get (D := D) (ci := 1) (v := .ref (a 0)) (C := RX1) (T := TX1) (N := 2) hx hb hts iw_X1_meanInBins_X1 hown hK hP 0 rfl rfl 0 (by decide) (hts (.fieldLink RX1 10 "MarbleRamps" "now" "LMarbleRamps$Machine;") (mg 1 rfl)) (fun _ h9 => h9) rfl dX1_meanInBins_14 ?_
  refine kRVi (As := []) (rest := []) ⟨hx, hb, hml, hown, hts⟩ (mX0_marblesInBins l D cI a pa pe st bn hc hm C R lo) (cwV 0 hts gX1_meanInBins_X0_marblesInBins rfl rfl rfl (by decide +kernel) ⟨Nat.le_of_ble_eq_true rfl, Nat.le_of_ble_eq_true rfl⟩) hP hK hN [1, 2, 3, 4, 5, 6, 7] rfl [0] rfl rfl rfl rfl hl.1 rfl (Nat.le_of_ble_eq_true rfl) dX1_meanInBins_17 ⟨Nat.zero_le _, Nat.zero_le _⟩ (fun r_3 hr_3 => ?_)
  subst r_3
  refine lv_i2d hx hb dX1_meanInBins_20 ?_
  refine lv_iload_n hx hb dX1_meanInBins_21 rfl (lv_at hl 0 rfl) ?_
  refine lv_i2d hx hb dX1_meanInBins_22 ?_
  refine W.base ?_
  refine lv_ddiv_any (Drawn.sameBut.refl s.drawn lw_cs) lw_bits hx hb dX1_meanInBins_23 (fun r d1 hal hd1 => ?_)
  exact eQdD () hd1 hx hb hr hlocks hP hD hK hS dX1_meanInBins_24 hal
theorem iw_X2_meanInBins_X2 : ∀ w ∈ wsX20, w ∈ wsX2_meanInBins := mem_pos [9, 10, 11, 12, 13, 14, 15, 16, 17, 18] (by decide +kernel)
set_option maxHeartbeats 4000000 in
set_option maxRecDepth 100000 in
theorem mX2_meanInBins (l : Launch) (D : va_G) (cI : ClassId) (a : Nat → Nat) (pt pd ab nw kp wy : Nat → Int32) (th : Int32) (cN rN : Nat) (tn : Int32) (hc9 : cN ≤ 9) (sz : Nat) : MetD lw_cs l yX2_meanInBins wsX2_meanInBins ({ frames := 1, cells := 0, slots := 0, locals := 22 } : Room) (va_Pc [.ref (a 0)] (wPQ D [(cI, .int)] sz (wN cI a pt pd ab nw kp wy th (nI cN) (nI rN) tn))) (va_Qd (fun (zz : UInt64) (_ : Unit) => alike64 zz (FP.ddiv (FP.i2d (mSum nw cN)) (FP.i2d (nI cN))) = true) (wB D [(cI, .int)] (va_A (wN cI a pt pd ab nw kp wy th (nI cN) (nI rN) tn) sz) (fun _ : Unit => (wN cI a pt pd ab nw kp wy 0 (nI cN) (nI rN) tn))) (va_A (wN cI a pt pd ab nw kp wy th (nI cN) (nI rN) tn) sz)) 0 0 (va_A (wN cI a pt pd ab nw kp wy th (nI cN) (nI rN) tn) sz) := by
  refine mQD_of (by decide) rfl (Nat.le_of_ble_eq_true rfl) ?_
  intro p e s m below meth c hx hb hr hml hown hts hlocks hsz hP hK hN hD hA hS ls hl
  have hown : s.vm.findClass RX2 = some m.cls := hown
  have hl : lv_has ls 1 [(0, .ref (a 0))] := hl
  have hP : va_P D vwCl (wN cI a pt pd ab nw kp wy th (nI cN) (nI rN) tn) s.heap := hP
  refine lv_aload_n hx hb dX2_meanInBins_0 rfl (lv_at hl 0 rfl) ?_
  refine lv_iconst (v := 0) hx hb dX2_meanInBins_1 (by decide) ?_
  refine va_put (D := D) (ci := 2) (v := .int 0) (ty := .int) (C := RX2) (T := TX2) (N := 10) hx hb hts iw_X2_meanInBins_X2 tyX2 tyX2_ok nmX2 hown hK hP hD hS 0 rfl rfl 0 (by decide) (hts (.fieldLink RX2 35 "MarbleRampsModel" "thrown" "I") (mg 1 rfl)) (fun _ h9 => h9) rfl (by decide +kernel) rfl rfl (Nat.le_of_ble_eq_true rfl) dX2_meanInBins_2 (fun H locs hP hD hS => ?_)
  have hP : va_P D vwCl (wN cI a pt pd ab nw kp wy 0 (nI cN) (nI rN) tn) H := hP
  have hD : va_D (va_A (wN cI a pt pd ab nw kp wy th (nI cN) (nI rN) tn) sz) (wN cI a pt pd ab nw kp wy 0 (nI cN) (nI rN) tn) := hD
  refine lv_aload_n hx hb dX2_meanInBins_5 rfl (lv_at hl 0 rfl) ?_
  refine kRVi (As := []) (rest := []) ⟨hx, hb, hml, hown, hts⟩ (mX2_inBins l D cI a pt pd ab nw kp wy 0 cN rN tn hc9) (cwV 0 hts gX2_meanInBins_X2_inBins rfl rfl rfl (by decide +kernel) ⟨Nat.le_of_ble_eq_true rfl, Nat.le_of_ble_eq_true rfl⟩) hP hK hN [0, 1, 2, 3, 4, 5, 6] rfl [0] rfl rfl rfl rfl hl.1 rfl (Nat.le_of_ble_eq_true rfl) dX2_meanInBins_6 ⟨Nat.zero_le _, Nat.zero_le _⟩ (fun r_1 hr_1 => ?_)
  subst r_1
  refine lv_i2d hx hb dX2_meanInBins_9 ?_
  refine lv_aload_n hx hb dX2_meanInBins_10 rfl (lv_at hl 0 rfl) ?_
  refine va_get (D := D) (ci := 2) (v := .int (nI cN)) (C := RX2) (T := TX2) (N := 10) hx hb hts iw_X2_meanInBins_X2 hown hK hP 0 rfl rfl 1 (by decide) (hts (.fieldLink RX2 9 "MarbleRampsModel" "columns" "I") (mg 2 rfl)) (fun _ h9 => h9) rfl dX2_meanInBins_11 ?_
  refine lv_i2d hx hb dX2_meanInBins_14 ?_
  refine W.base ?_
  refine lv_ddiv_any (Drawn.sameBut.refl s.drawn lw_cs) lw_bits hx hb dX2_meanInBins_15 (fun r d1 hal hd1 => ?_)
  exact eQdD () hd1 hx hb hr hlocks hP hD hK hS dX2_meanInBins_16 hal
