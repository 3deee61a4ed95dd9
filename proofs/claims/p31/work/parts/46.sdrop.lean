theorem iw_X2_drop_X2 : ∀ w ∈ wsX20, w ∈ wsX2_drop := mem_pos [10, 11, 12, 13, 14, 15] (by decide +kernel)
set_option maxHeartbeats 4000000 in
set_option maxRecDepth 100000 in
theorem mX2_drop (l : Launch) (D : va_G) (cI : ClassId) (c2 c3 : ClassId) (v rw_ : Nat → Nat) (ow : Nat → Nat → Nat) (cN rN : Nat) (pa pd st bn hc hm : Nat → Int32) (lo tn : Int32) (h1 : 1 ≤ cN) (h9 : cN ≤ 9) (h8 : rN ≤ 8) (pe : Nat → Int32) (hO : OKs (rN * cN) pa pe pd st) (jj : Nat) (hjj : jj < cN) (sz : Nat) : Met l yX2_drop wsX2_drop ({ frames := 1, cells := 0, slots := 0, locals := 26 } : Room) (va_Pc [.ref (v 0), .int (nI jj)] (wPQ D [(cI, .int), (c2, .array .int), (c3, .array (.array .int))] sz (wS cI c2 c3 v rw_ ow cN rN pa pd st bn hc hm lo tn))) (va_Qi (fun (zz : Int32) (u : Int32) => zz = (xFall pa pe st (nI cN) (nI jj) (nI rN)).1) (wB D [(cI, .int), (c2, .array .int), (c3, .array (.array .int))] (va_A (wS cI c2 c3 v rw_ ow cN rN pa pd st bn hc hm lo tn) sz) (fun u : Int32 => (wS cI c2 c3 v rw_ ow cN rN pa pd ((xFall pa pe st (nI cN) (nI jj) (nI rN)).2) ((xLandBn bn (xFall pa pe st (nI cN) (nI jj) (nI rN)).1)) hc hm ((xLandLo lo (xFall pa pe st (nI cN) (nI jj) (nI rN)).1)) u))) (va_A (wS cI c2 c3 v rw_ ow cN rN pa pd st bn hc hm lo tn) sz)) 0 0 (va_A (wS cI c2 c3 v rw_ ow cN rN pa pd st bn hc hm lo tn) sz) := by
  refine mQ_of (by decide) rfl (Nat.le_of_ble_eq_true rfl) ?_
  intro p e s m below meth c hx hb hr hml hown hin hts hlocks hsz hP hK hN hD hA hS ls hl
  have hown : s.vm.findClass RX2 = some m.cls := hown
  have hl : lv_has ls 3 [(0, .ref (v 0)), (1, .int (nI jj))] := hl
  have hP : va_P D vwCl (wS cI c2 c3 v rw_ ow cN rN pa pd st bn hc hm lo tn) s.heap := hP
  refine lv_aload_n hx hb dX2_drop_0 rfl (lv_at hl 0 rfl) ?_
  refine lv_iload_n hx hb dX2_drop_1 rfl (lv_at hl 1 rfl) ?_
  refine lv_aload_n hx hb dX2_drop_2 rfl (lv_at hl 0 rfl) ?_
  refine va_get (D := D) (ci := 2) (v := .ref (v 4)) (C := RX2) (T := TX2) (N := 6) hx hb hts iw_X2_drop_X2 hown hK hP 0 rfl rfl 0 (by decide) (hts (.fieldLink RX2 9 "MarbleRampsLaw$Sim" "board" "[[[I") (mg 1 rfl)) (fun _ h9 => h9) rfl dX2_drop_3 ?_
  refine va_alen hx hb hK hP 4 2 rfl rfl (v := (nI rN)) rfl dX2_drop_6 ?_
  refine kPVi (As := [.int (nI jj), .int (nI rN)]) (rest := []) (Wr := []) (W2 := (fun u : Int32 => (wS cI c2 c3 v rw_ ow cN rN pa pd ((xFall pa pe st (nI cN) (nI jj) (nI rN)).2) bn hc hm lo u))) ⟨hx, hb, hml, hown, hts⟩ (mX2_fall l D cI c2 c3 v rw_ ow cN rN pa pd st bn hc hm lo tn h1 h9 h8 pe hO jj hjj _) (cwV 2 hts gX2_drop_X2_fall rfl rfl rfl (by decide +kernel) ⟨Nat.le_of_ble_eq_true rfl, Nat.le_of_ble_eq_true rfl⟩) (preVQ hK hN hP hD [0, 1, 2] rfl rfl rfl) hP hD hS hA (pm_0 _) (fun u => (pm_0 _).symm) rfl hl.1 rfl (Nat.le_of_ble_eq_true rfl) dX2_drop_7 ⟨Nat.le_of_ble_eq_true rfl, Nat.le_of_ble_eq_true rfl⟩ (fun r_1 u_1 H locs hr_1 hP hD hS => ?_)
  have hP : va_P D vwCl (wS cI c2 c3 v rw_ ow cN rN pa pd ((xFall pa pe st (nI cN) (nI jj) (nI rN)).2) bn hc hm lo u_1) H := hP
  have hD : va_D (va_A (wS cI c2 c3 v rw_ ow cN rN pa pd st bn hc hm lo tn) sz) (wS cI c2 c3 v rw_ ow cN rN pa pd ((xFall pa pe st (nI cN) (nI jj) (nI rN)).2) bn hc hm lo u_1) := hD
  rcases (show r_1 = -1 ∨ ∃ i, i < cN ∧ r_1 = nI i by rw [hr_1]; exact (fall_c h9 h8 hO hjj).1) with h | ⟨i, hi, h⟩
  · subst h
    refine lv_istore_n (lv' := [(2, .int (-1)), (0, .ref (v 0)), (1, .int (nI jj))]) hx hb dX2_drop_10 rfl hl (by decide) rfl (fun ls hl => ?_)
    refine lv_iload_n hx hb dX2_drop_11 rfl (lv_at hl 0 rfl) ?_
    refine lv_if_ge (tgt := 28) hx hb dX2_drop_12 (by decide) (fun c9 => absurd c9 (by decide)) (fun c_2 => ?_)
    refine lv_aload_n hx hb dX2_drop_15 rfl (lv_at hl 1 rfl) ?_
    refine lv_dup hx hb dX2_drop_16 rfl ?_
    refine va_get (D := D) (ci := 2) (v := .int lo) (C := RX2) (T := TX2) (N := 6) hx hb hts iw_X2_drop_X2 hown hK hP 0 rfl rfl 2 (by decide) (hts (.fieldLink RX2 30 "MarbleRampsLaw$Sim" "lost" "I") (mg 2 rfl)) (fun _ h9 => h9) rfl dX2_drop_17 ?_
    refine lv_iconst (v := 1) hx hb dX2_drop_20 (by decide) ?_
    refine lv_iadd hx hb dX2_drop_21 ?_
    refine va_put (D := D) (ci := 2) (v := .int (lo + 1)) (ty := .int) (C := RX2) (T := TX2) (N := 6) hx hb hts iw_X2_drop_X2 tyX2 tyX2_ok nmX2 hown hK hP hD hS 0 rfl rfl 2 (by decide) (hts (.fieldLink RX2 30 "MarbleRampsLaw$Sim" "lost" "I") (mg 2 rfl)) (fun _ h9 => h9) rfl (by decide +kernel) rfl rfl (Nat.le_of_ble_eq_true rfl) dX2_drop_22 (fun H locs hP hD hS => ?_)
    have hP : va_P D vwCl (wS cI c2 c3 v rw_ ow cN rN pa pd ((xFall pa pe st (nI cN) (nI jj) (nI rN)).2) bn hc hm ((lo + 1)) u_1) H := hP
    have hD : va_D (va_A (wS cI c2 c3 v rw_ ow cN rN pa pd st bn hc hm lo tn) sz) (wS cI c2 c3 v rw_ ow cN rN pa pd ((xFall pa pe st (nI cN) (nI jj) (nI rN)).2) bn hc hm ((lo + 1)) u_1) := hD
    refine lv_goto (tgt := 38) hx hb dX2_drop_25 (by decide) ?_
    refine lv_iload_n hx hb dX2_drop_38 rfl (lv_at hl 0 rfl) ?_
    have hP : va_P D vwCl (wS cI c2 c3 v rw_ ow cN rN pa pd ((xFall pa pe st (nI cN) (nI jj) (nI rN)).2) ((xLandBn bn (xFall pa pe st (nI cN) (nI jj) (nI rN)).1)) hc hm ((xLandLo lo (xFall pa pe st (nI cN) (nI jj) (nI rN)).1)) u_1) H := by rw [← hr_1, landBn_m, landLo_m]; exact hP
    have hD : va_D (va_A (wS cI c2 c3 v rw_ ow cN rN pa pd st bn hc hm lo tn) sz) (wS cI c2 c3 v rw_ ow cN rN pa pd ((xFall pa pe st (nI cN) (nI jj) (nI rN)).2) ((xLandBn bn (xFall pa pe st (nI cN) (nI jj) (nI rN)).1)) hc hm ((xLandLo lo (xFall pa pe st (nI cN) (nI jj) (nI rN)).1)) u_1) := by rw [← hr_1, landBn_m, landLo_m]; exact hD
    exact eQi u_1 hx hb hr hlocks hP hD hK hS dX2_drop_39 (hr_1)
  · subst h
    refine lv_istore_n (lv' := [(2, .int (nI i)), (0, .ref (v 0)), (1, .int (nI jj))]) hx hb dX2_drop_10 rfl hl (by decide) rfl (fun ls hl => ?_)
    refine lv_iload_n hx hb dX2_drop_11 rfl (lv_at hl 0 rfl) ?_
    refine lv_if_ge (tgt := 28) hx hb dX2_drop_12 (by decide) (fun c_3 => ?_) (fun c9 => absurd (nI_pos' (by omega)) c9)
    refine lv_aload_n hx hb dX2_drop_28 rfl (lv_at hl 1 rfl) ?_
    refine va_get (D := D) (ci := 2) (v := .ref (v 1)) (C := RX2) (T := TX2) (N := 6) hx hb hts iw_X2_drop_X2 hown hK hP 0 rfl rfl 1 (by decide) (hts (.fieldLink RX2 14 "MarbleRampsLaw$Sim" "bins" "[I") (mg 3 rfl)) (fun _ h9 => h9) rfl dX2_drop_29 ?_
    refine lv_iload_n hx hb dX2_drop_32 rfl (lv_at hl 0 rfl) ?_
    refine lv_dup2_11 hx hb dX2_drop_33 rfl rfl ?_
    refine va_iald hx hb hK hP 1 0 rfl rfl (vp_in_nI (by omega) (by omega)) dX2_drop_34 ?_
    rw [nI_clamp (show i < 2 ^ 31 by omega)]
    refine lv_iconst (v := 1) hx hb dX2_drop_35 (by decide) ?_
    refine lv_iadd hx hb dX2_drop_36 ?_
    refine va_iast hx hb hK hP hD hS 1 0 rfl rfl (vp_in_nI (by omega) (by omega)) dX2_drop_37 (fun H locs hP hD hS => ?_)
    rw [nI_clamp (show i < 2 ^ 31 by omega)] at hP hD
    have hP : va_P D vwCl (wS cI c2 c3 v rw_ ow cN rN pa pd ((xFall pa pe st (nI cN) (nI jj) (nI rN)).2) ((upd bn i ((bn i) + 1))) hc hm lo u_1) H := hP
    have hD : va_D (va_A (wS cI c2 c3 v rw_ ow cN rN pa pd st bn hc hm lo tn) sz) (wS cI c2 c3 v rw_ ow cN rN pa pd ((xFall pa pe st (nI cN) (nI jj) (nI rN)).2) ((upd bn i ((bn i) + 1))) hc hm lo u_1) := hD
    refine lv_iload_n hx hb dX2_drop_38 rfl (lv_at hl 0 rfl) ?_
    have hP : va_P D vwCl (wS cI c2 c3 v rw_ ow cN rN pa pd ((xFall pa pe st (nI cN) (nI jj) (nI rN)).2) ((xLandBn bn (xFall pa pe st (nI cN) (nI jj) (nI rN)).1)) hc hm ((xLandLo lo (xFall pa pe st (nI cN) (nI jj) (nI rN)).1)) u_1) H := by rw [← hr_1, landBn_n (show i < 9 by omega), landLo_n (show i < 9 by omega)]; exact hP
    have hD : va_D (va_A (wS cI c2 c3 v rw_ ow cN rN pa pd st bn hc hm lo tn) sz) (wS cI c2 c3 v rw_ ow cN rN pa pd ((xFall pa pe st (nI cN) (nI jj) (nI rN)).2) ((xLandBn bn (xFall pa pe st (nI cN) (nI jj) (nI rN)).1)) hc hm ((xLandLo lo (xFall pa pe st (nI cN) (nI jj) (nI rN)).1)) u_1) := by rw [← hr_1, landBn_n (show i < 9 by omega), landLo_n (show i < 9 by omega)]; exact hD
    exact eQi u_1 hx hb hr hlocks hP hD hK hS dX2_drop_39 (hr_1)
