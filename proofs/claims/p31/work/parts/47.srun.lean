theorem iw_X2_run_X2 : ∀ w ∈ wsX20, w ∈ wsX2_run := mem_pos [16, 17, 18, 19, 20, 21] (by decide +kernel)
set_option maxHeartbeats 4000000 in
set_option maxRecDepth 100000 in
theorem mX2_run (l : Launch) (D : va_G) (cI : ClassId) (c2 c3 : ClassId) (v rw_ : Nat → Nat) (ow : Nat → Nat → Nat) (cN rN : Nat) (pa pd st bn hc hm : Nat → Int32) (lo tn : Int32) (h1 : 1 ≤ cN) (h9 : cN ≤ 9) (h8 : rN ≤ 8) (pe : Nat → Int32) (hO : OKs (rN * cN) pa pe pd st) (hH : ∀ h, h < 2 → ∃ j, j < cN ∧ hc h = nI j) (hh mm : Nat) (hhh : hh < 2) (hmm : mm < 1000) (sz : Nat) : Met l yX2_run wsX2_run ({ frames := 2, cells := 0, slots := 0, locals := 48 } : Room) (va_Pc [.ref (v 0), .int (nI hh), .int (nI mm)] (wPQ D [(cI, .int), (c2, .array .int), (c3, .array (.array .int))] sz (wS cI c2 c3 v rw_ ow cN rN pa pd st bn hc hm lo tn))) (va_Qi (fun (zz : Int32) (u : Int32) => zz = (xRun pa pe st bn hc hm (nI cN) (nI rN) lo (nI hh) (nI mm)).1) (wB D [(cI, .int), (c2, .array .int), (c3, .array (.array .int))] (va_A (wS cI c2 c3 v rw_ ow cN rN pa pd st bn hc hm lo tn) sz) (fun u : Int32 => (wS cI c2 c3 v rw_ ow cN rN pa pd ((xRun pa pe st bn hc hm (nI cN) (nI rN) lo (nI hh) (nI mm)).2.1) ((xRun pa pe st bn hc hm (nI cN) (nI rN) lo (nI hh) (nI mm)).2.2.1) hc ((xRun pa pe st bn hc hm (nI cN) (nI rN) lo (nI hh) (nI mm)).2.2.2.2) ((xRun pa pe st bn hc hm (nI cN) (nI rN) lo (nI hh) (nI mm)).2.2.2.1) u))) (va_A (wS cI c2 c3 v rw_ ow cN rN pa pd st bn hc hm lo tn) sz)) 0 0 (va_A (wS cI c2 c3 v rw_ ow cN rN pa pd st bn hc hm lo tn) sz) := by
  refine mQ_of (by decide) rfl (Nat.le_of_ble_eq_true rfl) ?_
  intro p e s m below meth c hx hb hr hml hown hin hts hlocks hsz hP hK hN hD hA hS ls hl
  have hown : s.vm.findClass RX2 = some m.cls := hown
  have hl : lv_has ls 7 [(0, .ref (v 0)), (1, .int (nI hh)), (2, .int (nI mm))] := hl
  have hP : va_P D vwCl (wS cI c2 c3 v rw_ ow cN rN pa pd st bn hc hm lo tn) s.heap := hP
  refine lv_iconst (v := 0) hx hb dX2_run_0 (by decide) ?_
  refine lv_istore_n (lv' := [(3, .int 0), (0, .ref (v 0)), (1, .int (nI hh)), (2, .int (nI mm))]) hx hb dX2_run_1 rfl hl (by decide) rfl (fun ls hl => ?_)
  refine lv_iload_n hx hb dX2_run_2 rfl (lv_at hl 2 rfl) ?_
  refine lv_istore (lv' := [(4, .int (nI hh)), (3, .int 0), (0, .ref (v 0)), (1, .int (nI hh)), (2, .int (nI mm))]) hx hb dX2_run_3 hl (by decide) rfl (fun ls hl => ?_)
  have L5 : ∀ (n k : Nat) (i : Nat) (sv : Nat → Int32) (bv : Nat → Int32) (lv : Int32) (hv : Nat → Int32) (tv : Int32), k + n = mm → xRun pa pe st bn hc hm (nI cN) (nI rN) lo (nI hh) (nI mm) = xRunL pa pe hc (nI cN) (nI rN) n k (nI i) sv bv lv hv → i < 2 → OKs (rN * cN) pa pe pd sv → ∀ (H : Heap) (locs : List Loc), va_P D vwCl (wS cI c2 c3 v rw_ ow cN rN pa pd sv bv hc hv lv tv) H → va_D (va_A (wS cI c2 c3 v rw_ ow cN rN pa pd st bn hc hm lo tn) sz) (wS cI c2 c3 v rw_ ow cN rN pa pd sv bv hc hv lv tv) → va_S (va_A (wS cI c2 c3 v rw_ ow cN rN pa pd st bn hc hm lo tn) sz) s.heap H locs → ∀ ls : Array Slot, lv_has ls 7 [(4, .int (nI i)), (3, .int (nI k)), (0, .ref (v 0)), (1, .int (nI hh)), (2, .int (nI mm))] → W p l e ({ frames := 2, cells := 0, slots := 0, locals := 48 } : Room) s m [.ref (v 0), .int (nI hh), .int (nI mm)].toArray below meth c H locs 0 0 (MQ below (va_Qi (fun (zz : Int32) (u : Int32) => zz = (xRun pa pe st bn hc hm (nI cN) (nI rN) lo (nI hh) (nI mm)).1) (wB D [(cI, .int), (c2, .array .int), (c3, .array (.array .int))] (va_A (wS cI c2 c3 v rw_ ow cN rN pa pd st bn hc hm lo tn) sz) (fun u : Int32 => (wS cI c2 c3 v rw_ ow cN rN pa pd ((xRun pa pe st bn hc hm (nI cN) (nI rN) lo (nI hh) (nI mm)).2.1) ((xRun pa pe st bn hc hm (nI cN) (nI rN) lo (nI hh) (nI mm)).2.2.1) hc ((xRun pa pe st bn hc hm (nI cN) (nI rN) lo (nI hh) (nI mm)).2.2.2.2) ((xRun pa pe st bn hc hm (nI cN) (nI rN) lo (nI hh) (nI mm)).2.2.2.1) u))) (va_A (wS cI c2 c3 v rw_ ow cN rN pa pd st bn hc hm lo tn) sz)) [.ref (v 0), .int (nI hh), .int (nI mm)].toArray s 0 0 (va_A (wS cI c2 c3 v rw_ ow cN rN pa pd st bn hc hm lo tn) sz)) (F0 m 5 ls []) := by
    intro n
    induction n with
    | zero =>
      intro k i sv bv lv hv tv hkn5 hf hi hOs H locs hP hD hS ls hl
      refine lv_iload_n hx hb dX2_run_5 rfl (lv_at hl 1 rfl) ?_
      refine lv_iload_n hx hb dX2_run_6 rfl (lv_at hl 4 rfl) ?_
      refine lv_icmp_ge (tgt := 93) hx hb dX2_run_7 (by decide) (fun c_1 => ?_) (fun c9 => absurd (nI_le (by omega) (by omega)) c9)
      refine lv_iload_n hx hb dX2_run_93 rfl (lv_at hl 1 rfl) ?_
      have hP : va_P D vwCl (wS cI c2 c3 v rw_ ow cN rN pa pd ((xRun pa pe st bn hc hm (nI cN) (nI rN) lo (nI hh) (nI mm)).2.1) ((xRun pa pe st bn hc hm (nI cN) (nI rN) lo (nI hh) (nI mm)).2.2.1) hc ((xRun pa pe st bn hc hm (nI cN) (nI rN) lo (nI hh) (nI mm)).2.2.2.2) ((xRun pa pe st bn hc hm (nI cN) (nI rN) lo (nI hh) (nI mm)).2.2.2.1) tv) H := by rw [hf]; simp only [xRunL]; exact hP
      have hD : va_D (va_A (wS cI c2 c3 v rw_ ow cN rN pa pd st bn hc hm lo tn) sz) (wS cI c2 c3 v rw_ ow cN rN pa pd ((xRun pa pe st bn hc hm (nI cN) (nI rN) lo (nI hh) (nI mm)).2.1) ((xRun pa pe st bn hc hm (nI cN) (nI rN) lo (nI hh) (nI mm)).2.2.1) hc ((xRun pa pe st bn hc hm (nI cN) (nI rN) lo (nI hh) (nI mm)).2.2.2.2) ((xRun pa pe st bn hc hm (nI cN) (nI rN) lo (nI hh) (nI mm)).2.2.2.1) tv) := by rw [hf]; simp only [xRunL]; exact hD
      exact eQi tv hx hb hr hlocks hP hD hK hS dX2_run_94 (by rw [hf]; rfl)
    | succ n ih5 =>
      intro k i sv bv lv hv tv hkn5 hf hi hOs H locs hP hD hS ls hl
      refine lv_iload_n hx hb dX2_run_5 rfl (lv_at hl 1 rfl) ?_
      refine lv_iload_n hx hb dX2_run_6 rfl (lv_at hl 4 rfl) ?_
      refine lv_icmp_ge (tgt := 93) hx hb dX2_run_7 (by decide) (fun c9 => absurd c9 (nI_ge (by omega) (by omega))) (fun c_2 => ?_)
      refine lv_aload_n hx hb dX2_run_10 rfl (lv_at hl 2 rfl) ?_
      refine va_get (D := D) (ci := 2) (v := .ref (v 3)) (C := RX2) (T := TX2) (N := 6) hx hb hts iw_X2_run_X2 hown hK hP 0 rfl rfl 4 (by decide) (hts (.fieldLink RX2 21 "MarbleRampsLaw$Sim" "marbles" "[I") (mg 1 rfl)) (fun _ h9 => h9) rfl dX2_run_11 ?_
      refine lv_iload hx hb dX2_run_14 (lv_at hl 0 rfl) ?_
      refine va_iald hx hb hK hP 3 0 rfl rfl (vp_in_nI (by omega) (by omega)) dX2_run_16 ?_
      rw [nI_clamp (show i < 2 ^ 31 by omega)]
      refine lv_if_le (tgt := 93) hx hb dX2_run_17 (by decide) (fun c_3 => ?_) (fun c_3 => ?_)
      · refine lv_iload_n hx hb dX2_run_93 rfl (lv_at hl 1 rfl) ?_
        have hP : va_P D vwCl (wS cI c2 c3 v rw_ ow cN rN pa pd ((xRun pa pe st bn hc hm (nI cN) (nI rN) lo (nI hh) (nI mm)).2.1) ((xRun pa pe st bn hc hm (nI cN) (nI rN) lo (nI hh) (nI mm)).2.2.1) hc ((xRun pa pe st bn hc hm (nI cN) (nI rN) lo (nI hh) (nI mm)).2.2.2.2) ((xRun pa pe st bn hc hm (nI cN) (nI rN) lo (nI hh) (nI mm)).2.2.2.1) tv) H := by rw [hf, run_empty hi c_3]; exact hP
        have hD : va_D (va_A (wS cI c2 c3 v rw_ ow cN rN pa pd st bn hc hm lo tn) sz) (wS cI c2 c3 v rw_ ow cN rN pa pd ((xRun pa pe st bn hc hm (nI cN) (nI rN) lo (nI hh) (nI mm)).2.1) ((xRun pa pe st bn hc hm (nI cN) (nI rN) lo (nI hh) (nI mm)).2.2.1) hc ((xRun pa pe st bn hc hm (nI cN) (nI rN) lo (nI hh) (nI mm)).2.2.2.2) ((xRun pa pe st bn hc hm (nI cN) (nI rN) lo (nI hh) (nI mm)).2.2.2.1) tv) := by rw [hf, run_empty hi c_3]; exact hD
        exact eQi tv hx hb hr hlocks hP hD hK hS dX2_run_94 (by rw [hf, run_empty hi c_3])
      · refine lv_aload_n hx hb dX2_run_20 rfl (lv_at hl 2 rfl) ?_
        refine va_get (D := D) (ci := 2) (v := .ref (v 3)) (C := RX2) (T := TX2) (N := 6) hx hb hts iw_X2_run_X2 hown hK hP 0 rfl rfl 4 (by decide) (hts (.fieldLink RX2 21 "MarbleRampsLaw$Sim" "marbles" "[I") (mg 1 rfl)) (fun _ h9 => h9) rfl dX2_run_21 ?_
        refine lv_iload hx hb dX2_run_24 (lv_at hl 0 rfl) ?_
        refine lv_dup2_11 hx hb dX2_run_26 rfl rfl ?_
        refine va_iald hx hb hK hP 3 0 rfl rfl (vp_in_nI (by omega) (by omega)) dX2_run_27 ?_
        rw [nI_clamp (show i < 2 ^ 31 by omega)]
        refine lv_iconst (v := 1) hx hb dX2_run_28 (by decide) ?_
        refine lv_isub hx hb dX2_run_29 ?_
        refine va_iast hx hb hK hP hD hS 3 0 rfl rfl (vp_in_nI (by omega) (by omega)) dX2_run_30 (fun H locs hP hD hS => ?_)
        rw [nI_clamp (show i < 2 ^ 31 by omega)] at hP hD
        have hP : va_P D vwCl (wS cI c2 c3 v rw_ ow cN rN pa pd sv bv hc ((upd hv i ((hv i) - 1))) lv tv) H := hP
        have hD : va_D (va_A (wS cI c2 c3 v rw_ ow cN rN pa pd st bn hc hm lo tn) sz) (wS cI c2 c3 v rw_ ow cN rN pa pd sv bv hc ((upd hv i ((hv i) - 1))) lv tv) := hD
        refine lv_iinc (v := (nI (k + 1))) (lv' := [(3, .int (nI (k + 1))), (4, .int (nI i)), (0, .ref (v 0)), (1, .int (nI hh)), (2, .int (nI mm))]) hx hb dX2_run_31 hl (k := 1) rfl (nI_1 k) (by decide) rfl (fun ls hl => ?_)
        obtain ⟨j, hj, hcj⟩ := hH i hi
        refine lv_aload_n hx hb dX2_run_34 rfl (lv_at hl 2 rfl) ?_
        refine lv_aload_n hx hb dX2_run_35 rfl (lv_at hl 2 rfl) ?_
        refine va_get (D := D) (ci := 2) (v := .ref (v 2)) (C := RX2) (T := TX2) (N := 6) hx hb hts iw_X2_run_X2 hown hK hP 0 rfl rfl 3 (by decide) (hts (.fieldLink RX2 18 "MarbleRampsLaw$Sim" "above" "[I") (mg 2 rfl)) (fun _ h9 => h9) rfl dX2_run_36 ?_
        refine lv_iload hx hb dX2_run_39 (lv_at hl 1 rfl) ?_
        refine va_iald hx hb hK hP 2 0 rfl rfl (vp_in_nI (by omega) (by omega)) dX2_run_41 ?_
        rw [nI_clamp (show i < 2 ^ 31 by omega)]
        rw [hcj]
        refine kPVi (As := [.int (nI j)]) (rest := []) (Wr := []) (W2 := (fun u : Int32 => (wS cI c2 c3 v rw_ ow cN rN pa pd ((xFall pa pe sv (nI cN) (nI j) (nI rN)).2) ((xLandBn bv (xFall pa pe sv (nI cN) (nI j) (nI rN)).1)) hc ((upd hv i ((hv i) - 1))) ((xLandLo lv (xFall pa pe sv (nI cN) (nI j) (nI rN)).1)) u))) ⟨hx, hb, hml, hown, hts⟩ (mX2_drop l D cI c2 c3 v rw_ ow cN rN pa pd sv bv hc (upd hv i ((hv i) - 1)) lv tv h1 h9 h8 pe hOs j hj _) (cwV 1 hts gX2_run_X2_drop rfl rfl rfl (by decide +kernel) ⟨Nat.le_of_ble_eq_true rfl, Nat.le_of_ble_eq_true rfl⟩) (preVQ hK hN hP hD [0, 1, 2] rfl rfl rfl) hP hD hS hA (pm_0 _) (fun u => (pm_0 _).symm) rfl hl.1 rfl (Nat.le_of_ble_eq_true rfl) dX2_run_42 ⟨Nat.le_of_ble_eq_true rfl, Nat.le_of_ble_eq_true rfl⟩ (fun r_4 u_4 H locs hr_4 hP hD hS => ?_)
        have hP : va_P D vwCl (wS cI c2 c3 v rw_ ow cN rN pa pd ((xFall pa pe sv (nI cN) (nI j) (nI rN)).2) ((xLandBn bv (xFall pa pe sv (nI cN) (nI j) (nI rN)).1)) hc ((upd hv i ((hv i) - 1))) ((xLandLo lv (xFall pa pe sv (nI cN) (nI j) (nI rN)).1)) u_4) H := hP
        have hD : va_D (va_A (wS cI c2 c3 v rw_ ow cN rN pa pd st bn hc hm lo tn) sz) (wS cI c2 c3 v rw_ ow cN rN pa pd ((xFall pa pe sv (nI cN) (nI j) (nI rN)).2) ((xLandBn bv (xFall pa pe sv (nI cN) (nI j) (nI rN)).1)) hc ((upd hv i ((hv i) - 1))) ((xLandLo lv (xFall pa pe sv (nI cN) (nI j) (nI rN)).1)) u_4) := hD
        obtain ⟨hrc, hOn, _⟩ := fall_c h9 h8 hOs hj
        rw [← hr_4] at hrc
        rcases hrc with h | ⟨i2, hi2, h⟩
        · subst h
          rw [← hr_4] at hP hD
          refine lv_istore (lv' := [(5, .int (-1)), (3, .int (nI (k + 1))), (4, .int (nI i)), (0, .ref (v 0)), (1, .int (nI hh)), (2, .int (nI mm))]) hx hb dX2_run_45 hl (by decide) rfl (fun ls hl => ?_)
          refine lv_aload_n hx hb dX2_run_47 rfl (lv_at hl 3 rfl) ?_
          refine va_get (D := D) (ci := 2) (v := .ref (v 1)) (C := RX2) (T := TX2) (N := 6) hx hb hts iw_X2_run_X2 hown hK hP 0 rfl rfl 1 (by decide) (hts (.fieldLink RX2 14 "MarbleRampsLaw$Sim" "bins" "[I") (mg 3 rfl)) (fun _ h9 => h9) rfl dX2_run_48 ?_
          refine va_alen hx hb hK hP 1 0 rfl rfl (v := (nI cN)) rfl dX2_run_51 ?_
          refine lv_iconst (v := 1) hx hb dX2_run_52 (by decide) ?_
          refine lv_isub hx hb dX2_run_53 ?_
          refine lv_istore (lv' := [(6, .int ((nI cN) - 1)), (5, .int (-1)), (3, .int (nI (k + 1))), (4, .int (nI i)), (0, .ref (v 0)), (1, .int (nI hh)), (2, .int (nI mm))]) hx hb dX2_run_54 hl (by decide) rfl (fun ls hl => ?_)
          refine lv_iload hx hb dX2_run_56 (lv_at hl 1 rfl) ?_
          refine lv_if_lt (tgt := 71) hx hb dX2_run_58 (by decide) (fun c_5 => ?_) (fun c9 => absurd (by decide) c9)
          refine lv_iload_n hx hb dX2_run_71 rfl (lv_at hl 2 rfl) ?_
          have hP : va_P D vwCl (wS cI c2 c3 v rw_ ow cN rN pa pd ((xRun pa pe st bn hc hm (nI cN) (nI rN) lo (nI hh) (nI mm)).2.1) ((xRun pa pe st bn hc hm (nI cN) (nI rN) lo (nI hh) (nI mm)).2.2.1) hc ((xRun pa pe st bn hc hm (nI cN) (nI rN) lo (nI hh) (nI mm)).2.2.2.2) ((xRun pa pe st bn hc hm (nI cN) (nI rN) lo (nI hh) (nI mm)).2.2.2.1) u_4) H := by rw [hf, run_step hi c_3 hcj hr_4, beh_m, run_stop]; exact hP
          have hD : va_D (va_A (wS cI c2 c3 v rw_ ow cN rN pa pd st bn hc hm lo tn) sz) (wS cI c2 c3 v rw_ ow cN rN pa pd ((xRun pa pe st bn hc hm (nI cN) (nI rN) lo (nI hh) (nI mm)).2.1) ((xRun pa pe st bn hc hm (nI cN) (nI rN) lo (nI hh) (nI mm)).2.2.1) hc ((xRun pa pe st bn hc hm (nI cN) (nI rN) lo (nI hh) (nI mm)).2.2.2.2) ((xRun pa pe st bn hc hm (nI cN) (nI rN) lo (nI hh) (nI mm)).2.2.2.1) u_4) := by rw [hf, run_step hi c_3 hcj hr_4, beh_m, run_stop]; exact hD
          exact eQi u_4 hx hb hr hlocks hP hD hK hS dX2_run_72 (by rw [hf, run_step hi c_3 hcj hr_4, beh_m, run_stop])
        · subst h
          rw [← hr_4] at hP hD
          refine lv_istore (lv' := [(5, .int (nI i2)), (3, .int (nI (k + 1))), (4, .int (nI i)), (0, .ref (v 0)), (1, .int (nI hh)), (2, .int (nI mm))]) hx hb dX2_run_45 hl (by decide) rfl (fun ls hl => ?_)
          refine lv_aload_n hx hb dX2_run_47 rfl (lv_at hl 3 rfl) ?_
          refine va_get (D := D) (ci := 2) (v := .ref (v 1)) (C := RX2) (T := TX2) (N := 6) hx hb hts iw_X2_run_X2 hown hK hP 0 rfl rfl 1 (by decide) (hts (.fieldLink RX2 14 "MarbleRampsLaw$Sim" "bins" "[I") (mg 3 rfl)) (fun _ h9 => h9) rfl dX2_run_48 ?_
          refine va_alen hx hb hK hP 1 0 rfl rfl (v := (nI cN)) rfl dX2_run_51 ?_
          refine lv_iconst (v := 1) hx hb dX2_run_52 (by decide) ?_
          refine lv_isub hx hb dX2_run_53 ?_
          refine lv_istore (lv' := [(6, .int ((nI cN) - 1)), (5, .int (nI i2)), (3, .int (nI (k + 1))), (4, .int (nI i)), (0, .ref (v 0)), (1, .int (nI hh)), (2, .int (nI mm))]) hx hb dX2_run_54 hl (by decide) rfl (fun ls hl => ?_)
          refine lv_iload hx hb dX2_run_56 (lv_at hl 1 rfl) ?_
          refine lv_if_lt (tgt := 71) hx hb dX2_run_58 (by decide) (fun c9 => absurd c9 (nI_pos (by omega))) (fun c_6 => ?_)
          refine lv_iload hx hb dX2_run_61 (lv_at hl 1 rfl) ?_
          refine lv_iload hx hb dX2_run_63 (lv_at hl 1 rfl) ?_
          refine lv_iadd hx hb dX2_run_65 ?_
          refine lv_iload hx hb dX2_run_66 (lv_at hl 0 rfl) ?_
          refine lv_icmp_ne (tgt := 73) hx hb dX2_run_68 (by decide) (fun c_7 => ?_) (fun c_7 => ?_)
          · refine lv_iload hx hb dX2_run_73 (lv_at hl 1 rfl) ?_
            refine lv_iload hx hb dX2_run_75 (lv_at hl 1 rfl) ?_
            refine lv_iadd hx hb dX2_run_77 ?_
            refine lv_iload hx hb dX2_run_78 (lv_at hl 0 rfl) ?_
            refine lv_icmp_ge (tgt := 87) hx hb dX2_run_80 (by decide) (fun c_8 => ?_) (fun c_8 => ?_)
            · refine lv_iconst (v := 1) hx hb dX2_run_87 (by decide) ?_
              refine lv_istore (lv' := [(4, .int 1), (6, .int ((nI cN) - 1)), (5, .int (nI i2)), (3, .int (nI (k + 1))), (0, .ref (v 0)), (1, .int (nI hh)), (2, .int (nI mm))]) hx hb dX2_run_88 hl (by decide) rfl (fun ls hl => ?_)
              refine lv_goto (tgt := 5) hx hb dX2_run_90 (by decide) ?_
              exact ih5 (k + 1) 1 ((xFall pa pe sv (nI cN) (nI j) (nI rN)).2) (xLandBn bv (nI i2)) (xLandLo lv (nI i2)) (upd hv i ((hv i) - 1)) u_4 (by omega) (by rw [hf, run_step hi c_3 hcj hr_4, beh_g (show i2 < 9 by omega) c_7 (Int32.not_lt.mpr c_8)]) (by omega) hOn _ _ hP hD hS ls (lv_sub hl [0, 3, 4, 5, 6] rfl)
            · refine lv_iconst (v := 0) hx hb dX2_run_83 (by decide) ?_
              refine lv_goto (tgt := 88) hx hb dX2_run_84 (by decide) ?_
              refine lv_istore (lv' := [(4, .int 0), (6, .int ((nI cN) - 1)), (5, .int (nI i2)), (3, .int (nI (k + 1))), (0, .ref (v 0)), (1, .int (nI hh)), (2, .int (nI mm))]) hx hb dX2_run_88 hl (by decide) rfl (fun ls hl => ?_)
              refine lv_goto (tgt := 5) hx hb dX2_run_90 (by decide) ?_
              exact ih5 (k + 1) 0 ((xFall pa pe sv (nI cN) (nI j) (nI rN)).2) (xLandBn bv (nI i2)) (xLandLo lv (nI i2)) (upd hv i ((hv i) - 1)) u_4 (by omega) (by rw [hf, run_step hi c_3 hcj hr_4, beh_l (show i2 < 9 by omega) c_7 (Int32.not_le.mp c_8)]) (by omega) hOn _ _ hP hD hS ls (lv_sub hl [0, 3, 4, 5, 6] rfl)
          · refine lv_iload_n hx hb dX2_run_71 rfl (lv_at hl 2 rfl) ?_
            have hP : va_P D vwCl (wS cI c2 c3 v rw_ ow cN rN pa pd ((xRun pa pe st bn hc hm (nI cN) (nI rN) lo (nI hh) (nI mm)).2.1) ((xRun pa pe st bn hc hm (nI cN) (nI rN) lo (nI hh) (nI mm)).2.2.1) hc ((xRun pa pe st bn hc hm (nI cN) (nI rN) lo (nI hh) (nI mm)).2.2.2.2) ((xRun pa pe st bn hc hm (nI cN) (nI rN) lo (nI hh) (nI mm)).2.2.2.1) u_4) H := by rw [hf, run_step hi c_3 hcj hr_4, beh_e (show i2 < 9 by omega) c_7, run_stop]; exact hP
            have hD : va_D (va_A (wS cI c2 c3 v rw_ ow cN rN pa pd st bn hc hm lo tn) sz) (wS cI c2 c3 v rw_ ow cN rN pa pd ((xRun pa pe st bn hc hm (nI cN) (nI rN) lo (nI hh) (nI mm)).2.1) ((xRun pa pe st bn hc hm (nI cN) (nI rN) lo (nI hh) (nI mm)).2.2.1) hc ((xRun pa pe st bn hc hm (nI cN) (nI rN) lo (nI hh) (nI mm)).2.2.2.2) ((xRun pa pe st bn hc hm (nI cN) (nI rN) lo (nI hh) (nI mm)).2.2.2.1) u_4) := by rw [hf, run_step hi c_3 hcj hr_4, beh_e (show i2 < 9 by omega) c_7, run_stop]; exact hD
            exact eQi u_4 hx hb hr hlocks hP hD hK hS dX2_run_72 (by rw [hf, run_step hi c_3 hcj hr_4, beh_e (show i2 < 9 by omega) c_7, run_stop])
  exact L5 mm 0 hh st bn lo hm tn (by omega) (by unfold xRun; rw [nI_clamp (show mm < 2 ^ 31 by omega)]) hhh hO _ _ hP hD hS ls (lv_sub hl [0, 1, 2, 3, 4] rfl)
