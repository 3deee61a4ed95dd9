theorem iw_X0_countToggles_X0 : ∀ w ∈ wsX00, w ∈ wsX0_countToggles := mem_pos [2, 3, 4, 5, 6, 7, 8, 9, 10] (by decide +kernel)
set_option maxHeartbeats 4000000 in
set_option maxRecDepth 100000 in
theorem mX0_countToggles (l : Launch) (D : va_G) (cI : ClassId) (a : Nat → Nat) (pa pe st bn hc hm : Nat → Int32) (C R lo : Int32) : Met l yX0_countToggles wsX0_countToggles ({ frames := 0, cells := 0, slots := 0, locals := 0 } : Room) (va_Pc [.ref (a 0)] (wPR D [(cI, .int)] (wM cI a pa pe st bn hc hm C R lo))) (vp_Si (fun zz : Int32 => zz = xTog pa)) 0 0 (fun _ => False) := by
  refine mR_of (by decide) rfl (Nat.le_of_ble_eq_true rfl) ?_
  intro p e s m below meth c hx hb hr hml hown hts hlocks hP hK hN ls hl
  have hown : s.vm.findClass RX0 = some m.cls := hown
  have hl : lv_has ls 6 [(0, .ref (a 0))] := hl
  refine lv_iconst (v := 0) hx hb dX0_countToggles_0 (by decide) ?_
  refine lv_istore_n (lv' := [(1, .int 0), (0, .ref (a 0))]) hx hb dX0_countToggles_1 rfl hl (by decide) rfl (fun ls hl => ?_)
  refine lv_aload_n hx hb dX0_countToggles_2 rfl (lv_at hl 1 rfl) ?_
  refine va_get (D := D) (ci := 0) (v := .ref (a 1)) (C := RX0) (T := TX0) (N := 9) hx hb hts iw_X0_countToggles_X0 hown hK hP 0 rfl rfl 0 (by decide) (hts (.fieldLink RX0 9 "MarbleRamps$Machine" "parts" "[I") (mg 1 rfl)) (fun _ h9 => h9) rfl dX0_countToggles_3 ?_
  refine lv_astore_n (lv' := [(2, .ref (a 1)), (1, .int 0), (0, .ref (a 0))]) hx hb dX0_countToggles_6 rfl hl (by decide) rfl (fun ls hl => ?_)
  refine lv_aload_n hx hb dX0_countToggles_7 rfl (lv_at hl 0 rfl) ?_
  refine va_alen hx hb hK hP 1 0 rfl rfl (v := 72) rfl dX0_countToggles_8 ?_
  refine lv_istore_n (lv' := [(3, .int 72), (2, .ref (a 1)), (1, .int 0), (0, .ref (a 0))]) hx hb dX0_countToggles_9 rfl hl (by decide) rfl (fun ls hl => ?_)
  refine lv_iconst (v := 0) hx hb dX0_countToggles_10 (by decide) ?_
  refine lv_istore (lv' := [(4, .int 0), (3, .int 72), (2, .ref (a 1)), (1, .int 0), (0, .ref (a 0))]) hx hb dX0_countToggles_11 hl (by decide) rfl (fun ls hl => ?_)
  have L13 : ∀ (n k : Nat) (t : Int32), k + n = 72 → xTog pa = xTogL pa n k t → ∀ ls : Array Slot, lv_has ls 6 [(4, .int (nI k)), (3, .int 72), (2, .ref (a 1)), (1, .int t), (0, .ref (a 0))] → W p l e ({ frames := 0, cells := 0, slots := 0, locals := 0 } : Room) s m [.ref (a 0)].toArray below meth c s.heap [] 0 0 (MQ below (vp_Si (fun zz : Int32 => zz = xTog pa)) [.ref (a 0)].toArray s 0 0 (fun _ => False)) (F0 m 13 ls []) := by
    intro n
    induction n with
    | zero =>
      intro k t hkn13 hf ls hl
      refine lv_iload hx hb dX0_countToggles_13 (lv_at hl 0 rfl) ?_
      refine lv_iload_n hx hb dX0_countToggles_15 rfl (lv_at hl 1 rfl) ?_
      refine lv_icmp_ge (tgt := 40) hx hb dX0_countToggles_16 (by decide) (fun c_1 => ?_) (fun c9 => absurd (by rw [show (72 : Int32) = nI 72 from rfl]; exact nI_le (by omega) (by omega)) c9)
      refine lv_iload_n hx hb dX0_countToggles_40 rfl (lv_at hl 3 rfl) ?_
      exact eRi hx hb hr hlocks dX0_countToggles_41 (by rw [hf]; rfl)
    | succ n ih13 =>
      intro k t hkn13 hf ls hl
      refine lv_iload hx hb dX0_countToggles_13 (lv_at hl 0 rfl) ?_
      refine lv_iload_n hx hb dX0_countToggles_15 rfl (lv_at hl 1 rfl) ?_
      refine lv_icmp_ge (tgt := 40) hx hb dX0_countToggles_16 (by decide) (fun c9 => absurd c9 (by rw [show (72 : Int32) = nI 72 from rfl]; exact nI_ge (by omega) (by decide))) (fun c_2 => ?_)
      refine lv_aload_n hx hb dX0_countToggles_19 rfl (lv_at hl 2 rfl) ?_
      refine lv_iload hx hb dX0_countToggles_20 (lv_at hl 0 rfl) ?_
      refine va_iald hx hb hK hP 1 0 rfl rfl (vp_in_nI (by omega) (by decide)) dX0_countToggles_22 ?_
      rw [nI_clamp (show k < 2 ^ 31 by omega)]
      refine lv_istore (lv' := [(5, .int (pa k)), (4, .int (nI k)), (3, .int 72), (2, .ref (a 1)), (1, .int t), (0, .ref (a 0))]) hx hb dX0_countToggles_23 hl (by decide) rfl (fun ls hl => ?_)
      refine lv_iload hx hb dX0_countToggles_25 (lv_at hl 0 rfl) ?_
      refine lv_iconst (v := 3) hx hb dX0_countToggles_27 (by decide) ?_
      refine lv_icmp_ne (tgt := 34) hx hb dX0_countToggles_28 (by decide) (fun c_3 => ?_) (fun c_3 => ?_)
      · refine lv_iinc (v := (nI (k + 1))) (lv' := [(4, .int (nI (k + 1))), (5, .int (pa k)), (3, .int 72), (2, .ref (a 1)), (1, .int t), (0, .ref (a 0))]) hx hb dX0_countToggles_34 hl (k := 1) rfl (nI_1 k) (by decide) rfl (fun ls hl => ?_)
        refine lv_goto (tgt := 13) hx hb dX0_countToggles_37 (by decide) ?_
        exact ih13 (k + 1) t (by omega) (by rw [hf]; simp [xTogL, c_3]) ls (lv_sub hl [0, 2, 3, 4, 5] rfl)
      · refine lv_iinc (v := (t + 1)) (lv' := [(1, .int (t + 1)), (5, .int (pa k)), (4, .int (nI k)), (3, .int 72), (2, .ref (a 1)), (0, .ref (a 0))]) hx hb dX0_countToggles_31 hl (k := 4) rfl rfl (by decide) rfl (fun ls hl => ?_)
        refine lv_iinc (v := (nI (k + 1))) (lv' := [(4, .int (nI (k + 1))), (1, .int (t + 1)), (5, .int (pa k)), (3, .int 72), (2, .ref (a 1)), (0, .ref (a 0))]) hx hb dX0_countToggles_34 hl (k := 2) rfl (nI_1 k) (by decide) rfl (fun ls hl => ?_)
        refine lv_goto (tgt := 13) hx hb dX0_countToggles_37 (by decide) ?_
        exact ih13 (k + 1) (t + 1) (by omega) (by rw [hf]; simp [xTogL, c_3]) ls (lv_sub hl [0, 3, 4, 1, 5] rfl)
  exact L13 72 0 0 (by omega) rfl ls (lv_sub hl [0, 1, 2, 3, 4] rfl)
theorem iw_X0_numberToldBy_X0 : ∀ w ∈ wsX00, w ∈ wsX0_numberToldBy := mem_pos [20, 21, 22, 23, 24, 25, 26, 27, 28] (by decide +kernel)
set_option maxHeartbeats 4000000 in
set_option maxRecDepth 100000 in
theorem mX0_numberToldBy (l : Launch) (D : va_G) (cI : ClassId) (a : Nat → Nat) (pa pe st bn hc hm : Nat → Int32) (C R lo : Int32) (rr : Int32) : Met l yX0_numberToldBy wsX0_numberToldBy ({ frames := 3, cells := 0, slots := 0, locals := 63 } : Room) (va_Pc [.ref (a 0), .int rr] (wPR D [(cI, .int)] (wM cI a pa pe st bn hc hm C R lo))) (vp_Si (fun zz : Int32 => zz = xNum pa st C rr)) 0 0 (fun _ => False) := by
  refine mR_of (by decide) rfl (Nat.le_of_ble_eq_true rfl) ?_
  intro p e s m below meth c hx hb hr hml hown hts hlocks hP hK hN ls hl
  have hown : s.vm.findClass RX0 = some m.cls := hown
  have hl : lv_has ls 6 [(0, .ref (a 0)), (1, .int rr)] := hl
  refine lv_iconst (v := 0) hx hb dX0_numberToldBy_0 (by decide) ?_
  refine lv_istore_n (lv' := [(2, .int 0), (0, .ref (a 0)), (1, .int rr)]) hx hb dX0_numberToldBy_1 rfl hl (by decide) rfl (fun ls hl => ?_)
  refine lv_iconst (v := 1) hx hb dX0_numberToldBy_2 (by decide) ?_
  refine lv_istore_n (lv' := [(3, .int 1), (2, .int 0), (0, .ref (a 0)), (1, .int rr)]) hx hb dX0_numberToldBy_3 rfl hl (by decide) rfl (fun ls hl => ?_)
  refine lv_iconst (v := 0) hx hb dX0_numberToldBy_4 (by decide) ?_
  refine lv_istore (lv' := [(4, .int 0), (3, .int 1), (2, .int 0), (0, .ref (a 0)), (1, .int rr)]) hx hb dX0_numberToldBy_5 hl (by decide) rfl (fun ls hl => ?_)
  have L7 : ∀ (n k : Nat) (t : Int32) (wt : Int32), k + n = C.toNatClampNeg → xNum pa st C rr = xNumL pa st C rr n k t wt → ∀ ls : Array Slot, lv_has ls 6 [(4, .int (nI k)), (3, .int wt), (2, .int t), (0, .ref (a 0)), (1, .int rr)] → W p l e ({ frames := 3, cells := 0, slots := 0, locals := 63 } : Room) s m [.ref (a 0), .int rr].toArray below meth c s.heap [] 0 0 (MQ below (vp_Si (fun zz : Int32 => zz = xNum pa st C rr)) [.ref (a 0), .int rr].toArray s 0 0 (fun _ => False)) (F0 m 7 ls []) := by
    intro n
    induction n with
    | zero =>
      intro k t wt hkn7 hf ls hl
      refine lv_iload hx hb dX0_numberToldBy_7 (lv_at hl 0 rfl) ?_
      refine lv_aload_n hx hb dX0_numberToldBy_9 rfl (lv_at hl 3 rfl) ?_
      refine va_get (D := D) (ci := 0) (v := .int C) (C := RX0) (T := TX0) (N := 9) hx hb hts iw_X0_numberToldBy_X0 hown hK hP 0 rfl rfl 6 (by decide) (hts (.fieldLink RX0 34 "MarbleRamps$Machine" "columnCount" "I") (mg 1 rfl)) (fun _ h9 => h9) rfl dX0_numberToldBy_10 ?_
      refine lv_icmp_ge (tgt := 62) hx hb dX0_numberToldBy_13 (by decide) (fun c_1 => ?_) (fun c9 => absurd (by rw [lc_le (by have := clampLt C; omega)]; omega) c9)
      refine lv_iload_n hx hb dX0_numberToldBy_62 rfl (lv_at hl 2 rfl) ?_
      exact eRi hx hb hr hlocks dX0_numberToldBy_63 (by rw [hf]; rfl)
    | succ n ih7 =>
      intro k t wt hkn7 hf ls hl
      refine lv_iload hx hb dX0_numberToldBy_7 (lv_at hl 0 rfl) ?_
      refine lv_aload_n hx hb dX0_numberToldBy_9 rfl (lv_at hl 3 rfl) ?_
      refine va_get (D := D) (ci := 0) (v := .int C) (C := RX0) (T := TX0) (N := 9) hx hb hts iw_X0_numberToldBy_X0 hown hK hP 0 rfl rfl 6 (by decide) (hts (.fieldLink RX0 34 "MarbleRamps$Machine" "columnCount" "I") (mg 1 rfl)) (fun _ h9 => h9) rfl dX0_numberToldBy_10 ?_
      refine lv_icmp_ge (tgt := 62) hx hb dX0_numberToldBy_13 (by decide) (fun c9 => absurd c9 (by rw [lc_le (by have := clampLt C; omega)]; omega)) (fun c_2 => ?_)
      refine lv_aload_n hx hb dX0_numberToldBy_16 rfl (lv_at hl 3 rfl) ?_
      refine lv_iload_n hx hb dX0_numberToldBy_17 rfl (lv_at hl 4 rfl) ?_
      refine lv_iload hx hb dX0_numberToldBy_18 (lv_at hl 0 rfl) ?_
      refine kRVi (As := [.int rr, .int (nI k)]) (rest := []) ⟨hx, hb, hml, hown, hts⟩ (mX0_placeOf l D cI a pa pe st bn hc hm C R lo rr (nI k)) (cwV 2 hts gX0_numberToldBy_X0_placeOf rfl rfl rfl (by decide +kernel) ⟨Nat.le_of_ble_eq_true rfl, Nat.le_of_ble_eq_true rfl⟩) hP hK hN [0, 1, 2, 3, 4, 5, 6] rfl [0] rfl rfl rfl rfl hl.1 rfl (Nat.le_of_ble_eq_true rfl) dX0_numberToldBy_20 ⟨Nat.zero_le _, Nat.zero_le _⟩ (fun r_3 hr_3 => ?_)
      subst r_3
      refine lv_istore (lv' := [(5, .int (rr * C + (nI k))), (4, .int (nI k)), (3, .int wt), (2, .int t), (0, .ref (a 0)), (1, .int rr)]) hx hb dX0_numberToldBy_23 hl (by decide) rfl (fun ls hl => ?_)
      refine lv_aload_n hx hb dX0_numberToldBy_25 rfl (lv_at hl 4 rfl) ?_
      refine lv_iload hx hb dX0_numberToldBy_26 (lv_at hl 0 rfl) ?_
      refine kRVi (As := [.int (rr * C + (nI k))]) (rest := []) ⟨hx, hb, hml, hown, hts⟩ (mX0_partIn l D cI a pa pe st bn hc hm C R lo (rr * C + (nI k))) (cwV 1 hts gX0_numberToldBy_X0_partIn rfl rfl rfl (by decide +kernel) ⟨Nat.le_of_ble_eq_true rfl, Nat.le_of_ble_eq_true rfl⟩) hP hK hN [0, 1, 2, 3, 4, 5, 6] rfl [0] rfl rfl rfl rfl hl.1 rfl (Nat.le_of_ble_eq_true rfl) dX0_numberToldBy_28 ⟨Nat.zero_le _, Nat.zero_le _⟩ (fun r_4 hr_4 => ?_)
      subst r_4
      refine lv_iconst (v := 3) hx hb dX0_numberToldBy_31 (by decide) ?_
      refine lv_icmp_ne (tgt := 56) hx hb dX0_numberToldBy_32 (by decide) (fun c_5 => ?_) (fun c_5 => ?_)
      · refine lv_iinc (v := (nI (k + 1))) (lv' := [(4, .int (nI (k + 1))), (5, .int (rr * C + (nI k))), (3, .int wt), (2, .int t), (0, .ref (a 0)), (1, .int rr)]) hx hb dX0_numberToldBy_56 hl (k := 1) rfl (nI_1 k) (by decide) rfl (fun ls hl => ?_)
        refine lv_goto (tgt := 7) hx hb dX0_numberToldBy_59 (by decide) ?_
        exact ih7 (k + 1) t wt (by omega) (by rw [hf]; simp [xNumL, bi_e0, c_5]) ls (lv_sub hl [0, 2, 3, 4, 5] rfl)
      · refine lv_iload_n hx hb dX0_numberToldBy_35 rfl (lv_at hl 3 rfl) ?_
        refine lv_aload_n hx hb dX0_numberToldBy_36 rfl (lv_at hl 4 rfl) ?_
        refine lv_iload hx hb dX0_numberToldBy_37 (lv_at hl 0 rfl) ?_
        refine kRVi (As := [.int (rr * C + (nI k))]) (rest := [.int t]) ⟨hx, hb, hml, hown, hts⟩ (mX0_isRightToggle l D cI a pa pe st bn hc hm C R lo (rr * C + (nI k))) (cwV 1 hts gX0_numberToldBy_X0_isRightToggle rfl rfl rfl (by decide +kernel) ⟨Nat.le_of_ble_eq_true rfl, Nat.le_of_ble_eq_true rfl⟩) hP hK hN [0, 1, 2, 3, 4, 5, 6] rfl [0] rfl rfl rfl rfl hl.1 rfl (Nat.le_of_ble_eq_true rfl) dX0_numberToldBy_39 ⟨Nat.zero_le _, Nat.zero_le _⟩ (fun r_6 hr_6 => ?_)
        subst r_6
        refine lv_if_eq (tgt := 49) hx hb dX0_numberToldBy_42 (by decide) (fun c_7 => ?_) (fun c_7 => ?_)
        · simp only [ne_eq, bi_e0] at c_7
          refine lv_iconst (v := 0) hx hb dX0_numberToldBy_49 (by decide) ?_
          refine lv_iadd hx hb dX0_numberToldBy_50 ?_
          refine lv_istore_n (lv' := [(2, .int (t + 0)), (5, .int (rr * C + (nI k))), (4, .int (nI k)), (3, .int wt), (0, .ref (a 0)), (1, .int rr)]) hx hb dX0_numberToldBy_51 rfl hl (by decide) rfl (fun ls hl => ?_)
          refine lv_iload_n hx hb dX0_numberToldBy_52 rfl (lv_at hl 3 rfl) ?_
          refine lv_iconst (v := 2) hx hb dX0_numberToldBy_53 (by decide) ?_
          refine lv_imul hx hb dX0_numberToldBy_54 ?_
          refine lv_istore_n (lv' := [(3, .int (wt * 2)), (2, .int (t + 0)), (5, .int (rr * C + (nI k))), (4, .int (nI k)), (0, .ref (a 0)), (1, .int rr)]) hx hb dX0_numberToldBy_55 rfl hl (by decide) rfl (fun ls hl => ?_)
          refine lv_iinc (v := (nI (k + 1))) (lv' := [(4, .int (nI (k + 1))), (3, .int (wt * 2)), (2, .int (t + 0)), (5, .int (rr * C + (nI k))), (0, .ref (a 0)), (1, .int rr)]) hx hb dX0_numberToldBy_56 hl (k := 3) rfl (nI_1 k) (by decide) rfl (fun ls hl => ?_)
          refine lv_goto (tgt := 7) hx hb dX0_numberToldBy_59 (by decide) ?_
          exact ih7 (k + 1) (t + 0) (wt * 2) (by omega) (by rw [hf]; simp [xNumL, bi_e0, c_5, c_7]) ls (lv_sub hl [0, 1, 2, 4, 5] rfl)
        · simp only [ne_eq, bi_e0] at c_7
          refine lv_iload_n hx hb dX0_numberToldBy_45 rfl (lv_at hl 2 rfl) ?_
          refine lv_goto (tgt := 50) hx hb dX0_numberToldBy_46 (by decide) ?_
          refine lv_iadd hx hb dX0_numberToldBy_50 ?_
          refine lv_istore_n (lv' := [(2, .int (t + wt)), (5, .int (rr * C + (nI k))), (4, .int (nI k)), (3, .int wt), (0, .ref (a 0)), (1, .int rr)]) hx hb dX0_numberToldBy_51 rfl hl (by decide) rfl (fun ls hl => ?_)
          refine lv_iload_n hx hb dX0_numberToldBy_52 rfl (lv_at hl 3 rfl) ?_
          refine lv_iconst (v := 2) hx hb dX0_numberToldBy_53 (by decide) ?_
          refine lv_imul hx hb dX0_numberToldBy_54 ?_
          refine lv_istore_n (lv' := [(3, .int (wt * 2)), (2, .int (t + wt)), (5, .int (rr * C + (nI k))), (4, .int (nI k)), (0, .ref (a 0)), (1, .int rr)]) hx hb dX0_numberToldBy_55 rfl hl (by decide) rfl (fun ls hl => ?_)
          refine lv_iinc (v := (nI (k + 1))) (lv' := [(4, .int (nI (k + 1))), (3, .int (wt * 2)), (2, .int (t + wt)), (5, .int (rr * C + (nI k))), (0, .ref (a 0)), (1, .int rr)]) hx hb dX0_numberToldBy_56 hl (k := 3) rfl (nI_1 k) (by decide) rfl (fun ls hl => ?_)
          refine lv_goto (tgt := 7) hx hb dX0_numberToldBy_59 (by decide) ?_
          exact ih7 (k + 1) (t + wt) (wt * 2) (by omega) (by rw [hf]; simp [xNumL, bi_e0, c_5, c_7]) ls (lv_sub hl [0, 1, 2, 4, 5] rfl)
  exact L7 C.toNatClampNeg 0 0 1 (by omega) rfl ls (lv_sub hl [0, 1, 2, 3, 4] rfl)
theorem iw_X0_togglesUnlike_X0 : ∀ w ∈ wsX00, w ∈ wsX0_togglesUnlike := mem_pos [15, 16, 17, 18, 19, 20, 21, 22, 23] (by decide +kernel)
set_option maxHeartbeats 4000000 in
set_option maxRecDepth 100000 in
theorem mX0_togglesUnlike (l : Launch) (D : va_G) (cI : ClassId) (a : Nat → Nat) (pa pe st bn hc hm : Nat → Int32) (C R lo : Int32) (b : Nat → Nat) (pa2 pe2 st2 bn2 hc2 hm2 : Nat → Int32) (C2 R2 lo2 : Int32) : Met l yX0_togglesUnlike wsX0_togglesUnlike ({ frames := 3, cells := 0, slots := 0, locals := 63 } : Room) (va_Pc [.ref (a 0), .ref (b 0)] (wPR D [(cI, .int)] (wM cI a pa pe st bn hc hm C R lo ++ wM cI b pa2 pe2 st2 bn2 hc2 hm2 C2 R2 lo2))) (vp_Si (fun zz : Int32 => zz = xUnl pa st pa2 st2)) 0 0 (fun _ => False) := by
  refine mR_of (by decide) rfl (Nat.le_of_ble_eq_true rfl) ?_
  intro p e s m below meth c hx hb hr hml hown hts hlocks hP hK hN ls hl
  have hown : s.vm.findClass RX0 = some m.cls := hown
  have hl : lv_has ls 4 [(0, .ref (a 0)), (1, .ref (b 0))] := hl
  refine lv_iconst (v := 0) hx hb dX0_togglesUnlike_0 (by decide) ?_
  refine lv_istore_n (lv' := [(2, .int 0), (0, .ref (a 0)), (1, .ref (b 0))]) hx hb dX0_togglesUnlike_1 rfl hl (by decide) rfl (fun ls hl => ?_)
  refine lv_iconst (v := 0) hx hb dX0_togglesUnlike_2 (by decide) ?_
  refine lv_istore_n (lv' := [(3, .int 0), (2, .int 0), (0, .ref (a 0)), (1, .ref (b 0))]) hx hb dX0_togglesUnlike_3 rfl hl (by decide) rfl (fun ls hl => ?_)
  have L4 : ∀ (n k : Nat) (t : Int32), k + n = 72 → xUnl pa st pa2 st2 = xUnlL pa st pa2 st2 n k t → ∀ ls : Array Slot, lv_has ls 4 [(3, .int (nI k)), (2, .int t), (0, .ref (a 0)), (1, .ref (b 0))] → W p l e ({ frames := 3, cells := 0, slots := 0, locals := 63 } : Room) s m [.ref (a 0), .ref (b 0)].toArray below meth c s.heap [] 0 0 (MQ below (vp_Si (fun zz : Int32 => zz = xUnl pa st pa2 st2)) [.ref (a 0), .ref (b 0)].toArray s 0 0 (fun _ => False)) (F0 m 4 ls []) := by
    intro n
    induction n with
    | zero =>
      intro k t hkn4 hf ls hl
      refine lv_iload_n hx hb dX0_togglesUnlike_4 rfl (lv_at hl 0 rfl) ?_
      refine lv_aload_n hx hb dX0_togglesUnlike_5 rfl (lv_at hl 2 rfl) ?_
      refine va_get (D := D) (ci := 0) (v := .ref (a 1)) (C := RX0) (T := TX0) (N := 9) hx hb hts iw_X0_togglesUnlike_X0 hown hK hP 0 rfl rfl 0 (by decide) (hts (.fieldLink RX0 9 "MarbleRamps$Machine" "parts" "[I") (mg 1 rfl)) (fun _ h9 => h9) rfl dX0_togglesUnlike_6 ?_
      refine va_alen hx hb hK hP 1 0 rfl rfl (v := 72) rfl dX0_togglesUnlike_9 ?_
      refine lv_icmp_ge (tgt := 35) hx hb dX0_togglesUnlike_10 (by decide) (fun c_1 => ?_) (fun c9 => absurd (by rw [show (72 : Int32) = nI 72 from rfl]; exact nI_le (by omega) (by omega)) c9)
      refine lv_iload_n hx hb dX0_togglesUnlike_35 rfl (lv_at hl 1 rfl) ?_
      exact eRi hx hb hr hlocks dX0_togglesUnlike_36 (by rw [hf]; rfl)
    | succ n ih4 =>
      intro k t hkn4 hf ls hl
      refine lv_iload_n hx hb dX0_togglesUnlike_4 rfl (lv_at hl 0 rfl) ?_
      refine lv_aload_n hx hb dX0_togglesUnlike_5 rfl (lv_at hl 2 rfl) ?_
      refine va_get (D := D) (ci := 0) (v := .ref (a 1)) (C := RX0) (T := TX0) (N := 9) hx hb hts iw_X0_togglesUnlike_X0 hown hK hP 0 rfl rfl 0 (by decide) (hts (.fieldLink RX0 9 "MarbleRamps$Machine" "parts" "[I") (mg 1 rfl)) (fun _ h9 => h9) rfl dX0_togglesUnlike_6 ?_
      refine va_alen hx hb hK hP 1 0 rfl rfl (v := 72) rfl dX0_togglesUnlike_9 ?_
      refine lv_icmp_ge (tgt := 35) hx hb dX0_togglesUnlike_10 (by decide) (fun c9 => absurd c9 (by rw [show (72 : Int32) = nI 72 from rfl]; exact nI_ge (by omega) (by decide))) (fun c_2 => ?_)
      refine lv_aload_n hx hb dX0_togglesUnlike_13 rfl (lv_at hl 2 rfl) ?_
      refine lv_iload_n hx hb dX0_togglesUnlike_14 rfl (lv_at hl 0 rfl) ?_
      refine kRVi (As := [.int (nI k)]) (rest := []) ⟨hx, hb, hml, hown, hts⟩ (mX0_isRightToggle l D cI a pa pe st bn hc hm C R lo (nI k)) (cwV 1 hts gX0_togglesUnlike_X0_isRightToggle rfl rfl rfl (by decide +kernel) ⟨Nat.le_of_ble_eq_true rfl, Nat.le_of_ble_eq_true rfl⟩) hP hK hN [0, 1, 2, 3, 4, 5, 6] rfl [0] rfl rfl rfl rfl hl.1 rfl (Nat.le_of_ble_eq_true rfl) dX0_togglesUnlike_15 ⟨Nat.zero_le _, Nat.zero_le _⟩ (fun r_3 hr_3 => ?_)
      subst r_3
      refine lv_aload_n hx hb dX0_togglesUnlike_18 rfl (lv_at hl 3 rfl) ?_
      refine lv_iload_n hx hb dX0_togglesUnlike_19 rfl (lv_at hl 0 rfl) ?_
      refine kRVi (As := [.int (nI k)]) (rest := [.int (bi (xRight pa st (nI k)))]) ⟨hx, hb, hml, hown, hts⟩ (mX0_isRightToggle l D cI b pa2 pe2 st2 bn2 hc2 hm2 C2 R2 lo2 (nI k)) (cwV 1 hts gX0_togglesUnlike_X0_isRightToggle rfl rfl rfl (by decide +kernel) ⟨Nat.le_of_ble_eq_true rfl, Nat.le_of_ble_eq_true rfl⟩) hP hK hN [7, 8, 9, 10, 11, 12, 13] rfl [0] rfl rfl rfl rfl hl.1 rfl (Nat.le_of_ble_eq_true rfl) dX0_togglesUnlike_20 ⟨Nat.zero_le _, Nat.zero_le _⟩ (fun r_4 hr_4 => ?_)
      subst r_4
      refine lv_icmp_eq (tgt := 29) hx hb dX0_togglesUnlike_23 (by decide) (fun c_5 => ?_) (fun c_5 => ?_)
      · refine lv_iinc (v := (nI (k + 1))) (lv' := [(3, .int (nI (k + 1))), (2, .int t), (0, .ref (a 0)), (1, .ref (b 0))]) hx hb dX0_togglesUnlike_29 hl (k := 0) rfl (nI_1 k) (by decide) rfl (fun ls hl => ?_)
        refine lv_goto (tgt := 4) hx hb dX0_togglesUnlike_32 (by decide) ?_
        exact ih4 (k + 1) t (by omega) (by rw [hf]; simp [xUnlL, c_5]) ls (lv_sub hl [0, 1, 2, 3] rfl)
      · refine lv_iinc (v := (t + 1)) (lv' := [(2, .int (t + 1)), (3, .int (nI k)), (0, .ref (a 0)), (1, .ref (b 0))]) hx hb dX0_togglesUnlike_26 hl (k := 1) rfl rfl (by decide) rfl (fun ls hl => ?_)
        refine lv_iinc (v := (nI (k + 1))) (lv' := [(3, .int (nI (k + 1))), (2, .int (t + 1)), (0, .ref (a 0)), (1, .ref (b 0))]) hx hb dX0_togglesUnlike_29 hl (k := 1) rfl (nI_1 k) (by decide) rfl (fun ls hl => ?_)
        refine lv_goto (tgt := 4) hx hb dX0_togglesUnlike_32 (by decide) ?_
        exact ih4 (k + 1) (t + 1) (by omega) (by rw [hf]; simp [xUnlL, c_5]) ls (lv_sub hl [0, 1, 2, 3] rfl)
  exact L4 72 0 0 (by omega) rfl ls (lv_sub hl [0, 1, 2, 3] rfl)
theorem iw_X0_hasStatesOf_X0 : ∀ w ∈ wsX00, w ∈ wsX0_hasStatesOf := mem_pos [5, 6, 7, 8, 9, 10, 11, 12, 13] (by decide +kernel)
set_option maxHeartbeats 4000000 in
set_option maxRecDepth 100000 in
theorem mX0_hasStatesOf (l : Launch) (D : va_G) (cI : ClassId) (a : Nat → Nat) (pa pe st bn hc hm : Nat → Int32) (C R lo : Int32) (b : Nat → Nat) (pa2 pe2 st2 bn2 hc2 hm2 : Nat → Int32) (C2 R2 lo2 : Int32) : Met l yX0_hasStatesOf wsX0_hasStatesOf ({ frames := 1, cells := 0, slots := 0, locals := 21 } : Room) (va_Pc [.ref (a 0), .ref (b 0)] (wPR D [(cI, .int)] (wM cI a pa pe st bn hc hm C R lo ++ wM cI b pa2 pe2 st2 bn2 hc2 hm2 C2 R2 lo2))) (vp_Si (fun zz : Int32 => zz = bi (xSame st st2))) 0 0 (fun _ => False) := by
  refine mR_of (by decide) rfl (Nat.le_of_ble_eq_true rfl) ?_
  intro p e s m below meth c hx hb hr hml hown hts hlocks hP hK hN ls hl
  have hown : s.vm.findClass RX0 = some m.cls := hown
  have hl : lv_has ls 3 [(0, .ref (a 0)), (1, .ref (b 0))] := hl
  refine lv_iconst (v := 0) hx hb dX0_hasStatesOf_0 (by decide) ?_
  refine lv_istore_n (lv' := [(2, .int 0), (0, .ref (a 0)), (1, .ref (b 0))]) hx hb dX0_hasStatesOf_1 rfl hl (by decide) rfl (fun ls hl => ?_)
  have L2 : ∀ (n k : Nat), k + n = 72 → xSame st st2 = xSameL st st2 n k → ∀ ls : Array Slot, lv_has ls 3 [(2, .int (nI k)), (0, .ref (a 0)), (1, .ref (b 0))] → W p l e ({ frames := 1, cells := 0, slots := 0, locals := 21 } : Room) s m [.ref (a 0), .ref (b 0)].toArray below meth c s.heap [] 0 0 (MQ below (vp_Si (fun zz : Int32 => zz = bi (xSame st st2))) [.ref (a 0), .ref (b 0)].toArray s 0 0 (fun _ => False)) (F0 m 2 ls []) := by
    intro n
    induction n with
    | zero =>
      intro k hkn2 hf ls hl
      refine lv_iload_n hx hb dX0_hasStatesOf_2 rfl (lv_at hl 0 rfl) ?_
      refine lv_aload_n hx hb dX0_hasStatesOf_3 rfl (lv_at hl 1 rfl) ?_
      refine va_get (D := D) (ci := 0) (v := .ref (a 3)) (C := RX0) (T := TX0) (N := 9) hx hb hts iw_X0_hasStatesOf_X0 hown hK hP 0 rfl rfl 2 (by decide) (hts (.fieldLink RX0 18 "MarbleRamps$Machine" "states" "[I") (mg 1 rfl)) (fun _ h9 => h9) rfl dX0_hasStatesOf_4 ?_
      refine va_alen hx hb hK hP 3 0 rfl rfl (v := 72) rfl dX0_hasStatesOf_7 ?_
      refine lv_icmp_ge (tgt := 38) hx hb dX0_hasStatesOf_8 (by decide) (fun c_1 => ?_) (fun c9 => absurd (by rw [show (72 : Int32) = nI 72 from rfl]; exact nI_le (by omega) (by omega)) c9)
      refine lv_iconst (v := 1) hx hb dX0_hasStatesOf_38 (by decide) ?_
      exact eRz hx hb hr hlocks dX0_hasStatesOf_39 (Or.inr rfl) (by rw [hf]; rfl)
    | succ n ih2 =>
      intro k hkn2 hf ls hl
      refine lv_iload_n hx hb dX0_hasStatesOf_2 rfl (lv_at hl 0 rfl) ?_
      refine lv_aload_n hx hb dX0_hasStatesOf_3 rfl (lv_at hl 1 rfl) ?_
      refine va_get (D := D) (ci := 0) (v := .ref (a 3)) (C := RX0) (T := TX0) (N := 9) hx hb hts iw_X0_hasStatesOf_X0 hown hK hP 0 rfl rfl 2 (by decide) (hts (.fieldLink RX0 18 "MarbleRamps$Machine" "states" "[I") (mg 1 rfl)) (fun _ h9 => h9) rfl dX0_hasStatesOf_4 ?_
      refine va_alen hx hb hK hP 3 0 rfl rfl (v := 72) rfl dX0_hasStatesOf_7 ?_
      refine lv_icmp_ge (tgt := 38) hx hb dX0_hasStatesOf_8 (by decide) (fun c9 => absurd c9 (by rw [show (72 : Int32) = nI 72 from rfl]; exact nI_ge (by omega) (by decide))) (fun c_2 => ?_)
      refine lv_aload_n hx hb dX0_hasStatesOf_11 rfl (lv_at hl 1 rfl) ?_
      refine va_get (D := D) (ci := 0) (v := .ref (a 3)) (C := RX0) (T := TX0) (N := 9) hx hb hts iw_X0_hasStatesOf_X0 hown hK hP 0 rfl rfl 2 (by decide) (hts (.fieldLink RX0 18 "MarbleRamps$Machine" "states" "[I") (mg 1 rfl)) (fun _ h9 => h9) rfl dX0_hasStatesOf_12 ?_
      refine lv_iload_n hx hb dX0_hasStatesOf_15 rfl (lv_at hl 0 rfl) ?_
      refine kRNi (As := [.ref (a 3), .int (nI k)]) (rest := []) ⟨hx, hb, hml, hown, hts⟩ (mX1_cell l D cI (a 3) st 72 (by decide) (nI k)) ⟨va_cnB (host := RX1) 2 hts gX0_hasStatesOf_X1_cell_n61 rfl rfl rfl hN.2.2 (hts (.initialized RX1) (mg 3 rfl)) (by decide +kernel) ⟨Nat.le_of_ble_eq_true rfl, Nat.le_of_ble_eq_true rfl⟩, hts (.static yX1_cell) (mg 2 rfl), trivial⟩ hP hK hN [3] rfl [0] rfl rfl hl.1 rfl (Nat.le_of_ble_eq_true rfl) dX0_hasStatesOf_16 ⟨Nat.zero_le _, Nat.zero_le _⟩ (fun r_3 hr_3 => ?_)
      subst r_3
      refine lv_aload_n hx hb dX0_hasStatesOf_19 rfl (lv_at hl 2 rfl) ?_
      refine va_get (D := D) (ci := 0) (v := .ref (b 3)) (C := RX0) (T := TX0) (N := 9) hx hb hts iw_X0_hasStatesOf_X0 hown hK hP 7 rfl rfl 2 (by decide) (hts (.fieldLink RX0 18 "MarbleRamps$Machine" "states" "[I") (mg 1 rfl)) (fun _ h9 => h9) rfl dX0_hasStatesOf_20 ?_
      refine lv_iload_n hx hb dX0_hasStatesOf_23 rfl (lv_at hl 0 rfl) ?_
      refine kRNi (As := [.ref (b 3), .int (nI k)]) (rest := [.int (xcl 72 st (nI k))]) ⟨hx, hb, hml, hown, hts⟩ (mX1_cell l D cI (b 3) st2 72 (by decide) (nI k)) ⟨va_cnB (host := RX1) 2 hts gX0_hasStatesOf_X1_cell_n61 rfl rfl rfl hN.2.2 (hts (.initialized RX1) (mg 3 rfl)) (by decide +kernel) ⟨Nat.le_of_ble_eq_true rfl, Nat.le_of_ble_eq_true rfl⟩, hts (.static yX1_cell) (mg 2 rfl), trivial⟩ hP hK hN [10] rfl [0] rfl rfl hl.1 rfl (Nat.le_of_ble_eq_true rfl) dX0_hasStatesOf_24 ⟨Nat.zero_le _, Nat.zero_le _⟩ (fun r_4 hr_4 => ?_)
      subst r_4
      refine lv_icmp_eq (tgt := 32) hx hb dX0_hasStatesOf_27 (by decide) (fun c_5 => ?_) (fun c_5 => ?_)
      · refine lv_iinc (v := (nI (k + 1))) (lv' := [(2, .int (nI (k + 1))), (0, .ref (a 0)), (1, .ref (b 0))]) hx hb dX0_hasStatesOf_32 hl (k := 0) rfl (nI_1 k) (by decide) rfl (fun ls hl => ?_)
        refine lv_goto (tgt := 2) hx hb dX0_hasStatesOf_35 (by decide) ?_
        exact ih2 (k + 1)  (by omega) (by rw [hf]; simp [xSameL, c_5]) ls (lv_sub hl [0, 1, 2] rfl)
      · refine lv_iconst (v := 0) hx hb dX0_hasStatesOf_30 (by decide) ?_
        exact eRz hx hb hr hlocks dX0_hasStatesOf_31 (Or.inl rfl) (by rw [hf]; simp [xSameL, bi, c_5])
  exact L2 72 0  (by omega) rfl ls (lv_sub hl [0, 1, 2] rfl)
theorem iw_X0_marblesInBins_X0 : ∀ w ∈ wsX00, w ∈ wsX0_marblesInBins := mem_pos [2, 3, 4, 5, 6, 7, 8, 9, 10] (by decide +kernel)
set_option maxHeartbeats 4000000 in
set_option maxRecDepth 100000 in
theorem mX0_marblesInBins (l : Launch) (D : va_G) (cI : ClassId) (a : Nat → Nat) (pa pe st bn hc hm : Nat → Int32) (C R lo : Int32) : Met l yX0_marblesInBins wsX0_marblesInBins ({ frames := 0, cells := 0, slots := 0, locals := 0 } : Room) (va_Pc [.ref (a 0)] (wPR D [(cI, .int)] (wM cI a pa pe st bn hc hm C R lo))) (vp_Si (fun zz : Int32 => zz = xSum bn)) 0 0 (fun _ => False) := by
  refine mR_of (by decide) rfl (Nat.le_of_ble_eq_true rfl) ?_
  intro p e s m below meth c hx hb hr hml hown hts hlocks hP hK hN ls hl
  have hown : s.vm.findClass RX0 = some m.cls := hown
  have hl : lv_has ls 6 [(0, .ref (a 0))] := hl
  refine lv_iconst (v := 0) hx hb dX0_marblesInBins_0 (by decide) ?_
  refine lv_istore_n (lv' := [(1, .int 0), (0, .ref (a 0))]) hx hb dX0_marblesInBins_1 rfl hl (by decide) rfl (fun ls hl => ?_)
  refine lv_aload_n hx hb dX0_marblesInBins_2 rfl (lv_at hl 1 rfl) ?_
  refine va_get (D := D) (ci := 0) (v := .ref (a 4)) (C := RX0) (T := TX0) (N := 9) hx hb hts iw_X0_marblesInBins_X0 hown hK hP 0 rfl rfl 3 (by decide) (hts (.fieldLink RX0 21 "MarbleRamps$Machine" "bins" "[I") (mg 1 rfl)) (fun _ h9 => h9) rfl dX0_marblesInBins_3 ?_
  refine lv_astore_n (lv' := [(2, .ref (a 4)), (1, .int 0), (0, .ref (a 0))]) hx hb dX0_marblesInBins_6 rfl hl (by decide) rfl (fun ls hl => ?_)
  refine lv_aload_n hx hb dX0_marblesInBins_7 rfl (lv_at hl 0 rfl) ?_
  refine va_alen hx hb hK hP 4 0 rfl rfl (v := 9) rfl dX0_marblesInBins_8 ?_
  refine lv_istore_n (lv' := [(3, .int 9), (2, .ref (a 4)), (1, .int 0), (0, .ref (a 0))]) hx hb dX0_marblesInBins_9 rfl hl (by decide) rfl (fun ls hl => ?_)
  refine lv_iconst (v := 0) hx hb dX0_marblesInBins_10 (by decide) ?_
  refine lv_istore (lv' := [(4, .int 0), (3, .int 9), (2, .ref (a 4)), (1, .int 0), (0, .ref (a 0))]) hx hb dX0_marblesInBins_11 hl (by decide) rfl (fun ls hl => ?_)
  have L13 : ∀ (n k : Nat) (t : Int32), k + n = 9 → xSum bn = xSumL bn n k t → ∀ ls : Array Slot, lv_has ls 6 [(4, .int (nI k)), (3, .int 9), (2, .ref (a 4)), (1, .int t), (0, .ref (a 0))] → W p l e ({ frames := 0, cells := 0, slots := 0, locals := 0 } : Room) s m [.ref (a 0)].toArray below meth c s.heap [] 0 0 (MQ below (vp_Si (fun zz : Int32 => zz = xSum bn)) [.ref (a 0)].toArray s 0 0 (fun _ => False)) (F0 m 13 ls []) := by
    intro n
    induction n with
    | zero =>
      intro k t hkn13 hf ls hl
      refine lv_iload hx hb dX0_marblesInBins_13 (lv_at hl 0 rfl) ?_
      refine lv_iload_n hx hb dX0_marblesInBins_15 rfl (lv_at hl 1 rfl) ?_
      refine lv_icmp_ge (tgt := 36) hx hb dX0_marblesInBins_16 (by decide) (fun c_1 => ?_) (fun c9 => absurd (by rw [show (9 : Int32) = nI 9 from rfl]; exact nI_le (by omega) (by omega)) c9)
      refine lv_iload_n hx hb dX0_marblesInBins_36 rfl (lv_at hl 3 rfl) ?_
      exact eRi hx hb hr hlocks dX0_marblesInBins_37 (by rw [hf]; rfl)
    | succ n ih13 =>
      intro k t hkn13 hf ls hl
      refine lv_iload hx hb dX0_marblesInBins_13 (lv_at hl 0 rfl) ?_
      refine lv_iload_n hx hb dX0_marblesInBins_15 rfl (lv_at hl 1 rfl) ?_
      refine lv_icmp_ge (tgt := 36) hx hb dX0_marblesInBins_16 (by decide) (fun c9 => absurd c9 (by rw [show (9 : Int32) = nI 9 from rfl]; exact nI_ge (by omega) (by decide))) (fun c_2 => ?_)
      refine lv_aload_n hx hb dX0_marblesInBins_19 rfl (lv_at hl 2 rfl) ?_
      refine lv_iload hx hb dX0_marblesInBins_20 (lv_at hl 0 rfl) ?_
      refine va_iald hx hb hK hP 4 0 rfl rfl (vp_in_nI (by omega) (by decide)) dX0_marblesInBins_22 ?_
      rw [nI_clamp (show k < 2 ^ 31 by omega)]
      refine lv_istore (lv' := [(5, .int (bn k)), (4, .int (nI k)), (3, .int 9), (2, .ref (a 4)), (1, .int t), (0, .ref (a 0))]) hx hb dX0_marblesInBins_23 hl (by decide) rfl (fun ls hl => ?_)
      refine lv_iload_n hx hb dX0_marblesInBins_25 rfl (lv_at hl 4 rfl) ?_
      refine lv_iload hx hb dX0_marblesInBins_26 (lv_at hl 0 rfl) ?_
      refine lv_iadd hx hb dX0_marblesInBins_28 ?_
      refine lv_istore_n (lv' := [(1, .int (t + (bn k))), (5, .int (bn k)), (4, .int (nI k)), (3, .int 9), (2, .ref (a 4)), (0, .ref (a 0))]) hx hb dX0_marblesInBins_29 rfl hl (by decide) rfl (fun ls hl => ?_)
      refine lv_iinc (v := (nI (k + 1))) (lv' := [(4, .int (nI (k + 1))), (1, .int (t + (bn k))), (5, .int (bn k)), (3, .int 9), (2, .ref (a 4)), (0, .ref (a 0))]) hx hb dX0_marblesInBins_30 hl (k := 2) rfl (nI_1 k) (by decide) rfl (fun ls hl => ?_)
      refine lv_goto (tgt := 13) hx hb dX0_marblesInBins_33 (by decide) ?_
      exact ih13 (k + 1) (t + (bn k)) (by omega) (by rw [hf]; simp [xSumL]) ls (lv_sub hl [0, 3, 4, 1, 5] rfl)
  exact L13 9 0 0 (by omega) rfl ls (lv_sub hl [0, 1, 2, 3, 4] rfl)
theorem iw_X0_hopperBehind_X0 : ∀ w ∈ wsX00, w ∈ wsX0_hopperBehind := mem_pos [2, 3, 4, 5, 6, 7, 8, 9, 10] (by decide +kernel)
set_option maxHeartbeats 4000000 in
set_option maxRecDepth 100000 in
theorem mX0_hopperBehind (l : Launch) (D : va_G) (cI : ClassId) (a : Nat → Nat) (pa pe st bn hc hm : Nat → Int32) (C R lo : Int32) (bb : Int32) : Met l yX0_hopperBehind wsX0_hopperBehind ({ frames := 0, cells := 0, slots := 0, locals := 0 } : Room) (va_Pc [.ref (a 0), .int bb] (wPR D [(cI, .int)] (wM cI a pa pe st bn hc hm C R lo))) (vp_Si (fun zz : Int32 => zz = xBehind C bb)) 0 0 (fun _ => False) := by
  refine mR_of (by decide) rfl (Nat.le_of_ble_eq_true rfl) ?_
  intro p e s m below meth c hx hb hr hml hown hts hlocks hP hK hN ls hl
  have hown : s.vm.findClass RX0 = some m.cls := hown
  have hl : lv_has ls 3 [(0, .ref (a 0)), (1, .int bb)] := hl
  refine lv_aload_n hx hb dX0_hopperBehind_0 rfl (lv_at hl 0 rfl) ?_
  refine va_get (D := D) (ci := 0) (v := .int C) (C := RX0) (T := TX0) (N := 9) hx hb hts iw_X0_hopperBehind_X0 hown hK hP 0 rfl rfl 6 (by decide) (hts (.fieldLink RX0 34 "MarbleRamps$Machine" "columnCount" "I") (mg 1 rfl)) (fun _ h9 => h9) rfl dX0_hopperBehind_1 ?_
  refine lv_iconst (v := 1) hx hb dX0_hopperBehind_4 (by decide) ?_
  refine lv_isub hx hb dX0_hopperBehind_5 ?_
  refine lv_istore_n (lv' := [(2, .int (C - 1)), (0, .ref (a 0)), (1, .int bb)]) hx hb dX0_hopperBehind_6 rfl hl (by decide) rfl (fun ls hl => ?_)
  refine lv_iload_n hx hb dX0_hopperBehind_7 rfl (lv_at hl 2 rfl) ?_
  refine lv_iconst (v := (-1)) hx hb dX0_hopperBehind_8 (by decide) ?_
  refine lv_icmp_eq (tgt := 19) hx hb dX0_hopperBehind_9 (by decide) (fun c_1 => ?_) (fun c_1 => ?_)
  · refine lv_iconst (v := (-1)) hx hb dX0_hopperBehind_19 (by decide) ?_
    exact eRi hx hb hr hlocks dX0_hopperBehind_20 (by simp [xBehind, c_1])
  · refine lv_iconst (v := 2) hx hb dX0_hopperBehind_12 (by decide) ?_
    refine lv_iload_n hx hb dX0_hopperBehind_13 rfl (lv_at hl 2 rfl) ?_
    refine lv_imul hx hb dX0_hopperBehind_14 ?_
    refine lv_iload_n hx hb dX0_hopperBehind_15 rfl (lv_at hl 0 rfl) ?_
    refine lv_icmp_ne (tgt := 21) hx hb dX0_hopperBehind_16 (by decide) (fun c_2 => ?_) (fun c_2 => ?_)
    · refine lv_iconst (v := 2) hx hb dX0_hopperBehind_21 (by decide) ?_
      refine lv_iload_n hx hb dX0_hopperBehind_22 rfl (lv_at hl 2 rfl) ?_
      refine lv_imul hx hb dX0_hopperBehind_23 ?_
      refine lv_iload_n hx hb dX0_hopperBehind_24 rfl (lv_at hl 0 rfl) ?_
      refine lv_icmp_ge (tgt := 32) hx hb dX0_hopperBehind_25 (by decide) (fun c_3 => ?_) (fun c_3 => ?_)
      · refine lv_iconst (v := 1) hx hb dX0_hopperBehind_32 (by decide) ?_
        exact eRi hx hb hr hlocks dX0_hopperBehind_33 (by simp [xBehind, c_1, c_2, c_3])
      · refine lv_iconst (v := 0) hx hb dX0_hopperBehind_28 (by decide) ?_
        refine lv_goto (tgt := 33) hx hb dX0_hopperBehind_29 (by decide) ?_
        exact eRi hx hb hr hlocks dX0_hopperBehind_33 (by simp [xBehind, c_1, c_2, c_3])
    · refine lv_iconst (v := (-1)) hx hb dX0_hopperBehind_19 (by decide) ?_
      exact eRi hx hb hr hlocks dX0_hopperBehind_20 (by simp [xBehind, c_1, c_2])
theorem iw_X0_turnOver_X0 : ∀ w ∈ wsX00, w ∈ wsX0_turnOver := mem_pos [17, 18, 19, 20, 21, 22, 23, 24, 25] (by decide +kernel)
set_option maxHeartbeats 4000000 in
set_option maxRecDepth 100000 in
theorem mX0_turnOver (l : Launch) (D : va_G) (cI : ClassId) (a : Nat → Nat) (pa pe st bn hc hm : Nat → Int32) (C R lo : Int32) (q : Int32) (sz : Nat) : Met l yX0_turnOver wsX0_turnOver ({ frames := 3, cells := 0, slots := 0, locals := 63 } : Room) (va_Pc [.ref (a 0), .int q] (wPQ D [(cI, .int)] sz (wM cI a pa pe st bn hc hm C R lo))) (va_Qv (fun _ : Unit => True) (wB D [(cI, .int)] (va_A (wM cI a pa pe st bn hc hm C R lo) sz) (fun _ : Unit => (wM cI a pa pe ((xsc 72 st q (if xRight pa st q = true then 0 else 1))) bn hc hm C R lo))) (va_A (wM cI a pa pe st bn hc hm C R lo) sz)) 0 0 (va_A (wM cI a pa pe st bn hc hm C R lo) sz) := by
  refine mQ_of (by decide) rfl (Nat.le_of_ble_eq_true rfl) ?_
  intro p e s m below meth c hx hb hr hml hown hin hts hlocks hsz hP hK hN hD hA hS ls hl
  have hown : s.vm.findClass RX0 = some m.cls := hown
  have hl : lv_has ls 2 [(0, .ref (a 0)), (1, .int q)] := hl
  have hP : va_P D vwCl (wM cI a pa pe st bn hc hm C R lo) s.heap := hP
  refine lv_aload_n hx hb dX0_turnOver_0 rfl (lv_at hl 0 rfl) ?_
  refine va_get (D := D) (ci := 0) (v := .ref (a 3)) (C := RX0) (T := TX0) (N := 9) hx hb hts iw_X0_turnOver_X0 hown hK hP 0 rfl rfl 2 (by decide) (hts (.fieldLink RX0 18 "MarbleRamps$Machine" "states" "[I") (mg 1 rfl)) (fun _ h9 => h9) rfl dX0_turnOver_1 ?_
  refine lv_iload_n hx hb dX0_turnOver_4 rfl (lv_at hl 1 rfl) ?_
  refine lv_aload_n hx hb dX0_turnOver_5 rfl (lv_at hl 0 rfl) ?_
  refine lv_iload_n hx hb dX0_turnOver_6 rfl (lv_at hl 1 rfl) ?_
  refine kRVi (As := [.int q]) (rest := [.int q, .ref (a 3)]) ⟨hx, hb, hml, hown, hts⟩ (mX0_isRightToggle l D cI a pa pe st bn hc hm C R lo q) (cwV 1 hts gX0_turnOver_X0_isRightToggle rfl rfl rfl (by decide +kernel) ⟨Nat.le_of_ble_eq_true rfl, Nat.le_of_ble_eq_true rfl⟩) hP hK hN [0, 1, 2, 3, 4, 5, 6] rfl [0] rfl rfl rfl rfl hl.1 rfl (Nat.le_of_ble_eq_true rfl) dX0_turnOver_7 ⟨Nat.zero_le _, Nat.zero_le _⟩ (fun r_1 hr_1 => ?_)
  subst r_1
  refine lv_if_eq (tgt := 17) hx hb dX0_turnOver_10 (by decide) (fun c_2 => ?_) (fun c_2 => ?_)
  · simp only [ne_eq, bi_e0] at c_2
    refine lv_iconst (v := 1) hx hb dX0_turnOver_17 (by decide) ?_
    refine kQNv (As := [.ref (a 3), .int q, .int 1]) (rest := []) (wr := [(a 0, .inr (0, [.ref (a 1), .ref (a 2), .ref (a 3), .ref (a 4), .ref (a 5), .ref (a 6), .int C, .int R, .int lo])), (a 1, .inl (cI, 72, .inl pa)), (a 2, .inl (cI, 72, .inl pe)), (a 4, .inl (cI, 9, .inl bn)), (a 5, .inl (cI, 2, .inl hc)), (a 6, .inl (cI, 2, .inl hm))]) (W2 := (fun _ => (wM cI a pa pe ((xsc 72 st q 1)) bn hc hm C R lo))) ⟨hx, hb, hml, hown, hts⟩ (mX1_setCell l D cI (a 3) st 72 (by decide) q 1 _) ⟨va_cnB (host := RX1) 3 hts gX0_turnOver_X1_setCell_n53 rfl rfl rfl hN.1 (hts (.initialized RX1) (mg 13 rfl)) (by decide +kernel) ⟨Nat.le_of_ble_eq_true rfl, Nat.le_of_ble_eq_true rfl⟩, hts (.static yX1_setCell) (mg 15 rfl), trivial⟩ hP hD hK hN hS hA [3] (by decide) rfl [0, 1, 2, 4, 5, 6] (by decide) rfl (by decide) [0, 1, 2, 6, 3, 4, 5] (by decide) (fun _ => rfl) [0] rfl rfl hl.1 rfl (Nat.le_of_ble_eq_true rfl) dX0_turnOver_18 ⟨Nat.le_of_ble_eq_true rfl, Nat.le_of_ble_eq_true rfl⟩ (fun u_3 H locs hr_3 hP hD hS => ?_)
    have hP : va_P D vwCl (wM cI a pa pe ((xsc 72 st q 1)) bn hc hm C R lo) H := hP
    have hD : va_D (va_A (wM cI a pa pe st bn hc hm C R lo) sz) (wM cI a pa pe ((xsc 72 st q 1)) bn hc hm C R lo) := hD
    have hP : va_P D vwCl (wM cI a pa pe ((xsc 72 st q (if xRight pa st q = true then 0 else 1))) bn hc hm C R lo) H := by rw [show (if xRight pa st q = true then (0 : Int32) else 1) = 1 from by simp [c_2]]; exact hP
    have hD : va_D (va_A (wM cI a pa pe st bn hc hm C R lo) sz) (wM cI a pa pe ((xsc 72 st q (if xRight pa st q = true then 0 else 1))) bn hc hm C R lo) := by rw [show (if xRight pa st q = true then (0 : Int32) else 1) = 1 from by simp [c_2]]; exact hD
    exact eQv () hx hb hr hlocks hP hD hK hS dX0_turnOver_21 (trivial)
  · simp only [ne_eq, bi_e0] at c_2
    refine lv_iconst (v := 0) hx hb dX0_turnOver_13 (by decide) ?_
    refine lv_goto (tgt := 18) hx hb dX0_turnOver_14 (by decide) ?_
    refine kQNv (As := [.ref (a 3), .int q, .int 0]) (rest := []) (wr := [(a 0, .inr (0, [.ref (a 1), .ref (a 2), .ref (a 3), .ref (a 4), .ref (a 5), .ref (a 6), .int C, .int R, .int lo])), (a 1, .inl (cI, 72, .inl pa)), (a 2, .inl (cI, 72, .inl pe)), (a 4, .inl (cI, 9, .inl bn)), (a 5, .inl (cI, 2, .inl hc)), (a 6, .inl (cI, 2, .inl hm))]) (W2 := (fun _ => (wM cI a pa pe ((xsc 72 st q 0)) bn hc hm C R lo))) ⟨hx, hb, hml, hown, hts⟩ (mX1_setCell l D cI (a 3) st 72 (by decide) q 0 _) ⟨va_cnB (host := RX1) 3 hts gX0_turnOver_X1_setCell_n53 rfl rfl rfl hN.1 (hts (.initialized RX1) (mg 13 rfl)) (by decide +kernel) ⟨Nat.le_of_ble_eq_true rfl, Nat.le_of_ble_eq_true rfl⟩, hts (.static yX1_setCell) (mg 15 rfl), trivial⟩ hP hD hK hN hS hA [3] (by decide) rfl [0, 1, 2, 4, 5, 6] (by decide) rfl (by decide) [0, 1, 2, 6, 3, 4, 5] (by decide) (fun _ => rfl) [0] rfl rfl hl.1 rfl (Nat.le_of_ble_eq_true rfl) dX0_turnOver_18 ⟨Nat.le_of_ble_eq_true rfl, Nat.le_of_ble_eq_true rfl⟩ (fun u_4 H locs hr_4 hP hD hS => ?_)
    have hP : va_P D vwCl (wM cI a pa pe ((xsc 72 st q 0)) bn hc hm C R lo) H := hP
    have hD : va_D (va_A (wM cI a pa pe st bn hc hm C R lo) sz) (wM cI a pa pe ((xsc 72 st q 0)) bn hc hm C R lo) := hD
    have hP : va_P D vwCl (wM cI a pa pe ((xsc 72 st q (if xRight pa st q = true then 0 else 1))) bn hc hm C R lo) H := by rw [show (if xRight pa st q = true then (0 : Int32) else 1) = 0 from by simp [c_2]]; exact hP
    have hD : va_D (va_A (wM cI a pa pe st bn hc hm C R lo) sz) (wM cI a pa pe ((xsc 72 st q (if xRight pa st q = true then 0 else 1))) bn hc hm C R lo) := by rw [show (if xRight pa st q = true then (0 : Int32) else 1) = 0 from by simp [c_2]]; exact hD
    exact eQv () hx hb hr hlocks hP hD hK hS dX0_turnOver_21 (trivial)
theorem iw_X0_replacePart_X0 : ∀ w ∈ wsX00, w ∈ wsX0_replacePart := mem_pos [19, 20, 21, 22, 23, 24, 25, 26, 27] (by decide +kernel)
set_option maxHeartbeats 4000000 in
set_option maxRecDepth 100000 in
theorem mX0_replacePart (l : Launch) (D : va_G) (cI : ClassId) (a : Nat → Nat) (pa pe st bn hc hm : Nat → Int32) (C R lo : Int32) (rr kk np nq : Int32) (sz : Nat) : Met l yX0_replacePart wsX0_replacePart ({ frames := 2, cells := 0, slots := 0, locals := 42 } : Room) (va_Pc [.ref (a 0), .int rr, .int kk, .int np, .int nq] (wPQ D [(cI, .int)] sz (wM cI a pa pe st bn hc hm C R lo))) (va_Qi (fun (zz : Int32) (_ : Unit) => zz = xcl 72 pa (rr * C + kk)) (wB D [(cI, .int)] (va_A (wM cI a pa pe st bn hc hm C R lo) sz) (fun _ : Unit => (wM cI a ((xsc 72 pa (rr * C + kk) np)) ((xsc 72 pe (rr * C + kk) nq)) ((xsc 72 st (rr * C + kk) 0)) bn hc hm C R lo))) (va_A (wM cI a pa pe st bn hc hm C R lo) sz)) 0 0 (va_A (wM cI a pa pe st bn hc hm C R lo) sz) := by
  refine mQ_of (by decide) rfl (Nat.le_of_ble_eq_true rfl) ?_
  intro p e s m below meth c hx hb hr hml hown hin hts hlocks hsz hP hK hN hD hA hS ls hl
  have hown : s.vm.findClass RX0 = some m.cls := hown
  have hl : lv_has ls 7 [(0, .ref (a 0)), (1, .int rr), (2, .int kk), (3, .int np), (4, .int nq)] := hl
  have hP : va_P D vwCl (wM cI a pa pe st bn hc hm C R lo) s.heap := hP
  refine lv_aload_n hx hb dX0_replacePart_0 rfl (lv_at hl 0 rfl) ?_
  refine lv_iload_n hx hb dX0_replacePart_1 rfl (lv_at hl 1 rfl) ?_
  refine lv_iload_n hx hb dX0_replacePart_2 rfl (lv_at hl 2 rfl) ?_
  refine kRVi (As := [.int rr, .int kk]) (rest := []) ⟨hx, hb, hml, hown, hts⟩ (mX0_placeOf l D cI a pa pe st bn hc hm C R lo rr kk) (cwV 2 hts gX0_replacePart_X0_placeOf rfl rfl rfl (by decide +kernel) ⟨Nat.le_of_ble_eq_true rfl, Nat.le_of_ble_eq_true rfl⟩) hP hK hN [0, 1, 2, 3, 4, 5, 6] rfl [0] rfl rfl rfl rfl hl.1 rfl (Nat.le_of_ble_eq_true rfl) dX0_replacePart_3 ⟨Nat.zero_le _, Nat.zero_le _⟩ (fun r_1 hr_1 => ?_)
  subst r_1
  refine lv_istore (lv' := [(5, .int (rr * C + kk)), (0, .ref (a 0)), (1, .int rr), (2, .int kk), (3, .int np), (4, .int nq)]) hx hb dX0_replacePart_6 hl (by decide) rfl (fun ls hl => ?_)
  refine lv_aload_n hx hb dX0_replacePart_8 rfl (lv_at hl 1 rfl) ?_
  refine lv_iload hx hb dX0_replacePart_9 (lv_at hl 0 rfl) ?_
  refine kRVi (As := [.int (rr * C + kk)]) (rest := []) ⟨hx, hb, hml, hown, hts⟩ (mX0_partIn l D cI a pa pe st bn hc hm C R lo (rr * C + kk)) (cwV 1 hts gX0_replacePart_X0_partIn rfl rfl rfl (by decide +kernel) ⟨Nat.le_of_ble_eq_true rfl, Nat.le_of_ble_eq_true rfl⟩) hP hK hN [0, 1, 2, 3, 4, 5, 6] rfl [0] rfl rfl rfl rfl hl.1 rfl (Nat.le_of_ble_eq_true rfl) dX0_replacePart_11 ⟨Nat.zero_le _, Nat.zero_le _⟩ (fun r_2 hr_2 => ?_)
  subst r_2
  refine lv_istore (lv' := [(6, .int (xcl 72 pa (rr * C + kk))), (5, .int (rr * C + kk)), (0, .ref (a 0)), (1, .int rr), (2, .int kk), (3, .int np), (4, .int nq)]) hx hb dX0_replacePart_14 hl (by decide) rfl (fun ls hl => ?_)
  refine lv_aload_n hx hb dX0_replacePart_16 rfl (lv_at hl 2 rfl) ?_
  refine va_get (D := D) (ci := 0) (v := .ref (a 1)) (C := RX0) (T := TX0) (N := 9) hx hb hts iw_X0_replacePart_X0 hown hK hP 0 rfl rfl 0 (by decide) (hts (.fieldLink RX0 9 "MarbleRamps$Machine" "parts" "[I") (mg 1 rfl)) (fun _ h9 => h9) rfl dX0_replacePart_17 ?_
  refine lv_iload hx hb dX0_replacePart_20 (lv_at hl 1 rfl) ?_
  refine lv_iload_n hx hb dX0_replacePart_22 rfl (lv_at hl 5 rfl) ?_
  refine kQNv (As := [.ref (a 1), .int (rr * C + kk), .int np]) (rest := []) (wr := [(a 0, .inr (0, [.ref (a 1), .ref (a 2), .ref (a 3), .ref (a 4), .ref (a 5), .ref (a 6), .int C, .int R, .int lo])), (a 2, .inl (cI, 72, .inl pe)), (a 3, .inl (cI, 72, .inl st)), (a 4, .inl (cI, 9, .inl bn)), (a 5, .inl (cI, 2, .inl hc)), (a 6, .inl (cI, 2, .inl hm))]) (W2 := (fun _ => (wM cI a ((xsc 72 pa (rr * C + kk) np)) pe st bn hc hm C R lo))) ⟨hx, hb, hml, hown, hts⟩ (mX1_setCell l D cI (a 1) pa 72 (by decide) (rr * C + kk) np _) ⟨va_cnB (host := RX1) 3 hts gX0_replacePart_X1_setCell_n53 rfl rfl rfl hN.1 (hts (.initialized RX1) (mg 15 rfl)) (by decide +kernel) ⟨Nat.le_of_ble_eq_true rfl, Nat.le_of_ble_eq_true rfl⟩, hts (.static yX1_setCell) (mg 17 rfl), trivial⟩ hP hD hK hN hS hA [1] (by decide) rfl [0, 2, 3, 4, 5, 6] (by decide) rfl (by decide) [0, 6, 1, 2, 3, 4, 5] (by decide) (fun _ => rfl) [0] rfl rfl hl.1 rfl (Nat.le_of_ble_eq_true rfl) dX0_replacePart_23 ⟨Nat.le_of_ble_eq_true rfl, Nat.le_of_ble_eq_true rfl⟩ (fun u_3 H locs hr_3 hP hD hS => ?_)
  have hP : va_P D vwCl (wM cI a ((xsc 72 pa (rr * C + kk) np)) pe st bn hc hm C R lo) H := hP
  have hD : va_D (va_A (wM cI a pa pe st bn hc hm C R lo) sz) (wM cI a ((xsc 72 pa (rr * C + kk) np)) pe st bn hc hm C R lo) := hD
  refine lv_aload_n hx hb dX0_replacePart_26 rfl (lv_at hl 2 rfl) ?_
  refine va_get (D := D) (ci := 0) (v := .ref (a 2)) (C := RX0) (T := TX0) (N := 9) hx hb hts iw_X0_replacePart_X0 hown hK hP 0 rfl rfl 1 (by decide) (hts (.fieldLink RX0 15 "MarbleRamps$Machine" "periods" "[I") (mg 2 rfl)) (fun _ h9 => h9) rfl dX0_replacePart_27 ?_
  refine lv_iload hx hb dX0_replacePart_30 (lv_at hl 1 rfl) ?_
  refine lv_iload hx hb dX0_replacePart_32 (lv_at hl 6 rfl) ?_
  refine kQNv (As := [.ref (a 2), .int (rr * C + kk), .int nq]) (rest := []) (wr := [(a 0, .inr (0, [.ref (a 1), .ref (a 2), .ref (a 3), .ref (a 4), .ref (a 5), .ref (a 6), .int C, .int R, .int lo])), (a 1, .inl (cI, 72, .inl (xsc 72 pa (rr * C + kk) np))), (a 3, .inl (cI, 72, .inl st)), (a 4, .inl (cI, 9, .inl bn)), (a 5, .inl (cI, 2, .inl hc)), (a 6, .inl (cI, 2, .inl hm))]) (W2 := (fun _ => (wM cI a ((xsc 72 pa (rr * C + kk) np)) ((xsc 72 pe (rr * C + kk) nq)) st bn hc hm C R lo))) ⟨hx, hb, hml, hown, hts⟩ (mX1_setCell l D cI (a 2) pe 72 (by decide) (rr * C + kk) nq _) ⟨va_cnB (host := RX1) 3 hts gX0_replacePart_X1_setCell_n53 rfl rfl rfl hN.1 (hts (.initialized RX1) (mg 15 rfl)) (by decide +kernel) ⟨Nat.le_of_ble_eq_true rfl, Nat.le_of_ble_eq_true rfl⟩, hts (.static yX1_setCell) (mg 17 rfl), trivial⟩ hP hD hK hN hS hA [2] (by decide) rfl [0, 1, 3, 4, 5, 6] (by decide) rfl (by decide) [0, 1, 6, 2, 3, 4, 5] (by decide) (fun _ => rfl) [0] rfl rfl hl.1 rfl (Nat.le_of_ble_eq_true rfl) dX0_replacePart_34 ⟨Nat.le_of_ble_eq_true rfl, Nat.le_of_ble_eq_true rfl⟩ (fun u_4 H locs hr_4 hP hD hS => ?_)
  have hP : va_P D vwCl (wM cI a ((xsc 72 pa (rr * C + kk) np)) ((xsc 72 pe (rr * C + kk) nq)) st bn hc hm C R lo) H := hP
  have hD : va_D (va_A (wM cI a pa pe st bn hc hm C R lo) sz) (wM cI a ((xsc 72 pa (rr * C + kk) np)) ((xsc 72 pe (rr * C + kk) nq)) st bn hc hm C R lo) := hD
  refine lv_aload_n hx hb dX0_replacePart_37 rfl (lv_at hl 2 rfl) ?_
  refine va_get (D := D) (ci := 0) (v := .ref (a 3)) (C := RX0) (T := TX0) (N := 9) hx hb hts iw_X0_replacePart_X0 hown hK hP 0 rfl rfl 2 (by decide) (hts (.fieldLink RX0 18 "MarbleRamps$Machine" "states" "[I") (mg 3 rfl)) (fun _ h9 => h9) rfl dX0_replacePart_38 ?_
  refine lv_iload hx hb dX0_replacePart_41 (lv_at hl 1 rfl) ?_
  refine lv_iconst (v := 0) hx hb dX0_replacePart_43 (by decide) ?_
  refine kQNv (As := [.ref (a 3), .int (rr * C + kk), .int 0]) (rest := []) (wr := [(a 0, .inr (0, [.ref (a 1), .ref (a 2), .ref (a 3), .ref (a 4), .ref (a 5), .ref (a 6), .int C, .int R, .int lo])), (a 1, .inl (cI, 72, .inl (xsc 72 pa (rr * C + kk) np))), (a 2, .inl (cI, 72, .inl (xsc 72 pe (rr * C + kk) nq))), (a 4, .inl (cI, 9, .inl bn)), (a 5, .inl (cI, 2, .inl hc)), (a 6, .inl (cI, 2, .inl hm))]) (W2 := (fun _ => (wM cI a ((xsc 72 pa (rr * C + kk) np)) ((xsc 72 pe (rr * C + kk) nq)) ((xsc 72 st (rr * C + kk) 0)) bn hc hm C R lo))) ⟨hx, hb, hml, hown, hts⟩ (mX1_setCell l D cI (a 3) st 72 (by decide) (rr * C + kk) 0 _) ⟨va_cnB (host := RX1) 3 hts gX0_replacePart_X1_setCell_n53 rfl rfl rfl hN.1 (hts (.initialized RX1) (mg 15 rfl)) (by decide +kernel) ⟨Nat.le_of_ble_eq_true rfl, Nat.le_of_ble_eq_true rfl⟩, hts (.static yX1_setCell) (mg 17 rfl), trivial⟩ hP hD hK hN hS hA [3] (by decide) rfl [0, 1, 2, 4, 5, 6] (by decide) rfl (by decide) [0, 1, 2, 6, 3, 4, 5] (by decide) (fun _ => rfl) [0] rfl rfl hl.1 rfl (Nat.le_of_ble_eq_true rfl) dX0_replacePart_44 ⟨Nat.le_of_ble_eq_true rfl, Nat.le_of_ble_eq_true rfl⟩ (fun u_5 H locs hr_5 hP hD hS => ?_)
  have hP : va_P D vwCl (wM cI a ((xsc 72 pa (rr * C + kk) np)) ((xsc 72 pe (rr * C + kk) nq)) ((xsc 72 st (rr * C + kk) 0)) bn hc hm C R lo) H := hP
  have hD : va_D (va_A (wM cI a pa pe st bn hc hm C R lo) sz) (wM cI a ((xsc 72 pa (rr * C + kk) np)) ((xsc 72 pe (rr * C + kk) nq)) ((xsc 72 st (rr * C + kk) 0)) bn hc hm C R lo) := hD
  refine lv_iload hx hb dX0_replacePart_47 (lv_at hl 0 rfl) ?_
  exact eQi () hx hb hr hlocks hP hD hK hS dX0_replacePart_49 (rfl)
theorem iw_X0_fillHopper_X0 : ∀ w ∈ wsX00, w ∈ wsX0_fillHopper := mem_pos [8, 9, 10, 11, 12, 13, 14, 15, 16] (by decide +kernel)
set_option maxHeartbeats 4000000 in
set_option maxRecDepth 100000 in
theorem mX0_fillHopper (l : Launch) (D : va_G) (cI : ClassId) (a : Nat → Nat) (pa pe st bn hc hm : Nat → Int32) (C R lo : Int32) (hh kk mm : Int32) (sz : Nat) : Met l yX0_fillHopper wsX0_fillHopper ({ frames := 1, cells := 0, slots := 0, locals := 22 } : Room) (va_Pc [.ref (a 0), .int hh, .int kk, .int mm] (wPQ D [(cI, .int)] sz (wM cI a pa pe st bn hc hm C R lo))) (va_Qi (fun (zz : Int32) (_ : Unit) => zz = xcl 2 hm hh) (wB D [(cI, .int)] (va_A (wM cI a pa pe st bn hc hm C R lo) sz) (fun _ : Unit => (wM cI a pa pe st bn ((xsc 2 hc hh kk)) ((xsc 2 hm hh mm)) C R lo))) (va_A (wM cI a pa pe st bn hc hm C R lo) sz)) 0 0 (va_A (wM cI a pa pe st bn hc hm C R lo) sz) := by
  refine mQ_of (by decide) rfl (Nat.le_of_ble_eq_true rfl) ?_
  intro p e s m below meth c hx hb hr hml hown hin hts hlocks hsz hP hK hN hD hA hS ls hl
  have hown : s.vm.findClass RX0 = some m.cls := hown
  have hl : lv_has ls 5 [(0, .ref (a 0)), (1, .int hh), (2, .int kk), (3, .int mm)] := hl
  have hP : va_P D vwCl (wM cI a pa pe st bn hc hm C R lo) s.heap := hP
  refine lv_aload_n hx hb dX0_fillHopper_0 rfl (lv_at hl 0 rfl) ?_
  refine va_get (D := D) (ci := 0) (v := .ref (a 6)) (C := RX0) (T := TX0) (N := 9) hx hb hts iw_X0_fillHopper_X0 hown hK hP 0 rfl rfl 5 (by decide) (hts (.fieldLink RX0 27 "MarbleRamps$Machine" "hopperMarbles" "[I") (mg 1 rfl)) (fun _ h9 => h9) rfl dX0_fillHopper_1 ?_
  refine lv_iload_n hx hb dX0_fillHopper_4 rfl (lv_at hl 1 rfl) ?_
  refine kRNi (As := [.ref (a 6), .int hh]) (rest := []) ⟨hx, hb, hml, hown, hts⟩ (mX1_cell l D cI (a 6) hm 2 (by decide) hh) ⟨va_cnB (host := RX1) 2 hts gX0_fillHopper_X1_cell_n61 rfl rfl rfl hN.2.2 (hts (.initialized RX1) (mg 4 rfl)) (by decide +kernel) ⟨Nat.le_of_ble_eq_true rfl, Nat.le_of_ble_eq_true rfl⟩, hts (.static yX1_cell) (mg 3 rfl), trivial⟩ hP hK hN [6] rfl [0] rfl rfl hl.1 rfl (Nat.le_of_ble_eq_true rfl) dX0_fillHopper_5 ⟨Nat.zero_le _, Nat.zero_le _⟩ (fun r_1 hr_1 => ?_)
  subst r_1
  refine lv_istore (lv' := [(4, .int (xcl 2 hm hh)), (0, .ref (a 0)), (1, .int hh), (2, .int kk), (3, .int mm)]) hx hb dX0_fillHopper_8 hl (by decide) rfl (fun ls hl => ?_)
  refine lv_aload_n hx hb dX0_fillHopper_10 rfl (lv_at hl 1 rfl) ?_
  refine va_get (D := D) (ci := 0) (v := .ref (a 5)) (C := RX0) (T := TX0) (N := 9) hx hb hts iw_X0_fillHopper_X0 hown hK hP 0 rfl rfl 4 (by decide) (hts (.fieldLink RX0 24 "MarbleRamps$Machine" "hopperColumns" "[I") (mg 2 rfl)) (fun _ h9 => h9) rfl dX0_fillHopper_11 ?_
  refine lv_iload_n hx hb dX0_fillHopper_14 rfl (lv_at hl 2 rfl) ?_
  refine lv_iload_n hx hb dX0_fillHopper_15 rfl (lv_at hl 3 rfl) ?_
  refine kQNv (As := [.ref (a 5), .int hh, .int kk]) (rest := []) (wr := [(a 0, .inr (0, [.ref (a 1), .ref (a 2), .ref (a 3), .ref (a 4), .ref (a 5), .ref (a 6), .int C, .int R, .int lo])), (a 1, .inl (cI, 72, .inl pa)), (a 2, .inl (cI, 72, .inl pe)), (a 3, .inl (cI, 72, .inl st)), (a 4, .inl (cI, 9, .inl bn)), (a 6, .inl (cI, 2, .inl hm))]) (W2 := (fun _ => (wM cI a pa pe st bn ((xsc 2 hc hh kk)) hm C R lo))) ⟨hx, hb, hml, hown, hts⟩ (mX1_setCell l D cI (a 5) hc 2 (by decide) hh kk _) ⟨va_cnB (host := RX1) 3 hts gX0_fillHopper_X1_setCell_n53 rfl rfl rfl hN.1 (hts (.initialized RX1) (mg 4 rfl)) (by decide +kernel) ⟨Nat.le_of_ble_eq_true rfl, Nat.le_of_ble_eq_true rfl⟩, hts (.static yX1_setCell) (mg 6 rfl), trivial⟩ hP hD hK hN hS hA [5] (by decide) rfl [0, 1, 2, 3, 4, 6] (by decide) rfl (by decide) [0, 1, 2, 3, 4, 6, 5] (by decide) (fun _ => rfl) [0] rfl rfl hl.1 rfl (Nat.le_of_ble_eq_true rfl) dX0_fillHopper_16 ⟨Nat.le_of_ble_eq_true rfl, Nat.le_of_ble_eq_true rfl⟩ (fun u_2 H locs hr_2 hP hD hS => ?_)
  have hP : va_P D vwCl (wM cI a pa pe st bn ((xsc 2 hc hh kk)) hm C R lo) H := hP
  have hD : va_D (va_A (wM cI a pa pe st bn hc hm C R lo) sz) (wM cI a pa pe st bn ((xsc 2 hc hh kk)) hm C R lo) := hD
  refine lv_aload_n hx hb dX0_fillHopper_19 rfl (lv_at hl 1 rfl) ?_
  refine va_get (D := D) (ci := 0) (v := .ref (a 6)) (C := RX0) (T := TX0) (N := 9) hx hb hts iw_X0_fillHopper_X0 hown hK hP 0 rfl rfl 5 (by decide) (hts (.fieldLink RX0 27 "MarbleRamps$Machine" "hopperMarbles" "[I") (mg 1 rfl)) (fun _ h9 => h9) rfl dX0_fillHopper_20 ?_
  refine lv_iload_n hx hb dX0_fillHopper_23 rfl (lv_at hl 2 rfl) ?_
  refine lv_iload_n hx hb dX0_fillHopper_24 rfl (lv_at hl 4 rfl) ?_
  refine kQNv (As := [.ref (a 6), .int hh, .int mm]) (rest := []) (wr := [(a 0, .inr (0, [.ref (a 1), .ref (a 2), .ref (a 3), .ref (a 4), .ref (a 5), .ref (a 6), .int C, .int R, .int lo])), (a 1, .inl (cI, 72, .inl pa)), (a 2, .inl (cI, 72, .inl pe)), (a 3, .inl (cI, 72, .inl st)), (a 4, .inl (cI, 9, .inl bn)), (a 5, .inl (cI, 2, .inl (xsc 2 hc hh kk)))]) (W2 := (fun _ => (wM cI a pa pe st bn ((xsc 2 hc hh kk)) ((xsc 2 hm hh mm)) C R lo))) ⟨hx, hb, hml, hown, hts⟩ (mX1_setCell l D cI (a 6) hm 2 (by decide) hh mm _) ⟨va_cnB (host := RX1) 3 hts gX0_fillHopper_X1_setCell_n53 rfl rfl rfl hN.1 (hts (.initialized RX1) (mg 4 rfl)) (by decide +kernel) ⟨Nat.le_of_ble_eq_true rfl, Nat.le_of_ble_eq_true rfl⟩, hts (.static yX1_setCell) (mg 6 rfl), trivial⟩ hP hD hK hN hS hA [6] (by decide) rfl [0, 1, 2, 3, 4, 5] (by decide) rfl (by decide) [0, 1, 2, 3, 4, 5, 6] (by decide) (fun _ => rfl) [0] rfl rfl hl.1 rfl (Nat.le_of_ble_eq_true rfl) dX0_fillHopper_25 ⟨Nat.le_of_ble_eq_true rfl, Nat.le_of_ble_eq_true rfl⟩ (fun u_3 H locs hr_3 hP hD hS => ?_)
  have hP : va_P D vwCl (wM cI a pa pe st bn ((xsc 2 hc hh kk)) ((xsc 2 hm hh mm)) C R lo) H := hP
  have hD : va_D (va_A (wM cI a pa pe st bn hc hm C R lo) sz) (wM cI a pa pe st bn ((xsc 2 hc hh kk)) ((xsc 2 hm hh mm)) C R lo) := hD
  refine lv_iload hx hb dX0_fillHopper_28 (lv_at hl 0 rfl) ?_
  exact eQi () hx hb hr hlocks hP hD hK hS dX0_fillHopper_30 (rfl)
theorem iw_X0_wayOut_X0 : ∀ w ∈ wsX00, w ∈ wsX0_wayOut := mem_pos [9, 10, 11, 12, 13, 14, 15, 16, 17] (by decide +kernel)
set_option maxHeartbeats 4000000 in
set_option maxRecDepth 100000 in
theorem mX0_wayOut (l : Launch) (D : va_G) (cI : ClassId) (a : Nat → Nat) (pa pe st bn hc hm : Nat → Int32) (C R lo : Int32) (q came : Int32) (sz : Nat) : Met l yX0_wayOut wsX0_wayOut ({ frames := 1, cells := 0, slots := 0, locals := 22 } : Room) (va_Pc [.ref (a 0), .int q, .int came] (wPQ D [(cI, .int)] sz (wM cI a pa pe st bn hc hm C R lo))) (va_Qi (fun (zz : Int32) (_ : Unit) => zz = (xWay pa pe st q came).1) (wB D [(cI, .int)] (va_A (wM cI a pa pe st bn hc hm C R lo) sz) (fun _ : Unit => (wM cI a pa pe ((xWay pa pe st q came).2) bn hc hm C R lo))) (va_A (wM cI a pa pe st bn hc hm C R lo) sz)) 0 0 (va_A (wM cI a pa pe st bn hc hm C R lo) sz) := by
  refine mQ_of (by decide) rfl (Nat.le_of_ble_eq_true rfl) ?_
  intro p e s m below meth c hx hb hr hml hown hin hts hlocks hsz hP hK hN hD hA hS ls hl
  have hown : s.vm.findClass RX0 = some m.cls := hown
  have hl : lv_has ls 5 [(0, .ref (a 0)), (1, .int q), (2, .int came)] := hl
  have hP : va_P D vwCl (wM cI a pa pe st bn hc hm C R lo) s.heap := hP
  refine lv_aload_n hx hb dX0_wayOut_0 rfl (lv_at hl 0 rfl) ?_
  refine va_get (D := D) (ci := 0) (v := .ref (a 1)) (C := RX0) (T := TX0) (N := 9) hx hb hts iw_X0_wayOut_X0 hown hK hP 0 rfl rfl 0 (by decide) (hts (.fieldLink RX0 9 "MarbleRamps$Machine" "parts" "[I") (mg 1 rfl)) (fun _ h9 => h9) rfl dX0_wayOut_1 ?_
  refine lv_iload_n hx hb dX0_wayOut_4 rfl (lv_at hl 1 rfl) ?_
  refine kRNi (As := [.ref (a 1), .int q]) (rest := []) ⟨hx, hb, hml, hown, hts⟩ (mX1_cell l D cI (a 1) pa 72 (by decide) q) ⟨va_cnB (host := RX1) 2 hts gX0_wayOut_X1_cell_n61 rfl rfl rfl hN.2.2 (hts (.initialized RX1) (mg 5 rfl)) (by decide +kernel) ⟨Nat.le_of_ble_eq_true rfl, Nat.le_of_ble_eq_true rfl⟩, hts (.static yX1_cell) (mg 4 rfl), trivial⟩ hP hK hN [1] rfl [0] rfl rfl hl.1 rfl (Nat.le_of_ble_eq_true rfl) dX0_wayOut_5 ⟨Nat.zero_le _, Nat.zero_le _⟩ (fun r_1 hr_1 => ?_)
  subst r_1
  rcases sw_1_5 (xcl 72 pa q) with c_2 | c_2 | c_2 | c_2 | c_2 | c_2
  · refine lv_tableIn (tgt := 44) (off := 36) hx hb dX0_wayOut_8 (by rw [c_2]; decide) (by rw [c_2]; decide) (by rw [c_2]; rfl) (by decide) ?_
    refine lv_iconst (v := (-1)) hx hb dX0_wayOut_44 (by decide) ?_
    have hP : va_P D vwCl (wM cI a pa pe ((xWay pa pe st q came).2) bn hc hm C R lo) s.heap := by simp [xWay, xWayS, c_2]; exact hP
    have hD : va_D (va_A (wM cI a pa pe st bn hc hm C R lo) sz) (wM cI a pa pe ((xWay pa pe st q came).2) bn hc hm C R lo) := by simp [xWay, xWayS, c_2]; exact hD
    exact eQi () hx hb hr hlocks hP hD hK hS dX0_wayOut_45 (by simp [xWay, xWayS, c_2])
  · refine lv_tableIn (tgt := 46) (off := 38) hx hb dX0_wayOut_8 (by rw [c_2]; decide) (by rw [c_2]; decide) (by rw [c_2]; rfl) (by decide) ?_
    refine lv_iconst (v := 1) hx hb dX0_wayOut_46 (by decide) ?_
    have hP : va_P D vwCl (wM cI a pa pe ((xWay pa pe st q came).2) bn hc hm C R lo) s.heap := by simp [xWay, xWayS, c_2]; exact hP
    have hD : va_D (va_A (wM cI a pa pe st bn hc hm C R lo) sz) (wM cI a pa pe ((xWay pa pe st q came).2) bn hc hm C R lo) := by simp [xWay, xWayS, c_2]; exact hD
    exact eQi () hx hb hr hlocks hP hD hK hS dX0_wayOut_47 (by simp [xWay, xWayS, c_2])
  · refine lv_tableIn (tgt := 50) (off := 42) hx hb dX0_wayOut_8 (by rw [c_2]; decide) (by rw [c_2]; decide) (by rw [c_2]; rfl) (by decide) ?_
    refine lv_aload_n hx hb dX0_wayOut_50 rfl (lv_at hl 0 rfl) ?_
    refine va_get (D := D) (ci := 0) (v := .ref (a 3)) (C := RX0) (T := TX0) (N := 9) hx hb hts iw_X0_wayOut_X0 hown hK hP 0 rfl rfl 2 (by decide) (hts (.fieldLink RX0 18 "MarbleRamps$Machine" "states" "[I") (mg 2 rfl)) (fun _ h9 => h9) rfl dX0_wayOut_51 ?_
    refine lv_iload_n hx hb dX0_wayOut_54 rfl (lv_at hl 1 rfl) ?_
    refine kRNi (As := [.ref (a 3), .int q]) (rest := []) ⟨hx, hb, hml, hown, hts⟩ (mX1_cell l D cI (a 3) st 72 (by decide) q) ⟨va_cnB (host := RX1) 2 hts gX0_wayOut_X1_cell_n61 rfl rfl rfl hN.2.2 (hts (.initialized RX1) (mg 5 rfl)) (by decide +kernel) ⟨Nat.le_of_ble_eq_true rfl, Nat.le_of_ble_eq_true rfl⟩, hts (.static yX1_cell) (mg 4 rfl), trivial⟩ hP hK hN [3] rfl [0] rfl rfl hl.1 rfl (Nat.le_of_ble_eq_true rfl) dX0_wayOut_55 ⟨Nat.zero_le _, Nat.zero_le _⟩ (fun r_3 hr_3 => ?_)
    subst r_3
    refine lv_iconst (v := 1) hx hb dX0_wayOut_58 (by decide) ?_
    refine lv_iadd hx hb dX0_wayOut_59 ?_
    refine lv_istore_n (lv' := [(3, .int (xcl 72 st q + 1)), (0, .ref (a 0)), (1, .int q), (2, .int came)]) hx hb dX0_wayOut_60 rfl hl (by decide) rfl (fun ls hl => ?_)
    refine lv_iload_n hx hb dX0_wayOut_61 rfl (lv_at hl 0 rfl) ?_
    refine lv_aload_n hx hb dX0_wayOut_62 rfl (lv_at hl 1 rfl) ?_
    refine va_get (D := D) (ci := 0) (v := .ref (a 2)) (C := RX0) (T := TX0) (N := 9) hx hb hts iw_X0_wayOut_X0 hown hK hP 0 rfl rfl 1 (by decide) (hts (.fieldLink RX0 15 "MarbleRamps$Machine" "periods" "[I") (mg 3 rfl)) (fun _ h9 => h9) rfl dX0_wayOut_63 ?_
    refine lv_iload_n hx hb dX0_wayOut_66 rfl (lv_at hl 2 rfl) ?_
    refine kRNi (As := [.ref (a 2), .int q]) (rest := [.int (xcl 72 st q + 1)]) ⟨hx, hb, hml, hown, hts⟩ (mX1_cell l D cI (a 2) pe 72 (by decide) q) ⟨va_cnB (host := RX1) 2 hts gX0_wayOut_X1_cell_n61 rfl rfl rfl hN.2.2 (hts (.initialized RX1) (mg 5 rfl)) (by decide +kernel) ⟨Nat.le_of_ble_eq_true rfl, Nat.le_of_ble_eq_true rfl⟩, hts (.static yX1_cell) (mg 4 rfl), trivial⟩ hP hK hN [2] rfl [0] rfl rfl hl.1 rfl (Nat.le_of_ble_eq_true rfl) dX0_wayOut_67 ⟨Nat.zero_le _, Nat.zero_le _⟩ (fun r_4 hr_4 => ?_)
    subst r_4
    refine lv_icmp_lt (tgt := 77) hx hb dX0_wayOut_70 (by decide) (fun c_5 => ?_) (fun c_5 => ?_)
    · refine lv_iconst (v := 0) hx hb dX0_wayOut_77 (by decide) ?_
      refine lv_istore (lv' := [(4, .int 0), (3, .int (xcl 72 st q + 1)), (0, .ref (a 0)), (1, .int q), (2, .int came)]) hx hb dX0_wayOut_78 hl (by decide) rfl (fun ls hl => ?_)
      refine lv_aload_n hx hb dX0_wayOut_80 rfl (lv_at hl 2 rfl) ?_
      refine va_get (D := D) (ci := 0) (v := .ref (a 3)) (C := RX0) (T := TX0) (N := 9) hx hb hts iw_X0_wayOut_X0 hown hK hP 0 rfl rfl 2 (by decide) (hts (.fieldLink RX0 18 "MarbleRamps$Machine" "states" "[I") (mg 2 rfl)) (fun _ h9 => h9) rfl dX0_wayOut_81 ?_
      refine lv_iload_n hx hb dX0_wayOut_84 rfl (lv_at hl 3 rfl) ?_
      refine lv_iload hx hb dX0_wayOut_85 (lv_at hl 0 rfl) ?_
      refine lv_if_eq (tgt := 94) hx hb dX0_wayOut_87 (by decide) (fun _ => ?_) (fun c9 => absurd (by decide) c9)
      refine lv_iload_n hx hb dX0_wayOut_94 rfl (lv_at hl 1 rfl) ?_
      refine kQNv (As := [.ref (a 3), .int q, .int (xcl 72 st q + 1)]) (rest := []) (wr := [(a 0, .inr (0, [.ref (a 1), .ref (a 2), .ref (a 3), .ref (a 4), .ref (a 5), .ref (a 6), .int C, .int R, .int lo])), (a 1, .inl (cI, 72, .inl pa)), (a 2, .inl (cI, 72, .inl pe)), (a 4, .inl (cI, 9, .inl bn)), (a 5, .inl (cI, 2, .inl hc)), (a 6, .inl (cI, 2, .inl hm))]) (W2 := (fun _ => (wM cI a pa pe ((xsc 72 st q (xcl 72 st q + 1))) bn hc hm C R lo))) ⟨hx, hb, hml, hown, hts⟩ (mX1_setCell l D cI (a 3) st 72 (by decide) q (xcl 72 st q + 1) _) ⟨va_cnB (host := RX1) 3 hts gX0_wayOut_X1_setCell_n53 rfl rfl rfl hN.1 (hts (.initialized RX1) (mg 5 rfl)) (by decide +kernel) ⟨Nat.le_of_ble_eq_true rfl, Nat.le_of_ble_eq_true rfl⟩, hts (.static yX1_setCell) (mg 7 rfl), trivial⟩ hP hD hK hN hS hA [3] (by decide) rfl [0, 1, 2, 4, 5, 6] (by decide) rfl (by decide) [0, 1, 2, 6, 3, 4, 5] (by decide) (fun _ => rfl) [0] rfl rfl hl.1 rfl (Nat.le_of_ble_eq_true rfl) dX0_wayOut_95 ⟨Nat.le_of_ble_eq_true rfl, Nat.le_of_ble_eq_true rfl⟩ (fun u_7 H locs hr_7 hP hD hS => ?_)
      have hP : va_P D vwCl (wM cI a pa pe ((xsc 72 st q (xcl 72 st q + 1))) bn hc hm C R lo) H := hP
      have hD : va_D (va_A (wM cI a pa pe st bn hc hm C R lo) sz) (wM cI a pa pe ((xsc 72 st q (xcl 72 st q + 1))) bn hc hm C R lo) := hD
      refine lv_iload hx hb dX0_wayOut_98 (lv_at hl 0 rfl) ?_
      refine lv_if_eq (tgt := 107) hx hb dX0_wayOut_100 (by decide) (fun _ => ?_) (fun c9 => absurd (by decide) c9)
      refine lv_iconst (v := (-1)) hx hb dX0_wayOut_107 (by decide) ?_
      have hP : va_P D vwCl (wM cI a pa pe ((xWay pa pe st q came).2) bn hc hm C R lo) H := by simp [xWay, xWayS, c_2, c_5]; exact hP
      have hD : va_D (va_A (wM cI a pa pe st bn hc hm C R lo) sz) (wM cI a pa pe ((xWay pa pe st q came).2) bn hc hm C R lo) := by simp [xWay, xWayS, c_2, c_5]; exact hD
      exact eQi () hx hb hr hlocks hP hD hK hS dX0_wayOut_108 (by simp [xWay, xWayS, c_2, c_5])
    · refine lv_iconst (v := 1) hx hb dX0_wayOut_73 (by decide) ?_
      refine lv_goto (tgt := 78) hx hb dX0_wayOut_74 (by decide) ?_
      refine lv_istore (lv' := [(4, .int 1), (3, .int (xcl 72 st q + 1)), (0, .ref (a 0)), (1, .int q), (2, .int came)]) hx hb dX0_wayOut_78 hl (by decide) rfl (fun ls hl => ?_)
      refine lv_aload_n hx hb dX0_wayOut_80 rfl (lv_at hl 2 rfl) ?_
      refine va_get (D := D) (ci := 0) (v := .ref (a 3)) (C := RX0) (T := TX0) (N := 9) hx hb hts iw_X0_wayOut_X0 hown hK hP 0 rfl rfl 2 (by decide) (hts (.fieldLink RX0 18 "MarbleRamps$Machine" "states" "[I") (mg 2 rfl)) (fun _ h9 => h9) rfl dX0_wayOut_81 ?_
      refine lv_iload_n hx hb dX0_wayOut_84 rfl (lv_at hl 3 rfl) ?_
      refine lv_iload hx hb dX0_wayOut_85 (lv_at hl 0 rfl) ?_
      refine lv_if_eq (tgt := 94) hx hb dX0_wayOut_87 (by decide) (fun c9 => absurd c9 (by decide)) (fun _ => ?_)
      refine lv_iconst (v := 0) hx hb dX0_wayOut_90 (by decide) ?_
      refine lv_goto (tgt := 95) hx hb dX0_wayOut_91 (by decide) ?_
      refine kQNv (As := [.ref (a 3), .int q, .int 0]) (rest := []) (wr := [(a 0, .inr (0, [.ref (a 1), .ref (a 2), .ref (a 3), .ref (a 4), .ref (a 5), .ref (a 6), .int C, .int R, .int lo])), (a 1, .inl (cI, 72, .inl pa)), (a 2, .inl (cI, 72, .inl pe)), (a 4, .inl (cI, 9, .inl bn)), (a 5, .inl (cI, 2, .inl hc)), (a 6, .inl (cI, 2, .inl hm))]) (W2 := (fun _ => (wM cI a pa pe ((xsc 72 st q 0)) bn hc hm C R lo))) ⟨hx, hb, hml, hown, hts⟩ (mX1_setCell l D cI (a 3) st 72 (by decide) q 0 _) ⟨va_cnB (host := RX1) 3 hts gX0_wayOut_X1_setCell_n53 rfl rfl rfl hN.1 (hts (.initialized RX1) (mg 5 rfl)) (by decide +kernel) ⟨Nat.le_of_ble_eq_true rfl, Nat.le_of_ble_eq_true rfl⟩, hts (.static yX1_setCell) (mg 7 rfl), trivial⟩ hP hD hK hN hS hA [3] (by decide) rfl [0, 1, 2, 4, 5, 6] (by decide) rfl (by decide) [0, 1, 2, 6, 3, 4, 5] (by decide) (fun _ => rfl) [0] rfl rfl hl.1 rfl (Nat.le_of_ble_eq_true rfl) dX0_wayOut_95 ⟨Nat.le_of_ble_eq_true rfl, Nat.le_of_ble_eq_true rfl⟩ (fun u_10 H locs hr_10 hP hD hS => ?_)
      have hP : va_P D vwCl (wM cI a pa pe ((xsc 72 st q 0)) bn hc hm C R lo) H := hP
      have hD : va_D (va_A (wM cI a pa pe st bn hc hm C R lo) sz) (wM cI a pa pe ((xsc 72 st q 0)) bn hc hm C R lo) := hD
      refine lv_iload hx hb dX0_wayOut_98 (lv_at hl 0 rfl) ?_
      refine lv_if_eq (tgt := 107) hx hb dX0_wayOut_100 (by decide) (fun c9 => absurd c9 (by decide)) (fun _ => ?_)
      refine lv_iconst (v := 1) hx hb dX0_wayOut_103 (by decide) ?_
      refine lv_goto (tgt := 108) hx hb dX0_wayOut_104 (by decide) ?_
      have hP : va_P D vwCl (wM cI a pa pe ((xWay pa pe st q came).2) bn hc hm C R lo) H := by simp [xWay, xWayS, c_2, c_5]; exact hP
      have hD : va_D (va_A (wM cI a pa pe st bn hc hm C R lo) sz) (wM cI a pa pe ((xWay pa pe st q came).2) bn hc hm C R lo) := by simp [xWay, xWayS, c_2, c_5]; exact hD
      exact eQi () hx hb hr hlocks hP hD hK hS dX0_wayOut_108 (by simp [xWay, xWayS, c_2, c_5])
  · refine lv_tableIn (tgt := 48) (off := 40) hx hb dX0_wayOut_8 (by rw [c_2]; decide) (by rw [c_2]; decide) (by rw [c_2]; rfl) (by decide) ?_
    refine lv_iload_n hx hb dX0_wayOut_48 rfl (lv_at hl 2 rfl) ?_
    have hP : va_P D vwCl (wM cI a pa pe ((xWay pa pe st q came).2) bn hc hm C R lo) s.heap := by simp [xWay, xWayS, c_2]; exact hP
    have hD : va_D (va_A (wM cI a pa pe st bn hc hm C R lo) sz) (wM cI a pa pe ((xWay pa pe st q came).2) bn hc hm C R lo) := by simp [xWay, xWayS, c_2]; exact hD
    exact eQi () hx hb hr hlocks hP hD hK hS dX0_wayOut_49 (by simp [xWay, xWayS, c_2])
  · refine lv_tableIn (tgt := 50) (off := 42) hx hb dX0_wayOut_8 (by rw [c_2]; decide) (by rw [c_2]; decide) (by rw [c_2]; rfl) (by decide) ?_
    refine lv_aload_n hx hb dX0_wayOut_50 rfl (lv_at hl 0 rfl) ?_
    refine va_get (D := D) (ci := 0) (v := .ref (a 3)) (C := RX0) (T := TX0) (N := 9) hx hb hts iw_X0_wayOut_X0 hown hK hP 0 rfl rfl 2 (by decide) (hts (.fieldLink RX0 18 "MarbleRamps$Machine" "states" "[I") (mg 2 rfl)) (fun _ h9 => h9) rfl dX0_wayOut_51 ?_
    refine lv_iload_n hx hb dX0_wayOut_54 rfl (lv_at hl 1 rfl) ?_
    refine kRNi (As := [.ref (a 3), .int q]) (rest := []) ⟨hx, hb, hml, hown, hts⟩ (mX1_cell l D cI (a 3) st 72 (by decide) q) ⟨va_cnB (host := RX1) 2 hts gX0_wayOut_X1_cell_n61 rfl rfl rfl hN.2.2 (hts (.initialized RX1) (mg 5 rfl)) (by decide +kernel) ⟨Nat.le_of_ble_eq_true rfl, Nat.le_of_ble_eq_true rfl⟩, hts (.static yX1_cell) (mg 4 rfl), trivial⟩ hP hK hN [3] rfl [0] rfl rfl hl.1 rfl (Nat.le_of_ble_eq_true rfl) dX0_wayOut_55 ⟨Nat.zero_le _, Nat.zero_le _⟩ (fun r_12 hr_12 => ?_)
    subst r_12
    refine lv_iconst (v := 1) hx hb dX0_wayOut_58 (by decide) ?_
    refine lv_iadd hx hb dX0_wayOut_59 ?_
    refine lv_istore_n (lv' := [(3, .int (xcl 72 st q + 1)), (0, .ref (a 0)), (1, .int q), (2, .int came)]) hx hb dX0_wayOut_60 rfl hl (by decide) rfl (fun ls hl => ?_)
    refine lv_iload_n hx hb dX0_wayOut_61 rfl (lv_at hl 0 rfl) ?_
    refine lv_aload_n hx hb dX0_wayOut_62 rfl (lv_at hl 1 rfl) ?_
    refine va_get (D := D) (ci := 0) (v := .ref (a 2)) (C := RX0) (T := TX0) (N := 9) hx hb hts iw_X0_wayOut_X0 hown hK hP 0 rfl rfl 1 (by decide) (hts (.fieldLink RX0 15 "MarbleRamps$Machine" "periods" "[I") (mg 3 rfl)) (fun _ h9 => h9) rfl dX0_wayOut_63 ?_
    refine lv_iload_n hx hb dX0_wayOut_66 rfl (lv_at hl 2 rfl) ?_
    refine kRNi (As := [.ref (a 2), .int q]) (rest := [.int (xcl 72 st q + 1)]) ⟨hx, hb, hml, hown, hts⟩ (mX1_cell l D cI (a 2) pe 72 (by decide) q) ⟨va_cnB (host := RX1) 2 hts gX0_wayOut_X1_cell_n61 rfl rfl rfl hN.2.2 (hts (.initialized RX1) (mg 5 rfl)) (by decide +kernel) ⟨Nat.le_of_ble_eq_true rfl, Nat.le_of_ble_eq_true rfl⟩, hts (.static yX1_cell) (mg 4 rfl), trivial⟩ hP hK hN [2] rfl [0] rfl rfl hl.1 rfl (Nat.le_of_ble_eq_true rfl) dX0_wayOut_67 ⟨Nat.zero_le _, Nat.zero_le _⟩ (fun r_13 hr_13 => ?_)
    subst r_13
    refine lv_icmp_lt (tgt := 77) hx hb dX0_wayOut_70 (by decide) (fun c_14 => ?_) (fun c_14 => ?_)
    · refine lv_iconst (v := 0) hx hb dX0_wayOut_77 (by decide) ?_
      refine lv_istore (lv' := [(4, .int 0), (3, .int (xcl 72 st q + 1)), (0, .ref (a 0)), (1, .int q), (2, .int came)]) hx hb dX0_wayOut_78 hl (by decide) rfl (fun ls hl => ?_)
      refine lv_aload_n hx hb dX0_wayOut_80 rfl (lv_at hl 2 rfl) ?_
      refine va_get (D := D) (ci := 0) (v := .ref (a 3)) (C := RX0) (T := TX0) (N := 9) hx hb hts iw_X0_wayOut_X0 hown hK hP 0 rfl rfl 2 (by decide) (hts (.fieldLink RX0 18 "MarbleRamps$Machine" "states" "[I") (mg 2 rfl)) (fun _ h9 => h9) rfl dX0_wayOut_81 ?_
      refine lv_iload_n hx hb dX0_wayOut_84 rfl (lv_at hl 3 rfl) ?_
      refine lv_iload hx hb dX0_wayOut_85 (lv_at hl 0 rfl) ?_
      refine lv_if_eq (tgt := 94) hx hb dX0_wayOut_87 (by decide) (fun _ => ?_) (fun c9 => absurd (by decide) c9)
      refine lv_iload_n hx hb dX0_wayOut_94 rfl (lv_at hl 1 rfl) ?_
      refine kQNv (As := [.ref (a 3), .int q, .int (xcl 72 st q + 1)]) (rest := []) (wr := [(a 0, .inr (0, [.ref (a 1), .ref (a 2), .ref (a 3), .ref (a 4), .ref (a 5), .ref (a 6), .int C, .int R, .int lo])), (a 1, .inl (cI, 72, .inl pa)), (a 2, .inl (cI, 72, .inl pe)), (a 4, .inl (cI, 9, .inl bn)), (a 5, .inl (cI, 2, .inl hc)), (a 6, .inl (cI, 2, .inl hm))]) (W2 := (fun _ => (wM cI a pa pe ((xsc 72 st q (xcl 72 st q + 1))) bn hc hm C R lo))) ⟨hx, hb, hml, hown, hts⟩ (mX1_setCell l D cI (a 3) st 72 (by decide) q (xcl 72 st q + 1) _) ⟨va_cnB (host := RX1) 3 hts gX0_wayOut_X1_setCell_n53 rfl rfl rfl hN.1 (hts (.initialized RX1) (mg 5 rfl)) (by decide +kernel) ⟨Nat.le_of_ble_eq_true rfl, Nat.le_of_ble_eq_true rfl⟩, hts (.static yX1_setCell) (mg 7 rfl), trivial⟩ hP hD hK hN hS hA [3] (by decide) rfl [0, 1, 2, 4, 5, 6] (by decide) rfl (by decide) [0, 1, 2, 6, 3, 4, 5] (by decide) (fun _ => rfl) [0] rfl rfl hl.1 rfl (Nat.le_of_ble_eq_true rfl) dX0_wayOut_95 ⟨Nat.le_of_ble_eq_true rfl, Nat.le_of_ble_eq_true rfl⟩ (fun u_16 H locs hr_16 hP hD hS => ?_)
      have hP : va_P D vwCl (wM cI a pa pe ((xsc 72 st q (xcl 72 st q + 1))) bn hc hm C R lo) H := hP
      have hD : va_D (va_A (wM cI a pa pe st bn hc hm C R lo) sz) (wM cI a pa pe ((xsc 72 st q (xcl 72 st q + 1))) bn hc hm C R lo) := hD
      refine lv_iload hx hb dX0_wayOut_98 (lv_at hl 0 rfl) ?_
      refine lv_if_eq (tgt := 107) hx hb dX0_wayOut_100 (by decide) (fun _ => ?_) (fun c9 => absurd (by decide) c9)
      refine lv_iconst (v := (-1)) hx hb dX0_wayOut_107 (by decide) ?_
      have hP : va_P D vwCl (wM cI a pa pe ((xWay pa pe st q came).2) bn hc hm C R lo) H := by simp [xWay, xWayS, c_2, c_14]; exact hP
      have hD : va_D (va_A (wM cI a pa pe st bn hc hm C R lo) sz) (wM cI a pa pe ((xWay pa pe st q came).2) bn hc hm C R lo) := by simp [xWay, xWayS, c_2, c_14]; exact hD
      exact eQi () hx hb hr hlocks hP hD hK hS dX0_wayOut_108 (by simp [xWay, xWayS, c_2, c_14])
    · refine lv_iconst (v := 1) hx hb dX0_wayOut_73 (by decide) ?_
      refine lv_goto (tgt := 78) hx hb dX0_wayOut_74 (by decide) ?_
      refine lv_istore (lv' := [(4, .int 1), (3, .int (xcl 72 st q + 1)), (0, .ref (a 0)), (1, .int q), (2, .int came)]) hx hb dX0_wayOut_78 hl (by decide) rfl (fun ls hl => ?_)
      refine lv_aload_n hx hb dX0_wayOut_80 rfl (lv_at hl 2 rfl) ?_
      refine va_get (D := D) (ci := 0) (v := .ref (a 3)) (C := RX0) (T := TX0) (N := 9) hx hb hts iw_X0_wayOut_X0 hown hK hP 0 rfl rfl 2 (by decide) (hts (.fieldLink RX0 18 "MarbleRamps$Machine" "states" "[I") (mg 2 rfl)) (fun _ h9 => h9) rfl dX0_wayOut_81 ?_
      refine lv_iload_n hx hb dX0_wayOut_84 rfl (lv_at hl 3 rfl) ?_
      refine lv_iload hx hb dX0_wayOut_85 (lv_at hl 0 rfl) ?_
      refine lv_if_eq (tgt := 94) hx hb dX0_wayOut_87 (by decide) (fun c9 => absurd c9 (by decide)) (fun _ => ?_)
      refine lv_iconst (v := 0) hx hb dX0_wayOut_90 (by decide) ?_
      refine lv_goto (tgt := 95) hx hb dX0_wayOut_91 (by decide) ?_
      refine kQNv (As := [.ref (a 3), .int q, .int 0]) (rest := []) (wr := [(a 0, .inr (0, [.ref (a 1), .ref (a 2), .ref (a 3), .ref (a 4), .ref (a 5), .ref (a 6), .int C, .int R, .int lo])), (a 1, .inl (cI, 72, .inl pa)), (a 2, .inl (cI, 72, .inl pe)), (a 4, .inl (cI, 9, .inl bn)), (a 5, .inl (cI, 2, .inl hc)), (a 6, .inl (cI, 2, .inl hm))]) (W2 := (fun _ => (wM cI a pa pe ((xsc 72 st q 0)) bn hc hm C R lo))) ⟨hx, hb, hml, hown, hts⟩ (mX1_setCell l D cI (a 3) st 72 (by decide) q 0 _) ⟨va_cnB (host := RX1) 3 hts gX0_wayOut_X1_setCell_n53 rfl rfl rfl hN.1 (hts (.initialized RX1) (mg 5 rfl)) (by decide +kernel) ⟨Nat.le_of_ble_eq_true rfl, Nat.le_of_ble_eq_true rfl⟩, hts (.static yX1_setCell) (mg 7 rfl), trivial⟩ hP hD hK hN hS hA [3] (by decide) rfl [0, 1, 2, 4, 5, 6] (by decide) rfl (by decide) [0, 1, 2, 6, 3, 4, 5] (by decide) (fun _ => rfl) [0] rfl rfl hl.1 rfl (Nat.le_of_ble_eq_true rfl) dX0_wayOut_95 ⟨Nat.le_of_ble_eq_true rfl, Nat.le_of_ble_eq_true rfl⟩ (fun u_19 H locs hr_19 hP hD hS => ?_)
      have hP : va_P D vwCl (wM cI a pa pe ((xsc 72 st q 0)) bn hc hm C R lo) H := hP
      have hD : va_D (va_A (wM cI a pa pe st bn hc hm C R lo) sz) (wM cI a pa pe ((xsc 72 st q 0)) bn hc hm C R lo) := hD
      refine lv_iload hx hb dX0_wayOut_98 (lv_at hl 0 rfl) ?_
      refine lv_if_eq (tgt := 107) hx hb dX0_wayOut_100 (by decide) (fun c9 => absurd c9 (by decide)) (fun _ => ?_)
      refine lv_iconst (v := 1) hx hb dX0_wayOut_103 (by decide) ?_
      refine lv_goto (tgt := 108) hx hb dX0_wayOut_104 (by decide) ?_
      have hP : va_P D vwCl (wM cI a pa pe ((xWay pa pe st q came).2) bn hc hm C R lo) H := by simp [xWay, xWayS, c_2, c_14]; exact hP
      have hD : va_D (va_A (wM cI a pa pe st bn hc hm C R lo) sz) (wM cI a pa pe ((xWay pa pe st q came).2) bn hc hm C R lo) := by simp [xWay, xWayS, c_2, c_14]; exact hD
      exact eQi () hx hb hr hlocks hP hD hK hS dX0_wayOut_108 (by simp [xWay, xWayS, c_2, c_14])
  · refine lv_tableOut (tgt := 109) hx hb dX0_wayOut_8 c_2.1 (by decide) ?_
    refine lv_iconst (v := 0) hx hb dX0_wayOut_109 (by decide) ?_
    have hP : va_P D vwCl (wM cI a pa pe ((xWay pa pe st q came).2) bn hc hm C R lo) s.heap := by simp [xWay, xWayS, c_2]; exact hP
    have hD : va_D (va_A (wM cI a pa pe st bn hc hm C R lo) sz) (wM cI a pa pe ((xWay pa pe st q came).2) bn hc hm C R lo) := by simp [xWay, xWayS, c_2]; exact hD
    exact eQi () hx hb hr hlocks hP hD hK hS dX0_wayOut_110 (by simp [xWay, xWayS, c_2])
