theorem iw_X2_hasSame_X2 : ∀ w ∈ wsX20, w ∈ wsX2_hasSame := mem_pos [3, 4, 5, 6, 7, 8] (by decide +kernel)
set_option maxHeartbeats 4000000 in
set_option maxRecDepth 100000 in
theorem mX2_hasSame (l : Launch) (D : va_G) (cI : ClassId) (c2 c3 : ClassId) (v rw_ : Nat → Nat) (ow : Nat → Nat → Nat) (cN rN : Nat) (pa pd st bn hc hm : Nat → Int32) (lo tn : Int32) (v2 rw_2 : Nat → Nat) (ow2 : Nat → Nat → Nat) (pa2 pd2 st2 bn2 hc2 hm2 : Nat → Int32) (lo2 tn2 : Int32) (h9 : cN ≤ 9) (h8 : rN ≤ 8) : Met l yX2_hasSame wsX2_hasSame ({ frames := 0, cells := 0, slots := 0, locals := 0 } : Room) (va_Pc [.ref (v 0), .ref (v2 0)] (wPR D [(cI, .int), (c2, .array .int), (c3, .array (.array .int))] (wS cI c2 c3 v rw_ ow cN rN pa pd st bn hc hm lo tn ++ wS cI c2 c3 v2 rw_2 ow2 cN rN pa2 pd2 st2 bn2 hc2 hm2 lo2 tn2))) (vp_Si (fun zz : Int32 => zz = bi (sSame (rN * cN) st st2))) 0 0 (fun _ => False) := by
  refine mR_of (by decide) rfl (Nat.le_of_ble_eq_true rfl) ?_
  intro p e s m below meth c hx hb hr hml hown hts hlocks hP hK hN ls hl
  have hown : s.vm.findClass RX2 = some m.cls := hown
  have hl : lv_has ls 4 [(0, .ref (v 0)), (1, .ref (v2 0))] := hl
  have hPa := hP.left
  have hPb := hP.right
  have hP := hPa
  refine lv_iconst (v := 0) hx hb dX2_hasSame_0 (by decide) ?_
  refine lv_istore_n (lv' := [(2, .int 0), (0, .ref (v 0)), (1, .ref (v2 0))]) hx hb dX2_hasSame_1 rfl hl (by decide) rfl (fun ls hl => ?_)
  have L2 : ∀ (n k : Nat), k + n = rN → (∀ p, p < k * cN → st p = st2 p) → ∀ ls : Array Slot, lv_has ls 4 [(2, .int (nI k)), (0, .ref (v 0)), (1, .ref (v2 0))] → W p l e ({ frames := 0, cells := 0, slots := 0, locals := 0 } : Room) s m [.ref (v 0), .ref (v2 0)].toArray below meth c s.heap [] 0 0 (MQ below (vp_Si (fun zz : Int32 => zz = bi (sSame (rN * cN) st st2))) [.ref (v 0), .ref (v2 0)].toArray s 0 0 (fun _ => False)) (F0 m 2 ls []) := by
    intro n
    induction n with
    | zero =>
      intro k hkn2 hsm ls hl
      refine lv_iload_n hx hb dX2_hasSame_2 rfl (lv_at hl 0 rfl) ?_
      have hP : va_P D vwCl (wS cI c2 c3 v rw_ ow cN rN pa pd st bn hc hm lo tn) s.heap := hPa
      refine lv_aload_n hx hb dX2_hasSame_3 rfl (lv_at hl 1 rfl) ?_
      refine va_get (D := D) (ci := 2) (v := .ref (v 4)) (C := RX2) (T := TX2) (N := 6) hx hb hts iw_X2_hasSame_X2 hown hK hP 0 rfl rfl 0 (by decide) (hts (.fieldLink RX2 9 "MarbleRampsLaw$Sim" "board" "[[[I") (mg 1 rfl)) (fun _ h9 => h9) rfl dX2_hasSame_4 ?_
      refine va_alen hx hb hK hP 4 2 rfl rfl (v := (nI rN)) rfl dX2_hasSame_7 ?_
      refine lv_icmp_ge (tgt := 59) hx hb dX2_hasSame_8 (by decide) (fun c_1 => ?_) (fun c9 => absurd (nI_le (by omega) (by omega)) c9)
      refine lv_iconst (v := 1) hx hb dX2_hasSame_59 (by decide) ?_
      exact eRz hx hb hr hlocks dX2_hasSame_60 (Or.inr rfl) (by rw [same_t hsm (by rw [show k = rN by omega]; exact Nat.le_refl _)]; rfl)
    | succ n ih2 =>
      intro k hkn2 hsm ls hl
      refine lv_iload_n hx hb dX2_hasSame_2 rfl (lv_at hl 0 rfl) ?_
      have hP : va_P D vwCl (wS cI c2 c3 v rw_ ow cN rN pa pd st bn hc hm lo tn) s.heap := hPa
      refine lv_aload_n hx hb dX2_hasSame_3 rfl (lv_at hl 1 rfl) ?_
      refine va_get (D := D) (ci := 2) (v := .ref (v 4)) (C := RX2) (T := TX2) (N := 6) hx hb hts iw_X2_hasSame_X2 hown hK hP 0 rfl rfl 0 (by decide) (hts (.fieldLink RX2 9 "MarbleRampsLaw$Sim" "board" "[[[I") (mg 1 rfl)) (fun _ h9 => h9) rfl dX2_hasSame_4 ?_
      refine va_alen hx hb hK hP 4 2 rfl rfl (v := (nI rN)) rfl dX2_hasSame_7 ?_
      refine lv_icmp_ge (tgt := 59) hx hb dX2_hasSame_8 (by decide) (fun c9 => absurd c9 (nI_ge (by omega) (by omega))) (fun c_2 => ?_)
      refine lv_iconst (v := 0) hx hb dX2_hasSame_11 (by decide) ?_
      refine lv_istore_n (lv' := [(3, .int 0), (2, .int (nI k)), (0, .ref (v 0)), (1, .ref (v2 0))]) hx hb dX2_hasSame_12 rfl hl (by decide) rfl (fun ls hl => ?_)
      have L13 : ∀ (n2 j : Nat), j + n2 = cN → (∀ p, p < k * cN + j → st p = st2 p) → ∀ ls : Array Slot, lv_has ls 4 [(3, .int (nI j)), (2, .int (nI k)), (0, .ref (v 0)), (1, .ref (v2 0))] → W p l e ({ frames := 0, cells := 0, slots := 0, locals := 0 } : Room) s m [.ref (v 0), .ref (v2 0)].toArray below meth c s.heap [] 0 0 (MQ below (vp_Si (fun zz : Int32 => zz = bi (sSame (rN * cN) st st2))) [.ref (v 0), .ref (v2 0)].toArray s 0 0 (fun _ => False)) (F0 m 13 ls []) := by
        intro n2
        induction n2 with
        | zero =>
          intro j hkn13 hsj ls hl
          refine lv_iload_n hx hb dX2_hasSame_13 rfl (lv_at hl 0 rfl) ?_
          have hP : va_P D vwCl (wS cI c2 c3 v rw_ ow cN rN pa pd st bn hc hm lo tn) s.heap := hPa
          refine lv_aload_n hx hb dX2_hasSame_14 rfl (lv_at hl 2 rfl) ?_
          refine va_get (D := D) (ci := 2) (v := .ref (v 1)) (C := RX2) (T := TX2) (N := 6) hx hb hts iw_X2_hasSame_X2 hown hK hP 0 rfl rfl 1 (by decide) (hts (.fieldLink RX2 14 "MarbleRampsLaw$Sim" "bins" "[I") (mg 2 rfl)) (fun _ h9 => h9) rfl dX2_hasSame_15 ?_
          refine va_alen hx hb hK hP 1 0 rfl rfl (v := (nI cN)) rfl dX2_hasSame_18 ?_
          refine lv_icmp_ge (tgt := 53) hx hb dX2_hasSame_19 (by decide) (fun c_3 => ?_) (fun c9 => absurd (nI_le (by omega) (by omega)) c9)
          refine lv_iinc (v := (nI (k + 1))) (lv' := [(2, .int (nI (k + 1))), (3, .int (nI j)), (0, .ref (v 0)), (1, .ref (v2 0))]) hx hb dX2_hasSame_53 hl (k := 1) rfl (nI_1 k) (by decide) rfl (fun ls hl => ?_)
          refine lv_goto (tgt := 2) hx hb dX2_hasSame_56 (by decide) ?_
          exact ih2 (k + 1)  (by omega) (fun p hp => hsj p (by rw [Nat.succ_mul] at hp; omega)) ls (lv_sub hl [0, 2, 3] rfl)
        | succ n2 ih13 =>
          intro j hkn13 hsj ls hl
          refine lv_iload_n hx hb dX2_hasSame_13 rfl (lv_at hl 0 rfl) ?_
          have hP : va_P D vwCl (wS cI c2 c3 v rw_ ow cN rN pa pd st bn hc hm lo tn) s.heap := hPa
          refine lv_aload_n hx hb dX2_hasSame_14 rfl (lv_at hl 2 rfl) ?_
          refine va_get (D := D) (ci := 2) (v := .ref (v 1)) (C := RX2) (T := TX2) (N := 6) hx hb hts iw_X2_hasSame_X2 hown hK hP 0 rfl rfl 1 (by decide) (hts (.fieldLink RX2 14 "MarbleRampsLaw$Sim" "bins" "[I") (mg 2 rfl)) (fun _ h9 => h9) rfl dX2_hasSame_15 ?_
          refine va_alen hx hb hK hP 1 0 rfl rfl (v := (nI cN)) rfl dX2_hasSame_18 ?_
          refine lv_icmp_ge (tgt := 53) hx hb dX2_hasSame_19 (by decide) (fun c9 => absurd c9 (nI_ge (by omega) (by omega))) (fun c_4 => ?_)
          have hP : va_P D vwCl (wS cI c2 c3 v rw_ ow cN rN pa pd st bn hc hm lo tn) s.heap := hPa
          refine lv_aload_n hx hb dX2_hasSame_22 rfl (lv_at hl 2 rfl) ?_
          refine va_get (D := D) (ci := 2) (v := .ref (v 4)) (C := RX2) (T := TX2) (N := 6) hx hb hts iw_X2_hasSame_X2 hown hK hP 0 rfl rfl 0 (by decide) (hts (.fieldLink RX2 9 "MarbleRampsLaw$Sim" "board" "[[[I") (mg 1 rfl)) (fun _ h9 => h9) rfl dX2_hasSame_23 ?_
          refine lv_iload_n hx hb dX2_hasSame_26 rfl (lv_at hl 1 rfl) ?_
          refine sLdR (r := k) (g := rw_) hx hb hK hP 2 rfl (List.mem_cons_of_mem _ (List.mem_cons_of_mem _ (List.mem_cons_of_mem _ (List.mem_cons_of_mem _ List.mem_cons_self)))) (by omega) (by omega) dX2_hasSame_27 ?_
          refine lv_iload_n hx hb dX2_hasSame_28 rfl (lv_at hl 0 rfl) ?_
          refine sLdR (r := j) (g := fun j => ow k j) hx hb hK hP 1 rfl (sRow_m (by omega)) (by omega) (by omega) dX2_hasSame_29 ?_
          refine lv_iconst (v := 2) hx hb dX2_hasSame_30 (by decide) ?_
          refine sLdI (j := 2) hx hb hK hP 0 rfl (sCell_m (by omega) (by omega)) (by decide) (by decide) dX2_hasSame_31 ?_
          have hP : va_P D vwCl (wS cI c2 c3 v2 rw_2 ow2 cN rN pa2 pd2 st2 bn2 hc2 hm2 lo2 tn2) s.heap := hPb
          refine lv_aload_n hx hb dX2_hasSame_32 rfl (lv_at hl 3 rfl) ?_
          refine va_get (D := D) (ci := 2) (v := .ref (v2 4)) (C := RX2) (T := TX2) (N := 6) hx hb hts iw_X2_hasSame_X2 hown hK hP 0 rfl rfl 0 (by decide) (hts (.fieldLink RX2 9 "MarbleRampsLaw$Sim" "board" "[[[I") (mg 1 rfl)) (fun _ h9 => h9) rfl dX2_hasSame_33 ?_
          refine lv_iload_n hx hb dX2_hasSame_36 rfl (lv_at hl 1 rfl) ?_
          refine sLdR (r := k) (g := rw_2) hx hb hK hP 2 rfl (List.mem_cons_of_mem _ (List.mem_cons_of_mem _ (List.mem_cons_of_mem _ (List.mem_cons_of_mem _ List.mem_cons_self)))) (by omega) (by omega) dX2_hasSame_37 ?_
          refine lv_iload_n hx hb dX2_hasSame_38 rfl (lv_at hl 0 rfl) ?_
          refine sLdR (r := j) (g := fun j => ow2 k j) hx hb hK hP 1 rfl (sRow_m (by omega)) (by omega) (by omega) dX2_hasSame_39 ?_
          refine lv_iconst (v := 2) hx hb dX2_hasSame_40 (by decide) ?_
          refine sLdI (j := 2) hx hb hK hP 0 rfl (sCell_m (by omega) (by omega)) (by decide) (by decide) dX2_hasSame_41 ?_
          refine lv_icmp_eq (tgt := 47) hx hb dX2_hasSame_42 (by decide) (fun c_5 => ?_) (fun c_5 => ?_)
          · refine lv_iinc (v := (nI (j + 1))) (lv' := [(3, .int (nI (j + 1))), (2, .int (nI k)), (0, .ref (v 0)), (1, .ref (v2 0))]) hx hb dX2_hasSame_47 hl (k := 0) rfl (nI_1 j) (by decide) rfl (fun ls hl => ?_)
            refine lv_goto (tgt := 13) hx hb dX2_hasSame_50 (by decide) ?_
            exact ih13 (j + 1)  (by omega) (fun p hp => by
        rcases Nat.lt_or_ge p (k * cN + j) with z | z
        · exact hsj p z
        · rw [show p = k * cN + j by omega]; exact c_5) ls (lv_sub hl [0, 1, 2, 3] rfl)
          · refine lv_iconst (v := 0) hx hb dX2_hasSame_45 (by decide) ?_
            exact eRz hx hb hr hlocks dX2_hasSame_46 (Or.inl rfl) (by rw [same_f (pl_lt (show k < rN by omega) (show j < cN by omega)) c_5]; rfl)
      exact L13 cN 0  (by omega) hsm ls (lv_sub hl [0, 1, 2, 3] rfl)
  exact L2 rN 0  (by omega) (fun p hp => absurd hp (by rw [Nat.zero_mul]; exact Nat.not_lt_zero _)) ls (lv_sub hl [0, 1, 2] rfl)
