set_option maxHeartbeats 4000000 in
set_option maxRecDepth 100000 in
theorem mL_act (l : Launch) (hst : l.stackTraces = false) (D : va_G) (cI c2 c3 : ClassId) (x : Nat) (a b v rw_ : Nat → Nat) (ow : Nat → Nat → Nat) (cN rN : Nat) (pa pe pd st bn hc hm : Nat → Int32) (lo tn : Int32) (hI : PI cN rN pa pe pd st bn hc hm) (xx : Int32) (sz : Nat) : Met l yL_act wsL_act ({ frames := 9, cells := 84, slots := 310, locals := 156 } : Room) (va_Pc [.ref x, .ref (v 0), .int xx] (fun U => wPQ D [(cI, .int), (c2, .array .int), (c3, .array (.array .int))] sz (wX x a b ++ wM cI a pa pe st bn hc hm ((nI cN)) ((nI rN)) lo ++ wS cI c2 c3 v rw_ ow cN rN pa pd st bn hc hm lo tn) U ∧ K2A cI c2 c3 U)) (va_Qi (fun (zz : Int32) (u : LQ) => zz = 1 ∧ PIq u ∧ u.2.2.2.2.2.2.2.2.2.2.2.1 0 = v 0) (wB D [(cI, .int), (c2, .array .int), (c3, .array (.array .int))] (va_A (wX x a b ++ wM cI a pa pe st bn hc hm ((nI cN)) ((nI rN)) lo ++ wS cI c2 c3 v rw_ ow cN rN pa pd st bn hc hm lo tn) sz) (lsW cI c2 c3 x a b)) (va_A (wX x a b ++ wM cI a pa pe st bn hc hm ((nI cN)) ((nI rN)) lo ++ wS cI c2 c3 v rw_ ow cN rN pa pd st bn hc hm lo tn) sz)) 84 310 (va_A (wX x a b ++ wM cI a pa pe st bn hc hm ((nI cN)) ((nI rN)) lo ++ wS cI c2 c3 v rw_ ow cN rN pa pd st bn hc hm lo tn) sz) := by
  refine mW_of (K2 := fun U => K2A cI c2 c3 U) (hh := actT) (by decide) rfl (Nat.le_of_ble_eq_true rfl) ?_
  intro p e s m below meth c hx hb hr hml hown htb hts hlocks hsz hP hK hN hD hK2 hA hS ls hl
  obtain ⟨hG, hX, hZ⟩ := hK2
  have hown : s.vm.findClass RL = some m.cls := hown
  have h2 := hI.c2
  have h9 := hI.c9
  have h1r := hI.r1
  have h8 := hI.r8
  have hl : lv_has ls 12 [(0, .ref x), (1, .ref (v 0)), (2, .int xx)] := hl
  have F : AC p l s m meth c D cI c2 c3 #[Value.ref x, .ref (v 0), .int xx] (va_A (wX x a b ++ wM cI a pa pe st bn hc hm ((nI cN)) ((nI rN)) lo ++ wS cI c2 c3 v rw_ ow cN rN pa pd st bn hc hm lo tn) sz) := ⟨hx, hb, hr, hml, hown, hts, hlocks, hK, hN, hG, hX, hZ, hA, htb, hst⟩
  have hP : va_P D vwCl (wX x a b ++ wM cI a pa pe st bn hc hm ((nI cN)) ((nI rN)) lo ++ wS cI c2 c3 v rw_ ow cN rN pa pd st bn hc hm lo tn) s.heap := hP
  refine lv_iload_n hx hb dL_act_0 rfl (lv_at hl 2 rfl) ?_
  refine lv_iconst (v := 4) hx hb dL_act_1 (by decide) ?_
  refine lv_ishr hx hb dL_act_2 ?_
  refine lv_aload_n hx hb dL_act_3 rfl (lv_at hl 1 rfl) ?_
  refine va_get (D := D) (ci := 2) (v := .ref (v 1)) (C := RX2) (T := TX2) (N := 6) hx hb hts iw_L_act_X2 hown hK hP 8 rfl rfl 1 (by decide) (hts (.fieldLink RL 9 "MarbleRampsLaw$Sim" "bins" "[I") (mg 2 rfl)) (fun _ h9 => h9) rfl dL_act_4 ?_
  refine va_alen hx hb hK hP 9 0 rfl rfl (v := (nI cN)) rfl dL_act_7 ?_
  refine kBelow (v := (xx >>> (4 &&& 31))) (n := cN) (by omega) (by omega) ⟨hx, hb, hml, hown, hts⟩ (va_cwS 2 hts gL_act_L_below rfl rfl rfl (by decide +kernel) ⟨Nat.le_of_ble_eq_true rfl, Nat.le_of_ble_eq_true rfl⟩) hK hN hl.1 (Nat.le_of_ble_eq_true rfl) dL_act_8 ⟨Nat.zero_le _, Nat.zero_le _⟩ (fun b_1 hb_1 => ?_)
  refine lv_istore_n (lv' := [(3, .int (nI b_1)), (0, .ref x), (1, .ref (v 0)), (2, .int xx)]) hx hb dL_act_11 rfl hl (by decide) rfl (fun ls hl => ?_)
  obtain ⟨j, hj, ej⟩ : ∃ j, j < cN ∧ j = b_1 := ⟨_, hb_1, rfl⟩
  subst ej
  refine lv_iload_n hx hb dL_act_12 rfl (lv_at hl 3 rfl) ?_
  refine lv_bipush (v := 7) hx hb dL_act_13 (by decide) ?_
  refine lv_ishr hx hb dL_act_15 ?_
  refine lv_aload_n hx hb dL_act_16 rfl (lv_at hl 2 rfl) ?_
  refine va_get (D := D) (ci := 2) (v := .ref (v 4)) (C := RX2) (T := TX2) (N := 6) hx hb hts iw_L_act_X2 hown hK hP 8 rfl rfl 0 (by decide) (hts (.fieldLink RL 21 "MarbleRampsLaw$Sim" "board" "[[[I") (mg 3 rfl)) (fun _ h9 => h9) rfl dL_act_17 ?_
  refine va_alen hx hb hK hP 12 2 rfl rfl (v := (nI rN)) rfl dL_act_20 ?_
  refine kBelow (v := (xx >>> (7 &&& 31))) (n := rN) (by omega) (by omega) ⟨hx, hb, hml, hown, hts⟩ (va_cwS 2 hts gL_act_L_below rfl rfl rfl (by decide +kernel) ⟨Nat.le_of_ble_eq_true rfl, Nat.le_of_ble_eq_true rfl⟩) hK hN hl.1 (Nat.le_of_ble_eq_true rfl) dL_act_21 ⟨Nat.zero_le _, Nat.zero_le _⟩ (fun b_2 hb_2 => ?_)
  refine lv_istore (lv' := [(4, .int (nI b_2)), (3, .int (nI j)), (0, .ref x), (1, .ref (v 0)), (2, .int xx)]) hx hb dL_act_24 hl (by decide) rfl (fun ls hl => ?_)
  obtain ⟨k, hk, ek⟩ : ∃ k, k < rN ∧ k = b_2 := ⟨_, hb_2, rfl⟩
  subst ek
  refine lv_aload_n hx hb dL_act_26 rfl (lv_at hl 3 rfl) ?_
  refine va_get (D := D) (ci := 2) (v := .ref (v 4)) (C := RX2) (T := TX2) (N := 6) hx hb hts iw_L_act_X2 hown hK hP 8 rfl rfl 0 (by decide) (hts (.fieldLink RL 21 "MarbleRampsLaw$Sim" "board" "[[[I") (mg 3 rfl)) (fun _ h9 => h9) rfl dL_act_27 ?_
  refine lv_iload hx hb dL_act_30 (lv_at hl 0 rfl) ?_
  refine sLdR (r := k) (g := rw_) hx hb hK hP 2 rfl (List.mem_append_right _ (List.mem_cons_of_mem _ (List.mem_cons_of_mem _ (List.mem_cons_of_mem _ (List.mem_cons_of_mem _ List.mem_cons_self))))) (by omega) (by omega) dL_act_32 ?_
  refine lv_iload_n hx hb dL_act_33 rfl (lv_at hl 1 rfl) ?_
  refine sLdR (r := j) (g := fun j => ow k j) hx hb hK hP 1 rfl (List.mem_append_right _ (sRow_m (by omega))) (by omega) (by omega) dL_act_34 ?_
  refine lv_astore (lv' := [(5, .ref (ow k j)), (4, .int (nI k)), (3, .int (nI j)), (0, .ref x), (1, .ref (v 0)), (2, .int xx)]) hx hb dL_act_35 hl (by decide) rfl (fun ls hl => ?_)
  refine lv_iconst (v := 1) hx hb dL_act_37 (by decide) ?_
  refine lv_istore (lv' := [(6, .int 1), (5, .ref (ow k j)), (4, .int (nI k)), (3, .int (nI j)), (0, .ref x), (1, .ref (v 0)), (2, .int xx)]) hx hb dL_act_38 hl (by decide) rfl (fun ls hl => ?_)
  refine lv_iload_n hx hb dL_act_40 rfl (lv_at hl 6 rfl) ?_
  refine lv_bipush (v := 16) hx hb dL_act_41 (by decide) ?_
  refine kBelow (v := xx) (n := 16) (by omega) (by omega) ⟨hx, hb, hml, hown, hts⟩ (va_cwS 2 hts gL_act_L_below rfl rfl rfl (by decide +kernel) ⟨Nat.le_of_ble_eq_true rfl, Nat.le_of_ble_eq_true rfl⟩) hK hN hl.1 (Nat.le_of_ble_eq_true rfl) dL_act_43 ⟨Nat.zero_le _, Nat.zero_le _⟩ (fun b_3 hb_3 => ?_)
  have hl : lv_has ls 12 [(6, .int 1), (5, .ref (ow k j)), (4, .int (nI k)), (3, .int (nI j)), (2, .int xx), (1, .ref (v 0)), (0, .ref x)] := lv_sub hl [0, 1, 2, 3, 6, 5, 4] rfl
  rcases (show b_3 = 0 ∨ b_3 = 1 ∨ b_3 = 2 ∨ b_3 = 3 ∨ b_3 = 4 ∨ b_3 = 5 ∨ b_3 = 6 ∨ b_3 = 7 ∨ b_3 = 8 ∨ b_3 = 9 ∨ b_3 = 10 ∨ b_3 = 11 ∨ b_3 = 12 ∨ b_3 = 13 ∨ b_3 = 14 ∨ b_3 = 15 by omega) with rfl | rfl | rfl | rfl | rfl | rfl | rfl | rfl | rfl | rfl | rfl | rfl | rfl | rfl | rfl | rfl
  · refine lv_tableIn (tgt := 112) (off := 66) hx hb dL_act_46 (by decide) (by decide) (by rfl) (by decide) ?_
    exact ac_lay F hI hP hD hS hk hj hl
  · refine lv_tableIn (tgt := 179) (off := 133) hx hb dL_act_46 (by decide) (by decide) (by rfl) (by decide) ?_
    exact ac_put F hI hP hD hS hk hj hl
  · refine lv_tableIn (tgt := 179) (off := 133) hx hb dL_act_46 (by decide) (by decide) (by rfl) (by decide) ?_
    exact ac_put F hI hP hD hS hk hj hl
  · refine lv_tableIn (tgt := 179) (off := 133) hx hb dL_act_46 (by decide) (by decide) (by rfl) (by decide) ?_
    exact ac_put F hI hP hD hS hk hj hl
  · refine lv_tableIn (tgt := 179) (off := 133) hx hb dL_act_46 (by decide) (by decide) (by rfl) (by decide) ?_
    exact ac_put F hI hP hD hS hk hj hl
  · refine lv_tableIn (tgt := 179) (off := 133) hx hb dL_act_46 (by decide) (by decide) (by rfl) (by decide) ?_
    exact ac_put F hI hP hD hS hk hj hl
  · refine lv_tableIn (tgt := 255) (off := 209) hx hb dL_act_46 (by decide) (by decide) (by rfl) (by decide) ?_
    exact ac_cnt F hI hP hD hS hk hj hl
  · refine lv_tableIn (tgt := 319) (off := 273) hx hb dL_act_46 (by decide) (by decide) (by rfl) (by decide) ?_
    by_cases e0 : pa (k * cN + j) = 3
    · rcases (tog_v (hI.ok _ (pl_lt hk hj)) e0).2 with e2 | e2
      · exact ac_turn0 F hI hP hD hS hk hj e0 e2 hl
      · exact ac_turn1 F hI hP hD hS hk hj e0 e2 hl
    · exact ac_turnN F hI hP hD hS hk hj e0 hl
  · refine lv_tableIn (tgt := 383) (off := 337) hx hb dL_act_46 (by decide) (by decide) (by rfl) (by decide) ?_
    exact ac_hop F hI hP hD hS hk hj hl
  · refine lv_tableIn (tgt := 383) (off := 337) hx hb dL_act_46 (by decide) (by decide) (by rfl) (by decide) ?_
    exact ac_hop F hI hP hD hS hk hj hl
  · refine lv_tableIn (tgt := 451) (off := 405) hx hb dL_act_46 (by decide) (by decide) (by rfl) (by decide) ?_
    exact ac_run F hI hP hD hS hk hj hl
  · refine lv_tableIn (tgt := 451) (off := 405) hx hb dL_act_46 (by decide) (by decide) (by rfl) (by decide) ?_
    exact ac_run F hI hP hD hS hk hj hl
  · refine lv_tableIn (tgt := 499) (off := 453) hx hb dL_act_46 (by decide) (by decide) (by rfl) (by decide) ?_
    exact ac_emp F hI hP hD hS hk hj hl
  · refine lv_tableOut (tgt := 569) hx hb dL_act_46 (by decide) (by decide) ?_
    exact ac_drop F hI hP hD hS hk hj hl
  · refine lv_tableOut (tgt := 569) hx hb dL_act_46 (by decide) (by decide) ?_
    exact ac_drop F hI hP hD hS hk hj hl
  · refine lv_tableOut (tgt := 569) hx hb dL_act_46 (by decide) (by decide) ?_
    exact ac_drop F hI hP hD hS hk hj hl
