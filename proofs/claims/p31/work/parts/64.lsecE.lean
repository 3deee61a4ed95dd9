theorem fall_0 (pa pe st : Nat → Int32) (C col : Int32) : (xFall pa pe st C col 0).1 = col := by
  unfold xFall
  rw [show (0 : Int32).toNatClampNeg = 0 from by decide]
  rfl
theorem nI_nm1 {n : Nat} (h : n < 2 ^ 31) : ¬ nI n < -1 := by
  rw [Int32.lt_iff_toInt_lt, nI_toInt h]
  have e2 : (-1 : Int32).toInt = -1 := by decide
  omega
theorem m1_ge {n : Nat} (h : n < 2 ^ 31) : ¬ nI n ≤ -1 := by
  rw [Int32.le_iff_toInt_le, nI_toInt h]
  have e2 : (-1 : Int32).toInt = -1 := by decide
  omega
theorem abs_ok {a b : Nat} (ha : a < 100) (hb : b < 100) (h1 : a ≤ b + 1) (h2 : b ≤ a + 1) : (if 0 ≤ nI a - nI b then nI a - nI b else 0 - (nI a - nI b)) ≤ 1 := by
  have e : (nI a - nI b).toInt = (a : Int) - b := pk_sub_toInt (by omega) (by omega)
  have e0 : (0 : Int32).toInt = 0 := by decide
  have e1 : (1 : Int32).toInt = 1 := by decide
  rcases (show a = b ∨ a = b + 1 ∨ b = a + 1 by omega) with rfl | rfl | rfl
  · have : nI a - nI a = 0 := Int32.toInt_inj.mp (by rw [e, e0]; omega)
    rw [this]; decide
  · have : nI (b + 1) - nI b = 1 := Int32.toInt_inj.mp (by rw [e, e1]; omega)
    rw [this]; decide
  · have : nI a - nI (a + 1) = -1 := Int32.toInt_inj.mp (by rw [e, show (-1 : Int32).toInt = -1 from by decide]; omega)
    rw [this]; decide
theorem last_0 {cN : Nat} {at_ las : Int32} (h : at_ = -1) (hl : (∃ j, j < cN ∧ at_ = nI j ∧ las = nI j) ∨ (at_ = -1 ∧ (las = 0 ∨ las = nI cN - 1))) (hc : cN < 100 := by omega) : (∃ j, j < cN ∧ (-1 : Int32) = nI j ∧ las = nI j) ∨ ((-1 : Int32) = -1 ∧ (las = 0 ∨ las = nI cN - 1)) := by
  rcases hl with ⟨j, hj, e, _⟩ | ⟨_, e⟩
  · rw [h] at e
    exact absurd e.symm (nI_m1 (by omega))
  · exact Or.inr ⟨rfl, e⟩
theorem last_1 {cN j1 : Nat} {at_ las : Int32} (hc : cN < 100) (h : at_ = nI j1) (hl : (∃ j, j < cN ∧ at_ = nI j ∧ las = nI j) ∨ (at_ = -1 ∧ (las = 0 ∨ las = nI cN - 1))) (hr : j1 = 0 ∨ j1 = cN - 1) (hj1 : j1 < cN := by omega) : (∃ j, j < cN ∧ (-1 : Int32) = nI j ∧ las = nI j) ∨ ((-1 : Int32) = -1 ∧ (las = 0 ∨ las = nI cN - 1)) := by
  refine Or.inr ⟨rfl, ?_⟩
  rcases hl with ⟨j, hj, e, e2⟩ | ⟨e, _⟩
  · rw [h] at e
    have e3 := nI_inj (by omega) (by omega) e
    rw [e2, ← e3]
    rcases hr with rfl | rfl
    · exact Or.inl rfl
    · refine Or.inr ?_
      obtain ⟨i, rfl⟩ : ∃ i, cN = i + 1 := ⟨cN - 1, by omega⟩
      rw [Nat.add_sub_cancel]
      exact (nI_pred i).symm
  · rw [h] at e
    exact absurd e (nI_m1 (by omega))
set_option maxHeartbeats 4000000 in
set_option maxRecDepth 100000 in
theorem lw_D {p : Program} {l : Launch} {e : Env} {s : State} {m : MethodId} {below : List Frame} {meth : Method} {c : Code} {Q : State → Prop} {D : va_G} {cI c2 c3 : ClassId} {x b0 L : Nat} {a b v rw_ : Nat → Nat} {ow : Nat → Nat → Nat} {xs : Nat → Int32} {A : Nat → Prop} {cells slots : Nat} {cN rN : Nat} {pa pe pd st bn hc hm : Nat → Int32} {lo tn : Int32} {ta te ts tb tc tm : Nat → Int32} {tC tR tl : Int32} {H : Heap} {locs : List Loc} {ls : Array Slot} {xx tw : Int32} {bf : Int64}  {be : Nat} (F : LC2 p l s m b0 c D cI c2 c3 L xs A) (hI : PI cN rN pa pe pd st bn hc hm) (hcl : cells + 2000 ≤ room_1.cells) (hsl : slots + 20000 ≤ room_1.slots) (hbe : xBest pa pe st (nI cN) (nI rN) = nI be) (hbl : be < cN) (hP : va_P D vwCl (wX x a b ++ wM cI a pa pe st bn hc hm ((nI cN)) ((nI rN)) lo ++ wS cI c2 c3 v rw_ ow cN rN pa pd st bn hc hm lo tn ++ wM cI b ta te ts tb tc tm tC tR tl) H) (hD : va_D A (wX x a b ++ wM cI a pa pe st bn hc hm ((nI cN)) ((nI rN)) lo ++ wS cI c2 c3 v rw_ ow cN rN pa pd st bn hc hm lo tn ++ wM cI b ta te ts tb tc tm tC tR tl)) (hS : va_S A s.heap H locs) (hl : lv_has ls 27 [(9, .int (nI (tg pa (rN * cN)))), (8, .int (nI rN)), (7, .int (nI cN)), (5, .long bf), (4, .int xx), (3, .int tw), (2, .ref (v 0)), (1, .ref x), (0, .ref b0)]) (K : ∀ (ta te ts tb tc tm : Nat → Int32) (tC tR tl : Int32) (H : Heap) (locs : List Loc) (ls : Array Slot), va_P D vwCl (wX x a b ++ wM cI a pa pe st bn hc hm ((nI cN)) ((nI rN)) lo ++ wS cI c2 c3 v rw_ ow cN rN pa pd st bn hc hm lo tn ++ wM cI b ta te ts tb tc tm tC tR tl) H → va_D A (wX x a b ++ wM cI a pa pe st bn hc hm ((nI cN)) ((nI rN)) lo ++ wS cI c2 c3 v rw_ ow cN rN pa pd st bn hc hm lo tn ++ wM cI b ta te ts tb tc tm tC tR tl) → va_S A s.heap H locs → lv_has ls 27 [(10, .int (nI be)), (9, .int (nI (tg pa (rN * cN)))), (8, .int (nI rN)), (7, .int (nI cN)), (5, .long bf), (4, .int xx), (3, .int tw), (2, .ref (v 0)), (1, .ref x), (0, .ref b0)] → W p l e room_1 s m #[Value.ref b0] below meth c H locs cells slots Q (F0 m 290 ls [])) : W p l e room_1 s m #[Value.ref b0] below meth c H locs cells slots Q (F0 m 261 ls []) := by
  obtain ⟨hx, hb, hml, hown, hts, hK, hN, hG, hX, hZ, hA, hXs, hb0l, hb0A, hst, hL, hNi, hL2⟩ := F
  have h2 := hI.c2
  have h9 := hI.c9
  have h1r := hI.r1
  have h8 := hI.r8
  refine lv_aload_n hx hb dL_law_261 rfl (lv_at hl 7 rfl) ?_
  refine kPVi (As := []) (rest := []) (Wr := (wS cI c2 c3 v rw_ ow cN rN pa pd st bn hc hm lo tn)) (W2 := (fun u : MS => (wX x a b ++ wM cI a pa pe st bn hc hm ((nI cN)) ((nI rN)) lo ++ wS cI c2 c3 v rw_ ow cN rN pa pd st bn hc hm lo tn ++ wM cI b u.1 u.2.1 u.2.2.1 u.2.2.2.1 u.2.2.2.2.1 u.2.2.2.2.2.1 u.2.2.2.2.2.2.1 u.2.2.2.2.2.2.2.1 u.2.2.2.2.2.2.2.2))) ⟨hx, hb, hml, hown, hts⟩ (mX1_bestColumn l D cI x a pa pe st bn hc hm (nI cN) (nI rN) lo b ta te ts tb tc tm tC tR tl _) (cwV 0 hts gL_law_X1_bestColumn rfl rfl rfl (by decide +kernel) ⟨Nat.le_of_ble_eq_true rfl, Nat.le_of_ble_eq_true rfl⟩) (preVQ hK hN (hP.pm (pmx_4_013 _ _ _ _)).left (hD.pm (pmx_4_013 _ _ _ _)).left [0] rfl rfl rfl) hP hD hS hA (pmx_4_013 _ _ _ _) (fun _ => (pmx_4_013 _ _ _ _).symm) rfl hl.1 rfl (Nat.le_of_ble_eq_true rfl) dL_law_262 ⟨by omega, by omega⟩ (fun r_1 u_1 H locs hr_1 hP hD hS => ?_)
  subst r_1
  have hP : va_P D vwCl (wX x a b ++ wM cI a pa pe st bn hc hm ((nI cN)) ((nI rN)) lo ++ wS cI c2 c3 v rw_ ow cN rN pa pd st bn hc hm lo tn ++ wM cI b u_1.1 u_1.2.1 u_1.2.2.1 u_1.2.2.2.1 u_1.2.2.2.2.1 u_1.2.2.2.2.2.1 u_1.2.2.2.2.2.2.1 u_1.2.2.2.2.2.2.2.1 u_1.2.2.2.2.2.2.2.2) H := hP
  have hD : va_D A (wX x a b ++ wM cI a pa pe st bn hc hm ((nI cN)) ((nI rN)) lo ++ wS cI c2 c3 v rw_ ow cN rN pa pd st bn hc hm lo tn ++ wM cI b u_1.1 u_1.2.1 u_1.2.2.1 u_1.2.2.2.1 u_1.2.2.2.2.1 u_1.2.2.2.2.2.1 u_1.2.2.2.2.2.2.1 u_1.2.2.2.2.2.2.2.1 u_1.2.2.2.2.2.2.2.2) := hD
  rw [hbe]
  refine lv_istore (lv' := [(10, .int (nI be)), (9, .int (nI (tg pa (rN * cN)))), (8, .int (nI rN)), (7, .int (nI cN)), (5, .long bf), (4, .int xx), (3, .int tw), (2, .ref (v 0)), (1, .ref x), (0, .ref b0)]) hx hb dL_law_265 hl (by decide) rfl (fun ls hl => ?_)
  refine lv_iload hx hb dL_law_267 (lv_at hl 1 rfl) ?_
  refine lv_aload_n hx hb dL_law_269 rfl (lv_at hl 8 rfl) ?_
  refine kRVi (As := []) (rest := [.int (nI (tg pa (rN * cN)))]) ⟨hx, hb, hml, hown, hts⟩ (mX1_toggles l D cI x b a pa pe st bn hc hm (nI cN) (nI rN) lo) (cwV 0 hts gL_law_X1_toggles rfl rfl rfl (by decide +kernel) ⟨Nat.le_of_ble_eq_true rfl, Nat.le_of_ble_eq_true rfl⟩) hP hK hN [0, 1, 2, 3, 4, 5, 6, 7] rfl [0] rfl rfl rfl rfl hl.1 rfl (Nat.le_of_ble_eq_true rfl) dL_law_270 ⟨by omega, by omega⟩ (fun r_2 hr_2 => ?_)
  subst r_2
  refine lv_icmp_ne (tgt := 288) hx hb dL_law_273 (by decide) (fun c9 => absurd (tog_all (pl_72 h8 h9) hI.z).symm c9) (fun c_3 => ?_)
  refine lv_iload hx hb dL_law_276 (lv_at hl 0 rfl) ?_
  refine lv_if_lt (tgt := 288) hx hb dL_law_278 (by decide) (fun c9 => absurd c9 (nI_pos (by omega))) (fun c_4 => ?_)
  refine lv_iload hx hb dL_law_281 (lv_at hl 0 rfl) ?_
  refine lv_iload hx hb dL_law_283 (lv_at hl 3 rfl) ?_
  refine lv_icmp_lt (tgt := 290) hx hb dL_law_285 (by decide) (fun c_5 => ?_) (fun c9 => absurd (nI_lt (by omega) (by omega)) c9)
  exact K u_1.1 u_1.2.1 u_1.2.2.1 u_1.2.2.2.1 u_1.2.2.2.2.1 u_1.2.2.2.2.2.1 u_1.2.2.2.2.2.2.1 u_1.2.2.2.2.2.2.2.1 u_1.2.2.2.2.2.2.2.2 _ _ _ hP hD hS (lv_sub hl [0, 1, 2, 3, 4, 5, 6, 7, 8, 9] rfl)
set_option maxHeartbeats 4000000 in
set_option maxRecDepth 100000 in
theorem lw_E2 {p : Program} {l : Launch} {e : Env} {s : State} {m : MethodId} {below : List Frame} {meth : Method} {c : Code} {Q : State → Prop} {D : va_G} {cI c2 c3 : ClassId} {x b0 L : Nat} {a b v rw_ : Nat → Nat} {ow : Nat → Nat → Nat} {xs : Nat → Int32} {A : Nat → Prop} {cells slots : Nat} {cN rN : Nat} {pa pe pd st bn hc hm : Nat → Int32} {lo tn : Int32} {ta te ts tb tc tm : Nat → Int32} {tC tR tl : Int32} {H : Heap} {locs : List Loc} {ls : Array Slot} {xx tw : Int32} {bf : Int64}  {be c1 : Nat} (F : LC2 p l s m b0 c D cI c2 c3 L xs A) (hI : PI cN rN pa pe pd st bn hc hm) (hcl : cells + 2000 ≤ room_1.cells) (hsl : slots + 20000 ≤ room_1.slots) (hc1 : c1 < cN) (hP : va_P D vwCl (wX x a b ++ wM cI a pa pe st bn hc hm ((nI cN)) ((nI rN)) lo ++ wS cI c2 c3 v rw_ ow cN rN pa pd st bn hc hm lo tn ++ wM cI b ta te ts tb tc tm tC tR tl) H) (hD : va_D A (wX x a b ++ wM cI a pa pe st bn hc hm ((nI cN)) ((nI rN)) lo ++ wS cI c2 c3 v rw_ ow cN rN pa pd st bn hc hm lo tn ++ wM cI b ta te ts tb tc tm tC tR tl)) (hS : va_S A s.heap H locs) (hl : lv_has ls 27 [(13, .int (nI c1)), (12, .int (nI c1)), (11, .int (nI c1)), (10, .int (nI be)), (9, .int (nI (tg pa (rN * cN)))), (8, .int (nI rN)), (7, .int (nI cN)), (5, .long bf), (4, .int xx), (3, .int tw), (2, .ref (v 0)), (1, .ref x), (0, .ref b0)]) (K : ∀ (ta te ts tb tc tm : Nat → Int32) (tC tR tl : Int32) (H : Heap) (locs : List Loc) (ls : Array Slot), va_P D vwCl (wX x a b ++ wM cI a pa pe st bn hc hm ((nI cN)) ((nI rN)) lo ++ wS cI c2 c3 v rw_ ow cN rN pa pd st bn hc hm lo tn ++ wM cI b ta te ts tb tc tm tC tR tl) H → va_D A (wX x a b ++ wM cI a pa pe st bn hc hm ((nI cN)) ((nI rN)) lo ++ wS cI c2 c3 v rw_ ow cN rN pa pd st bn hc hm lo tn ++ wM cI b ta te ts tb tc tm tC tR tl) → va_S A s.heap H locs → lv_has ls 27 [(11, .int (nI c1)), (10, .int (nI be)), (9, .int (nI (tg pa (rN * cN)))), (8, .int (nI rN)), (7, .int (nI cN)), (5, .long bf), (4, .int xx), (3, .int tw), (2, .ref (v 0)), (1, .ref x), (0, .ref b0)] → W p l e room_1 s m #[Value.ref b0] below meth c H locs cells slots Q (F0 m 493 ls [])) : W p l e room_1 s m #[Value.ref b0] below meth c H locs cells slots Q (F0 m 357 ls []) := by
  obtain ⟨hx, hb, hml, hown, hts, hK, hN, hG, hX, hZ, hA, hXs, hb0l, hb0A, hst, hL, hNi, hL2⟩ := F
  have h2 := hI.c2
  have h9 := hI.c9
  have h1r := hI.r1
  have h8 := hI.r8
  refine lv_aload_n hx hb dL_law_357 rfl (lv_at hl 11 rfl) ?_
  refine lv_iload hx hb dL_law_358 (lv_at hl 2 rfl) ?_
  refine kPVi (As := [.int (nI c1)]) (rest := []) (Wr := (wS cI c2 c3 v rw_ ow cN rN pa pd st bn hc hm lo tn)) (W2 := (fun u : MS => (wX x a b ++ wM cI a pa pe st bn hc hm ((nI cN)) ((nI rN)) lo ++ wS cI c2 c3 v rw_ ow cN rN pa pd st bn hc hm lo tn ++ wM cI b u.1 u.2.1 u.2.2.1 u.2.2.2.1 u.2.2.2.2.1 u.2.2.2.2.2.1 u.2.2.2.2.2.2.1 u.2.2.2.2.2.2.2.1 u.2.2.2.2.2.2.2.2))) ⟨hx, hb, hml, hown, hts⟩ (mX1_wouldTurn l D cI x a pa pe st bn hc hm (nI cN) (nI rN) lo b ta te ts tb tc tm tC tR tl (nI c1) (xhas_k hc1 (by omega)) _) (cwV 1 hts gL_law_X1_wouldTurn rfl rfl rfl (by decide +kernel) ⟨Nat.le_of_ble_eq_true rfl, Nat.le_of_ble_eq_true rfl⟩) (preVQ hK hN (hP.pm (pmx_4_013 _ _ _ _)).left (hD.pm (pmx_4_013 _ _ _ _)).left [0] rfl rfl rfl) hP hD hS hA (pmx_4_013 _ _ _ _) (fun _ => (pmx_4_013 _ _ _ _).symm) rfl hl.1 rfl (Nat.le_of_ble_eq_true rfl) dL_law_360 ⟨by omega, by omega⟩ (fun r_1 u_1 H locs hr_1 hP hD hS => ?_)
  subst r_1
  have hP : va_P D vwCl (wX x a b ++ wM cI a pa pe st bn hc hm ((nI cN)) ((nI rN)) lo ++ wS cI c2 c3 v rw_ ow cN rN pa pd st bn hc hm lo tn ++ wM cI b u_1.1 u_1.2.1 u_1.2.2.1 u_1.2.2.2.1 u_1.2.2.2.2.1 u_1.2.2.2.2.2.1 u_1.2.2.2.2.2.2.1 u_1.2.2.2.2.2.2.2.1 u_1.2.2.2.2.2.2.2.2) H := hP
  have hD : va_D A (wX x a b ++ wM cI a pa pe st bn hc hm ((nI cN)) ((nI rN)) lo ++ wS cI c2 c3 v rw_ ow cN rN pa pd st bn hc hm lo tn ++ wM cI b u_1.1 u_1.2.1 u_1.2.2.1 u_1.2.2.2.1 u_1.2.2.2.2.1 u_1.2.2.2.2.2.1 u_1.2.2.2.2.2.2.1 u_1.2.2.2.2.2.2.2.1 u_1.2.2.2.2.2.2.2.2) := hD
  rw [wt_eq h9 h8 hI.z]
  refine lv_iload hx hb dL_law_363 (lv_at hl 4 rfl) ?_
  refine lv_icmp_le (tgt := 370) hx hb dL_law_365 (by decide) (fun c_2 => ?_) (fun c9 => absurd (nI_le (wt_le h9 h8 c1).1 (by have := tg_le pa (rN * cN); have := pl_72 h8 h9; omega)) c9)
  refine lv_iconst (v := 1) hx hb dL_law_370 (by decide) ?_
  refine lv_istore (lv' := [(14, .int 1), (13, .int (nI c1)), (12, .int (nI c1)), (11, .int (nI c1)), (10, .int (nI be)), (9, .int (nI (tg pa (rN * cN)))), (8, .int (nI rN)), (7, .int (nI cN)), (5, .long bf), (4, .int xx), (3, .int tw), (2, .ref (v 0)), (1, .ref x), (0, .ref b0)]) hx hb dL_law_371 hl (by decide) rfl (fun ls hl => ?_)
  have L373 : ∀ (n r : Nat) (at_ : Int32) (las : Int32) (ta : Nat → Int32) (te : Nat → Int32) (ts : Nat → Int32) (tb : Nat → Int32) (tc : Nat → Int32) (tm : Nat → Int32) (tC : Int32) (tR : Int32) (tl : Int32), r + n = rN → at_ = ft cN pa pe st c1 r → (∃ j, j < cN ∧ at_ = nI j ∧ las = nI j) ∨ (at_ = -1 ∧ (las = 0 ∨ las = nI cN - 1)) → ∀ (H : Heap) (locs : List Loc), va_P D vwCl (wX x a b ++ wM cI a pa pe st bn hc hm ((nI cN)) ((nI rN)) lo ++ wS cI c2 c3 v rw_ ow cN rN pa pd st bn hc hm lo tn ++ wM cI b ta te ts tb tc tm tC tR tl) H → va_D A (wX x a b ++ wM cI a pa pe st bn hc hm ((nI cN)) ((nI rN)) lo ++ wS cI c2 c3 v rw_ ow cN rN pa pd st bn hc hm lo tn ++ wM cI b ta te ts tb tc tm tC tR tl) → va_S A s.heap H locs → ∀ ls : Array Slot, lv_has ls 27 [(14, .int (nI (r + 1))), (13, .int las), (12, .int at_), (11, .int (nI c1)), (10, .int (nI be)), (9, .int (nI (tg pa (rN * cN)))), (8, .int (nI rN)), (7, .int (nI cN)), (5, .long bf), (4, .int xx), (3, .int tw), (2, .ref (v 0)), (1, .ref x), (0, .ref b0)] → W p l e room_1 s m #[Value.ref b0] below meth c H locs cells slots Q (F0 m 373 ls []) := by
    intro n
    induction n with
    | zero =>
      intro r at_ las ta te ts tb tc tm tC tR tl hkn373 hat hlast H locs hP hD hS ls hl
      refine lv_iload hx hb dL_law_373 (lv_at hl 0 rfl) ?_
      refine lv_iload hx hb dL_law_375 (lv_at hl 6 rfl) ?_
      refine lv_icmp_gt (tgt := 472) hx hb dL_law_377 (by decide) (fun c_3 => ?_) (fun c9 => absurd (nI_lt (by omega) (by omega)) c9)
      rcases hlast with ⟨jz, hjz, ha1, ha2⟩ | ⟨ha1, ha2 | ha2⟩
      · rw [ha1, ha2] at hl
        refine lv_iload hx hb dL_law_472 (lv_at hl 2 rfl) ?_
        refine lv_if_ge (tgt := 493) hx hb dL_law_474 (by decide) (fun c_4 => ?_) (fun c9 => absurd (nI_pos' (by omega)) c9)
        exact K ta te ts tb tc tm tC tR tl _ _ _ hP hD hS (lv_sub hl [3, 4, 5, 6, 7, 8, 9, 10, 11, 12, 13] rfl)
      · rw [ha1, ha2] at hl
        refine lv_iload hx hb dL_law_472 (lv_at hl 2 rfl) ?_
        refine lv_if_ge (tgt := 493) hx hb dL_law_474 (by decide) (fun c9 => absurd c9 (by decide)) (fun _ => ?_)
        refine lv_iload hx hb dL_law_477 (lv_at hl 1 rfl) ?_
        refine lv_if_eq (tgt := 493) hx hb dL_law_479 (by decide) (fun _ => ?_) (fun c9 => absurd (by decide) c9)
        exact K ta te ts tb tc tm tC tR tl _ _ _ hP hD hS (lv_sub hl [3, 4, 5, 6, 7, 8, 9, 10, 11, 12, 13] rfl)
      · rw [ha1, ha2] at hl
        refine lv_iload hx hb dL_law_472 (lv_at hl 2 rfl) ?_
        refine lv_if_ge (tgt := 493) hx hb dL_law_474 (by decide) (fun c9 => absurd c9 (by decide)) (fun _ => ?_)
        refine lv_iload hx hb dL_law_477 (lv_at hl 1 rfl) ?_
        refine lv_if_eq (tgt := 493) hx hb dL_law_479 (by decide) (fun c_8 => ?_) (fun c_8 => ?_)
        · exact K ta te ts tb tc tm tC tR tl _ _ _ hP hD hS (lv_sub hl [3, 4, 5, 6, 7, 8, 9, 10, 11, 12, 13] rfl)
        · refine lv_iload hx hb dL_law_482 (lv_at hl 1 rfl) ?_
          refine lv_iload hx hb dL_law_484 (lv_at hl 7 rfl) ?_
          refine lv_iconst (v := 1) hx hb dL_law_486 (by decide) ?_
          refine lv_isub hx hb dL_law_487 ?_
          refine lv_icmp_eq (tgt := 493) hx hb dL_law_488 (by decide) (fun c_9 => ?_) (fun c9 => absurd rfl c9)
          exact K ta te ts tb tc tm tC tR tl _ _ _ hP hD hS (lv_sub hl [3, 4, 5, 6, 7, 8, 9, 10, 11, 12, 13] rfl)
    | succ n ih373 =>
      intro r at_ las ta te ts tb tc tm tC tR tl hkn373 hat hlast H locs hP hD hS ls hl
      refine lv_iload hx hb dL_law_373 (lv_at hl 0 rfl) ?_
      refine lv_iload hx hb dL_law_375 (lv_at hl 6 rfl) ?_
      refine lv_icmp_gt (tgt := 472) hx hb dL_law_377 (by decide) (fun c9 => absurd c9 (nI_nlt (by omega) (by omega))) (fun c_10 => ?_)
      refine lv_iload hx hb dL_law_380 (lv_at hl 0 rfl) ?_
      refine lv_iload hx hb dL_law_382 (lv_at hl 6 rfl) ?_
      refine lv_icmp_ge (tgt := 398) hx hb dL_law_384 (by decide) (fun c_11 => ?_) (fun c_11 => ?_)
      · refine lv_aload_n hx hb dL_law_398 rfl (lv_at hl 12 rfl) ?_
        refine lv_iload hx hb dL_law_399 (lv_at hl 3 rfl) ?_
        refine kPVi (As := [.int (nI c1)]) (rest := []) (Wr := (wS cI c2 c3 v rw_ ow cN rN pa pd st bn hc hm lo tn)) (W2 := (fun u : MS => (wX x a b ++ wM cI a pa pe st bn hc hm ((nI cN)) ((nI rN)) lo ++ wS cI c2 c3 v rw_ ow cN rN pa pd st bn hc hm lo tn ++ wM cI b u.1 u.2.1 u.2.2.1 u.2.2.2.1 u.2.2.2.2.1 u.2.2.2.2.2.1 u.2.2.2.2.2.2.1 u.2.2.2.2.2.2.2.1 u.2.2.2.2.2.2.2.2))) ⟨hx, hb, hml, hown, hts⟩ (mX1_wouldLand l D cI x a pa pe st bn hc hm (nI cN) (nI rN) lo b ta te ts tb tc tm tC tR tl (nI c1) (xhas_k hc1 (by omega)) _) (cwV 1 hts gL_law_X1_wouldLand rfl rfl rfl (by decide +kernel) ⟨Nat.le_of_ble_eq_true rfl, Nat.le_of_ble_eq_true rfl⟩) (preVQ hK hN (hP.pm (pmx_4_013 _ _ _ _)).left (hD.pm (pmx_4_013 _ _ _ _)).left [0] rfl rfl rfl) hP hD hS hA (pmx_4_013 _ _ _ _) (fun _ => (pmx_4_013 _ _ _ _).symm) rfl hl.1 rfl (Nat.le_of_ble_eq_true rfl) dL_law_401 ⟨by omega, by omega⟩ (fun r_12 u_12 H locs hr_12 hP hD hS => ?_)
        subst r_12
        have hP : va_P D vwCl (wX x a b ++ wM cI a pa pe st bn hc hm ((nI cN)) ((nI rN)) lo ++ wS cI c2 c3 v rw_ ow cN rN pa pd st bn hc hm lo tn ++ wM cI b u_12.1 u_12.2.1 u_12.2.2.1 u_12.2.2.2.1 u_12.2.2.2.2.1 u_12.2.2.2.2.2.1 u_12.2.2.2.2.2.2.1 u_12.2.2.2.2.2.2.2.1 u_12.2.2.2.2.2.2.2.2) H := hP
        have hD : va_D A (wX x a b ++ wM cI a pa pe st bn hc hm ((nI cN)) ((nI rN)) lo ++ wS cI c2 c3 v rw_ ow cN rN pa pd st bn hc hm lo tn ++ wM cI b u_12.1 u_12.2.1 u_12.2.2.1 u_12.2.2.2.1 u_12.2.2.2.2.1 u_12.2.2.2.2.2.1 u_12.2.2.2.2.2.2.1 u_12.2.2.2.2.2.2.2.1 u_12.2.2.2.2.2.2.2.2) := hD
        rw [show (xFall pa pe st (nI cN) (nI c1) (nI rN)).1 = ft cN pa pe st c1 (r + 1) from by rw [show rN = r + 1 by have := le_of (by omega) (by omega) c_11; omega]; rfl]
        rcases hI.fts hc1 (show r < rN by omega) with ⟨ea, en⟩ | ⟨j1, hj1, ea, ⟨en, hrim⟩ | ⟨j2, hj2, en, d1, d2⟩⟩
        · have hat2 := hat.trans ea
          rw [hat2] at hl
          rw [en]
          refine lv_istore (lv' := [(15, .int (-1)), (14, .int (nI (r + 1))), (13, .int las), (12, .int (-1)), (11, .int (nI c1)), (10, .int (nI be)), (9, .int (nI (tg pa (rN * cN)))), (8, .int (nI rN)), (7, .int (nI cN)), (5, .long bf), (4, .int xx), (3, .int tw), (2, .ref (v 0)), (1, .ref x), (0, .ref b0)]) hx hb dL_law_404 hl (by decide) rfl (fun ls hl => ?_)
          refine lv_iload hx hb dL_law_406 (lv_at hl 0 rfl) ?_
          refine lv_iconst (v := (-1)) hx hb dL_law_408 (by decide) ?_
          refine lv_icmp_lt (tgt := 451) hx hb dL_law_409 (by decide) (fun c9 => absurd c9 (by decide)) (fun _ => ?_)
          refine lv_iload hx hb dL_law_412 (lv_at hl 0 rfl) ?_
          refine lv_iload hx hb dL_law_414 (lv_at hl 8 rfl) ?_
          refine lv_icmp_ge (tgt := 451) hx hb dL_law_416 (by decide) (fun c9 => absurd c9 (m1_ge (by omega))) (fun c_14 => ?_)
          refine lv_iload hx hb dL_law_419 (lv_at hl 3 rfl) ?_
          refine lv_if_ge (tgt := 429) hx hb dL_law_421 (by decide) (fun c9 => absurd c9 (by decide)) (fun _ => ?_)
          refine lv_iload hx hb dL_law_424 (lv_at hl 0 rfl) ?_
          refine lv_if_ge (tgt := 451) hx hb dL_law_426 (by decide) (fun c9 => absurd c9 (by decide)) (fun _ => ?_)
          refine lv_iload hx hb dL_law_429 (lv_at hl 3 rfl) ?_
          refine lv_if_lt (tgt := 453) hx hb dL_law_431 (by decide) (fun _ => ?_) (fun c9 => absurd (by decide) c9)
          refine lv_iload hx hb dL_law_453 (lv_at hl 0 rfl) ?_
          refine lv_if_lt (tgt := 462) hx hb dL_law_455 (by decide) (fun _ => ?_) (fun c9 => absurd (by decide) c9)
          refine lv_iload hx hb dL_law_462 (lv_at hl 0 rfl) ?_
          refine lv_istore (lv' := [(12, .int (-1)), (15, .int (-1)), (14, .int (nI (r + 1))), (13, .int las), (11, .int (nI c1)), (10, .int (nI be)), (9, .int (nI (tg pa (rN * cN)))), (8, .int (nI rN)), (7, .int (nI cN)), (5, .long bf), (4, .int xx), (3, .int tw), (2, .ref (v 0)), (1, .ref x), (0, .ref b0)]) hx hb dL_law_464 hl (by decide) rfl (fun ls hl => ?_)
          refine lv_iinc (v := (nI ((r + 1) + 1))) (lv' := [(14, .int (nI ((r + 1) + 1))), (12, .int (-1)), (15, .int (-1)), (13, .int las), (11, .int (nI c1)), (10, .int (nI be)), (9, .int (nI (tg pa (rN * cN)))), (8, .int (nI rN)), (7, .int (nI cN)), (5, .long bf), (4, .int xx), (3, .int tw), (2, .ref (v 0)), (1, .ref x), (0, .ref b0)]) hx hb dL_law_466 hl (k := 2) rfl (nI_1 (r + 1)) (by decide) rfl (fun ls hl => ?_)
          refine lv_goto (tgt := 373) hx hb dL_law_469 (by decide) ?_
          exact ih373 (r + 1) (-1) las u_12.1 u_12.2.1 u_12.2.2.1 u_12.2.2.2.1 u_12.2.2.2.2.1 u_12.2.2.2.2.2.1 u_12.2.2.2.2.2.2.1 u_12.2.2.2.2.2.2.2.1 u_12.2.2.2.2.2.2.2.2 (by omega) en.symm (last_0 hat2 hlast) _ _ hP hD hS ls (lv_sub hl [0, 3, 1, 4, 5, 6, 7, 8, 9, 10, 11, 12, 13, 14] rfl)
        · have hat2 := hat.trans ea
          rw [hat2] at hl
          rw [en]
          refine lv_istore (lv' := [(15, .int (-1)), (14, .int (nI (r + 1))), (13, .int las), (12, .int (nI j1)), (11, .int (nI c1)), (10, .int (nI be)), (9, .int (nI (tg pa (rN * cN)))), (8, .int (nI rN)), (7, .int (nI cN)), (5, .long bf), (4, .int xx), (3, .int tw), (2, .ref (v 0)), (1, .ref x), (0, .ref b0)]) hx hb dL_law_404 hl (by decide) rfl (fun ls hl => ?_)
          refine lv_iload hx hb dL_law_406 (lv_at hl 0 rfl) ?_
          refine lv_iconst (v := (-1)) hx hb dL_law_408 (by decide) ?_
          refine lv_icmp_lt (tgt := 451) hx hb dL_law_409 (by decide) (fun c9 => absurd c9 (by decide)) (fun _ => ?_)
          refine lv_iload hx hb dL_law_412 (lv_at hl 0 rfl) ?_
          refine lv_iload hx hb dL_law_414 (lv_at hl 8 rfl) ?_
          refine lv_icmp_ge (tgt := 451) hx hb dL_law_416 (by decide) (fun c9 => absurd c9 (m1_ge (by omega))) (fun c_20 => ?_)
          refine lv_iload hx hb dL_law_419 (lv_at hl 3 rfl) ?_
          refine lv_if_ge (tgt := 429) hx hb dL_law_421 (by decide) (fun c_21 => ?_) (fun c9 => absurd (nI_pos' (by omega)) c9)
          refine lv_iload hx hb dL_law_429 (lv_at hl 3 rfl) ?_
          refine lv_if_lt (tgt := 453) hx hb dL_law_431 (by decide) (fun c9 => absurd c9 (nI_pos (by omega))) (fun c_22 => ?_)
          refine lv_iload hx hb dL_law_434 (lv_at hl 0 rfl) ?_
          refine lv_if_lt (tgt := 453) hx hb dL_law_436 (by decide) (fun _ => ?_) (fun c9 => absurd (by decide) c9)
          refine lv_iload hx hb dL_law_453 (lv_at hl 0 rfl) ?_
          refine lv_if_lt (tgt := 462) hx hb dL_law_455 (by decide) (fun _ => ?_) (fun c9 => absurd (by decide) c9)
          refine lv_iload hx hb dL_law_462 (lv_at hl 0 rfl) ?_
          refine lv_istore (lv' := [(12, .int (-1)), (15, .int (-1)), (14, .int (nI (r + 1))), (13, .int las), (11, .int (nI c1)), (10, .int (nI be)), (9, .int (nI (tg pa (rN * cN)))), (8, .int (nI rN)), (7, .int (nI cN)), (5, .long bf), (4, .int xx), (3, .int tw), (2, .ref (v 0)), (1, .ref x), (0, .ref b0)]) hx hb dL_law_464 hl (by decide) rfl (fun ls hl => ?_)
          refine lv_iinc (v := (nI ((r + 1) + 1))) (lv' := [(14, .int (nI ((r + 1) + 1))), (12, .int (-1)), (15, .int (-1)), (13, .int las), (11, .int (nI c1)), (10, .int (nI be)), (9, .int (nI (tg pa (rN * cN)))), (8, .int (nI rN)), (7, .int (nI cN)), (5, .long bf), (4, .int xx), (3, .int tw), (2, .ref (v 0)), (1, .ref x), (0, .ref b0)]) hx hb dL_law_466 hl (k := 2) rfl (nI_1 (r + 1)) (by decide) rfl (fun ls hl => ?_)
          refine lv_goto (tgt := 373) hx hb dL_law_469 (by decide) ?_
          exact ih373 (r + 1) (-1) las u_12.1 u_12.2.1 u_12.2.2.1 u_12.2.2.2.1 u_12.2.2.2.2.1 u_12.2.2.2.2.2.1 u_12.2.2.2.2.2.2.1 u_12.2.2.2.2.2.2.2.1 u_12.2.2.2.2.2.2.2.2 (by omega) en.symm (last_1 (by omega) hat2 hlast hrim) _ _ hP hD hS ls (lv_sub hl [0, 3, 1, 4, 5, 6, 7, 8, 9, 10, 11, 12, 13, 14] rfl)
        · have hat2 := hat.trans ea
          rw [hat2] at hl
          rw [en]
          refine lv_istore (lv' := [(15, .int (nI j2)), (14, .int (nI (r + 1))), (13, .int las), (12, .int (nI j1)), (11, .int (nI c1)), (10, .int (nI be)), (9, .int (nI (tg pa (rN * cN)))), (8, .int (nI rN)), (7, .int (nI cN)), (5, .long bf), (4, .int xx), (3, .int tw), (2, .ref (v 0)), (1, .ref x), (0, .ref b0)]) hx hb dL_law_404 hl (by decide) rfl (fun ls hl => ?_)
          refine lv_iload hx hb dL_law_406 (lv_at hl 0 rfl) ?_
          refine lv_iconst (v := (-1)) hx hb dL_law_408 (by decide) ?_
          refine lv_icmp_lt (tgt := 451) hx hb dL_law_409 (by decide) (fun c9 => absurd c9 (nI_nm1 (by omega))) (fun c_25 => ?_)
          refine lv_iload hx hb dL_law_412 (lv_at hl 0 rfl) ?_
          refine lv_iload hx hb dL_law_414 (lv_at hl 8 rfl) ?_
          refine lv_icmp_ge (tgt := 451) hx hb dL_law_416 (by decide) (fun c9 => absurd c9 (nI_ge (by omega) (by omega))) (fun c_26 => ?_)
          refine lv_iload hx hb dL_law_419 (lv_at hl 3 rfl) ?_
          refine lv_if_ge (tgt := 429) hx hb dL_law_421 (by decide) (fun c_27 => ?_) (fun c9 => absurd (nI_pos' (by omega)) c9)
          refine lv_iload hx hb dL_law_429 (lv_at hl 3 rfl) ?_
          refine lv_if_lt (tgt := 453) hx hb dL_law_431 (by decide) (fun c9 => absurd c9 (nI_pos (by omega))) (fun c_28 => ?_)
          refine lv_iload hx hb dL_law_434 (lv_at hl 0 rfl) ?_
          refine lv_if_lt (tgt := 453) hx hb dL_law_436 (by decide) (fun c9 => absurd c9 (nI_pos (by omega))) (fun c_29 => ?_)
          refine lv_iload hx hb dL_law_439 (lv_at hl 0 rfl) ?_
          refine lv_iload hx hb dL_law_441 (lv_at hl 3 rfl) ?_
          refine lv_isub hx hb dL_law_443 ?_
          refine va_mabs hx hb (hml.trans hl.1.symm) (index := 119) hown (hts (.methodLink RL 119 Lib.Math.abs.name) (mg 3 rfl)) (hts (.static Lib.Math.abs.name) (mg 4 rfl)) (hts (.initialized "java/lang/Math") (mg 5 rfl)) (hts (.code Lib.Math.abs.name Lib.Math.abs.code 1 (some .int)) (mg 6 rfl)) (Nat.le_of_ble_eq_true rfl) (Nat.le_of_ble_eq_true rfl) (by omega) (by omega) dL_law_444 ?_
          have habs : (if 0 ≤ nI j2 - nI j1 then nI j2 - nI j1 else 0 - (nI j2 - nI j1)) ≤ 1 := abs_ok (by omega) (by omega) d1 d2
          refine lv_iconst (v := 1) hx hb dL_law_447 (by decide) ?_
          refine lv_icmp_le (tgt := 453) hx hb dL_law_448 (by decide) (fun c_30 => ?_) (fun c9 => absurd habs c9)
          refine lv_iload hx hb dL_law_453 (lv_at hl 0 rfl) ?_
          refine lv_if_lt (tgt := 462) hx hb dL_law_455 (by decide) (fun c9 => absurd c9 (nI_pos (by omega))) (fun c_31 => ?_)
          refine lv_iload hx hb dL_law_458 (lv_at hl 0 rfl) ?_
          refine lv_istore (lv' := [(13, .int (nI j2)), (15, .int (nI j2)), (14, .int (nI (r + 1))), (12, .int (nI j1)), (11, .int (nI c1)), (10, .int (nI be)), (9, .int (nI (tg pa (rN * cN)))), (8, .int (nI rN)), (7, .int (nI cN)), (5, .long bf), (4, .int xx), (3, .int tw), (2, .ref (v 0)), (1, .ref x), (0, .ref b0)]) hx hb dL_law_460 hl (by decide) rfl (fun ls hl => ?_)
          refine lv_iload hx hb dL_law_462 (lv_at hl 1 rfl) ?_
          refine lv_istore (lv' := [(12, .int (nI j2)), (13, .int (nI j2)), (15, .int (nI j2)), (14, .int (nI (r + 1))), (11, .int (nI c1)), (10, .int (nI be)), (9, .int (nI (tg pa (rN * cN)))), (8, .int (nI rN)), (7, .int (nI cN)), (5, .long bf), (4, .int xx), (3, .int tw), (2, .ref (v 0)), (1, .ref x), (0, .ref b0)]) hx hb dL_law_464 hl (by decide) rfl (fun ls hl => ?_)
          refine lv_iinc (v := (nI ((r + 1) + 1))) (lv' := [(14, .int (nI ((r + 1) + 1))), (12, .int (nI j2)), (13, .int (nI j2)), (15, .int (nI j2)), (11, .int (nI c1)), (10, .int (nI be)), (9, .int (nI (tg pa (rN * cN)))), (8, .int (nI rN)), (7, .int (nI cN)), (5, .long bf), (4, .int xx), (3, .int tw), (2, .ref (v 0)), (1, .ref x), (0, .ref b0)]) hx hb dL_law_466 hl (k := 3) rfl (nI_1 (r + 1)) (by decide) rfl (fun ls hl => ?_)
          refine lv_goto (tgt := 373) hx hb dL_law_469 (by decide) ?_
          exact ih373 (r + 1) (nI j2) (nI j2) u_12.1 u_12.2.1 u_12.2.2.1 u_12.2.2.2.1 u_12.2.2.2.2.1 u_12.2.2.2.2.2.1 u_12.2.2.2.2.2.2.1 u_12.2.2.2.2.2.2.2.1 u_12.2.2.2.2.2.2.2.2 (by omega) en.symm (Or.inl ⟨j2, hj2, rfl, rfl⟩) _ _ hP hD hS ls (lv_sub hl [0, 2, 1, 4, 5, 6, 7, 8, 9, 10, 11, 12, 13, 14] rfl)
      · refine lv_aload_n hx hb dL_law_387 rfl (lv_at hl 12 rfl) ?_
        refine lv_iload hx hb dL_law_388 (lv_at hl 3 rfl) ?_
        refine lv_iload hx hb dL_law_390 (lv_at hl 0 rfl) ?_
        refine kPVi (As := [.int (nI c1), .int (nI (r + 1))]) (rest := []) (Wr := (wS cI c2 c3 v rw_ ow cN rN pa pd st bn hc hm lo tn)) (W2 := (fun u : MS => (wX x a b ++ wM cI a pa pe st bn hc hm ((nI cN)) ((nI rN)) lo ++ wS cI c2 c3 v rw_ ow cN rN pa pd st bn hc hm lo tn ++ wM cI b u.1 u.2.1 u.2.2.1 u.2.2.2.1 u.2.2.2.2.1 u.2.2.2.2.2.1 u.2.2.2.2.2.2.1 u.2.2.2.2.2.2.2.1 u.2.2.2.2.2.2.2.2))) ⟨hx, hb, hml, hown, hts⟩ (mX1_wouldBeIn l D cI x a pa pe st bn hc hm (nI cN) (nI rN) lo b ta te ts tb tc tm tC tR tl (nI c1) (nI (r + 1)) (xhas_k hc1 (by omega)) (xhas_k (nlt_of (by omega) (by omega) c_11) (by omega)) _) (cwV 2 hts gL_law_X1_wouldBeIn rfl rfl rfl (by decide +kernel) ⟨Nat.le_of_ble_eq_true rfl, Nat.le_of_ble_eq_true rfl⟩) (preVQ hK hN (hP.pm (pmx_4_013 _ _ _ _)).left (hD.pm (pmx_4_013 _ _ _ _)).left [0] rfl rfl rfl) hP hD hS hA (pmx_4_013 _ _ _ _) (fun _ => (pmx_4_013 _ _ _ _).symm) rfl hl.1 rfl (Nat.le_of_ble_eq_true rfl) dL_law_392 ⟨by omega, by omega⟩ (fun r_32 u_32 H locs hr_32 hP hD hS => ?_)
        subst r_32
        have hP : va_P D vwCl (wX x a b ++ wM cI a pa pe st bn hc hm ((nI cN)) ((nI rN)) lo ++ wS cI c2 c3 v rw_ ow cN rN pa pd st bn hc hm lo tn ++ wM cI b u_32.1 u_32.2.1 u_32.2.2.1 u_32.2.2.2.1 u_32.2.2.2.2.1 u_32.2.2.2.2.2.1 u_32.2.2.2.2.2.2.1 u_32.2.2.2.2.2.2.2.1 u_32.2.2.2.2.2.2.2.2) H := hP
        have hD : va_D A (wX x a b ++ wM cI a pa pe st bn hc hm ((nI cN)) ((nI rN)) lo ++ wS cI c2 c3 v rw_ ow cN rN pa pd st bn hc hm lo tn ++ wM cI b u_32.1 u_32.2.1 u_32.2.2.1 u_32.2.2.2.1 u_32.2.2.2.2.1 u_32.2.2.2.2.2.1 u_32.2.2.2.2.2.2.1 u_32.2.2.2.2.2.2.2.1 u_32.2.2.2.2.2.2.2.2) := hD
        refine lv_goto (tgt := 404) hx hb dL_law_395 (by decide) ?_
        rw [show (xFall pa pe st (nI cN) (nI c1) (nI (r + 1))).1 = ft cN pa pe st c1 (r + 1) from rfl]
        rcases hI.fts hc1 (show r < rN by omega) with ⟨ea, en⟩ | ⟨j1, hj1, ea, ⟨en, hrim⟩ | ⟨j2, hj2, en, d1, d2⟩⟩
        · have hat2 := hat.trans ea
          rw [hat2] at hl
          rw [en]
          refine lv_istore (lv' := [(15, .int (-1)), (14, .int (nI (r + 1))), (13, .int las), (12, .int (-1)), (11, .int (nI c1)), (10, .int (nI be)), (9, .int (nI (tg pa (rN * cN)))), (8, .int (nI rN)), (7, .int (nI cN)), (5, .long bf), (4, .int xx), (3, .int tw), (2, .ref (v 0)), (1, .ref x), (0, .ref b0)]) hx hb dL_law_404 hl (by decide) rfl (fun ls hl => ?_)
          refine lv_iload hx hb dL_law_406 (lv_at hl 0 rfl) ?_
          refine lv_iconst (v := (-1)) hx hb dL_law_408 (by decide) ?_
          refine lv_icmp_lt (tgt := 451) hx hb dL_law_409 (by decide) (fun c9 => absurd c9 (by decide)) (fun _ => ?_)
          refine lv_iload hx hb dL_law_412 (lv_at hl 0 rfl) ?_
          refine lv_iload hx hb dL_law_414 (lv_at hl 8 rfl) ?_
          refine lv_icmp_ge (tgt := 451) hx hb dL_law_416 (by decide) (fun c9 => absurd c9 (m1_ge (by omega))) (fun c_34 => ?_)
          refine lv_iload hx hb dL_law_419 (lv_at hl 3 rfl) ?_
          refine lv_if_ge (tgt := 429) hx hb dL_law_421 (by decide) (fun c9 => absurd c9 (by decide)) (fun _ => ?_)
          refine lv_iload hx hb dL_law_424 (lv_at hl 0 rfl) ?_
          refine lv_if_ge (tgt := 451) hx hb dL_law_426 (by decide) (fun c9 => absurd c9 (by decide)) (fun _ => ?_)
          refine lv_iload hx hb dL_law_429 (lv_at hl 3 rfl) ?_
          refine lv_if_lt (tgt := 453) hx hb dL_law_431 (by decide) (fun _ => ?_) (fun c9 => absurd (by decide) c9)
          refine lv_iload hx hb dL_law_453 (lv_at hl 0 rfl) ?_
          refine lv_if_lt (tgt := 462) hx hb dL_law_455 (by decide) (fun _ => ?_) (fun c9 => absurd (by decide) c9)
          refine lv_iload hx hb dL_law_462 (lv_at hl 0 rfl) ?_
          refine lv_istore (lv' := [(12, .int (-1)), (15, .int (-1)), (14, .int (nI (r + 1))), (13, .int las), (11, .int (nI c1)), (10, .int (nI be)), (9, .int (nI (tg pa (rN * cN)))), (8, .int (nI rN)), (7, .int (nI cN)), (5, .long bf), (4, .int xx), (3, .int tw), (2, .ref (v 0)), (1, .ref x), (0, .ref b0)]) hx hb dL_law_464 hl (by decide) rfl (fun ls hl => ?_)
          refine lv_iinc (v := (nI ((r + 1) + 1))) (lv' := [(14, .int (nI ((r + 1) + 1))), (12, .int (-1)), (15, .int (-1)), (13, .int las), (11, .int (nI c1)), (10, .int (nI be)), (9, .int (nI (tg pa (rN * cN)))), (8, .int (nI rN)), (7, .int (nI cN)), (5, .long bf), (4, .int xx), (3, .int tw), (2, .ref (v 0)), (1, .ref x), (0, .ref b0)]) hx hb dL_law_466 hl (k := 2) rfl (nI_1 (r + 1)) (by decide) rfl (fun ls hl => ?_)
          refine lv_goto (tgt := 373) hx hb dL_law_469 (by decide) ?_
          exact ih373 (r + 1) (-1) las u_32.1 u_32.2.1 u_32.2.2.1 u_32.2.2.2.1 u_32.2.2.2.2.1 u_32.2.2.2.2.2.1 u_32.2.2.2.2.2.2.1 u_32.2.2.2.2.2.2.2.1 u_32.2.2.2.2.2.2.2.2 (by omega) en.symm (last_0 hat2 hlast) _ _ hP hD hS ls (lv_sub hl [0, 3, 1, 4, 5, 6, 7, 8, 9, 10, 11, 12, 13, 14] rfl)
        · have hat2 := hat.trans ea
          rw [hat2] at hl
          rw [en]
          refine lv_istore (lv' := [(15, .int (-1)), (14, .int (nI (r + 1))), (13, .int las), (12, .int (nI j1)), (11, .int (nI c1)), (10, .int (nI be)), (9, .int (nI (tg pa (rN * cN)))), (8, .int (nI rN)), (7, .int (nI cN)), (5, .long bf), (4, .int xx), (3, .int tw), (2, .ref (v 0)), (1, .ref x), (0, .ref b0)]) hx hb dL_law_404 hl (by decide) rfl (fun ls hl => ?_)
          refine lv_iload hx hb dL_law_406 (lv_at hl 0 rfl) ?_
          refine lv_iconst (v := (-1)) hx hb dL_law_408 (by decide) ?_
          refine lv_icmp_lt (tgt := 451) hx hb dL_law_409 (by decide) (fun c9 => absurd c9 (by decide)) (fun _ => ?_)
          refine lv_iload hx hb dL_law_412 (lv_at hl 0 rfl) ?_
          refine lv_iload hx hb dL_law_414 (lv_at hl 8 rfl) ?_
          refine lv_icmp_ge (tgt := 451) hx hb dL_law_416 (by decide) (fun c9 => absurd c9 (m1_ge (by omega))) (fun c_40 => ?_)
          refine lv_iload hx hb dL_law_419 (lv_at hl 3 rfl) ?_
          refine lv_if_ge (tgt := 429) hx hb dL_law_421 (by decide) (fun c_41 => ?_) (fun c9 => absurd (nI_pos' (by omega)) c9)
          refine lv_iload hx hb dL_law_429 (lv_at hl 3 rfl) ?_
          refine lv_if_lt (tgt := 453) hx hb dL_law_431 (by decide) (fun c9 => absurd c9 (nI_pos (by omega))) (fun c_42 => ?_)
          refine lv_iload hx hb dL_law_434 (lv_at hl 0 rfl) ?_
          refine lv_if_lt (tgt := 453) hx hb dL_law_436 (by decide) (fun _ => ?_) (fun c9 => absurd (by decide) c9)
          refine lv_iload hx hb dL_law_453 (lv_at hl 0 rfl) ?_
          refine lv_if_lt (tgt := 462) hx hb dL_law_455 (by decide) (fun _ => ?_) (fun c9 => absurd (by decide) c9)
          refine lv_iload hx hb dL_law_462 (lv_at hl 0 rfl) ?_
          refine lv_istore (lv' := [(12, .int (-1)), (15, .int (-1)), (14, .int (nI (r + 1))), (13, .int las), (11, .int (nI c1)), (10, .int (nI be)), (9, .int (nI (tg pa (rN * cN)))), (8, .int (nI rN)), (7, .int (nI cN)), (5, .long bf), (4, .int xx), (3, .int tw), (2, .ref (v 0)), (1, .ref x), (0, .ref b0)]) hx hb dL_law_464 hl (by decide) rfl (fun ls hl => ?_)
          refine lv_iinc (v := (nI ((r + 1) + 1))) (lv' := [(14, .int (nI ((r + 1) + 1))), (12, .int (-1)), (15, .int (-1)), (13, .int las), (11, .int (nI c1)), (10, .int (nI be)), (9, .int (nI (tg pa (rN * cN)))), (8, .int (nI rN)), (7, .int (nI cN)), (5, .long bf), (4, .int xx), (3, .int tw), (2, .ref (v 0)), (1, .ref x), (0, .ref b0)]) hx hb dL_law_466 hl (k := 2) rfl (nI_1 (r + 1)) (by decide) rfl (fun ls hl => ?_)
          refine lv_goto (tgt := 373) hx hb dL_law_469 (by decide) ?_
          exact ih373 (r + 1) (-1) las u_32.1 u_32.2.1 u_32.2.2.1 u_32.2.2.2.1 u_32.2.2.2.2.1 u_32.2.2.2.2.2.1 u_32.2.2.2.2.2.2.1 u_32.2.2.2.2.2.2.2.1 u_32.2.2.2.2.2.2.2.2 (by omega) en.symm (last_1 (by omega) hat2 hlast hrim) _ _ hP hD hS ls (lv_sub hl [0, 3, 1, 4, 5, 6, 7, 8, 9, 10, 11, 12, 13, 14] rfl)
        · have hat2 := hat.trans ea
          rw [hat2] at hl
          rw [en]
          refine lv_istore (lv' := [(15, .int (nI j2)), (14, .int (nI (r + 1))), (13, .int las), (12, .int (nI j1)), (11, .int (nI c1)), (10, .int (nI be)), (9, .int (nI (tg pa (rN * cN)))), (8, .int (nI rN)), (7, .int (nI cN)), (5, .long bf), (4, .int xx), (3, .int tw), (2, .ref (v 0)), (1, .ref x), (0, .ref b0)]) hx hb dL_law_404 hl (by decide) rfl (fun ls hl => ?_)
          refine lv_iload hx hb dL_law_406 (lv_at hl 0 rfl) ?_
          refine lv_iconst (v := (-1)) hx hb dL_law_408 (by decide) ?_
          refine lv_icmp_lt (tgt := 451) hx hb dL_law_409 (by decide) (fun c9 => absurd c9 (nI_nm1 (by omega))) (fun c_45 => ?_)
          refine lv_iload hx hb dL_law_412 (lv_at hl 0 rfl) ?_
          refine lv_iload hx hb dL_law_414 (lv_at hl 8 rfl) ?_
          refine lv_icmp_ge (tgt := 451) hx hb dL_law_416 (by decide) (fun c9 => absurd c9 (nI_ge (by omega) (by omega))) (fun c_46 => ?_)
          refine lv_iload hx hb dL_law_419 (lv_at hl 3 rfl) ?_
          refine lv_if_ge (tgt := 429) hx hb dL_law_421 (by decide) (fun c_47 => ?_) (fun c9 => absurd (nI_pos' (by omega)) c9)
          refine lv_iload hx hb dL_law_429 (lv_at hl 3 rfl) ?_
          refine lv_if_lt (tgt := 453) hx hb dL_law_431 (by decide) (fun c9 => absurd c9 (nI_pos (by omega))) (fun c_48 => ?_)
          refine lv_iload hx hb dL_law_434 (lv_at hl 0 rfl) ?_
          refine lv_if_lt (tgt := 453) hx hb dL_law_436 (by decide) (fun c9 => absurd c9 (nI_pos (by omega))) (fun c_49 => ?_)
          refine lv_iload hx hb dL_law_439 (lv_at hl 0 rfl) ?_
          refine lv_iload hx hb dL_law_441 (lv_at hl 3 rfl) ?_
          refine lv_isub hx hb dL_law_443 ?_
          refine va_mabs hx hb (hml.trans hl.1.symm) (index := 119) hown (hts (.methodLink RL 119 Lib.Math.abs.name) (mg 3 rfl)) (hts (.static Lib.Math.abs.name) (mg 4 rfl)) (hts (.initialized "java/lang/Math") (mg 5 rfl)) (hts (.code Lib.Math.abs.name Lib.Math.abs.code 1 (some .int)) (mg 6 rfl)) (Nat.le_of_ble_eq_true rfl) (Nat.le_of_ble_eq_true rfl) (by omega) (by omega) dL_law_444 ?_
          have habs : (if 0 ≤ nI j2 - nI j1 then nI j2 - nI j1 else 0 - (nI j2 - nI j1)) ≤ 1 := abs_ok (by omega) (by omega) d1 d2
          refine lv_iconst (v := 1) hx hb dL_law_447 (by decide) ?_
          refine lv_icmp_le (tgt := 453) hx hb dL_law_448 (by decide) (fun c_50 => ?_) (fun c9 => absurd habs c9)
          refine lv_iload hx hb dL_law_453 (lv_at hl 0 rfl) ?_
          refine lv_if_lt (tgt := 462) hx hb dL_law_455 (by decide) (fun c9 => absurd c9 (nI_pos (by omega))) (fun c_51 => ?_)
          refine lv_iload hx hb dL_law_458 (lv_at hl 0 rfl) ?_
          refine lv_istore (lv' := [(13, .int (nI j2)), (15, .int (nI j2)), (14, .int (nI (r + 1))), (12, .int (nI j1)), (11, .int (nI c1)), (10, .int (nI be)), (9, .int (nI (tg pa (rN * cN)))), (8, .int (nI rN)), (7, .int (nI cN)), (5, .long bf), (4, .int xx), (3, .int tw), (2, .ref (v 0)), (1, .ref x), (0, .ref b0)]) hx hb dL_law_460 hl (by decide) rfl (fun ls hl => ?_)
          refine lv_iload hx hb dL_law_462 (lv_at hl 1 rfl) ?_
          refine lv_istore (lv' := [(12, .int (nI j2)), (13, .int (nI j2)), (15, .int (nI j2)), (14, .int (nI (r + 1))), (11, .int (nI c1)), (10, .int (nI be)), (9, .int (nI (tg pa (rN * cN)))), (8, .int (nI rN)), (7, .int (nI cN)), (5, .long bf), (4, .int xx), (3, .int tw), (2, .ref (v 0)), (1, .ref x), (0, .ref b0)]) hx hb dL_law_464 hl (by decide) rfl (fun ls hl => ?_)
          refine lv_iinc (v := (nI ((r + 1) + 1))) (lv' := [(14, .int (nI ((r + 1) + 1))), (12, .int (nI j2)), (13, .int (nI j2)), (15, .int (nI j2)), (11, .int (nI c1)), (10, .int (nI be)), (9, .int (nI (tg pa (rN * cN)))), (8, .int (nI rN)), (7, .int (nI cN)), (5, .long bf), (4, .int xx), (3, .int tw), (2, .ref (v 0)), (1, .ref x), (0, .ref b0)]) hx hb dL_law_466 hl (k := 3) rfl (nI_1 (r + 1)) (by decide) rfl (fun ls hl => ?_)
          refine lv_goto (tgt := 373) hx hb dL_law_469 (by decide) ?_
          exact ih373 (r + 1) (nI j2) (nI j2) u_32.1 u_32.2.1 u_32.2.2.1 u_32.2.2.2.1 u_32.2.2.2.2.1 u_32.2.2.2.2.2.1 u_32.2.2.2.2.2.2.1 u_32.2.2.2.2.2.2.2.1 u_32.2.2.2.2.2.2.2.2 (by omega) en.symm (Or.inl ⟨j2, hj2, rfl, rfl⟩) _ _ hP hD hS ls (lv_sub hl [0, 2, 1, 4, 5, 6, 7, 8, 9, 10, 11, 12, 13, 14] rfl)
  exact L373 rN 0 (nI c1) (nI c1) u_1.1 u_1.2.1 u_1.2.2.1 u_1.2.2.2.1 u_1.2.2.2.2.1 u_1.2.2.2.2.2.1 u_1.2.2.2.2.2.2.1 u_1.2.2.2.2.2.2.2.1 u_1.2.2.2.2.2.2.2.2 (by omega) (ft_0 c1).symm (Or.inl ⟨c1, hc1, rfl, rfl⟩) _ _ hP hD hS ls (lv_sub hl [0, 1, 2, 3, 4, 5, 6, 7, 8, 9, 10, 11, 12, 13] rfl)
set_option maxHeartbeats 4000000 in
set_option maxRecDepth 100000 in
theorem lw_E {p : Program} {l : Launch} {e : Env} {s : State} {m : MethodId} {below : List Frame} {meth : Method} {c : Code} {Q : State → Prop} {D : va_G} {cI c2 c3 : ClassId} {x b0 L : Nat} {a b v rw_ : Nat → Nat} {ow : Nat → Nat → Nat} {xs : Nat → Int32} {A : Nat → Prop} {cells slots : Nat} {cN rN : Nat} {pa pe pd st bn hc hm : Nat → Int32} {lo tn : Int32} {ta te ts tb tc tm : Nat → Int32} {tC tR tl : Int32} {H : Heap} {locs : List Loc} {ls : Array Slot} {xx tw : Int32} {bf : Int64}  {be : Nat} (F : LC2 p l s m b0 c D cI c2 c3 L xs A) (hI : PI cN rN pa pe pd st bn hc hm) (hcl : cells + 2000 ≤ room_1.cells) (hsl : slots + 20000 ≤ room_1.slots) (hbl : be < cN) (hb1 : ∀ c, c < cN → wt cN rN pa pe st c ≤ wt cN rN pa pe st be) (hb2 : ∀ c, c < be → wt cN rN pa pe st c < wt cN rN pa pe st be) (hP : va_P D vwCl (wX x a b ++ wM cI a pa pe st bn hc hm ((nI cN)) ((nI rN)) lo ++ wS cI c2 c3 v rw_ ow cN rN pa pd st bn hc hm lo tn ++ wM cI b ta te ts tb tc tm tC tR tl) H) (hD : va_D A (wX x a b ++ wM cI a pa pe st bn hc hm ((nI cN)) ((nI rN)) lo ++ wS cI c2 c3 v rw_ ow cN rN pa pd st bn hc hm lo tn ++ wM cI b ta te ts tb tc tm tC tR tl)) (hS : va_S A s.heap H locs) (hl : lv_has ls 27 [(10, .int (nI be)), (9, .int (nI (tg pa (rN * cN)))), (8, .int (nI rN)), (7, .int (nI cN)), (5, .long bf), (4, .int xx), (3, .int tw), (2, .ref (v 0)), (1, .ref x), (0, .ref b0)]) (K : ∀ (ta te ts tb tc tm : Nat → Int32) (tC tR tl : Int32) (H : Heap) (locs : List Loc) (ls : Array Slot), va_P D vwCl (wX x a b ++ wM cI a pa pe st bn hc hm ((nI cN)) ((nI rN)) lo ++ wS cI c2 c3 v rw_ ow cN rN pa pd st bn hc hm lo tn ++ wM cI b ta te ts tb tc tm tC tR tl) H → va_D A (wX x a b ++ wM cI a pa pe st bn hc hm ((nI cN)) ((nI rN)) lo ++ wS cI c2 c3 v rw_ ow cN rN pa pd st bn hc hm lo tn ++ wM cI b ta te ts tb tc tm tC tR tl) → va_S A s.heap H locs → lv_has ls 27 [(8, .int (nI rN)), (7, .int (nI cN)), (5, .long bf), (4, .int xx), (3, .int tw), (2, .ref (v 0)), (1, .ref x), (0, .ref b0)] → W p l e room_1 s m #[Value.ref b0] below meth c H locs cells slots Q (F0 m 499 ls [])) : W p l e room_1 s m #[Value.ref b0] below meth c H locs cells slots Q (F0 m 290 ls []) := by
  obtain ⟨hx, hb, hml, hown, hts, hK, hN, hG, hX, hZ, hA, hXs, hb0l, hb0A, hst, hL, hNi, hL2⟩ := F
  have h2 := hI.c2
  have h9 := hI.c9
  have h1r := hI.r1
  have h8 := hI.r8
  have F0_ : LC2 p l s m b0 c D cI c2 c3 L xs A := ⟨hx, hb, hml, hown, hts, hK, hN, hG, hX, hZ, hA, hXs, hb0l, hb0A, hst, hL, hNi, hL2⟩
  refine lv_iconst (v := 0) hx hb dL_law_290 (by decide) ?_
  refine lv_istore (lv' := [(11, .int 0), (10, .int (nI be)), (9, .int (nI (tg pa (rN * cN)))), (8, .int (nI rN)), (7, .int (nI cN)), (5, .long bf), (4, .int xx), (3, .int tw), (2, .ref (v 0)), (1, .ref x), (0, .ref b0)]) hx hb dL_law_291 hl (by decide) rfl (fun ls hl => ?_)
  have L293 : ∀ (n c1 : Nat) (ta : Nat → Int32) (te : Nat → Int32) (ts : Nat → Int32) (tb : Nat → Int32) (tc : Nat → Int32) (tm : Nat → Int32) (tC : Int32) (tR : Int32) (tl : Int32), c1 + n = cN → ∀ (H : Heap) (locs : List Loc), va_P D vwCl (wX x a b ++ wM cI a pa pe st bn hc hm ((nI cN)) ((nI rN)) lo ++ wS cI c2 c3 v rw_ ow cN rN pa pd st bn hc hm lo tn ++ wM cI b ta te ts tb tc tm tC tR tl) H → va_D A (wX x a b ++ wM cI a pa pe st bn hc hm ((nI cN)) ((nI rN)) lo ++ wS cI c2 c3 v rw_ ow cN rN pa pd st bn hc hm lo tn ++ wM cI b ta te ts tb tc tm tC tR tl) → va_S A s.heap H locs → ∀ ls : Array Slot, lv_has ls 27 [(11, .int (nI c1)), (10, .int (nI be)), (9, .int (nI (tg pa (rN * cN)))), (8, .int (nI rN)), (7, .int (nI cN)), (5, .long bf), (4, .int xx), (3, .int tw), (2, .ref (v 0)), (1, .ref x), (0, .ref b0)] → W p l e room_1 s m #[Value.ref b0] below meth c H locs cells slots Q (F0 m 293 ls []) := by
    intro n
    induction n with
    | zero =>
      intro c1 ta te ts tb tc tm tC tR tl hkn293 H locs hP hD hS ls hl
      refine lv_iload hx hb dL_law_293 (lv_at hl 0 rfl) ?_
      refine lv_iload hx hb dL_law_295 (lv_at hl 4 rfl) ?_
      refine lv_icmp_ge (tgt := 499) hx hb dL_law_297 (by decide) (fun c_1 => ?_) (fun c9 => absurd (nI_le (by omega) (by omega)) c9)
      exact K ta te ts tb tc tm tC tR tl _ _ _ hP hD hS (lv_sub hl [3, 4, 5, 6, 7, 8, 9, 10] rfl)
    | succ n ih293 =>
      intro c1 ta te ts tb tc tm tC tR tl hkn293 H locs hP hD hS ls hl
      refine lv_iload hx hb dL_law_293 (lv_at hl 0 rfl) ?_
      refine lv_iload hx hb dL_law_295 (lv_at hl 4 rfl) ?_
      refine lv_icmp_ge (tgt := 499) hx hb dL_law_297 (by decide) (fun c9 => absurd c9 (nI_ge (by omega) (by omega))) (fun c_2 => ?_)
      have hc1 : c1 < cN := by omega
      refine lv_aload_n hx hb dL_law_300 rfl (lv_at hl 9 rfl) ?_
      refine lv_iload hx hb dL_law_301 (lv_at hl 0 rfl) ?_
      refine lv_iconst (v := 0) hx hb dL_law_303 (by decide) ?_
      refine kPVi (As := [.int (nI c1), .int 0]) (rest := []) (Wr := (wS cI c2 c3 v rw_ ow cN rN pa pd st bn hc hm lo tn)) (W2 := (fun u : MS => (wX x a b ++ wM cI a pa pe st bn hc hm ((nI cN)) ((nI rN)) lo ++ wS cI c2 c3 v rw_ ow cN rN pa pd st bn hc hm lo tn ++ wM cI b u.1 u.2.1 u.2.2.1 u.2.2.2.1 u.2.2.2.2.1 u.2.2.2.2.2.1 u.2.2.2.2.2.2.1 u.2.2.2.2.2.2.2.1 u.2.2.2.2.2.2.2.2))) ⟨hx, hb, hml, hown, hts⟩ (mX1_wouldBeIn l D cI x a pa pe st bn hc hm (nI cN) (nI rN) lo b ta te ts tb tc tm tC tR tl (nI c1) 0 (xhas_k (show c1 < cN by omega) (by omega)) (show xhas (nI rN) (nI 0) = true from xhas_k (by omega) (by omega)) _) (cwV 2 hts gL_law_X1_wouldBeIn rfl rfl rfl (by decide +kernel) ⟨Nat.le_of_ble_eq_true rfl, Nat.le_of_ble_eq_true rfl⟩) (preVQ hK hN (hP.pm (pmx_4_013 _ _ _ _)).left (hD.pm (pmx_4_013 _ _ _ _)).left [0] rfl rfl rfl) hP hD hS hA (pmx_4_013 _ _ _ _) (fun _ => (pmx_4_013 _ _ _ _).symm) rfl hl.1 rfl (Nat.le_of_ble_eq_true rfl) dL_law_304 ⟨by omega, by omega⟩ (fun r_3 u_3 H locs hr_3 hP hD hS => ?_)
      subst r_3
      have hP : va_P D vwCl (wX x a b ++ wM cI a pa pe st bn hc hm ((nI cN)) ((nI rN)) lo ++ wS cI c2 c3 v rw_ ow cN rN pa pd st bn hc hm lo tn ++ wM cI b u_3.1 u_3.2.1 u_3.2.2.1 u_3.2.2.2.1 u_3.2.2.2.2.1 u_3.2.2.2.2.2.1 u_3.2.2.2.2.2.2.1 u_3.2.2.2.2.2.2.2.1 u_3.2.2.2.2.2.2.2.2) H := hP
      have hD : va_D A (wX x a b ++ wM cI a pa pe st bn hc hm ((nI cN)) ((nI rN)) lo ++ wS cI c2 c3 v rw_ ow cN rN pa pd st bn hc hm lo tn ++ wM cI b u_3.1 u_3.2.1 u_3.2.2.1 u_3.2.2.2.1 u_3.2.2.2.2.1 u_3.2.2.2.2.2.1 u_3.2.2.2.2.2.2.1 u_3.2.2.2.2.2.2.2.1 u_3.2.2.2.2.2.2.2.2) := hD
      rw [fall_0]
      refine lv_istore (lv' := [(12, .int (nI c1)), (11, .int (nI c1)), (10, .int (nI be)), (9, .int (nI (tg pa (rN * cN)))), (8, .int (nI rN)), (7, .int (nI cN)), (5, .long bf), (4, .int xx), (3, .int tw), (2, .ref (v 0)), (1, .ref x), (0, .ref b0)]) hx hb dL_law_307 hl (by decide) rfl (fun ls hl => ?_)
      refine lv_iload hx hb dL_law_309 (lv_at hl 0 rfl) ?_
      refine lv_istore (lv' := [(13, .int (nI c1)), (12, .int (nI c1)), (11, .int (nI c1)), (10, .int (nI be)), (9, .int (nI (tg pa (rN * cN)))), (8, .int (nI rN)), (7, .int (nI cN)), (5, .long bf), (4, .int xx), (3, .int tw), (2, .ref (v 0)), (1, .ref x), (0, .ref b0)]) hx hb dL_law_311 hl (by decide) rfl (fun ls hl => ?_)
      refine lv_iload hx hb dL_law_313 (lv_at hl 1 rfl) ?_
      refine lv_iload hx hb dL_law_315 (lv_at hl 2 rfl) ?_
      refine lv_icmp_ne (tgt := 368) hx hb dL_law_317 (by decide) (fun c9 => absurd rfl c9) (fun c_4 => ?_)
      refine lv_aload_n hx hb dL_law_320 rfl (lv_at hl 11 rfl) ?_
      refine lv_iload hx hb dL_law_321 (lv_at hl 2 rfl) ?_
      refine kPVi (As := [.int (nI c1)]) (rest := []) (Wr := (wS cI c2 c3 v rw_ ow cN rN pa pd st bn hc hm lo tn)) (W2 := (fun u : MS => (wX x a b ++ wM cI a pa pe st bn hc hm ((nI cN)) ((nI rN)) lo ++ wS cI c2 c3 v rw_ ow cN rN pa pd st bn hc hm lo tn ++ wM cI b u.1 u.2.1 u.2.2.1 u.2.2.2.1 u.2.2.2.2.1 u.2.2.2.2.2.1 u.2.2.2.2.2.2.1 u.2.2.2.2.2.2.2.1 u.2.2.2.2.2.2.2.2))) ⟨hx, hb, hml, hown, hts⟩ (mX1_wouldTurn l D cI x a pa pe st bn hc hm (nI cN) (nI rN) lo b u_3.1 u_3.2.1 u_3.2.2.1 u_3.2.2.2.1 u_3.2.2.2.2.1 u_3.2.2.2.2.2.1 u_3.2.2.2.2.2.2.1 u_3.2.2.2.2.2.2.2.1 u_3.2.2.2.2.2.2.2.2 (nI c1) (xhas_k (show c1 < cN by omega) (by omega)) _) (cwV 1 hts gL_law_X1_wouldTurn rfl rfl rfl (by decide +kernel) ⟨Nat.le_of_ble_eq_true rfl, Nat.le_of_ble_eq_true rfl⟩) (preVQ hK hN (hP.pm (pmx_4_013 _ _ _ _)).left (hD.pm (pmx_4_013 _ _ _ _)).left [0] rfl rfl rfl) hP hD hS hA (pmx_4_013 _ _ _ _) (fun _ => (pmx_4_013 _ _ _ _).symm) rfl hl.1 rfl (Nat.le_of_ble_eq_true rfl) dL_law_323 ⟨by omega, by omega⟩ (fun r_5 u_5 H locs hr_5 hP hD hS => ?_)
      subst r_5
      have hP : va_P D vwCl (wX x a b ++ wM cI a pa pe st bn hc hm ((nI cN)) ((nI rN)) lo ++ wS cI c2 c3 v rw_ ow cN rN pa pd st bn hc hm lo tn ++ wM cI b u_5.1 u_5.2.1 u_5.2.2.1 u_5.2.2.2.1 u_5.2.2.2.2.1 u_5.2.2.2.2.2.1 u_5.2.2.2.2.2.2.1 u_5.2.2.2.2.2.2.2.1 u_5.2.2.2.2.2.2.2.2) H := hP
      have hD : va_D A (wX x a b ++ wM cI a pa pe st bn hc hm ((nI cN)) ((nI rN)) lo ++ wS cI c2 c3 v rw_ ow cN rN pa pd st bn hc hm lo tn ++ wM cI b u_5.1 u_5.2.1 u_5.2.2.1 u_5.2.2.2.1 u_5.2.2.2.2.1 u_5.2.2.2.2.2.1 u_5.2.2.2.2.2.2.1 u_5.2.2.2.2.2.2.2.1 u_5.2.2.2.2.2.2.2.2) := hD
      rw [wt_eq h9 h8 hI.z]
      refine lv_aload_n hx hb dL_law_326 rfl (lv_at hl 11 rfl) ?_
      refine lv_iload hx hb dL_law_327 (lv_at hl 3 rfl) ?_
      refine kPVi (As := [.int (nI be)]) (rest := [.int (nI (wt cN rN pa pe st c1))]) (Wr := (wS cI c2 c3 v rw_ ow cN rN pa pd st bn hc hm lo tn)) (W2 := (fun u : MS => (wX x a b ++ wM cI a pa pe st bn hc hm ((nI cN)) ((nI rN)) lo ++ wS cI c2 c3 v rw_ ow cN rN pa pd st bn hc hm lo tn ++ wM cI b u.1 u.2.1 u.2.2.1 u.2.2.2.1 u.2.2.2.2.1 u.2.2.2.2.2.1 u.2.2.2.2.2.2.1 u.2.2.2.2.2.2.2.1 u.2.2.2.2.2.2.2.2))) ⟨hx, hb, hml, hown, hts⟩ (mX1_wouldTurn l D cI x a pa pe st bn hc hm (nI cN) (nI rN) lo b u_5.1 u_5.2.1 u_5.2.2.1 u_5.2.2.2.1 u_5.2.2.2.2.1 u_5.2.2.2.2.2.1 u_5.2.2.2.2.2.2.1 u_5.2.2.2.2.2.2.2.1 u_5.2.2.2.2.2.2.2.2 (nI be) (xhas_k hbl (by omega)) _) (cwV 1 hts gL_law_X1_wouldTurn rfl rfl rfl (by decide +kernel) ⟨Nat.le_of_ble_eq_true rfl, Nat.le_of_ble_eq_true rfl⟩) (preVQ hK hN (hP.pm (pmx_4_013 _ _ _ _)).left (hD.pm (pmx_4_013 _ _ _ _)).left [0] rfl rfl rfl) hP hD hS hA (pmx_4_013 _ _ _ _) (fun _ => (pmx_4_013 _ _ _ _).symm) rfl hl.1 rfl (Nat.le_of_ble_eq_true rfl) dL_law_329 ⟨by omega, by omega⟩ (fun r_6 u_6 H locs hr_6 hP hD hS => ?_)
      subst r_6
      have hP : va_P D vwCl (wX x a b ++ wM cI a pa pe st bn hc hm ((nI cN)) ((nI rN)) lo ++ wS cI c2 c3 v rw_ ow cN rN pa pd st bn hc hm lo tn ++ wM cI b u_6.1 u_6.2.1 u_6.2.2.1 u_6.2.2.2.1 u_6.2.2.2.2.1 u_6.2.2.2.2.2.1 u_6.2.2.2.2.2.2.1 u_6.2.2.2.2.2.2.2.1 u_6.2.2.2.2.2.2.2.2) H := hP
      have hD : va_D A (wX x a b ++ wM cI a pa pe st bn hc hm ((nI cN)) ((nI rN)) lo ++ wS cI c2 c3 v rw_ ow cN rN pa pd st bn hc hm lo tn ++ wM cI b u_6.1 u_6.2.1 u_6.2.2.1 u_6.2.2.2.1 u_6.2.2.2.2.1 u_6.2.2.2.2.2.1 u_6.2.2.2.2.2.2.1 u_6.2.2.2.2.2.2.2.1 u_6.2.2.2.2.2.2.2.2) := hD
      rw [wt_eq h9 h8 hI.z]
      refine lv_icmp_gt (tgt := 368) hx hb dL_law_332 (by decide) (fun c9 => absurd c9 (nI_nlt (hb1 c1 (by omega)) (by have := (wt_le (pa := pa) (pe := pe) (st := st) h9 h8 be).2; omega))) (fun c_7 => ?_)
      refine lv_iload hx hb dL_law_335 (lv_at hl 2 rfl) ?_
      refine lv_iload hx hb dL_law_337 (lv_at hl 3 rfl) ?_
      refine lv_icmp_ge (tgt := 357) hx hb dL_law_339 (by decide) (fun c_8 => ?_) (fun c_8 => ?_)
      · refine lw_E2 F0_ hI hcl hsl hc1 hP hD hS (lv_sub hl [0, 1, 2, 3, 4, 5, 6, 7, 8, 9, 10, 11, 12] rfl) (fun ta te ts tb tc tm tC tR tl H locs ls hP hD hS hl => ?_)
        refine lv_iinc (v := (nI (c1 + 1))) (lv' := [(11, .int (nI (c1 + 1))), (10, .int (nI be)), (9, .int (nI (tg pa (rN * cN)))), (8, .int (nI rN)), (7, .int (nI cN)), (5, .long bf), (4, .int xx), (3, .int tw), (2, .ref (v 0)), (1, .ref x), (0, .ref b0)]) hx hb dL_law_493 hl (k := 0) rfl (nI_1 c1) (by decide) rfl (fun ls hl => ?_)
        refine lv_goto (tgt := 293) hx hb dL_law_496 (by decide) ?_
        exact ih293 (c1 + 1) ta te ts tb tc tm tC tR tl (by omega)  _ _ hP hD hS ls (lv_sub hl [0, 1, 2, 3, 4, 5, 6, 7, 8, 9, 10] rfl)
      · refine lv_aload_n hx hb dL_law_342 rfl (lv_at hl 11 rfl) ?_
        refine lv_iload hx hb dL_law_343 (lv_at hl 2 rfl) ?_
        refine kPVi (As := [.int (nI c1)]) (rest := []) (Wr := (wS cI c2 c3 v rw_ ow cN rN pa pd st bn hc hm lo tn)) (W2 := (fun u : MS => (wX x a b ++ wM cI a pa pe st bn hc hm ((nI cN)) ((nI rN)) lo ++ wS cI c2 c3 v rw_ ow cN rN pa pd st bn hc hm lo tn ++ wM cI b u.1 u.2.1 u.2.2.1 u.2.2.2.1 u.2.2.2.2.1 u.2.2.2.2.2.1 u.2.2.2.2.2.2.1 u.2.2.2.2.2.2.2.1 u.2.2.2.2.2.2.2.2))) ⟨hx, hb, hml, hown, hts⟩ (mX1_wouldTurn l D cI x a pa pe st bn hc hm (nI cN) (nI rN) lo b u_6.1 u_6.2.1 u_6.2.2.1 u_6.2.2.2.1 u_6.2.2.2.2.1 u_6.2.2.2.2.2.1 u_6.2.2.2.2.2.2.1 u_6.2.2.2.2.2.2.2.1 u_6.2.2.2.2.2.2.2.2 (nI c1) (xhas_k (show c1 < cN by omega) (by omega)) _) (cwV 1 hts gL_law_X1_wouldTurn rfl rfl rfl (by decide +kernel) ⟨Nat.le_of_ble_eq_true rfl, Nat.le_of_ble_eq_true rfl⟩) (preVQ hK hN (hP.pm (pmx_4_013 _ _ _ _)).left (hD.pm (pmx_4_013 _ _ _ _)).left [0] rfl rfl rfl) hP hD hS hA (pmx_4_013 _ _ _ _) (fun _ => (pmx_4_013 _ _ _ _).symm) rfl hl.1 rfl (Nat.le_of_ble_eq_true rfl) dL_law_345 ⟨by omega, by omega⟩ (fun r_9 u_9 H locs hr_9 hP hD hS => ?_)
        subst r_9
        have hP : va_P D vwCl (wX x a b ++ wM cI a pa pe st bn hc hm ((nI cN)) ((nI rN)) lo ++ wS cI c2 c3 v rw_ ow cN rN pa pd st bn hc hm lo tn ++ wM cI b u_9.1 u_9.2.1 u_9.2.2.1 u_9.2.2.2.1 u_9.2.2.2.2.1 u_9.2.2.2.2.2.1 u_9.2.2.2.2.2.2.1 u_9.2.2.2.2.2.2.2.1 u_9.2.2.2.2.2.2.2.2) H := hP
        have hD : va_D A (wX x a b ++ wM cI a pa pe st bn hc hm ((nI cN)) ((nI rN)) lo ++ wS cI c2 c3 v rw_ ow cN rN pa pd st bn hc hm lo tn ++ wM cI b u_9.1 u_9.2.1 u_9.2.2.1 u_9.2.2.2.1 u_9.2.2.2.2.1 u_9.2.2.2.2.2.1 u_9.2.2.2.2.2.2.1 u_9.2.2.2.2.2.2.2.1 u_9.2.2.2.2.2.2.2.2) := hD
        rw [wt_eq h9 h8 hI.z]
        refine lv_aload_n hx hb dL_law_348 rfl (lv_at hl 11 rfl) ?_
        refine lv_iload hx hb dL_law_349 (lv_at hl 3 rfl) ?_
        refine kPVi (As := [.int (nI be)]) (rest := [.int (nI (wt cN rN pa pe st c1))]) (Wr := (wS cI c2 c3 v rw_ ow cN rN pa pd st bn hc hm lo tn)) (W2 := (fun u : MS => (wX x a b ++ wM cI a pa pe st bn hc hm ((nI cN)) ((nI rN)) lo ++ wS cI c2 c3 v rw_ ow cN rN pa pd st bn hc hm lo tn ++ wM cI b u.1 u.2.1 u.2.2.1 u.2.2.2.1 u.2.2.2.2.1 u.2.2.2.2.2.1 u.2.2.2.2.2.2.1 u.2.2.2.2.2.2.2.1 u.2.2.2.2.2.2.2.2))) ⟨hx, hb, hml, hown, hts⟩ (mX1_wouldTurn l D cI x a pa pe st bn hc hm (nI cN) (nI rN) lo b u_9.1 u_9.2.1 u_9.2.2.1 u_9.2.2.2.1 u_9.2.2.2.2.1 u_9.2.2.2.2.2.1 u_9.2.2.2.2.2.2.1 u_9.2.2.2.2.2.2.2.1 u_9.2.2.2.2.2.2.2.2 (nI be) (xhas_k hbl (by omega)) _) (cwV 1 hts gL_law_X1_wouldTurn rfl rfl rfl (by decide +kernel) ⟨Nat.le_of_ble_eq_true rfl, Nat.le_of_ble_eq_true rfl⟩) (preVQ hK hN (hP.pm (pmx_4_013 _ _ _ _)).left (hD.pm (pmx_4_013 _ _ _ _)).left [0] rfl rfl rfl) hP hD hS hA (pmx_4_013 _ _ _ _) (fun _ => (pmx_4_013 _ _ _ _).symm) rfl hl.1 rfl (Nat.le_of_ble_eq_true rfl) dL_law_351 ⟨by omega, by omega⟩ (fun r_10 u_10 H locs hr_10 hP hD hS => ?_)
        subst r_10
        have hP : va_P D vwCl (wX x a b ++ wM cI a pa pe st bn hc hm ((nI cN)) ((nI rN)) lo ++ wS cI c2 c3 v rw_ ow cN rN pa pd st bn hc hm lo tn ++ wM cI b u_10.1 u_10.2.1 u_10.2.2.1 u_10.2.2.2.1 u_10.2.2.2.2.1 u_10.2.2.2.2.2.1 u_10.2.2.2.2.2.2.1 u_10.2.2.2.2.2.2.2.1 u_10.2.2.2.2.2.2.2.2) H := hP
        have hD : va_D A (wX x a b ++ wM cI a pa pe st bn hc hm ((nI cN)) ((nI rN)) lo ++ wS cI c2 c3 v rw_ ow cN rN pa pd st bn hc hm lo tn ++ wM cI b u_10.1 u_10.2.1 u_10.2.2.1 u_10.2.2.2.1 u_10.2.2.2.2.1 u_10.2.2.2.2.2.1 u_10.2.2.2.2.2.2.1 u_10.2.2.2.2.2.2.2.1 u_10.2.2.2.2.2.2.2.2) := hD
        rw [wt_eq h9 h8 hI.z]
        refine lv_icmp_eq (tgt := 368) hx hb dL_law_354 (by decide) (fun c9 => absurd c9 (nI_neq (by have := (wt_le (pa := pa) (pe := pe) (st := st) h9 h8 c1).2; omega) (by have := (wt_le (pa := pa) (pe := pe) (st := st) h9 h8 be).2; omega) (Nat.ne_of_lt (hb2 c1 (nlt_of (by omega) (by omega) c_8))))) (fun c_11 => ?_)
        refine lw_E2 F0_ hI hcl hsl hc1 hP hD hS (lv_sub hl [0, 1, 2, 3, 4, 5, 6, 7, 8, 9, 10, 11, 12] rfl) (fun ta te ts tb tc tm tC tR tl H locs ls hP hD hS hl => ?_)
        refine lv_iinc (v := (nI (c1 + 1))) (lv' := [(11, .int (nI (c1 + 1))), (10, .int (nI be)), (9, .int (nI (tg pa (rN * cN)))), (8, .int (nI rN)), (7, .int (nI cN)), (5, .long bf), (4, .int xx), (3, .int tw), (2, .ref (v 0)), (1, .ref x), (0, .ref b0)]) hx hb dL_law_493 hl (k := 0) rfl (nI_1 c1) (by decide) rfl (fun ls hl => ?_)
        refine lv_goto (tgt := 293) hx hb dL_law_496 (by decide) ?_
        exact ih293 (c1 + 1) ta te ts tb tc tm tC tR tl (by omega)  _ _ hP hD hS ls (lv_sub hl [0, 1, 2, 3, 4, 5, 6, 7, 8, 9, 10] rfl)
  exact L293 cN 0 ta te ts tb tc tm tC tR tl (by omega)  _ _ hP hD hS ls (lv_sub hl [0, 1, 2, 3, 4, 5, 6, 7, 8, 9, 10] rfl)
