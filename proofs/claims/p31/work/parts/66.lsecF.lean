set_option maxHeartbeats 4000000 in
set_option maxRecDepth 100000 in
theorem lw_F {p : Program} {l : Launch} {e : Env} {s : State} {m : MethodId} {below : List Frame} {meth : Method} {c : Code} {Q : State → Prop} {D : va_G} {cI c2 c3 : ClassId} {x b0 L : Nat} {a b v rw_ : Nat → Nat} {ow : Nat → Nat → Nat} {xs : Nat → Int32} {A : Nat → Prop} {cells slots : Nat} {cN rN : Nat} {pa pe pd st bn hc hm : Nat → Int32} {lo tn : Int32} {ta te ts tb tc tm : Nat → Int32} {tC tR tl : Int32} {H : Heap} {locs : List Loc} {ls : Array Slot} {xx tw : Int32} {bf : Int64}  (F : LC2 p l s m b0 c D cI c2 c3 L xs A) (hI : PI cN rN pa pe pd st bn hc hm) (hcl : cells + 2000 ≤ room_1.cells) (hsl : slots + 20000 ≤ room_1.slots) (hbf : bf = xDig pa pe st bn hc hm (nI cN) (nI rN) lo) (hP : va_P D vwCl (wX x a b ++ wM cI a pa pe st bn hc hm ((nI cN)) ((nI rN)) lo ++ wS cI c2 c3 v rw_ ow cN rN pa pd st bn hc hm lo tn ++ wM cI b ta te ts tb tc tm tC tR tl) H) (hD : va_D A (wX x a b ++ wM cI a pa pe st bn hc hm ((nI cN)) ((nI rN)) lo ++ wS cI c2 c3 v rw_ ow cN rN pa pd st bn hc hm lo tn ++ wM cI b ta te ts tb tc tm tC tR tl)) (hS : va_S A s.heap H locs) (hl : lv_has ls 27 [(8, .int (nI rN)), (7, .int (nI cN)), (5, .long bf), (4, .int xx), (3, .int tw), (2, .ref (v 0)), (1, .ref x), (0, .ref b0)]) (K : ∀ (one many : Nat) (ta te ts tb tc tm : Nat → Int32) (tC tR tl : Int32) (H : Heap) (locs : List Loc) (ls : Array Slot), one < cN → 1 ≤ many → many ≤ 10 → va_P D vwCl (wX x a b ++ wM cI a pa pe st bn hc hm ((nI cN)) ((nI rN)) lo ++ wS cI c2 c3 v rw_ ow cN rN pa pd st bn hc hm lo tn ++ wM cI b ta te ts tb tc tm tC tR tl) H → va_D A (wX x a b ++ wM cI a pa pe st bn hc hm ((nI cN)) ((nI rN)) lo ++ wS cI c2 c3 v rw_ ow cN rN pa pd st bn hc hm lo tn ++ wM cI b ta te ts tb tc tm tC tR tl) → va_S A s.heap H locs → lv_has ls 27 [(14, .int (xLast pa pe st (nI cN) (nI rN) (nI one) (nI many))), (13, .int (nI many)), (12, .int (xAsb pa pe st (nI cN) (nI rN) (nI one))), (11, .int (nI one)), (8, .int (nI rN)), (7, .int (nI cN)), (5, .long bf), (4, .int xx), (3, .int tw), (2, .ref (v 0)), (1, .ref x), (0, .ref b0)] → W p l e room_1 s m #[Value.ref b0] below meth c H locs cells slots Q (F0 m 572 ls [])) : W p l e room_1 s m #[Value.ref b0] below meth c H locs cells slots Q (F0 m 499 ls []) := by
  obtain ⟨hx, hb, hml, hown, hts, hK, hN, hG, hX, hZ, hA, hXs, hb0l, hb0A, hst, hL, hNi, hL2⟩ := F
  have h2 := hI.c2
  have h9 := hI.c9
  have h1r := hI.r1
  have h8 := hI.r8
  refine lv_iload hx hb dL_law_499 (lv_at hl 3 rfl) ?_
  refine lv_iconst (v := 5) hx hb dL_law_501 (by decide) ?_
  refine lv_ishr hx hb dL_law_502 ?_
  refine lv_iload hx hb dL_law_503 (lv_at hl 1 rfl) ?_
  refine kBelow (v := (xx >>> (5 &&& 31))) (n := cN) (by omega) (by omega) ⟨hx, hb, hml, hown, hts⟩ (va_cwS 2 hts gL_law_L_below rfl rfl rfl (by decide +kernel) ⟨Nat.le_of_ble_eq_true rfl, Nat.le_of_ble_eq_true rfl⟩) hK hN hl.1 (Nat.le_of_ble_eq_true rfl) dL_law_505 ⟨by omega, by omega⟩ (fun b_1 hb_1 => ?_)
  refine lv_istore (lv' := [(11, .int (nI b_1)), (8, .int (nI rN)), (7, .int (nI cN)), (5, .long bf), (4, .int xx), (3, .int tw), (2, .ref (v 0)), (1, .ref x), (0, .ref b0)]) hx hb dL_law_508 hl (by decide) rfl (fun ls hl => ?_)
  obtain ⟨one, hone, eo⟩ : ∃ one, one < cN ∧ one = b_1 := ⟨_, hb_1, rfl⟩
  subst eo
  refine lv_aload_n hx hb dL_law_510 rfl (lv_at hl 7 rfl) ?_
  refine lv_iload hx hb dL_law_511 (lv_at hl 0 rfl) ?_
  refine kPVi (As := [.int (nI one)]) (rest := []) (Wr := (wS cI c2 c3 v rw_ ow cN rN pa pd st bn hc hm lo tn)) (W2 := (fun u : MS => (wX x a b ++ wM cI a pa pe st bn hc hm ((nI cN)) ((nI rN)) lo ++ wS cI c2 c3 v rw_ ow cN rN pa pd st bn hc hm lo tn ++ wM cI b u.1 u.2.1 u.2.2.1 u.2.2.2.1 u.2.2.2.2.1 u.2.2.2.2.2.1 u.2.2.2.2.2.2.1 u.2.2.2.2.2.2.2.1 u.2.2.2.2.2.2.2.2))) ⟨hx, hb, hml, hown, hts⟩ (mX1_asBeforeIn l D cI x a pa pe st bn hc hm (nI cN) (nI rN) lo b ta te ts tb tc tm tC tR tl (nI one) (xhas_k hone (by omega)) _) (cwV 1 hts gL_law_X1_asBeforeIn rfl rfl rfl (by decide +kernel) ⟨Nat.le_of_ble_eq_true rfl, Nat.le_of_ble_eq_true rfl⟩) (preVQ hK hN (hP.pm (pmx_4_013 _ _ _ _)).left (hD.pm (pmx_4_013 _ _ _ _)).left [0] rfl rfl rfl) hP hD hS hA (pmx_4_013 _ _ _ _) (fun _ => (pmx_4_013 _ _ _ _).symm) rfl hl.1 rfl (Nat.le_of_ble_eq_true rfl) dL_law_513 ⟨by omega, by omega⟩ (fun r_2 u_2 H locs hr_2 hP hD hS => ?_)
  subst r_2
  have hP : va_P D vwCl (wX x a b ++ wM cI a pa pe st bn hc hm ((nI cN)) ((nI rN)) lo ++ wS cI c2 c3 v rw_ ow cN rN pa pd st bn hc hm lo tn ++ wM cI b u_2.1 u_2.2.1 u_2.2.2.1 u_2.2.2.2.1 u_2.2.2.2.2.1 u_2.2.2.2.2.2.1 u_2.2.2.2.2.2.2.1 u_2.2.2.2.2.2.2.2.1 u_2.2.2.2.2.2.2.2.2) H := hP
  have hD : va_D A (wX x a b ++ wM cI a pa pe st bn hc hm ((nI cN)) ((nI rN)) lo ++ wS cI c2 c3 v rw_ ow cN rN pa pd st bn hc hm lo tn ++ wM cI b u_2.1 u_2.2.1 u_2.2.2.1 u_2.2.2.2.1 u_2.2.2.2.2.1 u_2.2.2.2.2.2.1 u_2.2.2.2.2.2.2.1 u_2.2.2.2.2.2.2.2.1 u_2.2.2.2.2.2.2.2.2) := hD
  refine lv_istore (lv' := [(12, .int (xAsb pa pe st (nI cN) (nI rN) (nI one))), (11, .int (nI one)), (8, .int (nI rN)), (7, .int (nI cN)), (5, .long bf), (4, .int xx), (3, .int tw), (2, .ref (v 0)), (1, .ref x), (0, .ref b0)]) hx hb dL_law_516 hl (by decide) rfl (fun ls hl => ?_)
  refine lv_iconst (v := 1) hx hb dL_law_518 (by decide) ?_
  refine lv_iload hx hb dL_law_519 (lv_at hl 5 rfl) ?_
  refine lv_bipush (v := 6) hx hb dL_law_521 (by decide) ?_
  refine lv_ishr hx hb dL_law_523 ?_
  refine lv_bipush (v := 10) hx hb dL_law_524 (by decide) ?_
  refine kBelow (v := (xx >>> (6 &&& 31))) (n := 10) (by omega) (by omega) ⟨hx, hb, hml, hown, hts⟩ (va_cwS 2 hts gL_law_L_below rfl rfl rfl (by decide +kernel) ⟨Nat.le_of_ble_eq_true rfl, Nat.le_of_ble_eq_true rfl⟩) hK hN hl.1 (Nat.le_of_ble_eq_true rfl) dL_law_526 ⟨by omega, by omega⟩ (fun b_3 hb_3 => ?_)
  refine lv_iadd hx hb dL_law_529 ?_
  rw [show (1 : Int32) + nI b_3 = nI (1 + b_3) from nI_add 1 b_3]
  refine lv_istore (lv' := [(13, .int (nI (1 + b_3))), (12, .int (xAsb pa pe st (nI cN) (nI rN) (nI one))), (11, .int (nI one)), (8, .int (nI rN)), (7, .int (nI cN)), (5, .long bf), (4, .int xx), (3, .int tw), (2, .ref (v 0)), (1, .ref x), (0, .ref b0)]) hx hb dL_law_530 hl (by decide) rfl (fun ls hl => ?_)
  obtain ⟨many, hm1, hm2, em⟩ : ∃ many, 1 ≤ many ∧ many ≤ 10 ∧ many = 1 + b_3 := ⟨_, by omega, by omega, rfl⟩
  rw [← em] at hl
  refine lv_aload_n hx hb dL_law_532 rfl (lv_at hl 9 rfl) ?_
  refine lv_iload hx hb dL_law_533 (lv_at hl 2 rfl) ?_
  refine lv_iload hx hb dL_law_535 (lv_at hl 0 rfl) ?_
  refine kPVi (As := [.int (nI one), .int (nI many)]) (rest := []) (Wr := (wS cI c2 c3 v rw_ ow cN rN pa pd st bn hc hm lo tn)) (W2 := (fun u : MS => (wX x a b ++ wM cI a pa pe st bn hc hm ((nI cN)) ((nI rN)) lo ++ wS cI c2 c3 v rw_ ow cN rN pa pd st bn hc hm lo tn ++ wM cI b u.1 u.2.1 u.2.2.1 u.2.2.2.1 u.2.2.2.2.1 u.2.2.2.2.2.1 u.2.2.2.2.2.2.1 u.2.2.2.2.2.2.2.1 u.2.2.2.2.2.2.2.2))) ⟨hx, hb, hml, hown, hts⟩ (mX1_lastLands l D cI x a pa pe st bn hc hm (nI cN) (nI rN) lo b u_2.1 u_2.2.1 u_2.2.2.1 u_2.2.2.2.1 u_2.2.2.2.2.1 u_2.2.2.2.2.2.1 u_2.2.2.2.2.2.2.1 u_2.2.2.2.2.2.2.2.1 u_2.2.2.2.2.2.2.2.2 (nI one) (nI many) (xhas_k hone (by omega)) (show xin (nI many) (nI 1) (nI 60) = true from xin_k (by omega) (by omega) (by omega)) _) (cwV 2 hts gL_law_X1_lastLands rfl rfl rfl (by decide +kernel) ⟨Nat.le_of_ble_eq_true rfl, Nat.le_of_ble_eq_true rfl⟩) (preVQ hK hN (hP.pm (pmx_4_013 _ _ _ _)).left (hD.pm (pmx_4_013 _ _ _ _)).left [0] rfl rfl rfl) hP hD hS hA (pmx_4_013 _ _ _ _) (fun _ => (pmx_4_013 _ _ _ _).symm) rfl hl.1 rfl (Nat.le_of_ble_eq_true rfl) dL_law_537 ⟨by omega, by omega⟩ (fun r_4 u_4 H locs hr_4 hP hD hS => ?_)
  subst r_4
  have hP : va_P D vwCl (wX x a b ++ wM cI a pa pe st bn hc hm ((nI cN)) ((nI rN)) lo ++ wS cI c2 c3 v rw_ ow cN rN pa pd st bn hc hm lo tn ++ wM cI b u_4.1 u_4.2.1 u_4.2.2.1 u_4.2.2.2.1 u_4.2.2.2.2.1 u_4.2.2.2.2.2.1 u_4.2.2.2.2.2.2.1 u_4.2.2.2.2.2.2.2.1 u_4.2.2.2.2.2.2.2.2) H := hP
  have hD : va_D A (wX x a b ++ wM cI a pa pe st bn hc hm ((nI cN)) ((nI rN)) lo ++ wS cI c2 c3 v rw_ ow cN rN pa pd st bn hc hm lo tn ++ wM cI b u_4.1 u_4.2.1 u_4.2.2.1 u_4.2.2.2.1 u_4.2.2.2.2.1 u_4.2.2.2.2.2.1 u_4.2.2.2.2.2.2.1 u_4.2.2.2.2.2.2.2.1 u_4.2.2.2.2.2.2.2.2) := hD
  refine lv_istore (lv' := [(14, .int (xLast pa pe st (nI cN) (nI rN) (nI one) (nI many))), (13, .int (nI many)), (12, .int (xAsb pa pe st (nI cN) (nI rN) (nI one))), (11, .int (nI one)), (8, .int (nI rN)), (7, .int (nI cN)), (5, .long bf), (4, .int xx), (3, .int tw), (2, .ref (v 0)), (1, .ref x), (0, .ref b0)]) hx hb dL_law_540 hl (by decide) rfl (fun ls hl => ?_)
  refine lv_iload hx hb dL_law_542 (lv_at hl 2 rfl) ?_
  refine lv_if_eq (tgt := 570) hx hb dL_law_544 (by decide) (fun c9 => absurd c9 (asb3 pa pe st (nI cN) (nI rN) (nI one)).1) (fun c_5 => ?_)
  refine lv_iload hx hb dL_law_547 (lv_at hl 2 rfl) ?_
  refine lv_iconst (v := (-1)) hx hb dL_law_549 (by decide) ?_
  refine lv_icmp_lt (tgt := 570) hx hb dL_law_550 (by decide) (fun c9 => absurd c9 (asb3 pa pe st (nI cN) (nI rN) (nI one)).2.1) (fun c_6 => ?_)
  refine lv_iload hx hb dL_law_553 (lv_at hl 2 rfl) ?_
  refine lv_bipush (v := 60) hx hb dL_law_555 (by decide) ?_
  refine lv_icmp_gt (tgt := 570) hx hb dL_law_557 (by decide) (fun c9 => absurd c9 (asb3 pa pe st (nI cN) (nI rN) (nI one)).2.2) (fun c_7 => ?_)
  refine lv_aload_n hx hb dL_law_560 rfl (lv_at hl 10 rfl) ?_
  refine kPVl (As := []) (rest := []) (Wr := (wS cI c2 c3 v rw_ ow cN rN pa pd st bn hc hm lo tn)) (W2 := (fun u : MS => (wX x a b ++ wM cI a pa pe st bn hc hm ((nI cN)) ((nI rN)) lo ++ wS cI c2 c3 v rw_ ow cN rN pa pd st bn hc hm lo tn ++ wM cI b u.1 u.2.1 u.2.2.1 u.2.2.2.1 u.2.2.2.2.1 u.2.2.2.2.2.1 u.2.2.2.2.2.2.1 u.2.2.2.2.2.2.2.1 u.2.2.2.2.2.2.2.2))) ⟨hx, hb, hml, hown, hts⟩ (mX1_digest l D cI x a pa pe st bn hc hm (nI cN) (nI rN) lo b u_4.1 u_4.2.1 u_4.2.2.1 u_4.2.2.2.1 u_4.2.2.2.2.1 u_4.2.2.2.2.2.1 u_4.2.2.2.2.2.2.1 u_4.2.2.2.2.2.2.2.1 u_4.2.2.2.2.2.2.2.2 _) (cwV 0 hts gL_law_X1_digest rfl rfl rfl (by decide +kernel) ⟨Nat.le_of_ble_eq_true rfl, Nat.le_of_ble_eq_true rfl⟩) (preVQ hK hN (hP.pm (pmx_4_013 _ _ _ _)).left (hD.pm (pmx_4_013 _ _ _ _)).left [0] rfl rfl rfl) hP hD hS hA (pmx_4_013 _ _ _ _) (fun _ => (pmx_4_013 _ _ _ _).symm) rfl hl.1 rfl (Nat.le_of_ble_eq_true rfl) dL_law_561 ⟨by omega, by omega⟩ (fun r_8 u_8 H locs hr_8 hP hD hS => ?_)
  subst r_8
  have hP : va_P D vwCl (wX x a b ++ wM cI a pa pe st bn hc hm ((nI cN)) ((nI rN)) lo ++ wS cI c2 c3 v rw_ ow cN rN pa pd st bn hc hm lo tn ++ wM cI b u_8.1 u_8.2.1 u_8.2.2.1 u_8.2.2.2.1 u_8.2.2.2.2.1 u_8.2.2.2.2.2.1 u_8.2.2.2.2.2.2.1 u_8.2.2.2.2.2.2.2.1 u_8.2.2.2.2.2.2.2.2) H := hP
  have hD : va_D A (wX x a b ++ wM cI a pa pe st bn hc hm ((nI cN)) ((nI rN)) lo ++ wS cI c2 c3 v rw_ ow cN rN pa pd st bn hc hm lo tn ++ wM cI b u_8.1 u_8.2.1 u_8.2.2.1 u_8.2.2.2.1 u_8.2.2.2.2.1 u_8.2.2.2.2.2.1 u_8.2.2.2.2.2.2.1 u_8.2.2.2.2.2.2.2.1 u_8.2.2.2.2.2.2.2.2) := hD
  refine lv_lload hx hb dL_law_564 (lv_at hl 6 rfl) ?_
  refine W.lcmp hx hb dL_law_566 ?_
  refine lv_if_eq (tgt := 572) hx hb dL_law_567 (by decide) (fun c_9 => ?_) (fun c9 => absurd (by rw [hbf]; exact (lg_cmp_eq _ _).mpr rfl) c9)
  exact K one many u_8.1 u_8.2.1 u_8.2.2.1 u_8.2.2.2.1 u_8.2.2.2.2.1 u_8.2.2.2.2.2.1 u_8.2.2.2.2.2.2.1 u_8.2.2.2.2.2.2.2.1 u_8.2.2.2.2.2.2.2.2 _ _ _ hone hm1 hm2 hP hD hS (lv_sub hl [0, 1, 2, 3, 4, 5, 6, 7, 8, 9, 10, 11] rfl)
