set_option maxHeartbeats 4000000 in
set_option maxRecDepth 100000 in
theorem lw_H {p : Program} {l : Launch} {e : Env} {s : State} {m : MethodId} {below : List Frame} {meth : Method} {c : Code} {Q : State → Prop} {D : va_G} {cI c2 c3 : ClassId} {x b0 L : Nat} {a b v rw_ : Nat → Nat} {ow : Nat → Nat → Nat} {xs : Nat → Int32} {A : Nat → Prop} {cells slots : Nat} {cN rN : Nat} {pa pe pd st bn hc hm : Nat → Int32} {lo tn : Int32} {ta te ts tb tc tm : Nat → Int32} {tC tR tl : Int32} {H : Heap} {locs : List Loc} {ls : Array Slot} {xx tw : Int32} {bf : Int64}  (F : LC2 p l s m b0 c D cI c2 c3 L xs A) (hI : PI cN rN pa pe pd st bn hc hm) (hcl : cells + 2000 ≤ room_1.cells) (hsl : slots + 20000 ≤ room_1.slots) (hP : va_P D vwCl (wX x a b ++ wM cI a pa pe st bn hc hm ((nI cN)) ((nI rN)) lo ++ wS cI c2 c3 v rw_ ow cN rN pa pd st bn hc hm lo tn ++ wM cI b ta te ts tb tc tm tC tR tl) H) (hD : va_D A (wX x a b ++ wM cI a pa pe st bn hc hm ((nI cN)) ((nI rN)) lo ++ wS cI c2 c3 v rw_ ow cN rN pa pd st bn hc hm lo tn ++ wM cI b ta te ts tb tc tm tC tR tl)) (hS : va_S A s.heap H locs) (hl : lv_has ls 27 [(8, .int (nI rN)), (7, .int (nI cN)), (5, .long bf), (4, .int xx), (3, .int tw), (2, .ref (v 0)), (1, .ref x), (0, .ref b0)]) (K : ∀ (sv bv hv : Nat → Int32) (lv tnv : Int32) (ta te ts tb tc tm : Nat → Int32) (tC tR tl : Int32) (H : Heap) (locs : List Loc) (ls : Array Slot), PI cN rN pa pe pd sv bv hc hv → va_P D vwCl (wX x a b ++ wM cI a pa pe sv bv hc hv ((nI cN)) ((nI rN)) lv ++ wS cI c2 c3 v rw_ ow cN rN pa pd sv bv hc hv lv tnv ++ wM cI b ta te ts tb tc tm tC tR tl) H → va_D A (wX x a b ++ wM cI a pa pe sv bv hc hv ((nI cN)) ((nI rN)) lv ++ wS cI c2 c3 v rw_ ow cN rN pa pd sv bv hc hv lv tnv ++ wM cI b ta te ts tb tc tm tC tR tl) → va_S A s.heap H locs → lv_has ls 27 [(8, .int (nI rN)), (7, .int (nI cN)), (5, .long bf), (4, .int xx), (3, .int tw), (2, .ref (v 0)), (1, .ref x), (0, .ref b0)] → W p l e room_1 s m #[Value.ref b0] below meth c H locs cells slots Q (F0 m 1027 ls [])) : W p l e room_1 s m #[Value.ref b0] below meth c H locs cells slots Q (F0 m 912 ls []) := by
  obtain ⟨hx, hb, hml, hown, hts, hK, hN, hG, hX, hZ, hA, hXs, hb0l, hb0A, hst, hL, hNi, hL2⟩ := F
  have h2 := hI.c2
  have h9 := hI.c9
  have h1r := hI.r1
  have h8 := hI.r8
  refine lv_iload hx hb dL_law_912 (lv_at hl 3 rfl) ?_
  refine lv_bipush (v := 7) hx hb dL_law_914 (by decide) ?_
  refine lv_ishr hx hb dL_law_916 ?_
  refine lv_iconst (v := 2) hx hb dL_law_917 (by decide) ?_
  refine kBelow (v := (xx >>> (7 &&& 31))) (n := 2) (by omega) (by omega) ⟨hx, hb, hml, hown, hts⟩ (va_cwS 2 hts gL_law_L_below rfl rfl rfl (by decide +kernel) ⟨Nat.le_of_ble_eq_true rfl, Nat.le_of_ble_eq_true rfl⟩) hK hN hl.1 (Nat.le_of_ble_eq_true rfl) dL_law_918 ⟨by omega, by omega⟩ (fun b_1 hb_1 => ?_)
  obtain ⟨hh, hhh, eh⟩ : ∃ hh, hh < 2 ∧ hh = b_1 := ⟨_, hb_1, rfl⟩
  subst eh
  refine lv_istore (lv' := [(17, .int (nI hh)), (8, .int (nI rN)), (7, .int (nI cN)), (5, .long bf), (4, .int xx), (3, .int tw), (2, .ref (v 0)), (1, .ref x), (0, .ref b0)]) hx hb dL_law_921 hl (by decide) rfl (fun ls hl => ?_)
  refine lv_aload_n hx hb dL_law_923 rfl (lv_at hl 7 rfl) ?_
  refine lv_iload hx hb dL_law_924 (lv_at hl 0 rfl) ?_
  refine kPVi (As := [.int (nI hh)]) (rest := []) (Wr := (wS cI c2 c3 v rw_ ow cN rN pa pd st bn hc hm lo tn)) (W2 := (fun u : MS => (wX x a b ++ wM cI a pa pe st bn hc hm ((nI cN)) ((nI rN)) lo ++ wS cI c2 c3 v rw_ ow cN rN pa pd st bn hc hm lo tn ++ wM cI b u.1 u.2.1 u.2.2.1 u.2.2.2.1 u.2.2.2.2.1 u.2.2.2.2.2.1 u.2.2.2.2.2.2.1 u.2.2.2.2.2.2.2.1 u.2.2.2.2.2.2.2.2))) ⟨hx, hb, hml, hown, hts⟩ (mX1_wouldRun l D cI x a pa pe st bn hc hm (nI cN) (nI rN) lo b ta te ts tb tc tm tC tR tl (nI hh) (xhas_2k hhh) _) (cwV 1 hts gL_law_X1_wouldRun rfl rfl rfl (by decide +kernel) ⟨Nat.le_of_ble_eq_true rfl, Nat.le_of_ble_eq_true rfl⟩) (preVQ hK hN (hP.pm (pmx_4_013 _ _ _ _)).left (hD.pm (pmx_4_013 _ _ _ _)).left [0] rfl rfl rfl) hP hD hS hA (pmx_4_013 _ _ _ _) (fun _ => (pmx_4_013 _ _ _ _).symm) rfl hl.1 rfl (Nat.le_of_ble_eq_true rfl) dL_law_926 ⟨by omega, by omega⟩ (fun r_2 u_2 H locs hr_2 hP hD hS => ?_)
  subst r_2
  have hP : va_P D vwCl (wX x a b ++ wM cI a pa pe st bn hc hm ((nI cN)) ((nI rN)) lo ++ wS cI c2 c3 v rw_ ow cN rN pa pd st bn hc hm lo tn ++ wM cI b u_2.1 u_2.2.1 u_2.2.2.1 u_2.2.2.2.1 u_2.2.2.2.2.1 u_2.2.2.2.2.2.1 u_2.2.2.2.2.2.2.1 u_2.2.2.2.2.2.2.2.1 u_2.2.2.2.2.2.2.2.2) H := hP
  have hD : va_D A (wX x a b ++ wM cI a pa pe st bn hc hm ((nI cN)) ((nI rN)) lo ++ wS cI c2 c3 v rw_ ow cN rN pa pd st bn hc hm lo tn ++ wM cI b u_2.1 u_2.2.1 u_2.2.2.1 u_2.2.2.2.1 u_2.2.2.2.2.1 u_2.2.2.2.2.2.1 u_2.2.2.2.2.2.2.1 u_2.2.2.2.2.2.2.2.1 u_2.2.2.2.2.2.2.2.2) := hD
  obtain ⟨f9, a1, a2, a3, a4, q1, q2, q3, q4, q5, q6, q7, q8, q9, -, -, -, -⟩ := hI.run (i := hh) (mm := 99) lo hhh (by omega)
  rw [show (99 : Int32) = nI 99 from rfl, q9]
  refine lv_istore (lv' := [(18, .int (nI f9)), (17, .int (nI hh)), (8, .int (nI rN)), (7, .int (nI cN)), (5, .long bf), (4, .int xx), (3, .int tw), (2, .ref (v 0)), (1, .ref x), (0, .ref b0)]) hx hb dL_law_929 hl (by decide) rfl (fun ls hl => ?_)
  refine lv_aload_n hx hb dL_law_931 rfl (lv_at hl 8 rfl) ?_
  refine lv_iconst (v := 0) hx hb dL_law_932 (by decide) ?_
  refine kRVi (As := [.int 0]) (rest := []) ⟨hx, hb, hml, hown, hts⟩ (mX1_marblesIn l D cI x b a pa pe st bn hc hm (nI cN) (nI rN) lo 0 (show xhas 2 (nI 0) = true from xhas_2k (by omega))) (cwV 1 hts gL_law_X1_marblesIn rfl rfl rfl (by decide +kernel) ⟨Nat.le_of_ble_eq_true rfl, Nat.le_of_ble_eq_true rfl⟩) hP hK hN [0, 1, 2, 3, 4, 5, 6, 7] rfl [0] rfl rfl rfl rfl hl.1 rfl (Nat.le_of_ble_eq_true rfl) dL_law_933 ⟨by omega, by omega⟩ (fun r_3 hr_3 => ?_)
  subst r_3
  rw [show xcl 2 hm 0 = nI a1 from (xcl_n (k := 0) (by decide) (by decide) hm).trans q7]
  refine lv_aload_n hx hb dL_law_936 rfl (lv_at hl 8 rfl) ?_
  refine lv_iconst (v := 1) hx hb dL_law_937 (by decide) ?_
  refine kRVi (As := [.int 1]) (rest := [.int (nI a1)]) ⟨hx, hb, hml, hown, hts⟩ (mX1_marblesIn l D cI x b a pa pe st bn hc hm (nI cN) (nI rN) lo 1 (show xhas 2 (nI 1) = true from xhas_2k (by omega))) (cwV 1 hts gL_law_X1_marblesIn rfl rfl rfl (by decide +kernel) ⟨Nat.le_of_ble_eq_true rfl, Nat.le_of_ble_eq_true rfl⟩) hP hK hN [0, 1, 2, 3, 4, 5, 6, 7] rfl [0] rfl rfl rfl rfl hl.1 rfl (Nat.le_of_ble_eq_true rfl) dL_law_938 ⟨by omega, by omega⟩ (fun r_4 hr_4 => ?_)
  subst r_4
  rw [show xcl 2 hm 1 = nI a2 from (xcl_n (k := 1) (by decide) (by decide) hm).trans q8]
  refine lv_iadd hx hb dL_law_941 ?_
  rw [nI_add]
  refine lv_istore (lv' := [(19, .int (nI (a1 + a2))), (18, .int (nI f9)), (17, .int (nI hh)), (8, .int (nI rN)), (7, .int (nI cN)), (5, .long bf), (4, .int xx), (3, .int tw), (2, .ref (v 0)), (1, .ref x), (0, .ref b0)]) hx hb dL_law_942 hl (by decide) rfl (fun ls hl => ?_)
  refine lv_iconst (v := 1) hx hb dL_law_944 (by decide) ?_
  refine lv_iload hx hb dL_law_945 (lv_at hl 6 rfl) ?_
  refine lv_iconst (v := 4) hx hb dL_law_947 (by decide) ?_
  refine lv_ishr hx hb dL_law_948 ?_
  refine lv_bipush (v := 99) hx hb dL_law_949 (by decide) ?_
  refine kBelow (v := (xx >>> (4 &&& 31))) (n := 99) (by omega) (by omega) ⟨hx, hb, hml, hown, hts⟩ (va_cwS 2 hts gL_law_L_below rfl rfl rfl (by decide +kernel) ⟨Nat.le_of_ble_eq_true rfl, Nat.le_of_ble_eq_true rfl⟩) hK hN hl.1 (Nat.le_of_ble_eq_true rfl) dL_law_951 ⟨by omega, by omega⟩ (fun b_5 hb_5 => ?_)
  refine lv_iadd hx hb dL_law_954 ?_
  rw [show (1 : Int32) + nI b_5 = nI (1 + b_5) from nI_add 1 b_5]
  refine lv_istore (lv' := [(20, .int (nI (1 + b_5))), (19, .int (nI (a1 + a2))), (18, .int (nI f9)), (17, .int (nI hh)), (8, .int (nI rN)), (7, .int (nI cN)), (5, .long bf), (4, .int xx), (3, .int tw), (2, .ref (v 0)), (1, .ref x), (0, .ref b0)]) hx hb dL_law_955 hl (by decide) rfl (fun ls hl => ?_)
  obtain ⟨mo, hmo1, hmo2, em⟩ : ∃ mo, 1 ≤ mo ∧ mo ≤ 99 ∧ mo = 1 + b_5 := ⟨_, by omega, by omega, rfl⟩
  rw [← em] at hl
  obtain ⟨f, z1, z2, y1, y2, p1, p2, p3, p4, p5, p6, p7, p8, p9, p10, p11, hJ, pN⟩ := hI.run (i := hh) (mm := mo) lo hhh (by omega)
  obtain ⟨ff, r1, r2, r3⟩ := pN 99 hmo2 (by omega)
  have ef : ff = f9 := nI_inj (by omega) (by omega) (r2.symm.trans q9)
  have ez : z1 + z2 = a1 + a2 := by
    have := nI_inj (by omega) (by omega) (p7.symm.trans q7)
    have := nI_inj (by omega) (by omega) (p8.symm.trans q8)
    omega
  refine lv_aload_n hx hb dL_law_957 rfl (lv_at hl 10 rfl) ?_
  refine lv_iload hx hb dL_law_958 (lv_at hl 3 rfl) ?_
  refine lv_iload hx hb dL_law_960 (lv_at hl 0 rfl) ?_
  refine kPVi (As := [.int (nI hh), .int (nI mo)]) (rest := []) (Wr := (wS cI c2 c3 v rw_ ow cN rN pa pd st bn hc hm lo tn ++ wM cI b u_2.1 u_2.2.1 u_2.2.2.1 u_2.2.2.2.1 u_2.2.2.2.2.1 u_2.2.2.2.2.2.1 u_2.2.2.2.2.2.2.1 u_2.2.2.2.2.2.2.2.1 u_2.2.2.2.2.2.2.2.2)) (W2 := (fun _ : Unit => (wX x a b ++ wM cI a pa pe ((xRun pa pe st bn hc hm (nI cN) (nI rN) lo (nI hh) (nI mo)).2.1) ((xRun pa pe st bn hc hm (nI cN) (nI rN) lo (nI hh) (nI mo)).2.2.1) hc ((xRun pa pe st bn hc hm (nI cN) (nI rN) lo (nI hh) (nI mo)).2.2.2.2) ((nI cN)) ((nI rN)) ((xRun pa pe st bn hc hm (nI cN) (nI rN) lo (nI hh) (nI mo)).2.2.2.1) ++ wS cI c2 c3 v rw_ ow cN rN pa pd st bn hc hm lo tn ++ wM cI b u_2.1 u_2.2.1 u_2.2.2.1 u_2.2.2.2.1 u_2.2.2.2.2.1 u_2.2.2.2.2.2.1 u_2.2.2.2.2.2.2.1 u_2.2.2.2.2.2.2.2.1 u_2.2.2.2.2.2.2.2.2))) ⟨hx, hb, hml, hown, hts⟩ (mX1_run l D cI x b a pa pe st bn hc hm (nI cN) (nI rN) lo (nI hh) (nI mo) (xhas_2k hhh) (show xin (nI mo) (nI 1) (nI 99) = true from xin_k (by omega) (by omega) (by omega)) _) (cwV 2 hts gL_law_X1_run rfl rfl rfl (by decide +kernel) ⟨Nat.le_of_ble_eq_true rfl, Nat.le_of_ble_eq_true rfl⟩) (preVQ hK hN (hP.pm (pmx_4_01 _ _ _ _)).left (hD.pm (pmx_4_01 _ _ _ _)).left [0] rfl rfl rfl) hP hD hS hA (pmx_4_01 _ _ _ _) (fun _ => (pmx_4_01 _ _ _ _).symm) rfl hl.1 rfl (Nat.le_of_ble_eq_true rfl) dL_law_962 ⟨by omega, by omega⟩ (fun r_6 u_6 H locs hr_6 hP hD hS => ?_)
  subst r_6
  have hP : va_P D vwCl (wX x a b ++ wM cI a pa pe ((xRun pa pe st bn hc hm (nI cN) (nI rN) lo (nI hh) (nI mo)).2.1) ((xRun pa pe st bn hc hm (nI cN) (nI rN) lo (nI hh) (nI mo)).2.2.1) hc ((xRun pa pe st bn hc hm (nI cN) (nI rN) lo (nI hh) (nI mo)).2.2.2.2) ((nI cN)) ((nI rN)) ((xRun pa pe st bn hc hm (nI cN) (nI rN) lo (nI hh) (nI mo)).2.2.2.1) ++ wS cI c2 c3 v rw_ ow cN rN pa pd st bn hc hm lo tn ++ wM cI b u_2.1 u_2.2.1 u_2.2.2.1 u_2.2.2.2.1 u_2.2.2.2.2.1 u_2.2.2.2.2.2.1 u_2.2.2.2.2.2.2.1 u_2.2.2.2.2.2.2.2.1 u_2.2.2.2.2.2.2.2.2) H := hP
  have hD : va_D A (wX x a b ++ wM cI a pa pe ((xRun pa pe st bn hc hm (nI cN) (nI rN) lo (nI hh) (nI mo)).2.1) ((xRun pa pe st bn hc hm (nI cN) (nI rN) lo (nI hh) (nI mo)).2.2.1) hc ((xRun pa pe st bn hc hm (nI cN) (nI rN) lo (nI hh) (nI mo)).2.2.2.2) ((nI cN)) ((nI rN)) ((xRun pa pe st bn hc hm (nI cN) (nI rN) lo (nI hh) (nI mo)).2.2.2.1) ++ wS cI c2 c3 v rw_ ow cN rN pa pd st bn hc hm lo tn ++ wM cI b u_2.1 u_2.2.1 u_2.2.2.1 u_2.2.2.2.1 u_2.2.2.2.2.1 u_2.2.2.2.2.2.1 u_2.2.2.2.2.2.2.1 u_2.2.2.2.2.2.2.2.1 u_2.2.2.2.2.2.2.2.2) := hD
  rw [p9]
  refine lv_istore (lv' := [(21, .int (nI f)), (20, .int (nI mo)), (19, .int (nI (a1 + a2))), (18, .int (nI f9)), (17, .int (nI hh)), (8, .int (nI rN)), (7, .int (nI cN)), (5, .long bf), (4, .int xx), (3, .int tw), (2, .ref (v 0)), (1, .ref x), (0, .ref b0)]) hx hb dL_law_965 hl (by decide) rfl (fun ls hl => ?_)
  refine lv_iload hx hb dL_law_967 (lv_at hl 0 rfl) ?_
  refine lv_iload hx hb dL_law_969 (lv_at hl 3 rfl) ?_
  refine lv_iload hx hb dL_law_971 (lv_at hl 1 rfl) ?_
  refine va_mmin hx hb (hml.trans hl.1.symm) (index := 156) hown (hts (.methodLink RL 156 Lib.Math.min.name) (mg 9 rfl)) (hts (.static Lib.Math.min.name) (mg 10 rfl)) (hts (.initialized "java/lang/Math") (mg 5 rfl)) (hts (.code Lib.Math.min.name Lib.Math.min.code 2 (some .int)) (mg 11 rfl)) (Nat.le_of_ble_eq_true rfl) (Nat.le_of_ble_eq_true rfl) (by omega) (by omega) dL_law_973 ?_
  rw [show (if nI mo < nI f9 then nI mo else nI f9) = nI f from by
    by_cases c : mo < f9
    · rw [if_pos (nI_lt c (by omega)), show f = mo by omega]
    · rw [if_neg (nI_nlt (by omega) (by omega)), show f = f9 by omega]]
  refine lv_icmp_ne (tgt := 1025) hx hb dL_law_976 (by decide) (fun c9 => absurd rfl c9) (fun c_7 => ?_)
  refine lv_aload_n hx hb dL_law_979 rfl (lv_at hl 10 rfl) ?_
  refine lv_iload hx hb dL_law_980 (lv_at hl 4 rfl) ?_
  refine lv_iload hx hb dL_law_982 (lv_at hl 1 rfl) ?_
  refine kPVi (As := [.int (nI hh), .int (nI mo)]) (rest := []) (Wr := (wX x a b ++ wM cI a pa pe ((xRun pa pe st bn hc hm (nI cN) (nI rN) lo (nI hh) (nI mo)).2.1) ((xRun pa pe st bn hc hm (nI cN) (nI rN) lo (nI hh) (nI mo)).2.2.1) hc ((xRun pa pe st bn hc hm (nI cN) (nI rN) lo (nI hh) (nI mo)).2.2.2.2) ((nI cN)) ((nI rN)) ((xRun pa pe st bn hc hm (nI cN) (nI rN) lo (nI hh) (nI mo)).2.2.2.1) ++ wM cI b u_2.1 u_2.2.1 u_2.2.2.1 u_2.2.2.2.1 u_2.2.2.2.2.1 u_2.2.2.2.2.2.1 u_2.2.2.2.2.2.2.1 u_2.2.2.2.2.2.2.2.1 u_2.2.2.2.2.2.2.2.2)) (W2 := (fun u : Int32 => (wX x a b ++ wM cI a pa pe ((xRun pa pe st bn hc hm (nI cN) (nI rN) lo (nI hh) (nI mo)).2.1) ((xRun pa pe st bn hc hm (nI cN) (nI rN) lo (nI hh) (nI mo)).2.2.1) hc ((xRun pa pe st bn hc hm (nI cN) (nI rN) lo (nI hh) (nI mo)).2.2.2.2) ((nI cN)) ((nI rN)) ((xRun pa pe st bn hc hm (nI cN) (nI rN) lo (nI hh) (nI mo)).2.2.2.1) ++ wS cI c2 c3 v rw_ ow cN rN pa pd ((xRun pa pe st bn hc hm (nI cN) (nI rN) lo (nI hh) (nI mo)).2.1) ((xRun pa pe st bn hc hm (nI cN) (nI rN) lo (nI hh) (nI mo)).2.2.1) hc ((xRun pa pe st bn hc hm (nI cN) (nI rN) lo (nI hh) (nI mo)).2.2.2.2) ((xRun pa pe st bn hc hm (nI cN) (nI rN) lo (nI hh) (nI mo)).2.2.2.1) u ++ wM cI b u_2.1 u_2.2.1 u_2.2.2.1 u_2.2.2.2.1 u_2.2.2.2.2.1 u_2.2.2.2.2.2.1 u_2.2.2.2.2.2.2.1 u_2.2.2.2.2.2.2.2.1 u_2.2.2.2.2.2.2.2.2))) ⟨hx, hb, hml, hown, hts⟩ (mX2_run l D cI c2 c3 v rw_ ow cN rN pa pd st bn hc hm lo tn (by omega) h9 h8 pe hI.ok hI.hh hh mo hhh (by omega) _) (cwV 2 hts gL_law_X2_run rfl rfl rfl (by decide +kernel) ⟨Nat.le_of_ble_eq_true rfl, Nat.le_of_ble_eq_true rfl⟩) (preVQ hK hN (hP.pm (pmx_4_2 _ _ _ _)).left (hD.pm (pmx_4_2 _ _ _ _)).left [0, 1, 2] rfl rfl rfl) hP hD hS hA (pmx_4_2 _ _ _ _) (fun _ => (pmx_4_2 _ _ _ _).symm) rfl hl.1 rfl (Nat.le_of_ble_eq_true rfl) dL_law_984 ⟨by omega, by omega⟩ (fun r_8 u_8 H locs hr_8 hP hD hS => ?_)
  have hP : va_P D vwCl (wX x a b ++ wM cI a pa pe ((xRun pa pe st bn hc hm (nI cN) (nI rN) lo (nI hh) (nI mo)).2.1) ((xRun pa pe st bn hc hm (nI cN) (nI rN) lo (nI hh) (nI mo)).2.2.1) hc ((xRun pa pe st bn hc hm (nI cN) (nI rN) lo (nI hh) (nI mo)).2.2.2.2) ((nI cN)) ((nI rN)) ((xRun pa pe st bn hc hm (nI cN) (nI rN) lo (nI hh) (nI mo)).2.2.2.1) ++ wS cI c2 c3 v rw_ ow cN rN pa pd ((xRun pa pe st bn hc hm (nI cN) (nI rN) lo (nI hh) (nI mo)).2.1) ((xRun pa pe st bn hc hm (nI cN) (nI rN) lo (nI hh) (nI mo)).2.2.1) hc ((xRun pa pe st bn hc hm (nI cN) (nI rN) lo (nI hh) (nI mo)).2.2.2.2) ((xRun pa pe st bn hc hm (nI cN) (nI rN) lo (nI hh) (nI mo)).2.2.2.1) u_8 ++ wM cI b u_2.1 u_2.2.1 u_2.2.2.1 u_2.2.2.2.1 u_2.2.2.2.2.1 u_2.2.2.2.2.2.1 u_2.2.2.2.2.2.2.1 u_2.2.2.2.2.2.2.2.1 u_2.2.2.2.2.2.2.2.2) H := hP
  have hD : va_D A (wX x a b ++ wM cI a pa pe ((xRun pa pe st bn hc hm (nI cN) (nI rN) lo (nI hh) (nI mo)).2.1) ((xRun pa pe st bn hc hm (nI cN) (nI rN) lo (nI hh) (nI mo)).2.2.1) hc ((xRun pa pe st bn hc hm (nI cN) (nI rN) lo (nI hh) (nI mo)).2.2.2.2) ((nI cN)) ((nI rN)) ((xRun pa pe st bn hc hm (nI cN) (nI rN) lo (nI hh) (nI mo)).2.2.2.1) ++ wS cI c2 c3 v rw_ ow cN rN pa pd ((xRun pa pe st bn hc hm (nI cN) (nI rN) lo (nI hh) (nI mo)).2.1) ((xRun pa pe st bn hc hm (nI cN) (nI rN) lo (nI hh) (nI mo)).2.2.1) hc ((xRun pa pe st bn hc hm (nI cN) (nI rN) lo (nI hh) (nI mo)).2.2.2.2) ((xRun pa pe st bn hc hm (nI cN) (nI rN) lo (nI hh) (nI mo)).2.2.2.1) u_8 ++ wM cI b u_2.1 u_2.2.1 u_2.2.2.1 u_2.2.2.2.1 u_2.2.2.2.2.1 u_2.2.2.2.2.2.1 u_2.2.2.2.2.2.2.1 u_2.2.2.2.2.2.2.2.1 u_2.2.2.2.2.2.2.2.2) := hD
  rw [hr_8, p9]
  refine lv_iload hx hb dL_law_987 (lv_at hl 0 rfl) ?_
  refine lv_icmp_ne (tgt := 1025) hx hb dL_law_989 (by decide) (fun c9 => absurd rfl c9) (fun c_9 => ?_)
  refine lv_aload_n hx hb dL_law_992 rfl (lv_at hl 11 rfl) ?_
  refine lv_iconst (v := 0) hx hb dL_law_993 (by decide) ?_
  refine kRVi (As := [.int 0]) (rest := []) ⟨hx, hb, hml, hown, hts⟩ (mX1_marblesIn l D cI x b a pa pe ((xRun pa pe st bn hc hm (nI cN) (nI rN) lo (nI hh) (nI mo)).2.1) ((xRun pa pe st bn hc hm (nI cN) (nI rN) lo (nI hh) (nI mo)).2.2.1) hc ((xRun pa pe st bn hc hm (nI cN) (nI rN) lo (nI hh) (nI mo)).2.2.2.2) (nI cN) (nI rN) ((xRun pa pe st bn hc hm (nI cN) (nI rN) lo (nI hh) (nI mo)).2.2.2.1) 0 (show xhas 2 (nI 0) = true from xhas_2k (by omega))) (cwV 1 hts gL_law_X1_marblesIn rfl rfl rfl (by decide +kernel) ⟨Nat.le_of_ble_eq_true rfl, Nat.le_of_ble_eq_true rfl⟩) hP hK hN [0, 1, 2, 3, 4, 5, 6, 7] rfl [0] rfl rfl rfl rfl hl.1 rfl (Nat.le_of_ble_eq_true rfl) dL_law_994 ⟨by omega, by omega⟩ (fun r_10 hr_10 => ?_)
  subst r_10
  rw [show xcl 2 (xRun pa pe st bn hc hm (nI cN) (nI rN) lo (nI hh) (nI mo)).2.2.2.2 0 = nI y1 from (xcl_n (k := 0) (by decide) (by decide) _).trans p10]
  refine lv_aload_n hx hb dL_law_997 rfl (lv_at hl 11 rfl) ?_
  refine lv_iconst (v := 1) hx hb dL_law_998 (by decide) ?_
  refine kRVi (As := [.int 1]) (rest := [.int (nI y1)]) ⟨hx, hb, hml, hown, hts⟩ (mX1_marblesIn l D cI x b a pa pe ((xRun pa pe st bn hc hm (nI cN) (nI rN) lo (nI hh) (nI mo)).2.1) ((xRun pa pe st bn hc hm (nI cN) (nI rN) lo (nI hh) (nI mo)).2.2.1) hc ((xRun pa pe st bn hc hm (nI cN) (nI rN) lo (nI hh) (nI mo)).2.2.2.2) (nI cN) (nI rN) ((xRun pa pe st bn hc hm (nI cN) (nI rN) lo (nI hh) (nI mo)).2.2.2.1) 1 (show xhas 2 (nI 1) = true from xhas_2k (by omega))) (cwV 1 hts gL_law_X1_marblesIn rfl rfl rfl (by decide +kernel) ⟨Nat.le_of_ble_eq_true rfl, Nat.le_of_ble_eq_true rfl⟩) hP hK hN [0, 1, 2, 3, 4, 5, 6, 7] rfl [0] rfl rfl rfl rfl hl.1 rfl (Nat.le_of_ble_eq_true rfl) dL_law_999 ⟨by omega, by omega⟩ (fun r_11 hr_11 => ?_)
  subst r_11
  rw [show xcl 2 (xRun pa pe st bn hc hm (nI cN) (nI rN) lo (nI hh) (nI mo)).2.2.2.2 1 = nI y2 from (xcl_n (k := 1) (by decide) (by decide) _).trans p11]
  refine lv_iadd hx hb dL_law_1002 ?_
  rw [nI_add]
  refine lv_iload hx hb dL_law_1003 (lv_at hl 2 rfl) ?_
  refine lv_iload hx hb dL_law_1005 (lv_at hl 0 rfl) ?_
  refine lv_isub hx hb dL_law_1007 ?_
  rw [show nI (a1 + a2) - nI f = nI (y1 + y2) from Int32.toInt_inj.mp (by rw [pk_sub_toInt (by omega) (by omega), nI_toInt (by omega)]; omega)]
  refine lv_icmp_ne (tgt := 1025) hx hb dL_law_1008 (by decide) (fun c9 => absurd rfl c9) (fun c_12 => ?_)
  refine lv_iload hx hb dL_law_1011 (lv_at hl 3 rfl) ?_
  refine lv_iload hx hb dL_law_1013 (lv_at hl 2 rfl) ?_
  refine lv_icmp_gt (tgt := 1025) hx hb dL_law_1015 (by decide) (fun c9 => absurd c9 (nI_nlt (by omega) (by omega))) (fun c_13 => ?_)
  refine lv_iload hx hb dL_law_1018 (lv_at hl 3 rfl) ?_
  refine lv_bipush (v := 99) hx hb dL_law_1020 (by decide) ?_
  refine lv_icmp_le (tgt := 1027) hx hb dL_law_1022 (by decide) (fun c_14 => ?_) (fun c9 => absurd (nI_le (b := 99) (by omega) (by omega)) c9)
  exact K _ _ _ _ u_8 u_2.1 u_2.2.1 u_2.2.2.1 u_2.2.2.2.1 u_2.2.2.2.2.1 u_2.2.2.2.2.2.1 u_2.2.2.2.2.2.2.1 u_2.2.2.2.2.2.2.2.1 u_2.2.2.2.2.2.2.2.2 _ _ _ hJ hP hD hS (lv_sub hl [5, 6, 7, 8, 9, 10, 11, 12] rfl)
