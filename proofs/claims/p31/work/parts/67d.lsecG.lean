set_option maxHeartbeats 4000000 in
set_option maxRecDepth 100000 in
theorem lw_G5 {p : Program} {l : Launch} {e : Env} {s : State} {m : MethodId} {below : List Frame} {meth : Method} {c : Code} {Q : State → Prop} {D : va_G} {cI c2 c3 : ClassId} {x b0 L : Nat} {a b v rw_ : Nat → Nat} {ow : Nat → Nat → Nat} {xs : Nat → Int32} {A : Nat → Prop} {cells slots : Nat} {cN rN : Nat} {pa pe pd st bn hc hm : Nat → Int32} {lo tn : Int32} {ta te ts tb tc tm : Nat → Int32} {tC tR tl : Int32} {H : Heap} {locs : List Loc} {ls : Array Slot} {xx tw : Int32} {bf : Int64}  {vk rwk : Nat → Nat} {owk : Nat → Nat → Nat} {st0 bn0 : Nat → Int32} {lo0 : Int32} {one many kk : Nat} {asv due d16 : Int32} {na : Nat} (F : LC2 p l s m b0 c D cI c2 c3 L xs A) (hI : PI cN rN pa pe pd st bn hc hm) (hcl : cells + 2000 ≤ room_1.cells) (hsl : slots + 20000 ≤ room_1.slots) (hkn : kk + na < 1000) (hoff : ∀ p, rN * cN ≤ p → st p = st0 p) (hd : d16 = 1 ∨ (d16 = 0 ∧ asv = if xSame st st0 = true then nI kk else xAsbL pa pe st0 (nI cN) (nI rN) (nI one) na (kk + 1) st)) (hP : va_P D vwCl (wX x a b ++ wM cI a pa pe st bn hc hm ((nI cN)) ((nI rN)) lo ++ wS cI c2 c3 v rw_ ow cN rN pa pd st bn hc hm lo tn ++ wM cI b ta te ts tb tc tm tC tR tl ++ wS cI c2 c3 vk rwk owk cN rN pa pd st0 bn0 hc hm lo0 0) H) (hD : va_D A (wX x a b ++ wM cI a pa pe st bn hc hm ((nI cN)) ((nI rN)) lo ++ wS cI c2 c3 v rw_ ow cN rN pa pd st bn hc hm lo tn ++ wM cI b ta te ts tb tc tm tC tR tl ++ wS cI c2 c3 vk rwk owk cN rN pa pd st0 bn0 hc hm lo0 0)) (hS : va_S A s.heap H locs) (hl : lv_has ls 27 [(17, .int (nI kk)), (16, .int d16), (15, .ref (vk 0)), (14, .int due), (13, .int (nI many)), (12, .int asv), (11, .int (nI one)), (8, .int (nI rN)), (7, .int (nI cN)), (5, .long bf), (4, .int xx), (3, .int tw), (2, .ref (v 0)), (1, .ref x), (0, .ref b0)]) (K : ∀ (d2 : Int32) (ta te ts tb tc tm : Nat → Int32) (tC tR tl : Int32) (H : Heap) (locs : List Loc) (ls : Array Slot), (d2 = 1 ∨ (d2 = 0 ∧ asv = xAsbL pa pe st0 (nI cN) (nI rN) (nI one) na (kk + 1) st)) → va_P D vwCl (wX x a b ++ wM cI a pa pe st bn hc hm ((nI cN)) ((nI rN)) lo ++ wS cI c2 c3 v rw_ ow cN rN pa pd st bn hc hm lo tn ++ wM cI b ta te ts tb tc tm tC tR tl ++ wS cI c2 c3 vk rwk owk cN rN pa pd st0 bn0 hc hm lo0 0) H → va_D A (wX x a b ++ wM cI a pa pe st bn hc hm ((nI cN)) ((nI rN)) lo ++ wS cI c2 c3 v rw_ ow cN rN pa pd st bn hc hm lo tn ++ wM cI b ta te ts tb tc tm tC tR tl ++ wS cI c2 c3 vk rwk owk cN rN pa pd st0 bn0 hc hm lo0 0) → va_S A s.heap H locs → lv_has ls 27 [(17, .int (nI kk)), (16, .int d2), (15, .ref (vk 0)), (14, .int due), (13, .int (nI many)), (12, .int asv), (11, .int (nI one)), (8, .int (nI rN)), (7, .int (nI cN)), (5, .long bf), (4, .int xx), (3, .int tw), (2, .ref (v 0)), (1, .ref x), (0, .ref b0)] → W p l e room_1 s m #[Value.ref b0] below meth c H locs cells slots Q (F0 m 906 ls [])) : W p l e room_1 s m #[Value.ref b0] below meth c H locs cells slots Q (F0 m 870 ls []) := by
  obtain ⟨hx, hb, hml, hown, hts, hK, hN, hG, hX, hZ, hA, hXs, hb0l, hb0A, hst, hL, hNi, hL2⟩ := F
  have h2 := hI.c2
  have h9 := hI.c9
  have h1r := hI.r1
  have h8 := hI.r8
  refine lv_aload_n hx hb dL_law_870 rfl (lv_at hl 12 rfl) ?_
  refine lv_aload hx hb dL_law_871 (lv_at hl 2 rfl) ?_
  refine kRPVi (As := [.ref (vk 0)]) (rest := []) ⟨hx, hb, hml, hown, hts⟩ (mX2_hasSame l D cI c2 c3 v rw_ ow cN rN pa pd st bn hc hm lo tn vk rwk owk pa pd st0 bn0 hc hm lo0 0 h9 h8) (cwV 1 hts gL_law_X2_hasSame rfl rfl rfl (by decide +kernel) ⟨Nat.le_of_ble_eq_true rfl, Nat.le_of_ble_eq_true rfl⟩) (hP.pm (pmx_5_24 _ _ _ _ _)).left hK hN [0, 1, 2] rfl rfl rfl rfl hl.1 rfl (Nat.le_of_ble_eq_true rfl) dL_law_873 ⟨by omega, by omega⟩ (fun r_1 hr_1 => ?_)
  subst r_1
  rw [← same_eq (pl_72 h8 h9) hoff]
  by_cases es : xSame st st0 = true
  · rw [es, show bi true = 1 from rfl]
    rcases hd with e16 | ⟨e16, easv⟩
    · rw [e16] at hl
      refine lv_istore (lv' := [(25, .int 1), (17, .int (nI kk)), (16, .int 1), (15, .ref (vk 0)), (14, .int due), (13, .int (nI many)), (12, .int asv), (11, .int (nI one)), (8, .int (nI rN)), (7, .int (nI cN)), (5, .long bf), (4, .int xx), (3, .int tw), (2, .ref (v 0)), (1, .ref x), (0, .ref b0)]) hx hb dL_law_876 hl (by decide) rfl (fun ls hl => ?_)
      refine lv_iload hx hb dL_law_878 (lv_at hl 2 rfl) ?_
      refine lv_if_ne (tgt := 906) hx hb dL_law_880 (by decide) (fun _ => ?_) (fun c9 => absurd c9 (by decide))
      exact K 1 ta te ts tb tc tm tC tR tl _ _ _ (Or.inl rfl) hP hD hS (lv_sub hl [1, 2, 3, 4, 5, 6, 7, 8, 9, 10, 11, 12, 13, 14, 15] rfl)
    · rw [e16] at hl
      rw [if_pos es] at easv
      refine lv_istore (lv' := [(25, .int 1), (17, .int (nI kk)), (16, .int 0), (15, .ref (vk 0)), (14, .int due), (13, .int (nI many)), (12, .int asv), (11, .int (nI one)), (8, .int (nI rN)), (7, .int (nI cN)), (5, .long bf), (4, .int xx), (3, .int tw), (2, .ref (v 0)), (1, .ref x), (0, .ref b0)]) hx hb dL_law_876 hl (by decide) rfl (fun ls hl => ?_)
      refine lv_iload hx hb dL_law_878 (lv_at hl 2 rfl) ?_
      refine lv_if_ne (tgt := 906) hx hb dL_law_880 (by decide) (fun c9 => absurd (by decide) c9) (fun _ => ?_)
      refine lv_iload hx hb dL_law_883 (lv_at hl 0 rfl) ?_
      refine lv_istore (lv' := [(16, .int 1), (25, .int 1), (17, .int (nI kk)), (15, .ref (vk 0)), (14, .int due), (13, .int (nI many)), (12, .int asv), (11, .int (nI one)), (8, .int (nI rN)), (7, .int (nI cN)), (5, .long bf), (4, .int xx), (3, .int tw), (2, .ref (v 0)), (1, .ref x), (0, .ref b0)]) hx hb dL_law_885 hl (by decide) rfl (fun ls hl => ?_)
      refine lv_iload hx hb dL_law_887 (lv_at hl 0 rfl) ?_
      refine lv_iload hx hb dL_law_889 (lv_at hl 6 rfl) ?_
      refine lv_iload hx hb dL_law_891 (lv_at hl 2 rfl) ?_
      refine lv_icmp_ne (tgt := 900) hx hb dL_law_893 (by decide) (fun c9 => absurd easv c9) (fun c_4 => ?_)
      refine lv_iconst (v := 1) hx hb dL_law_896 (by decide) ?_
      refine lv_goto (tgt := 901) hx hb dL_law_897 (by decide) ?_
      refine lv_icmp_eq (tgt := 906) hx hb dL_law_901 (by decide) (fun _ => ?_) (fun c9 => absurd (by decide) c9)
      exact K 1 ta te ts tb tc tm tC tR tl _ _ _ (Or.inl rfl) hP hD hS (lv_sub hl [2, 0, 3, 4, 5, 6, 7, 8, 9, 10, 11, 12, 13, 14, 15] rfl)
  · rw [Bool.not_eq_true _ |>.mp es, show bi false = 0 from rfl]
    rcases hd with e16 | ⟨e16, easv⟩
    · rw [e16] at hl
      refine lv_istore (lv' := [(25, .int 0), (17, .int (nI kk)), (16, .int 1), (15, .ref (vk 0)), (14, .int due), (13, .int (nI many)), (12, .int asv), (11, .int (nI one)), (8, .int (nI rN)), (7, .int (nI cN)), (5, .long bf), (4, .int xx), (3, .int tw), (2, .ref (v 0)), (1, .ref x), (0, .ref b0)]) hx hb dL_law_876 hl (by decide) rfl (fun ls hl => ?_)
      refine lv_iload hx hb dL_law_878 (lv_at hl 2 rfl) ?_
      refine lv_if_ne (tgt := 906) hx hb dL_law_880 (by decide) (fun _ => ?_) (fun c9 => absurd c9 (by decide))
      exact K 1 ta te ts tb tc tm tC tR tl _ _ _ (Or.inl rfl) hP hD hS (lv_sub hl [1, 2, 3, 4, 5, 6, 7, 8, 9, 10, 11, 12, 13, 14, 15] rfl)
    · rw [e16] at hl
      rw [if_neg es] at easv
      refine lv_istore (lv' := [(25, .int 0), (17, .int (nI kk)), (16, .int 0), (15, .ref (vk 0)), (14, .int due), (13, .int (nI many)), (12, .int asv), (11, .int (nI one)), (8, .int (nI rN)), (7, .int (nI cN)), (5, .long bf), (4, .int xx), (3, .int tw), (2, .ref (v 0)), (1, .ref x), (0, .ref b0)]) hx hb dL_law_876 hl (by decide) rfl (fun ls hl => ?_)
      refine lv_iload hx hb dL_law_878 (lv_at hl 2 rfl) ?_
      refine lv_if_ne (tgt := 906) hx hb dL_law_880 (by decide) (fun c9 => absurd (by decide) c9) (fun _ => ?_)
      refine lv_iload hx hb dL_law_883 (lv_at hl 0 rfl) ?_
      refine lv_istore (lv' := [(16, .int 0), (25, .int 0), (17, .int (nI kk)), (15, .ref (vk 0)), (14, .int due), (13, .int (nI many)), (12, .int asv), (11, .int (nI one)), (8, .int (nI rN)), (7, .int (nI cN)), (5, .long bf), (4, .int xx), (3, .int tw), (2, .ref (v 0)), (1, .ref x), (0, .ref b0)]) hx hb dL_law_885 hl (by decide) rfl (fun ls hl => ?_)
      refine lv_iload hx hb dL_law_887 (lv_at hl 0 rfl) ?_
      refine lv_iload hx hb dL_law_889 (lv_at hl 6 rfl) ?_
      refine lv_iload hx hb dL_law_891 (lv_at hl 2 rfl) ?_
      refine lv_icmp_ne (tgt := 900) hx hb dL_law_893 (by decide) (fun c_8 => ?_) (fun c9 => absurd c9 (by rw [easv]; exact asb_ne (by omega)))
      refine lv_iconst (v := 0) hx hb dL_law_900 (by decide) ?_
      refine lv_icmp_eq (tgt := 906) hx hb dL_law_901 (by decide) (fun _ => ?_) (fun c9 => absurd (by decide) c9)
      exact K 0 ta te ts tb tc tm tC tR tl _ _ _ (Or.inr ⟨rfl, easv⟩) hP hD hS (lv_sub hl [2, 0, 3, 4, 5, 6, 7, 8, 9, 10, 11, 12, 13, 14, 15] rfl)
