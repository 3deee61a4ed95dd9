set_option maxHeartbeats 4000000 in
set_option maxRecDepth 100000 in
theorem lw_T {p : Program} {l : Launch} {e : Env} {s : State} {m : MethodId} {below : List Frame} {meth : Method} {c : Code} {Q : State → Prop} {D : va_G} {cI c2 c3 : ClassId} {x b0 L o : Nat} {a b : Nat → Nat} {xs : Nat → Int32} {A : Nat → Prop} {cells slots : Nat} {ta te ts tb tc tm : Nat → Int32} {tC tR tl : Int32} {H : Heap} {locs : List Loc} {ls : Array Slot} {q : LQ} (F_ : LC2 p l s m b0 c D cI c2 c3 L xs A) (hcl : cells + 12000 ≤ room_1.cells) (hsl : slots + 100000 ≤ room_1.slots) (hq : PIq q) (hqo : q.2.2.2.2.2.2.2.2.2.2.2.1 0 = o) (hP : va_P D vwCl (lsW cI c2 c3 x a b q ++ wM cI b ta te ts tb tc tm tC tR tl) H) (hD : va_D A (lsW cI c2 c3 x a b q ++ wM cI b ta te ts tb tc tm tC tR tl)) (hS : va_S A s.heap H locs) (hl : lv_has ls 27 [(3, .int 0), (2, .ref o), (1, .ref x), (0, .ref b0)]) (K : ∀ (q : LQ) (ta te ts tb tc tm : Nat → Int32) (tC tR tl : Int32) (H : Heap) (locs : List Loc) (ls : Array Slot), PIq q → q.2.2.2.2.2.2.2.2.2.2.2.1 0 = o → va_P D vwCl (lsW cI c2 c3 x a b q ++ wM cI b ta te ts tb tc tm tC tR tl) H → va_D A (lsW cI c2 c3 x a b q ++ wM cI b ta te ts tb tc tm tC tR tl) → va_S A s.heap H locs → lv_has ls 27 [(2, .ref o), (1, .ref x), (0, .ref b0)] → W p l e room_1 s m #[Value.ref b0] below meth c H locs (cells + 3600) (slots + 18000) Q (F0 m 1033 ls [])) : W p l e room_1 s m #[Value.ref b0] below meth c H locs cells slots Q (F0 m 22 ls []) := by
  obtain ⟨hx, hb, hml, hown, hts, hK, hN, hG, hX, hZ, hA, hXs, hb0l, hb0A, hst, hL, hNi, hL2⟩ := id F_
  refine W.widen (k := cells + 600 * 0) (n := slots + 3000 * 0) (by omega) (by omega) ?_
  have L22 : ∀ (n k : Nat) (q : LQ) (ta : Nat → Int32) (te : Nat → Int32) (ts : Nat → Int32) (tb : Nat → Int32) (tc : Nat → Int32) (tm : Nat → Int32) (tC : Int32) (tR : Int32) (tl : Int32), k + n = 6 → PIq q → q.2.2.2.2.2.2.2.2.2.2.2.1 0 = o → ∀ (H : Heap) (locs : List Loc), va_P D vwCl (lsW cI c2 c3 x a b q ++ wM cI b ta te ts tb tc tm tC tR tl) H → va_D A (lsW cI c2 c3 x a b q ++ wM cI b ta te ts tb tc tm tC tR tl) → va_S A s.heap H locs → ∀ ls : Array Slot, lv_has ls 27 [(3, .int (nI k)), (2, .ref o), (1, .ref x), (0, .ref b0)] → W p l e room_1 s m #[Value.ref b0] below meth c H locs (cells + 600 * k) (slots + 3000 * k) Q (F0 m 22 ls []) := by
    intro n
    induction n with
    | zero =>
      intro k q ta te ts tb tc tm tC tR tl hkn22 hq hqo H locs hP hD hS ls hl
      refine lv_iload_n hx hb dL_law_22 rfl (lv_at hl 0 rfl) ?_
      refine lv_bipush (v := 6) hx hb dL_law_23 (by decide) ?_
      refine lv_icmp_ge (tgt := 1033) hx hb dL_law_25 (by decide) (fun c_1 => ?_) (fun c9 => absurd (nI_le (a := 6) (b := k) (by omega) (by omega)) c9)
      refine W.widen (k := cells + 3600) (n := slots + 18000) (by omega) (by omega) ?_
      exact K q ta te ts tb tc tm tC tR tl _ _ _ hq hqo hP hD hS (lv_sub hl [1, 2, 3] rfl)
    | succ n ih22 =>
      intro k q ta te ts tb tc tm tC tR tl hkn22 hq hqo H locs hP hD hS ls hl
      refine lv_iload_n hx hb dL_law_22 rfl (lv_at hl 0 rfl) ?_
      refine lv_bipush (v := 6) hx hb dL_law_23 (by decide) ?_
      refine lv_icmp_ge (tgt := 1033) hx hb dL_law_25 (by decide) (fun c9 => absurd c9 (nI_ge (b := 6) (by omega) (by omega))) (fun c_2 => ?_)
      refine lv_aload_n hx hb dL_law_28 rfl (lv_at hl 3 rfl) ?_
      refine lv_iload_n hx hb dL_law_29 rfl (lv_at hl 0 rfl) ?_
      refine kCell (k := k) (b0 := b0) (L := L) (xs := xs) (by omega) (by omega) ⟨hx, hb, hml, hown, hts⟩ (va_cwS 2 hts gL_law_L_cell rfl rfl rfl (by decide +kernel) ⟨Nat.le_of_ble_eq_true rfl, Nat.le_of_ble_eq_true rfl⟩) (hXs.kept (hS.2.1 b0 hb0l hb0A)) hl.1 (Nat.le_of_ble_eq_true rfl) dL_law_30 ⟨by omega, by omega⟩ (fun v_3 => ?_)
      refine lv_iconst (v := 2) hx hb dL_law_33 (by decide) ?_
      refine lv_ishr hx hb dL_law_34 ?_
      refine lv_bipush (v := 53) hx hb dL_law_35 (by decide) ?_
      refine lv_iload_n hx hb dL_law_37 rfl (lv_at hl 0 rfl) ?_
      refine lv_imul hx hb dL_law_38 ?_
      refine lv_iadd hx hb dL_law_39 ?_
      refine lv_istore (lv' := [(4, .int ((v_3 >>> (2 &&& 31)) + (53 * (nI k)))), (3, .int (nI k)), (2, .ref o), (1, .ref x), (0, .ref b0)]) hx hb dL_law_40 hl (by decide) rfl (fun ls hl => ?_)
      obtain ⟨xx, hxx⟩ : ∃ xx : Int32, xx = ((v_3 >>> (2 &&& 31)) + (53 * (nI k))) := ⟨_, rfl⟩
      rw [← hxx] at hl
      refine lv_iconst (v := 0) hx hb dL_law_42 (by decide) ?_
      refine lv_istore (lv' := [(5, .int 0), (4, .int xx), (3, .int (nI k)), (2, .ref o), (1, .ref x), (0, .ref b0)]) hx hb dL_law_43 hl (by decide) rfl (fun ls hl => ?_)
      refine W.widen (k := cells + 600 * k + 84 * 0) (n := slots + 3000 * k + 310 * 0) (by omega) (by omega) ?_
      have L45 : ∀ (n2 j : Nat) (q : LQ), j + n2 = 4 → PIq q → q.2.2.2.2.2.2.2.2.2.2.2.1 0 = o → ∀ (H : Heap) (locs : List Loc), va_P D vwCl (lsW cI c2 c3 x a b q ++ wM cI b ta te ts tb tc tm tC tR tl) H → va_D A (lsW cI c2 c3 x a b q ++ wM cI b ta te ts tb tc tm tC tR tl) → va_S A s.heap H locs → ∀ ls : Array Slot, lv_has ls 27 [(5, .int (nI j)), (4, .int xx), (3, .int (nI k)), (2, .ref o), (1, .ref x), (0, .ref b0)] → W p l e room_1 s m #[Value.ref b0] below meth c H locs (cells + 600 * k + 84 * j) (slots + 3000 * k + 310 * j) Q (F0 m 45 ls []) := by
        intro n2
        induction n2 with
        | zero =>
          intro j q hkn45 hq hqo H locs hP hD hS ls hl
          refine lv_iload hx hb dL_law_45 (lv_at hl 0 rfl) ?_
          refine lv_iconst (v := 4) hx hb dL_law_47 (by decide) ?_
          refine lv_icmp_ge (tgt := 80) hx hb dL_law_48 (by decide) (fun c_4 => ?_) (fun c9 => absurd (nI_le (a := 4) (b := j) (by omega) (by omega)) c9)
          obtain ⟨cN, rN, pa, pe, pd, st, bn, hc, hm, lo, tn, v, rw_, ow⟩ := q
          have hI : PI cN rN pa pe pd st bn hc hm := hq
          have ho : v 0 = o := hqo
          have hl : lv_has ls 27 [(4, .int xx), (3, .int (nI k)), (2, .ref (v 0)), (1, .ref x), (0, .ref b0)] := by rw [ho]; exact lv_sub hl [1, 2, 3, 4, 5] rfl
          have hP : va_P D vwCl (wX x a b ++ wM cI a pa pe st bn hc hm ((nI cN)) ((nI rN)) lo ++ wS cI c2 c3 v rw_ ow cN rN pa pd st bn hc hm lo tn ++ wM cI b ta te ts tb tc tm tC tR tl) H := hP
          have hD : va_D A (wX x a b ++ wM cI a pa pe st bn hc hm ((nI cN)) ((nI rN)) lo ++ wS cI c2 c3 v rw_ ow cN rN pa pd st bn hc hm lo tn ++ wM cI b ta te ts tb tc tm tC tR tl) := hD
          refine lw_R F_ hI (by omega) (by omega) hP hD hS hl (fun sv bv hv lv tnv bf ta te ts tb tc tm tC tR tl H locs ls hJ hP hD hS hl => ?_)
          rw [ho] at hl
          refine W.widen (k := cells + 600 * (k + 1)) (n := slots + 3000 * (k + 1)) (by omega) (by omega) ?_
          refine lv_iinc (v := (nI (k + 1))) (lv' := [(3, .int (nI (k + 1))), (8, .int (nI rN)), (7, .int (nI cN)), (5, .long bf), (4, .int xx), (2, .ref o), (1, .ref x), (0, .ref b0)]) hx hb dL_law_1027 hl (k := 4) rfl (nI_1 k) (by decide) rfl (fun ls hl => ?_)
          refine lv_goto (tgt := 22) hx hb dL_law_1030 (by decide) ?_
          exact ih22 (k + 1) (cN, rN, pa, pe, pd, sv, bv, hc, hv, lv, tnv, v, rw_, ow) ta te ts tb tc tm tC tR tl (by omega) hJ ho _ _ hP hD hS ls (lv_sub hl [0, 5, 6, 7] rfl)
        | succ n2 ih45 =>
          intro j q hkn45 hq hqo H locs hP hD hS ls hl
          refine lv_iload hx hb dL_law_45 (lv_at hl 0 rfl) ?_
          refine lv_iconst (v := 4) hx hb dL_law_47 (by decide) ?_
          refine lv_icmp_ge (tgt := 80) hx hb dL_law_48 (by decide) (fun c9 => absurd c9 (nI_ge (b := 4) (by omega) (by omega))) (fun c_5 => ?_)
          refine lv_aload_n hx hb dL_law_51 rfl (lv_at hl 4 rfl) ?_
          refine lv_aload_n hx hb dL_law_52 rfl (lv_at hl 3 rfl) ?_
          refine lv_iload hx hb dL_law_53 (lv_at hl 1 rfl) ?_
          refine lv_iconst (v := 3) hx hb dL_law_55 (by decide) ?_
          refine lv_iload hx hb dL_law_56 (lv_at hl 0 rfl) ?_
          refine lv_imul hx hb dL_law_58 ?_
          refine lv_ishr hx hb dL_law_59 ?_
          refine lv_bipush (v := 29) hx hb dL_law_60 (by decide) ?_
          refine lv_iload hx hb dL_law_62 (lv_at hl 0 rfl) ?_
          refine lv_imul hx hb dL_law_64 ?_
          refine lv_iadd hx hb dL_law_65 ?_
          refine kPWi (mc := 84) (ms := 310) (As := [.ref x, .ref o, .int ((xx >>> ((3 * (nI j)) &&& 31)) + (29 * (nI j)))]) (rest := []) (Wr := wM cI b ta te ts tb tc tm tC tR tl) (W2 := fun u : LQ => lsW cI c2 c3 x a b u ++ wM cI b ta te ts tb tc tm tC tR tl) ⟨hx, hb, hml, hown, hts⟩ (by rw [← hqo]; exact mL_actq l hst D cI c2 c3 x a b q hq ((xx >>> ((3 * (nI j)) &&& 31)) + (29 * (nI j))) _) (vx_cwSW 3 hts gL_law_L_act rfl rfl rfl (by decide +kernel) ⟨Nat.le_of_ble_eq_true rfl, Nat.le_of_ble_eq_true rfl⟩) (preSK (K2 := fun U => K2A cI c2 c3 U) (fun u U hv hh h => K2A.same hv hh h) (K2A.of hG hX (hZ.now hS hA)) (preSQ hK hN (hP.pm (List.Perm.refl _)).left (hD.pm (List.Perm.refl _)).left [0, 1, 2] rfl)) hP hD hS hA (List.Perm.refl _) (fun _ => List.Perm.refl _) rfl hl.1 rfl (Nat.le_of_ble_eq_true rfl) dL_law_66 ⟨by omega, by omega⟩ (fun r_6 u_6 H locs hr_6 hP hD hS => ?_)
          obtain ⟨hr1_6, hq_6, ho_6⟩ := hr_6
          subst hr1_6
          refine lv_if_ne (tgt := 74) hx hb dL_law_69 (by decide) (fun c_7 => ?_) (fun c9 => absurd c9 (by decide))
          refine lv_iinc (v := (nI (j + 1))) (lv' := [(5, .int (nI (j + 1))), (4, .int xx), (3, .int (nI k)), (2, .ref o), (1, .ref x), (0, .ref b0)]) hx hb dL_law_74 hl (k := 0) rfl (nI_1 j) (by decide) rfl (fun ls hl => ?_)
          refine lv_goto (tgt := 45) hx hb dL_law_77 (by decide) ?_
          refine W.widen (k := cells + 600 * k + 84 * (j + 1)) (n := slots + 3000 * k + 310 * (j + 1)) (by omega) (by omega) ?_
          exact ih45 (j + 1) u_6 (by omega) hq_6 (ho_6.trans hqo) _ _ hP hD hS ls (lv_sub hl [0, 1, 2, 3, 4, 5] rfl)
      exact L45 4 0 q (by omega) hq hqo _ _ hP hD hS ls (lv_sub hl [0, 1, 2, 3, 4, 5] rfl)
  exact L22 6 0 q ta te ts tb tc tm tC tR tl (by omega) hq hqo _ _ hP hD hS ls (lv_sub hl [0, 1, 2, 3] rfl)
