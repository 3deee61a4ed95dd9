set_option maxHeartbeats 4000000 in
set_option maxRecDepth 100000 in
theorem lw_G4 {p : Program} {l : Launch} {e : Env} {s : State} {m : MethodId} {below : List Frame} {meth : Method} {c : Code} {Q : State → Prop} {D : va_G} {cI c2 c3 : ClassId} {x b0 L : Nat} {a b v rw_ : Nat → Nat} {ow : Nat → Nat → Nat} {xs : Nat → Int32} {A : Nat → Prop} {cells slots : Nat} {cN rN : Nat} {pa pe pd st bn hc hm : Nat → Int32} {lo tn : Int32} {ta te ts tb tc tm : Nat → Int32} {tC tR tl : Int32} {H : Heap} {locs : List Loc} {ls : Array Slot} {xx tw : Int32} {bf : Int64}  {vk rwk : Nat → Nat} {owk : Nat → Nat → Nat} {st0 bn0 : Nat → Int32} {lo0 : Int32} {one many kk : Nat} {asv due d16 : Int32} {q : Nat} {rwl : Nat → Nat} {g : Nat → Nat → Int32} {sv0 : Nat → Int32} (F : LC2 p l s m b0 c D cI c2 c3 L xs A) (hI : PI cN rN pa pe pd st bn hc hm) (hcl : cells + 2000 ≤ room_1.cells) (hsl : slots + 20000 ≤ room_1.slots) (hg : ∀ r, r < rN → ∀ c, c < cN → g r c = ldv pa sv0 (r * cN + c)) (hP : va_P D vwCl (wX x a b ++ wM cI a pa pe st bn hc hm ((nI cN)) ((nI rN)) lo ++ wS cI c2 c3 v rw_ ow cN rN pa pd st bn hc hm lo tn ++ wM cI b ta te ts tb tc tm tC tR tl ++ wS cI c2 c3 vk rwk owk cN rN pa pd st0 bn0 hc hm lo0 0 ++ wLd c2 cI q rwl cN rN g) H) (hD : va_D A (wX x a b ++ wM cI a pa pe st bn hc hm ((nI cN)) ((nI rN)) lo ++ wS cI c2 c3 v rw_ ow cN rN pa pd st bn hc hm lo tn ++ wM cI b ta te ts tb tc tm tC tR tl ++ wS cI c2 c3 vk rwk owk cN rN pa pd st0 bn0 hc hm lo0 0 ++ wLd c2 cI q rwl cN rN g)) (hS : va_S A s.heap H locs) (hl : lv_has ls 27 [(24, .ref q), (19, .int (nI (dfn pa st sv0 (rN * cN)))), (17, .int (nI kk)), (16, .int d16), (15, .ref (vk 0)), (14, .int due), (13, .int (nI many)), (12, .int asv), (11, .int (nI one)), (8, .int (nI rN)), (7, .int (nI cN)), (5, .long bf), (4, .int xx), (3, .int tw), (2, .ref (v 0)), (1, .ref x), (0, .ref b0)]) (K : ∀ (ta te ts tb tc tm : Nat → Int32) (tC tR tl : Int32) (H : Heap) (locs : List Loc) (ls : Array Slot), va_P D vwCl (wX x a b ++ wM cI a pa pe st bn hc hm ((nI cN)) ((nI rN)) lo ++ wS cI c2 c3 v rw_ ow cN rN pa pd st bn hc hm lo tn ++ wM cI b ta te ts tb tc tm tC tR tl ++ wS cI c2 c3 vk rwk owk cN rN pa pd st0 bn0 hc hm lo0 0 ++ wLd c2 cI q rwl cN rN g) H → va_D A (wX x a b ++ wM cI a pa pe st bn hc hm ((nI cN)) ((nI rN)) lo ++ wS cI c2 c3 v rw_ ow cN rN pa pd st bn hc hm lo tn ++ wM cI b ta te ts tb tc tm tC tR tl ++ wS cI c2 c3 vk rwk owk cN rN pa pd st0 bn0 hc hm lo0 0 ++ wLd c2 cI q rwl cN rN g) → va_S A s.heap H locs → lv_has ls 27 [(17, .int (nI kk)), (16, .int d16), (15, .ref (vk 0)), (14, .int due), (13, .int (nI many)), (12, .int asv), (11, .int (nI one)), (8, .int (nI rN)), (7, .int (nI cN)), (5, .long bf), (4, .int xx), (3, .int tw), (2, .ref (v 0)), (1, .ref x), (0, .ref b0)] → W p l e room_1 s m #[Value.ref b0] below meth c H locs cells slots Q (F0 m 870 ls [])) : W p l e room_1 s m #[Value.ref b0] below meth c H locs cells slots Q (F0 m 793 ls []) := by
  obtain ⟨hx, hb, hml, hown, hts, hK, hN, hG, hX, hZ, hA, hXs, hb0l, hb0A, hst, hL, hNi, hL2⟩ := F
  have h2 := hI.c2
  have h9 := hI.c9
  have h1r := hI.r1
  have h8 := hI.r8
  refine lv_iconst (v := 0) hx hb dL_law_793 (by decide) ?_
  refine lv_istore (lv' := [(25, .int 0), (24, .ref q), (19, .int (nI (dfn pa st sv0 (rN * cN)))), (17, .int (nI kk)), (16, .int d16), (15, .ref (vk 0)), (14, .int due), (13, .int (nI many)), (12, .int asv), (11, .int (nI one)), (8, .int (nI rN)), (7, .int (nI cN)), (5, .long bf), (4, .int xx), (3, .int tw), (2, .ref (v 0)), (1, .ref x), (0, .ref b0)]) hx hb dL_law_794 hl (by decide) rfl (fun ls hl => ?_)
  have L796 : ∀ (n k : Nat) (tt : Nat), k + n = rN → tt + dfn pa st sv0 (k * cN) = dfn pa st sv0 (rN * cN) → ∀ (H : Heap) (locs : List Loc), va_P D vwCl (wX x a b ++ wM cI a pa pe st bn hc hm ((nI cN)) ((nI rN)) lo ++ wS cI c2 c3 v rw_ ow cN rN pa pd st bn hc hm lo tn ++ wM cI b ta te ts tb tc tm tC tR tl ++ wS cI c2 c3 vk rwk owk cN rN pa pd st0 bn0 hc hm lo0 0 ++ wLd c2 cI q rwl cN rN g) H → va_D A (wX x a b ++ wM cI a pa pe st bn hc hm ((nI cN)) ((nI rN)) lo ++ wS cI c2 c3 v rw_ ow cN rN pa pd st bn hc hm lo tn ++ wM cI b ta te ts tb tc tm tC tR tl ++ wS cI c2 c3 vk rwk owk cN rN pa pd st0 bn0 hc hm lo0 0 ++ wLd c2 cI q rwl cN rN g) → va_S A s.heap H locs → ∀ ls : Array Slot, lv_has ls 27 [(25, .int (nI k)), (24, .ref q), (19, .int (nI tt)), (17, .int (nI kk)), (16, .int d16), (15, .ref (vk 0)), (14, .int due), (13, .int (nI many)), (12, .int asv), (11, .int (nI one)), (8, .int (nI rN)), (7, .int (nI cN)), (5, .long bf), (4, .int xx), (3, .int tw), (2, .ref (v 0)), (1, .ref x), (0, .ref b0)] → W p l e room_1 s m #[Value.ref b0] below meth c H locs cells slots Q (F0 m 796 ls []) := by
    intro n
    induction n with
    | zero =>
      intro k tt hkn796 ht H locs hP hD hS ls hl
      refine lv_iload hx hb dL_law_796 (lv_at hl 0 rfl) ?_
      refine lv_iload hx hb dL_law_798 (lv_at hl 10 rfl) ?_
      refine lv_icmp_ge (tgt := 863) hx hb dL_law_800 (by decide) (fun c_1 => ?_) (fun c9 => absurd (nI_le (by omega) (by omega)) c9)
      have et : tt = 0 := by rw [show k = rN by omega] at ht; omega
      subst et
      refine lv_iload hx hb dL_law_863 (lv_at hl 2 rfl) ?_
      refine lv_if_eq (tgt := 870) hx hb dL_law_865 (by decide) (fun c_2 => ?_) (fun c9 => absurd rfl c9)
      exact K  ta te ts tb tc tm tC tR tl _ _ _  hP hD hS (lv_sub hl [3, 4, 5, 6, 7, 8, 9, 10, 11, 12, 13, 14, 15, 16, 17] rfl)
    | succ n ih796 =>
      intro k tt hkn796 ht H locs hP hD hS ls hl
      refine lv_iload hx hb dL_law_796 (lv_at hl 0 rfl) ?_
      refine lv_iload hx hb dL_law_798 (lv_at hl 10 rfl) ?_
      refine lv_icmp_ge (tgt := 863) hx hb dL_law_800 (by decide) (fun c9 => absurd c9 (nI_ge (by omega) (by omega))) (fun c_3 => ?_)
      refine lv_iconst (v := 0) hx hb dL_law_803 (by decide) ?_
      refine lv_istore (lv' := [(26, .int 0), (25, .int (nI k)), (24, .ref q), (19, .int (nI tt)), (17, .int (nI kk)), (16, .int d16), (15, .ref (vk 0)), (14, .int due), (13, .int (nI many)), (12, .int asv), (11, .int (nI one)), (8, .int (nI rN)), (7, .int (nI cN)), (5, .long bf), (4, .int xx), (3, .int tw), (2, .ref (v 0)), (1, .ref x), (0, .ref b0)]) hx hb dL_law_804 hl (by decide) rfl (fun ls hl => ?_)
      have L806 : ∀ (n2 j : Nat) (tt : Nat), j + n2 = cN → tt + dfn pa st sv0 (k * cN + j) = dfn pa st sv0 (rN * cN) → ∀ (H : Heap) (locs : List Loc), va_P D vwCl (wX x a b ++ wM cI a pa pe st bn hc hm ((nI cN)) ((nI rN)) lo ++ wS cI c2 c3 v rw_ ow cN rN pa pd st bn hc hm lo tn ++ wM cI b ta te ts tb tc tm tC tR tl ++ wS cI c2 c3 vk rwk owk cN rN pa pd st0 bn0 hc hm lo0 0 ++ wLd c2 cI q rwl cN rN g) H → va_D A (wX x a b ++ wM cI a pa pe st bn hc hm ((nI cN)) ((nI rN)) lo ++ wS cI c2 c3 v rw_ ow cN rN pa pd st bn hc hm lo tn ++ wM cI b ta te ts tb tc tm tC tR tl ++ wS cI c2 c3 vk rwk owk cN rN pa pd st0 bn0 hc hm lo0 0 ++ wLd c2 cI q rwl cN rN g) → va_S A s.heap H locs → ∀ ls : Array Slot, lv_has ls 27 [(26, .int (nI j)), (25, .int (nI k)), (24, .ref q), (19, .int (nI tt)), (17, .int (nI kk)), (16, .int d16), (15, .ref (vk 0)), (14, .int due), (13, .int (nI many)), (12, .int asv), (11, .int (nI one)), (8, .int (nI rN)), (7, .int (nI cN)), (5, .long bf), (4, .int xx), (3, .int tw), (2, .ref (v 0)), (1, .ref x), (0, .ref b0)] → W p l e room_1 s m #[Value.ref b0] below meth c H locs cells slots Q (F0 m 806 ls []) := by
        intro n2
        induction n2 with
        | zero =>
          intro j tt hkn806 ht2 H locs hP hD hS ls hl
          refine lv_iload hx hb dL_law_806 (lv_at hl 0 rfl) ?_
          refine lv_iload hx hb dL_law_808 (lv_at hl 12 rfl) ?_
          refine lv_icmp_ge (tgt := 857) hx hb dL_law_810 (by decide) (fun c_4 => ?_) (fun c9 => absurd (nI_le (by omega) (by omega)) c9)
          refine lv_iinc (v := (nI (k + 1))) (lv' := [(25, .int (nI (k + 1))), (26, .int (nI j)), (24, .ref q), (19, .int (nI tt)), (17, .int (nI kk)), (16, .int d16), (15, .ref (vk 0)), (14, .int due), (13, .int (nI many)), (12, .int asv), (11, .int (nI one)), (8, .int (nI rN)), (7, .int (nI cN)), (5, .long bf), (4, .int xx), (3, .int tw), (2, .ref (v 0)), (1, .ref x), (0, .ref b0)]) hx hb dL_law_857 hl (k := 1) rfl (nI_1 k) (by decide) rfl (fun ls hl => ?_)
          refine lv_goto (tgt := 796) hx hb dL_law_860 (by decide) ?_
          exact ih796 (k + 1) tt (by omega) (by rw [Nat.succ_mul, show cN = j by omega]; rw [show cN = j by omega] at ht2; exact ht2) _ _ hP hD hS ls (lv_sub hl [0, 2, 3, 4, 5, 6, 7, 8, 9, 10, 11, 12, 13, 14, 15, 16, 17, 18] rfl)
        | succ n2 ih806 =>
          intro j tt hkn806 ht2 H locs hP hD hS ls hl
          refine lv_iload hx hb dL_law_806 (lv_at hl 0 rfl) ?_
          refine lv_iload hx hb dL_law_808 (lv_at hl 12 rfl) ?_
          refine lv_icmp_ge (tgt := 857) hx hb dL_law_810 (by decide) (fun c9 => absurd c9 (nI_ge (by omega) (by omega))) (fun c_5 => ?_)
          refine lv_iload hx hb dL_law_813 (lv_at hl 3 rfl) ?_
          refine lv_aload hx hb dL_law_815 (lv_at hl 2 rfl) ?_
          refine lv_iload hx hb dL_law_817 (lv_at hl 1 rfl) ?_
          refine sLdR (r := k) (g := rwl) hx hb hK hP 1 rfl (List.mem_append_right _ wLd_m) (by omega) (by omega) dL_law_819 ?_
          refine lv_iload hx hb dL_law_820 (lv_at hl 0 rfl) ?_
          have hk : k < rN := by omega
          have hj : j < cN := by omega
          refine sLdI (j := j) (f := g k) hx hb hK hP 0 rfl (List.mem_append_right _ (wLd_r hk)) hj (by omega) dL_law_822 ?_
          rw [hg k hk j hj]
          by_cases ea : pa (k * cN + j) = 3 ∧ sv0 (k * cN + j) = 1
          · rw [ldv_t ea]
            refine lv_iconst (v := 1) hx hb dL_law_823 (by decide) ?_
            refine lv_icmp_ne (tgt := 831) hx hb dL_law_824 (by decide) (fun c9 => absurd (by decide) c9) (fun _ => ?_)
            refine lv_iconst (v := 1) hx hb dL_law_827 (by decide) ?_
            refine lv_goto (tgt := 832) hx hb dL_law_828 (by decide) ?_
            refine lv_aload_n hx hb dL_law_832 rfl (lv_at hl 17 rfl) ?_
            refine lv_iload hx hb dL_law_833 (lv_at hl 1 rfl) ?_
            refine lv_iload hx hb dL_law_835 (lv_at hl 0 rfl) ?_
            refine kRVi (As := [.int (nI k), .int (nI j)]) (rest := [.int 1, .int (nI tt)]) ⟨hx, hb, hml, hown, hts⟩ (mX1_leadsRight l D cI x b a pa pe st bn hc hm (nI cN) (nI rN) lo (nI k) (nI j) (xhas_k hk (by omega)) (xhas_k hj (by omega))) (cwV 2 hts gL_law_X1_leadsRight rfl rfl rfl (by decide +kernel) ⟨Nat.le_of_ble_eq_true rfl, Nat.le_of_ble_eq_true rfl⟩) hP hK hN [0, 1, 2, 3, 4, 5, 6, 7] rfl [0] rfl rfl rfl rfl hl.1 rfl (Nat.le_of_ble_eq_true rfl) dL_law_837 ⟨by omega, by omega⟩ (fun r_7 hr_7 => ?_)
            subst r_7
            rw [bi_ld h9 h8 hk hj]
            by_cases eb : pa (k * cN + j) = 3 ∧ st (k * cN + j) = 1
            · rw [ldv_t eb]
              have hd1 := dfn_same (pa := pa) (st := st) (st2 := sv0) (p := k * cN + j) ⟨fun _ => ea, fun _ => eb⟩
              refine lv_icmp_eq (tgt := 847) hx hb dL_law_840 (by decide) (fun _ => ?_) (fun c9 => absurd (by decide) c9)
              refine lv_iconst (v := 0) hx hb dL_law_847 (by decide) ?_
              refine lv_isub hx hb dL_law_848 ?_
              rw [Int32.sub_zero]
              refine lv_istore (lv' := [(19, .int (nI tt)), (26, .int (nI j)), (25, .int (nI k)), (24, .ref q), (17, .int (nI kk)), (16, .int d16), (15, .ref (vk 0)), (14, .int due), (13, .int (nI many)), (12, .int asv), (11, .int (nI one)), (8, .int (nI rN)), (7, .int (nI cN)), (5, .long bf), (4, .int xx), (3, .int tw), (2, .ref (v 0)), (1, .ref x), (0, .ref b0)]) hx hb dL_law_849 hl (by decide) rfl (fun ls hl => ?_)
              refine lv_iinc (v := (nI (j + 1))) (lv' := [(26, .int (nI (j + 1))), (19, .int (nI tt)), (25, .int (nI k)), (24, .ref q), (17, .int (nI kk)), (16, .int d16), (15, .ref (vk 0)), (14, .int due), (13, .int (nI many)), (12, .int asv), (11, .int (nI one)), (8, .int (nI rN)), (7, .int (nI cN)), (5, .long bf), (4, .int xx), (3, .int tw), (2, .ref (v 0)), (1, .ref x), (0, .ref b0)]) hx hb dL_law_851 hl (k := 1) rfl (nI_1 j) (by decide) rfl (fun ls hl => ?_)
              refine lv_goto (tgt := 806) hx hb dL_law_854 (by decide) ?_
              exact ih806 (j + 1) tt (by omega) (by rw [show k * cN + (j + 1) = k * cN + j + 1 from rfl, hd1]; omega) _ _ hP hD hS ls (lv_sub hl [0, 2, 3, 1, 4, 5, 6, 7, 8, 9, 10, 11, 12, 13, 14, 15, 16, 17, 18] rfl)
            · rw [ldv_f eb]
              have hd1 := dfn_diff (pa := pa) (st := st) (st2 := sv0) (p := k * cN + j) (fun z => eb (z.mpr ea))
              have hdm := dfn_mono (pa := pa) (st := st) (st2 := sv0) (show k * cN + j + 1 ≤ rN * cN from pl_lt hk hj)
              obtain ⟨t2, et2⟩ : ∃ t2, tt = t2 + 1 := ⟨tt - 1, by omega⟩
              subst et2
              refine lv_icmp_eq (tgt := 847) hx hb dL_law_840 (by decide) (fun c9 => absurd c9 (by decide)) (fun _ => ?_)
              refine lv_iconst (v := 1) hx hb dL_law_843 (by decide) ?_
              refine lv_goto (tgt := 848) hx hb dL_law_844 (by decide) ?_
              refine lv_isub hx hb dL_law_848 ?_
              rw [nI_pred]
              refine lv_istore (lv' := [(19, .int (nI t2)), (26, .int (nI j)), (25, .int (nI k)), (24, .ref q), (17, .int (nI kk)), (16, .int d16), (15, .ref (vk 0)), (14, .int due), (13, .int (nI many)), (12, .int asv), (11, .int (nI one)), (8, .int (nI rN)), (7, .int (nI cN)), (5, .long bf), (4, .int xx), (3, .int tw), (2, .ref (v 0)), (1, .ref x), (0, .ref b0)]) hx hb dL_law_849 hl (by decide) rfl (fun ls hl => ?_)
              refine lv_iinc (v := (nI (j + 1))) (lv' := [(26, .int (nI (j + 1))), (19, .int (nI t2)), (25, .int (nI k)), (24, .ref q), (17, .int (nI kk)), (16, .int d16), (15, .ref (vk 0)), (14, .int due), (13, .int (nI many)), (12, .int asv), (11, .int (nI one)), (8, .int (nI rN)), (7, .int (nI cN)), (5, .long bf), (4, .int xx), (3, .int tw), (2, .ref (v 0)), (1, .ref x), (0, .ref b0)]) hx hb dL_law_851 hl (k := 1) rfl (nI_1 j) (by decide) rfl (fun ls hl => ?_)
              refine lv_goto (tgt := 806) hx hb dL_law_854 (by decide) ?_
              exact ih806 (j + 1) t2 (by omega) (by rw [show k * cN + (j + 1) = k * cN + j + 1 from rfl, hd1]; omega) _ _ hP hD hS ls (lv_sub hl [0, 2, 3, 1, 4, 5, 6, 7, 8, 9, 10, 11, 12, 13, 14, 15, 16, 17, 18] rfl)
          · rw [ldv_f ea]
            refine lv_iconst (v := 1) hx hb dL_law_823 (by decide) ?_
            refine lv_icmp_ne (tgt := 831) hx hb dL_law_824 (by decide) (fun _ => ?_) (fun c9 => absurd c9 (by decide))
            refine lv_iconst (v := 0) hx hb dL_law_831 (by decide) ?_
            refine lv_aload_n hx hb dL_law_832 rfl (lv_at hl 17 rfl) ?_
            refine lv_iload hx hb dL_law_833 (lv_at hl 1 rfl) ?_
            refine lv_iload hx hb dL_law_835 (lv_at hl 0 rfl) ?_
            refine kRVi (As := [.int (nI k), .int (nI j)]) (rest := [.int 0, .int (nI tt)]) ⟨hx, hb, hml, hown, hts⟩ (mX1_leadsRight l D cI x b a pa pe st bn hc hm (nI cN) (nI rN) lo (nI k) (nI j) (xhas_k hk (by omega)) (xhas_k hj (by omega))) (cwV 2 hts gL_law_X1_leadsRight rfl rfl rfl (by decide +kernel) ⟨Nat.le_of_ble_eq_true rfl, Nat.le_of_ble_eq_true rfl⟩) hP hK hN [0, 1, 2, 3, 4, 5, 6, 7] rfl [0] rfl rfl rfl rfl hl.1 rfl (Nat.le_of_ble_eq_true rfl) dL_law_837 ⟨by omega, by omega⟩ (fun r_11 hr_11 => ?_)
            subst r_11
            rw [bi_ld h9 h8 hk hj]
            by_cases eb : pa (k * cN + j) = 3 ∧ st (k * cN + j) = 1
            · rw [ldv_t eb]
              have hd1 := dfn_diff (pa := pa) (st := st) (st2 := sv0) (p := k * cN + j) (fun z => ea (z.mp eb))
              have hdm := dfn_mono (pa := pa) (st := st) (st2 := sv0) (show k * cN + j + 1 ≤ rN * cN from pl_lt hk hj)
              obtain ⟨t2, et2⟩ : ∃ t2, tt = t2 + 1 := ⟨tt - 1, by omega⟩
              subst et2
              refine lv_icmp_eq (tgt := 847) hx hb dL_law_840 (by decide) (fun c9 => absurd c9 (by decide)) (fun _ => ?_)
              refine lv_iconst (v := 1) hx hb dL_law_843 (by decide) ?_
              refine lv_goto (tgt := 848) hx hb dL_law_844 (by decide) ?_
              refine lv_isub hx hb dL_law_848 ?_
              rw [nI_pred]
              refine lv_istore (lv' := [(19, .int (nI t2)), (26, .int (nI j)), (25, .int (nI k)), (24, .ref q), (17, .int (nI kk)), (16, .int d16), (15, .ref (vk 0)), (14, .int due), (13, .int (nI many)), (12, .int asv), (11, .int (nI one)), (8, .int (nI rN)), (7, .int (nI cN)), (5, .long bf), (4, .int xx), (3, .int tw), (2, .ref (v 0)), (1, .ref x), (0, .ref b0)]) hx hb dL_law_849 hl (by decide) rfl (fun ls hl => ?_)
              refine lv_iinc (v := (nI (j + 1))) (lv' := [(26, .int (nI (j + 1))), (19, .int (nI t2)), (25, .int (nI k)), (24, .ref q), (17, .int (nI kk)), (16, .int d16), (15, .ref (vk 0)), (14, .int due), (13, .int (nI many)), (12, .int asv), (11, .int (nI one)), (8, .int (nI rN)), (7, .int (nI cN)), (5, .long bf), (4, .int xx), (3, .int tw), (2, .ref (v 0)), (1, .ref x), (0, .ref b0)]) hx hb dL_law_851 hl (k := 1) rfl (nI_1 j) (by decide) rfl (fun ls hl => ?_)
              refine lv_goto (tgt := 806) hx hb dL_law_854 (by decide) ?_
              exact ih806 (j + 1) t2 (by omega) (by rw [show k * cN + (j + 1) = k * cN + j + 1 from rfl, hd1]; omega) _ _ hP hD hS ls (lv_sub hl [0, 2, 3, 1, 4, 5, 6, 7, 8, 9, 10, 11, 12, 13, 14, 15, 16, 17, 18] rfl)
            · rw [ldv_f eb]
              have hd1 := dfn_same (pa := pa) (st := st) (st2 := sv0) (p := k * cN + j) ⟨fun z => absurd z eb, fun z => absurd z ea⟩
              refine lv_icmp_eq (tgt := 847) hx hb dL_law_840 (by decide) (fun _ => ?_) (fun c9 => absurd (by decide) c9)
              refine lv_iconst (v := 0) hx hb dL_law_847 (by decide) ?_
              refine lv_isub hx hb dL_law_848 ?_
              rw [Int32.sub_zero]
              refine lv_istore (lv' := [(19, .int (nI tt)), (26, .int (nI j)), (25, .int (nI k)), (24, .ref q), (17, .int (nI kk)), (16, .int d16), (15, .ref (vk 0)), (14, .int due), (13, .int (nI many)), (12, .int asv), (11, .int (nI one)), (8, .int (nI rN)), (7, .int (nI cN)), (5, .long bf), (4, .int xx), (3, .int tw), (2, .ref (v 0)), (1, .ref x), (0, .ref b0)]) hx hb dL_law_849 hl (by decide) rfl (fun ls hl => ?_)
              refine lv_iinc (v := (nI (j + 1))) (lv' := [(26, .int (nI (j + 1))), (19, .int (nI tt)), (25, .int (nI k)), (24, .ref q), (17, .int (nI kk)), (16, .int d16), (15, .ref (vk 0)), (14, .int due), (13, .int (nI many)), (12, .int asv), (11, .int (nI one)), (8, .int (nI rN)), (7, .int (nI cN)), (5, .long bf), (4, .int xx), (3, .int tw), (2, .ref (v 0)), (1, .ref x), (0, .ref b0)]) hx hb dL_law_851 hl (k := 1) rfl (nI_1 j) (by decide) rfl (fun ls hl => ?_)
              refine lv_goto (tgt := 806) hx hb dL_law_854 (by decide) ?_
              exact ih806 (j + 1) tt (by omega) (by rw [show k * cN + (j + 1) = k * cN + j + 1 from rfl, hd1]; omega) _ _ hP hD hS ls (lv_sub hl [0, 2, 3, 1, 4, 5, 6, 7, 8, 9, 10, 11, 12, 13, 14, 15, 16, 17, 18] rfl)
      exact L806 cN 0 tt (by omega) ht _ _ hP hD hS ls (lv_sub hl [0, 1, 2, 3, 4, 5, 6, 7, 8, 9, 10, 11, 12, 13, 14, 15, 16, 17, 18] rfl)
  exact L796 rN 0 (dfn pa st sv0 (rN * cN)) (by omega) (by rw [Nat.zero_mul]; rfl) _ _ hP hD hS ls (lv_sub hl [0, 1, 2, 3, 4, 5, 6, 7, 8, 9, 10, 11, 12, 13, 14, 15, 16, 17] rfl)
