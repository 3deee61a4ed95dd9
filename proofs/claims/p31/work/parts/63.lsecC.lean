set_option maxHeartbeats 4000000 in
set_option maxRecDepth 100000 in
theorem lw_C {p : Program} {l : Launch} {e : Env} {s : State} {m : MethodId} {below : List Frame} {meth : Method} {c : Code} {Q : State → Prop} {D : va_G} {cI c2 c3 : ClassId} {x b0 L : Nat} {a b v rw_ : Nat → Nat} {ow : Nat → Nat → Nat} {xs : Nat → Int32} {A : Nat → Prop} {cells slots : Nat} {cN rN : Nat} {pa pe pd st bn hc hm : Nat → Int32} {lo tn : Int32} {ta te ts tb tc tm : Nat → Int32} {tC tR tl : Int32} {H : Heap} {locs : List Loc} {ls : Array Slot} {xx tw : Int32} {bf : Int64}  (F : LC2 p l s m b0 c D cI c2 c3 L xs A) (hI : PI cN rN pa pe pd st bn hc hm) (hcl : cells + 2000 ≤ room_1.cells) (hsl : slots + 20000 ≤ room_1.slots) (hP : va_P D vwCl (wX x a b ++ wM cI a pa pe st bn hc hm ((nI cN)) ((nI rN)) lo ++ wS cI c2 c3 v rw_ ow cN rN pa pd st bn hc hm lo tn ++ wM cI b ta te ts tb tc tm tC tR tl) H) (hD : va_D A (wX x a b ++ wM cI a pa pe st bn hc hm ((nI cN)) ((nI rN)) lo ++ wS cI c2 c3 v rw_ ow cN rN pa pd st bn hc hm lo tn ++ wM cI b ta te ts tb tc tm tC tR tl)) (hS : va_S A s.heap H locs) (hl : lv_has ls 27 [(8, .int (nI rN)), (7, .int (nI cN)), (5, .long bf), (4, .int xx), (3, .int tw), (2, .ref (v 0)), (1, .ref x), (0, .ref b0)]) (K : ∀ (ta te ts tb tc tm : Nat → Int32) (tC tR tl : Int32) (H : Heap) (locs : List Loc) (ls : Array Slot), va_P D vwCl (wX x a b ++ wM cI a pa pe st bn hc hm ((nI cN)) ((nI rN)) lo ++ wS cI c2 c3 v rw_ ow cN rN pa pd st bn hc hm lo tn ++ wM cI b ta te ts tb tc tm tC tR tl) H → va_D A (wX x a b ++ wM cI a pa pe st bn hc hm ((nI cN)) ((nI rN)) lo ++ wS cI c2 c3 v rw_ ow cN rN pa pd st bn hc hm lo tn ++ wM cI b ta te ts tb tc tm tC tR tl) → va_S A s.heap H locs → lv_has ls 27 [(9, .int (nI (tg pa (rN * cN)))), (8, .int (nI rN)), (7, .int (nI cN)), (5, .long bf), (4, .int xx), (3, .int tw), (2, .ref (v 0)), (1, .ref x), (0, .ref b0)] → W p l e room_1 s m #[Value.ref b0] below meth c H locs cells slots Q (F0 m 261 ls [])) : W p l e room_1 s m #[Value.ref b0] below meth c H locs cells slots Q (F0 m 98 ls []) := by
  obtain ⟨hx, hb, hml, hown, hts, hK, hN, hG, hX, hZ, hA, hXs, hb0l, hb0A, hst, hL, hNi, hL2⟩ := F
  have h2 := hI.c2
  have h9 := hI.c9
  have h1r := hI.r1
  have h8 := hI.r8
  refine lv_iconst (v := 0) hx hb dL_law_98 (by decide) ?_
  refine lv_istore (lv' := [(9, .int 0), (8, .int (nI rN)), (7, .int (nI cN)), (5, .long bf), (4, .int xx), (3, .int tw), (2, .ref (v 0)), (1, .ref x), (0, .ref b0)]) hx hb dL_law_99 hl (by decide) rfl (fun ls hl => ?_)
  refine lv_iconst (v := 0) hx hb dL_law_101 (by decide) ?_
  refine lv_istore (lv' := [(10, .int 0), (9, .int 0), (8, .int (nI rN)), (7, .int (nI cN)), (5, .long bf), (4, .int xx), (3, .int tw), (2, .ref (v 0)), (1, .ref x), (0, .ref b0)]) hx hb dL_law_102 hl (by decide) rfl (fun ls hl => ?_)
  have L104 : ∀ (n k : Nat) (tt : Int32), k + n = rN → tt = nI (tg pa (k * cN)) → ∀ (H : Heap) (locs : List Loc), va_P D vwCl (wX x a b ++ wM cI a pa pe st bn hc hm ((nI cN)) ((nI rN)) lo ++ wS cI c2 c3 v rw_ ow cN rN pa pd st bn hc hm lo tn ++ wM cI b ta te ts tb tc tm tC tR tl) H → va_D A (wX x a b ++ wM cI a pa pe st bn hc hm ((nI cN)) ((nI rN)) lo ++ wS cI c2 c3 v rw_ ow cN rN pa pd st bn hc hm lo tn ++ wM cI b ta te ts tb tc tm tC tR tl) → va_S A s.heap H locs → ∀ ls : Array Slot, lv_has ls 27 [(10, .int (nI k)), (9, .int tt), (8, .int (nI rN)), (7, .int (nI cN)), (5, .long bf), (4, .int xx), (3, .int tw), (2, .ref (v 0)), (1, .ref x), (0, .ref b0)] → W p l e room_1 s m #[Value.ref b0] below meth c H locs cells slots Q (F0 m 104 ls []) := by
    intro n
    induction n with
    | zero =>
      intro k tt hkn104 ht H locs hP hD hS ls hl
      refine lv_iload hx hb dL_law_104 (lv_at hl 0 rfl) ?_
      refine lv_iload hx hb dL_law_106 (lv_at hl 2 rfl) ?_
      refine lv_icmp_ge (tgt := 261) hx hb dL_law_108 (by decide) (fun c_1 => ?_) (fun c9 => absurd (nI_le (by omega) (by omega)) c9)
      rw [show tt = nI (tg pa (rN * cN)) from by rw [ht, show k = rN by omega]] at hl
      exact K ta te ts tb tc tm tC tR tl _ _ _ hP hD hS (lv_sub hl [1, 2, 3, 4, 5, 6, 7, 8, 9] rfl)
    | succ n ih104 =>
      intro k tt hkn104 ht H locs hP hD hS ls hl
      refine lv_iload hx hb dL_law_104 (lv_at hl 0 rfl) ?_
      refine lv_iload hx hb dL_law_106 (lv_at hl 2 rfl) ?_
      refine lv_icmp_ge (tgt := 261) hx hb dL_law_108 (by decide) (fun c9 => absurd c9 (nI_ge (by omega) (by omega))) (fun c_2 => ?_)
      refine lv_iconst (v := 0) hx hb dL_law_111 (by decide) ?_
      refine lv_istore (lv' := [(11, .int 0), (10, .int (nI k)), (9, .int tt), (8, .int (nI rN)), (7, .int (nI cN)), (5, .long bf), (4, .int xx), (3, .int tw), (2, .ref (v 0)), (1, .ref x), (0, .ref b0)]) hx hb dL_law_112 hl (by decide) rfl (fun ls hl => ?_)
      refine lv_iconst (v := 0) hx hb dL_law_114 (by decide) ?_
      refine lv_istore (lv' := [(12, .int 0), (11, .int 0), (10, .int (nI k)), (9, .int tt), (8, .int (nI rN)), (7, .int (nI cN)), (5, .long bf), (4, .int xx), (3, .int tw), (2, .ref (v 0)), (1, .ref x), (0, .ref b0)]) hx hb dL_law_115 hl (by decide) rfl (fun ls hl => ?_)
      have L117 : ∀ (n2 j : Nat) (h : Nat), j + n2 = cN → tg pa (k * cN) + h = tg pa (k * cN + j) → ∀ (H : Heap) (locs : List Loc), va_P D vwCl (wX x a b ++ wM cI a pa pe st bn hc hm ((nI cN)) ((nI rN)) lo ++ wS cI c2 c3 v rw_ ow cN rN pa pd st bn hc hm lo tn ++ wM cI b ta te ts tb tc tm tC tR tl) H → va_D A (wX x a b ++ wM cI a pa pe st bn hc hm ((nI cN)) ((nI rN)) lo ++ wS cI c2 c3 v rw_ ow cN rN pa pd st bn hc hm lo tn ++ wM cI b ta te ts tb tc tm tC tR tl) → va_S A s.heap H locs → ∀ ls : Array Slot, lv_has ls 27 [(12, .int (nI j)), (11, .int (nI h)), (10, .int (nI k)), (9, .int tt), (8, .int (nI rN)), (7, .int (nI cN)), (5, .long bf), (4, .int xx), (3, .int tw), (2, .ref (v 0)), (1, .ref x), (0, .ref b0)] → W p l e room_1 s m #[Value.ref b0] below meth c H locs cells slots Q (F0 m 117 ls []) := by
        intro n2
        induction n2 with
        | zero =>
          intro j h hkn117 hh H locs hP hD hS ls hl
          refine lv_iload hx hb dL_law_117 (lv_at hl 0 rfl) ?_
          refine lv_iload hx hb dL_law_119 (lv_at hl 5 rfl) ?_
          refine lv_icmp_ge (tgt := 224) hx hb dL_law_121 (by decide) (fun c_3 => ?_) (fun c9 => absurd (nI_le (by omega) (by omega)) c9)
          have hk : k < rN := by omega
          obtain ⟨mm, em, hm2, hh9⟩ := hI.num hk (hh := h) (by rw [hh, show j = cN by omega])
          have hp9 := Nat.pow_le_pow_right (show 0 < 2 by omega) hh9
          refine lv_iload hx hb dL_law_224 (lv_at hl 3 rfl) ?_
          refine lv_iload hx hb dL_law_226 (lv_at hl 1 rfl) ?_
          refine lv_iadd hx hb dL_law_228 ?_
          refine lv_istore (lv' := [(9, .int (tt + (nI h))), (12, .int (nI j)), (11, .int (nI h)), (10, .int (nI k)), (8, .int (nI rN)), (7, .int (nI cN)), (5, .long bf), (4, .int xx), (3, .int tw), (2, .ref (v 0)), (1, .ref x), (0, .ref b0)]) hx hb dL_law_229 hl (by decide) rfl (fun ls hl => ?_)
          refine lv_aload_n hx hb dL_law_231 rfl (lv_at hl 10 rfl) ?_
          refine lv_iload hx hb dL_law_232 (lv_at hl 3 rfl) ?_
          refine kRVi (As := [.int (nI k)]) (rest := []) ⟨hx, hb, hml, hown, hts⟩ (mX1_numberIn l D cI x b a pa pe st bn hc hm (nI cN) (nI rN) lo (nI k) (xhas_k hk (by omega))) (cwV 1 hts gL_law_X1_numberIn rfl rfl rfl (by decide +kernel) ⟨Nat.le_of_ble_eq_true rfl, Nat.le_of_ble_eq_true rfl⟩) hP hK hN [0, 1, 2, 3, 4, 5, 6, 7] rfl [0] rfl rfl rfl rfl hl.1 rfl (Nat.le_of_ble_eq_true rfl) dL_law_234 ⟨by omega, by omega⟩ (fun r_4 hr_4 => ?_)
          subst r_4
          rw [em]
          refine lv_if_lt (tgt := 253) hx hb dL_law_237 (by decide) (fun c9 => absurd c9 (nI_pos (by omega))) (fun c_5 => ?_)
          refine lv_aload_n hx hb dL_law_240 rfl (lv_at hl 10 rfl) ?_
          refine lv_iload hx hb dL_law_241 (lv_at hl 3 rfl) ?_
          refine kRVi (As := [.int (nI k)]) (rest := []) ⟨hx, hb, hml, hown, hts⟩ (mX1_numberIn l D cI x b a pa pe st bn hc hm (nI cN) (nI rN) lo (nI k) (xhas_k hk (by omega))) (cwV 1 hts gL_law_X1_numberIn rfl rfl rfl (by decide +kernel) ⟨Nat.le_of_ble_eq_true rfl, Nat.le_of_ble_eq_true rfl⟩) hP hK hN [0, 1, 2, 3, 4, 5, 6, 7] rfl [0] rfl rfl rfl rfl hl.1 rfl (Nat.le_of_ble_eq_true rfl) dL_law_243 ⟨by omega, by omega⟩ (fun r_6 hr_6 => ?_)
          subst r_6
          rw [em]
          refine lv_iconst (v := 1) hx hb dL_law_246 (by decide) ?_
          refine lv_iload hx hb dL_law_247 (lv_at hl 2 rfl) ?_
          refine lv_ishl hx hb dL_law_249 ?_
          rw [shl_1 hh9]
          refine lv_icmp_lt (tgt := 255) hx hb dL_law_250 (by decide) (fun c_7 => ?_) (fun c9 => absurd (nI_lt hm2 (by omega)) c9)
          refine lv_iinc (v := (nI (k + 1))) (lv' := [(10, .int (nI (k + 1))), (9, .int (tt + (nI h))), (12, .int (nI j)), (11, .int (nI h)), (8, .int (nI rN)), (7, .int (nI cN)), (5, .long bf), (4, .int xx), (3, .int tw), (2, .ref (v 0)), (1, .ref x), (0, .ref b0)]) hx hb dL_law_255 hl (k := 3) rfl (nI_1 k) (by decide) rfl (fun ls hl => ?_)
          refine lv_goto (tgt := 104) hx hb dL_law_258 (by decide) ?_
          exact ih104 (k + 1) (tt + nI h) (by omega) (by rw [ht, nI_add, hh, show j = cN by omega, Nat.succ_mul]) _ _ hP hD hS ls (lv_sub hl [0, 1, 4, 5, 6, 7, 8, 9, 10, 11] rfl)
        | succ n2 ih117 =>
          intro j h hkn117 hh H locs hP hD hS ls hl
          refine lv_iload hx hb dL_law_117 (lv_at hl 0 rfl) ?_
          refine lv_iload hx hb dL_law_119 (lv_at hl 5 rfl) ?_
          refine lv_icmp_ge (tgt := 224) hx hb dL_law_121 (by decide) (fun c9 => absurd c9 (nI_ge (by omega) (by omega))) (fun c_8 => ?_)
          have hk : k < rN := by omega
          have hj : j < cN := by omega
          have hok := hI.ok _ (pl_lt hk hj)
          by_cases e0 : pa (k * cN + j) = 3
          · by_cases e2 : st (k * cN + j) = 1
            · refine lv_iload hx hb dL_law_124 (lv_at hl 1 rfl) ?_
              refine lv_aload_n hx hb dL_law_126 rfl (lv_at hl 10 rfl) ?_
              refine lv_iload hx hb dL_law_127 (lv_at hl 2 rfl) ?_
              refine lv_iload hx hb dL_law_129 (lv_at hl 0 rfl) ?_
              refine kRVi (As := [.int (nI k), .int (nI j)]) (rest := [.int (nI h)]) ⟨hx, hb, hml, hown, hts⟩ (mX1_partAt l D cI x b a pa pe st bn hc hm (nI cN) (nI rN) lo (nI k) (nI j) (xhas_k hk (by omega)) (xhas_k hj (by omega))) (cwV 2 hts gL_law_X1_partAt rfl rfl rfl (by decide +kernel) ⟨Nat.le_of_ble_eq_true rfl, Nat.le_of_ble_eq_true rfl⟩) hP hK hN [0, 1, 2, 3, 4, 5, 6, 7] rfl [0] rfl rfl rfl rfl hl.1 rfl (Nat.le_of_ble_eq_true rfl) dL_law_131 ⟨by omega, by omega⟩ (fun r_9 hr_9 => ?_)
              subst r_9
              rw [xcl_pl h9 h8 hk hj, e0]
              refine lv_iconst (v := 3) hx hb dL_law_134 (by decide) ?_
              refine lv_icmp_ne (tgt := 142) hx hb dL_law_135 (by decide) (fun c9 => absurd (by decide) c9) (fun _ => ?_)
              refine lv_iconst (v := 1) hx hb dL_law_138 (by decide) ?_
              refine lv_goto (tgt := 143) hx hb dL_law_139 (by decide) ?_
              refine lv_iadd hx hb dL_law_143 ?_
              rw [nI_1]
              refine lv_istore (lv' := [(11, .int (nI (h + 1))), (12, .int (nI j)), (10, .int (nI k)), (9, .int tt), (8, .int (nI rN)), (7, .int (nI cN)), (5, .long bf), (4, .int xx), (3, .int tw), (2, .ref (v 0)), (1, .ref x), (0, .ref b0)]) hx hb dL_law_144 hl (by decide) rfl (fun ls hl => ?_)
              refine lv_aload_n hx hb dL_law_146 rfl (lv_at hl 10 rfl) ?_
              refine lv_iload hx hb dL_law_147 (lv_at hl 2 rfl) ?_
              refine lv_iload hx hb dL_law_149 (lv_at hl 1 rfl) ?_
              refine kRVi (As := [.int (nI k), .int (nI j)]) (rest := []) ⟨hx, hb, hml, hown, hts⟩ (mX1_leadsRight l D cI x b a pa pe st bn hc hm (nI cN) (nI rN) lo (nI k) (nI j) (xhas_k hk (by omega)) (xhas_k hj (by omega))) (cwV 2 hts gL_law_X1_leadsRight rfl rfl rfl (by decide +kernel) ⟨Nat.le_of_ble_eq_true rfl, Nat.le_of_ble_eq_true rfl⟩) hP hK hN [0, 1, 2, 3, 4, 5, 6, 7] rfl [0] rfl rfl rfl rfl hl.1 rfl (Nat.le_of_ble_eq_true rfl) dL_law_151 ⟨by omega, by omega⟩ (fun r_11 hr_11 => ?_)
              subst r_11
              rw [xRight_pl h9 h8 hk hj, if_pos e0, if_pos e2]
              rw [show bi true = 1 from rfl]
              refine lv_if_eq (tgt := 169) hx hb dL_law_154 (by decide) (fun c9 => absurd c9 (by decide)) (fun _ => ?_)
              refine lv_aload_n hx hb dL_law_157 rfl (lv_at hl 10 rfl) ?_
              refine lv_iload hx hb dL_law_158 (lv_at hl 2 rfl) ?_
              refine lv_iload hx hb dL_law_160 (lv_at hl 1 rfl) ?_
              refine kRVi (As := [.int (nI k), .int (nI j)]) (rest := []) ⟨hx, hb, hml, hown, hts⟩ (mX1_partAt l D cI x b a pa pe st bn hc hm (nI cN) (nI rN) lo (nI k) (nI j) (xhas_k hk (by omega)) (xhas_k hj (by omega))) (cwV 2 hts gL_law_X1_partAt rfl rfl rfl (by decide +kernel) ⟨Nat.le_of_ble_eq_true rfl, Nat.le_of_ble_eq_true rfl⟩) hP hK hN [0, 1, 2, 3, 4, 5, 6, 7] rfl [0] rfl rfl rfl rfl hl.1 rfl (Nat.le_of_ble_eq_true rfl) dL_law_162 ⟨by omega, by omega⟩ (fun r_13 hr_13 => ?_)
              subst r_13
              rw [xcl_pl h9 h8 hk hj, e0]
              refine lv_iconst (v := 3) hx hb dL_law_165 (by decide) ?_
              refine lv_icmp_ne (tgt := 216) hx hb dL_law_166 (by decide) (fun c9 => absurd (by decide) c9) (fun _ => ?_)
              refine lv_aload_n hx hb dL_law_169 rfl (lv_at hl 10 rfl) ?_
              refine lv_iload hx hb dL_law_170 (lv_at hl 2 rfl) ?_
              refine lv_iload hx hb dL_law_172 (lv_at hl 1 rfl) ?_
              refine kRVi (As := [.int (nI k), .int (nI j)]) (rest := []) ⟨hx, hb, hml, hown, hts⟩ (mX1_countAt l D cI x b a pa pe st bn hc hm (nI cN) (nI rN) lo (nI k) (nI j) (xhas_k hk (by omega)) (xhas_k hj (by omega))) (cwV 2 hts gL_law_X1_countAt rfl rfl rfl (by decide +kernel) ⟨Nat.le_of_ble_eq_true rfl, Nat.le_of_ble_eq_true rfl⟩) hP hK hN [0, 1, 2, 3, 4, 5, 6, 7] rfl [0] rfl rfl rfl rfl hl.1 rfl (Nat.le_of_ble_eq_true rfl) dL_law_174 ⟨by omega, by omega⟩ (fun r_15 hr_15 => ?_)
              subst r_15
              rw [xCnt_pl h9 h8 hk hj, if_neg (by rw [e0]; decide)]
              refine lv_if_lt (tgt := 216) hx hb dL_law_177 (by decide) (fun c9 => absurd c9 (by decide)) (fun _ => ?_)
              refine lv_aload_n hx hb dL_law_180 rfl (lv_at hl 10 rfl) ?_
              refine lv_iload hx hb dL_law_181 (lv_at hl 2 rfl) ?_
              refine lv_iload hx hb dL_law_183 (lv_at hl 1 rfl) ?_
              refine kRVi (As := [.int (nI k), .int (nI j)]) (rest := []) ⟨hx, hb, hml, hown, hts⟩ (mX1_countAt l D cI x b a pa pe st bn hc hm (nI cN) (nI rN) lo (nI k) (nI j) (xhas_k hk (by omega)) (xhas_k hj (by omega))) (cwV 2 hts gL_law_X1_countAt rfl rfl rfl (by decide +kernel) ⟨Nat.le_of_ble_eq_true rfl, Nat.le_of_ble_eq_true rfl⟩) hP hK hN [0, 1, 2, 3, 4, 5, 6, 7] rfl [0] rfl rfl rfl rfl hl.1 rfl (Nat.le_of_ble_eq_true rfl) dL_law_185 ⟨by omega, by omega⟩ (fun r_17 hr_17 => ?_)
              subst r_17
              rw [xCnt_pl h9 h8 hk hj, if_neg (by rw [e0]; decide)]
              refine lv_if_le (tgt := 203) hx hb dL_law_188 (by decide) (fun _ => ?_) (fun c9 => absurd (by decide) c9)
              refine lv_aload_n hx hb dL_law_203 rfl (lv_at hl 10 rfl) ?_
              refine lv_iload hx hb dL_law_204 (lv_at hl 2 rfl) ?_
              refine lv_iload hx hb dL_law_206 (lv_at hl 1 rfl) ?_
              refine kRVi (As := [.int (nI k), .int (nI j)]) (rest := []) ⟨hx, hb, hml, hown, hts⟩ (mX1_countAt l D cI x b a pa pe st bn hc hm (nI cN) (nI rN) lo (nI k) (nI j) (xhas_k hk (by omega)) (xhas_k hj (by omega))) (cwV 2 hts gL_law_X1_countAt rfl rfl rfl (by decide +kernel) ⟨Nat.le_of_ble_eq_true rfl, Nat.le_of_ble_eq_true rfl⟩) hP hK hN [0, 1, 2, 3, 4, 5, 6, 7] rfl [0] rfl rfl rfl rfl hl.1 rfl (Nat.le_of_ble_eq_true rfl) dL_law_208 ⟨by omega, by omega⟩ (fun r_19 hr_19 => ?_)
              subst r_19
              rw [xCnt_pl h9 h8 hk hj, if_neg (by rw [e0]; decide)]
              refine lv_bipush (v := 8) hx hb dL_law_211 (by decide) ?_
              refine lv_icmp_le (tgt := 218) hx hb dL_law_213 (by decide) (fun _ => ?_) (fun c9 => absurd (by decide) c9)
              refine lv_iinc (v := (nI (j + 1))) (lv' := [(12, .int (nI (j + 1))), (11, .int (nI (h + 1))), (10, .int (nI k)), (9, .int tt), (8, .int (nI rN)), (7, .int (nI cN)), (5, .long bf), (4, .int xx), (3, .int tw), (2, .ref (v 0)), (1, .ref x), (0, .ref b0)]) hx hb dL_law_218 hl (k := 1) rfl (nI_1 j) (by decide) rfl (fun ls hl => ?_)
              refine lv_goto (tgt := 117) hx hb dL_law_221 (by decide) ?_
              exact ih117 (j + 1) (h + 1) (by omega) (by show tg pa (k * cN) + (h + 1) = tg pa (k * cN + j + 1); rw [tg_t e0]; omega) _ _ hP hD hS ls (lv_sub hl [0, 1, 2, 3, 4, 5, 6, 7, 8, 9, 10, 11] rfl)
            · refine lv_iload hx hb dL_law_124 (lv_at hl 1 rfl) ?_
              refine lv_aload_n hx hb dL_law_126 rfl (lv_at hl 10 rfl) ?_
              refine lv_iload hx hb dL_law_127 (lv_at hl 2 rfl) ?_
              refine lv_iload hx hb dL_law_129 (lv_at hl 0 rfl) ?_
              refine kRVi (As := [.int (nI k), .int (nI j)]) (rest := [.int (nI h)]) ⟨hx, hb, hml, hown, hts⟩ (mX1_partAt l D cI x b a pa pe st bn hc hm (nI cN) (nI rN) lo (nI k) (nI j) (xhas_k hk (by omega)) (xhas_k hj (by omega))) (cwV 2 hts gL_law_X1_partAt rfl rfl rfl (by decide +kernel) ⟨Nat.le_of_ble_eq_true rfl, Nat.le_of_ble_eq_true rfl⟩) hP hK hN [0, 1, 2, 3, 4, 5, 6, 7] rfl [0] rfl rfl rfl rfl hl.1 rfl (Nat.le_of_ble_eq_true rfl) dL_law_131 ⟨by omega, by omega⟩ (fun r_21 hr_21 => ?_)
              subst r_21
              rw [xcl_pl h9 h8 hk hj, e0]
              refine lv_iconst (v := 3) hx hb dL_law_134 (by decide) ?_
              refine lv_icmp_ne (tgt := 142) hx hb dL_law_135 (by decide) (fun c9 => absurd (by decide) c9) (fun _ => ?_)
              refine lv_iconst (v := 1) hx hb dL_law_138 (by decide) ?_
              refine lv_goto (tgt := 143) hx hb dL_law_139 (by decide) ?_
              refine lv_iadd hx hb dL_law_143 ?_
              rw [nI_1]
              refine lv_istore (lv' := [(11, .int (nI (h + 1))), (12, .int (nI j)), (10, .int (nI k)), (9, .int tt), (8, .int (nI rN)), (7, .int (nI cN)), (5, .long bf), (4, .int xx), (3, .int tw), (2, .ref (v 0)), (1, .ref x), (0, .ref b0)]) hx hb dL_law_144 hl (by decide) rfl (fun ls hl => ?_)
              refine lv_aload_n hx hb dL_law_146 rfl (lv_at hl 10 rfl) ?_
              refine lv_iload hx hb dL_law_147 (lv_at hl 2 rfl) ?_
              refine lv_iload hx hb dL_law_149 (lv_at hl 1 rfl) ?_
              refine kRVi (As := [.int (nI k), .int (nI j)]) (rest := []) ⟨hx, hb, hml, hown, hts⟩ (mX1_leadsRight l D cI x b a pa pe st bn hc hm (nI cN) (nI rN) lo (nI k) (nI j) (xhas_k hk (by omega)) (xhas_k hj (by omega))) (cwV 2 hts gL_law_X1_leadsRight rfl rfl rfl (by decide +kernel) ⟨Nat.le_of_ble_eq_true rfl, Nat.le_of_ble_eq_true rfl⟩) hP hK hN [0, 1, 2, 3, 4, 5, 6, 7] rfl [0] rfl rfl rfl rfl hl.1 rfl (Nat.le_of_ble_eq_true rfl) dL_law_151 ⟨by omega, by omega⟩ (fun r_23 hr_23 => ?_)
              subst r_23
              rw [xRight_pl h9 h8 hk hj, if_pos e0, if_neg e2]
              rw [show bi false = 0 from rfl]
              refine lv_if_eq (tgt := 169) hx hb dL_law_154 (by decide) (fun _ => ?_) (fun c9 => absurd (by decide) c9)
              refine lv_aload_n hx hb dL_law_169 rfl (lv_at hl 10 rfl) ?_
              refine lv_iload hx hb dL_law_170 (lv_at hl 2 rfl) ?_
              refine lv_iload hx hb dL_law_172 (lv_at hl 1 rfl) ?_
              refine kRVi (As := [.int (nI k), .int (nI j)]) (rest := []) ⟨hx, hb, hml, hown, hts⟩ (mX1_countAt l D cI x b a pa pe st bn hc hm (nI cN) (nI rN) lo (nI k) (nI j) (xhas_k hk (by omega)) (xhas_k hj (by omega))) (cwV 2 hts gL_law_X1_countAt rfl rfl rfl (by decide +kernel) ⟨Nat.le_of_ble_eq_true rfl, Nat.le_of_ble_eq_true rfl⟩) hP hK hN [0, 1, 2, 3, 4, 5, 6, 7] rfl [0] rfl rfl rfl rfl hl.1 rfl (Nat.le_of_ble_eq_true rfl) dL_law_174 ⟨by omega, by omega⟩ (fun r_25 hr_25 => ?_)
              subst r_25
              rw [xCnt_pl h9 h8 hk hj, if_neg (by rw [e0]; decide)]
              refine lv_if_lt (tgt := 216) hx hb dL_law_177 (by decide) (fun c9 => absurd c9 (by decide)) (fun _ => ?_)
              refine lv_aload_n hx hb dL_law_180 rfl (lv_at hl 10 rfl) ?_
              refine lv_iload hx hb dL_law_181 (lv_at hl 2 rfl) ?_
              refine lv_iload hx hb dL_law_183 (lv_at hl 1 rfl) ?_
              refine kRVi (As := [.int (nI k), .int (nI j)]) (rest := []) ⟨hx, hb, hml, hown, hts⟩ (mX1_countAt l D cI x b a pa pe st bn hc hm (nI cN) (nI rN) lo (nI k) (nI j) (xhas_k hk (by omega)) (xhas_k hj (by omega))) (cwV 2 hts gL_law_X1_countAt rfl rfl rfl (by decide +kernel) ⟨Nat.le_of_ble_eq_true rfl, Nat.le_of_ble_eq_true rfl⟩) hP hK hN [0, 1, 2, 3, 4, 5, 6, 7] rfl [0] rfl rfl rfl rfl hl.1 rfl (Nat.le_of_ble_eq_true rfl) dL_law_185 ⟨by omega, by omega⟩ (fun r_27 hr_27 => ?_)
              subst r_27
              rw [xCnt_pl h9 h8 hk hj, if_neg (by rw [e0]; decide)]
              refine lv_if_le (tgt := 203) hx hb dL_law_188 (by decide) (fun _ => ?_) (fun c9 => absurd (by decide) c9)
              refine lv_aload_n hx hb dL_law_203 rfl (lv_at hl 10 rfl) ?_
              refine lv_iload hx hb dL_law_204 (lv_at hl 2 rfl) ?_
              refine lv_iload hx hb dL_law_206 (lv_at hl 1 rfl) ?_
              refine kRVi (As := [.int (nI k), .int (nI j)]) (rest := []) ⟨hx, hb, hml, hown, hts⟩ (mX1_countAt l D cI x b a pa pe st bn hc hm (nI cN) (nI rN) lo (nI k) (nI j) (xhas_k hk (by omega)) (xhas_k hj (by omega))) (cwV 2 hts gL_law_X1_countAt rfl rfl rfl (by decide +kernel) ⟨Nat.le_of_ble_eq_true rfl, Nat.le_of_ble_eq_true rfl⟩) hP hK hN [0, 1, 2, 3, 4, 5, 6, 7] rfl [0] rfl rfl rfl rfl hl.1 rfl (Nat.le_of_ble_eq_true rfl) dL_law_208 ⟨by omega, by omega⟩ (fun r_29 hr_29 => ?_)
              subst r_29
              rw [xCnt_pl h9 h8 hk hj, if_neg (by rw [e0]; decide)]
              refine lv_bipush (v := 8) hx hb dL_law_211 (by decide) ?_
              refine lv_icmp_le (tgt := 218) hx hb dL_law_213 (by decide) (fun _ => ?_) (fun c9 => absurd (by decide) c9)
              refine lv_iinc (v := (nI (j + 1))) (lv' := [(12, .int (nI (j + 1))), (11, .int (nI (h + 1))), (10, .int (nI k)), (9, .int tt), (8, .int (nI rN)), (7, .int (nI cN)), (5, .long bf), (4, .int xx), (3, .int tw), (2, .ref (v 0)), (1, .ref x), (0, .ref b0)]) hx hb dL_law_218 hl (k := 1) rfl (nI_1 j) (by decide) rfl (fun ls hl => ?_)
              refine lv_goto (tgt := 117) hx hb dL_law_221 (by decide) ?_
              exact ih117 (j + 1) (h + 1) (by omega) (by show tg pa (k * cN) + (h + 1) = tg pa (k * cN + j + 1); rw [tg_t e0]; omega) _ _ hP hD hS ls (lv_sub hl [0, 1, 2, 3, 4, 5, 6, 7, 8, 9, 10, 11] rfl)
          · by_cases e5 : pa (k * cN + j) = 5
            · obtain ⟨qx, hqx, ex⟩ := cnt_v hok e5
              refine lv_iload hx hb dL_law_124 (lv_at hl 1 rfl) ?_
              refine lv_aload_n hx hb dL_law_126 rfl (lv_at hl 10 rfl) ?_
              refine lv_iload hx hb dL_law_127 (lv_at hl 2 rfl) ?_
              refine lv_iload hx hb dL_law_129 (lv_at hl 0 rfl) ?_
              refine kRVi (As := [.int (nI k), .int (nI j)]) (rest := [.int (nI h)]) ⟨hx, hb, hml, hown, hts⟩ (mX1_partAt l D cI x b a pa pe st bn hc hm (nI cN) (nI rN) lo (nI k) (nI j) (xhas_k hk (by omega)) (xhas_k hj (by omega))) (cwV 2 hts gL_law_X1_partAt rfl rfl rfl (by decide +kernel) ⟨Nat.le_of_ble_eq_true rfl, Nat.le_of_ble_eq_true rfl⟩) hP hK hN [0, 1, 2, 3, 4, 5, 6, 7] rfl [0] rfl rfl rfl rfl hl.1 rfl (Nat.le_of_ble_eq_true rfl) dL_law_131 ⟨by omega, by omega⟩ (fun r_31 hr_31 => ?_)
              subst r_31
              rw [xcl_pl h9 h8 hk hj, e5]
              refine lv_iconst (v := 3) hx hb dL_law_134 (by decide) ?_
              refine lv_icmp_ne (tgt := 142) hx hb dL_law_135 (by decide) (fun _ => ?_) (fun c9 => absurd c9 (by decide))
              refine lv_iconst (v := 0) hx hb dL_law_142 (by decide) ?_
              refine lv_iadd hx hb dL_law_143 ?_
              rw [Int32.add_zero]
              refine lv_istore (lv' := [(11, .int (nI h)), (12, .int (nI j)), (10, .int (nI k)), (9, .int tt), (8, .int (nI rN)), (7, .int (nI cN)), (5, .long bf), (4, .int xx), (3, .int tw), (2, .ref (v 0)), (1, .ref x), (0, .ref b0)]) hx hb dL_law_144 hl (by decide) rfl (fun ls hl => ?_)
              refine lv_aload_n hx hb dL_law_146 rfl (lv_at hl 10 rfl) ?_
              refine lv_iload hx hb dL_law_147 (lv_at hl 2 rfl) ?_
              refine lv_iload hx hb dL_law_149 (lv_at hl 1 rfl) ?_
              refine kRVi (As := [.int (nI k), .int (nI j)]) (rest := []) ⟨hx, hb, hml, hown, hts⟩ (mX1_leadsRight l D cI x b a pa pe st bn hc hm (nI cN) (nI rN) lo (nI k) (nI j) (xhas_k hk (by omega)) (xhas_k hj (by omega))) (cwV 2 hts gL_law_X1_leadsRight rfl rfl rfl (by decide +kernel) ⟨Nat.le_of_ble_eq_true rfl, Nat.le_of_ble_eq_true rfl⟩) hP hK hN [0, 1, 2, 3, 4, 5, 6, 7] rfl [0] rfl rfl rfl rfl hl.1 rfl (Nat.le_of_ble_eq_true rfl) dL_law_151 ⟨by omega, by omega⟩ (fun r_33 hr_33 => ?_)
              subst r_33
              rw [xRight_pl h9 h8 hk hj, if_neg e0]
              rw [show bi false = 0 from rfl]
              refine lv_if_eq (tgt := 169) hx hb dL_law_154 (by decide) (fun _ => ?_) (fun c9 => absurd (by decide) c9)
              refine lv_aload_n hx hb dL_law_169 rfl (lv_at hl 10 rfl) ?_
              refine lv_iload hx hb dL_law_170 (lv_at hl 2 rfl) ?_
              refine lv_iload hx hb dL_law_172 (lv_at hl 1 rfl) ?_
              refine kRVi (As := [.int (nI k), .int (nI j)]) (rest := []) ⟨hx, hb, hml, hown, hts⟩ (mX1_countAt l D cI x b a pa pe st bn hc hm (nI cN) (nI rN) lo (nI k) (nI j) (xhas_k hk (by omega)) (xhas_k hj (by omega))) (cwV 2 hts gL_law_X1_countAt rfl rfl rfl (by decide +kernel) ⟨Nat.le_of_ble_eq_true rfl, Nat.le_of_ble_eq_true rfl⟩) hP hK hN [0, 1, 2, 3, 4, 5, 6, 7] rfl [0] rfl rfl rfl rfl hl.1 rfl (Nat.le_of_ble_eq_true rfl) dL_law_174 ⟨by omega, by omega⟩ (fun r_35 hr_35 => ?_)
              subst r_35
              rw [xCnt_pl h9 h8 hk hj, if_pos e5, ex]
              refine lv_if_lt (tgt := 216) hx hb dL_law_177 (by decide) (fun c9 => absurd c9 (nI_pos (by omega))) (fun c_36 => ?_)
              refine lv_aload_n hx hb dL_law_180 rfl (lv_at hl 10 rfl) ?_
              refine lv_iload hx hb dL_law_181 (lv_at hl 2 rfl) ?_
              refine lv_iload hx hb dL_law_183 (lv_at hl 1 rfl) ?_
              refine kRVi (As := [.int (nI k), .int (nI j)]) (rest := []) ⟨hx, hb, hml, hown, hts⟩ (mX1_countAt l D cI x b a pa pe st bn hc hm (nI cN) (nI rN) lo (nI k) (nI j) (xhas_k hk (by omega)) (xhas_k hj (by omega))) (cwV 2 hts gL_law_X1_countAt rfl rfl rfl (by decide +kernel) ⟨Nat.le_of_ble_eq_true rfl, Nat.le_of_ble_eq_true rfl⟩) hP hK hN [0, 1, 2, 3, 4, 5, 6, 7] rfl [0] rfl rfl rfl rfl hl.1 rfl (Nat.le_of_ble_eq_true rfl) dL_law_185 ⟨by omega, by omega⟩ (fun r_37 hr_37 => ?_)
              subst r_37
              rw [xCnt_pl h9 h8 hk hj, if_pos e5, ex]
              refine lv_if_le (tgt := 203) hx hb dL_law_188 (by decide) (fun c_38 => ?_) (fun c_38 => ?_)
              · refine lv_aload_n hx hb dL_law_203 rfl (lv_at hl 10 rfl) ?_
                refine lv_iload hx hb dL_law_204 (lv_at hl 2 rfl) ?_
                refine lv_iload hx hb dL_law_206 (lv_at hl 1 rfl) ?_
                refine kRVi (As := [.int (nI k), .int (nI j)]) (rest := []) ⟨hx, hb, hml, hown, hts⟩ (mX1_countAt l D cI x b a pa pe st bn hc hm (nI cN) (nI rN) lo (nI k) (nI j) (xhas_k hk (by omega)) (xhas_k hj (by omega))) (cwV 2 hts gL_law_X1_countAt rfl rfl rfl (by decide +kernel) ⟨Nat.le_of_ble_eq_true rfl, Nat.le_of_ble_eq_true rfl⟩) hP hK hN [0, 1, 2, 3, 4, 5, 6, 7] rfl [0] rfl rfl rfl rfl hl.1 rfl (Nat.le_of_ble_eq_true rfl) dL_law_208 ⟨by omega, by omega⟩ (fun r_39 hr_39 => ?_)
                subst r_39
                rw [xCnt_pl h9 h8 hk hj, if_pos e5, ex]
                refine lv_bipush (v := 8) hx hb dL_law_211 (by decide) ?_
                refine lv_icmp_le (tgt := 218) hx hb dL_law_213 (by decide) (fun c_40 => ?_) (fun c9 => absurd (nI_le (b := 8) (by omega) (by omega)) c9)
                refine lv_iinc (v := (nI (j + 1))) (lv' := [(12, .int (nI (j + 1))), (11, .int (nI h)), (10, .int (nI k)), (9, .int tt), (8, .int (nI rN)), (7, .int (nI cN)), (5, .long bf), (4, .int xx), (3, .int tw), (2, .ref (v 0)), (1, .ref x), (0, .ref b0)]) hx hb dL_law_218 hl (k := 1) rfl (nI_1 j) (by decide) rfl (fun ls hl => ?_)
                refine lv_goto (tgt := 117) hx hb dL_law_221 (by decide) ?_
                exact ih117 (j + 1) h (by omega) (by show tg pa (k * cN) + h = tg pa (k * cN + j + 1); rw [tg_f e0]; omega) _ _ hP hD hS ls (lv_sub hl [0, 1, 2, 3, 4, 5, 6, 7, 8, 9, 10, 11] rfl)
              · refine lv_aload_n hx hb dL_law_191 rfl (lv_at hl 10 rfl) ?_
                refine lv_iload hx hb dL_law_192 (lv_at hl 2 rfl) ?_
                refine lv_iload hx hb dL_law_194 (lv_at hl 1 rfl) ?_
                refine kRVi (As := [.int (nI k), .int (nI j)]) (rest := []) ⟨hx, hb, hml, hown, hts⟩ (mX1_partAt l D cI x b a pa pe st bn hc hm (nI cN) (nI rN) lo (nI k) (nI j) (xhas_k hk (by omega)) (xhas_k hj (by omega))) (cwV 2 hts gL_law_X1_partAt rfl rfl rfl (by decide +kernel) ⟨Nat.le_of_ble_eq_true rfl, Nat.le_of_ble_eq_true rfl⟩) hP hK hN [0, 1, 2, 3, 4, 5, 6, 7] rfl [0] rfl rfl rfl rfl hl.1 rfl (Nat.le_of_ble_eq_true rfl) dL_law_196 ⟨by omega, by omega⟩ (fun r_41 hr_41 => ?_)
                subst r_41
                rw [xcl_pl h9 h8 hk hj, e5]
                refine lv_iconst (v := 5) hx hb dL_law_199 (by decide) ?_
                refine lv_icmp_ne (tgt := 216) hx hb dL_law_200 (by decide) (fun c9 => absurd (by decide) c9) (fun _ => ?_)
                refine lv_aload_n hx hb dL_law_203 rfl (lv_at hl 10 rfl) ?_
                refine lv_iload hx hb dL_law_204 (lv_at hl 2 rfl) ?_
                refine lv_iload hx hb dL_law_206 (lv_at hl 1 rfl) ?_
                refine kRVi (As := [.int (nI k), .int (nI j)]) (rest := []) ⟨hx, hb, hml, hown, hts⟩ (mX1_countAt l D cI x b a pa pe st bn hc hm (nI cN) (nI rN) lo (nI k) (nI j) (xhas_k hk (by omega)) (xhas_k hj (by omega))) (cwV 2 hts gL_law_X1_countAt rfl rfl rfl (by decide +kernel) ⟨Nat.le_of_ble_eq_true rfl, Nat.le_of_ble_eq_true rfl⟩) hP hK hN [0, 1, 2, 3, 4, 5, 6, 7] rfl [0] rfl rfl rfl rfl hl.1 rfl (Nat.le_of_ble_eq_true rfl) dL_law_208 ⟨by omega, by omega⟩ (fun r_43 hr_43 => ?_)
                subst r_43
                rw [xCnt_pl h9 h8 hk hj, if_pos e5, ex]
                refine lv_bipush (v := 8) hx hb dL_law_211 (by decide) ?_
                refine lv_icmp_le (tgt := 218) hx hb dL_law_213 (by decide) (fun c_44 => ?_) (fun c9 => absurd (nI_le (b := 8) (by omega) (by omega)) c9)
                refine lv_iinc (v := (nI (j + 1))) (lv' := [(12, .int (nI (j + 1))), (11, .int (nI h)), (10, .int (nI k)), (9, .int tt), (8, .int (nI rN)), (7, .int (nI cN)), (5, .long bf), (4, .int xx), (3, .int tw), (2, .ref (v 0)), (1, .ref x), (0, .ref b0)]) hx hb dL_law_218 hl (k := 1) rfl (nI_1 j) (by decide) rfl (fun ls hl => ?_)
                refine lv_goto (tgt := 117) hx hb dL_law_221 (by decide) ?_
                exact ih117 (j + 1) h (by omega) (by show tg pa (k * cN) + h = tg pa (k * cN + j + 1); rw [tg_f e0]; omega) _ _ hP hD hS ls (lv_sub hl [0, 1, 2, 3, 4, 5, 6, 7, 8, 9, 10, 11] rfl)
            · refine lv_iload hx hb dL_law_124 (lv_at hl 1 rfl) ?_
              refine lv_aload_n hx hb dL_law_126 rfl (lv_at hl 10 rfl) ?_
              refine lv_iload hx hb dL_law_127 (lv_at hl 2 rfl) ?_
              refine lv_iload hx hb dL_law_129 (lv_at hl 0 rfl) ?_
              refine kRVi (As := [.int (nI k), .int (nI j)]) (rest := [.int (nI h)]) ⟨hx, hb, hml, hown, hts⟩ (mX1_partAt l D cI x b a pa pe st bn hc hm (nI cN) (nI rN) lo (nI k) (nI j) (xhas_k hk (by omega)) (xhas_k hj (by omega))) (cwV 2 hts gL_law_X1_partAt rfl rfl rfl (by decide +kernel) ⟨Nat.le_of_ble_eq_true rfl, Nat.le_of_ble_eq_true rfl⟩) hP hK hN [0, 1, 2, 3, 4, 5, 6, 7] rfl [0] rfl rfl rfl rfl hl.1 rfl (Nat.le_of_ble_eq_true rfl) dL_law_131 ⟨by omega, by omega⟩ (fun r_45 hr_45 => ?_)
              subst r_45
              rw [xcl_pl h9 h8 hk hj]
              refine lv_iconst (v := 3) hx hb dL_law_134 (by decide) ?_
              refine lv_icmp_ne (tgt := 142) hx hb dL_law_135 (by decide) (fun c_46 => ?_) (fun c9 => absurd c9 e0)
              refine lv_iconst (v := 0) hx hb dL_law_142 (by decide) ?_
              refine lv_iadd hx hb dL_law_143 ?_
              rw [Int32.add_zero]
              refine lv_istore (lv' := [(11, .int (nI h)), (12, .int (nI j)), (10, .int (nI k)), (9, .int tt), (8, .int (nI rN)), (7, .int (nI cN)), (5, .long bf), (4, .int xx), (3, .int tw), (2, .ref (v 0)), (1, .ref x), (0, .ref b0)]) hx hb dL_law_144 hl (by decide) rfl (fun ls hl => ?_)
              refine lv_aload_n hx hb dL_law_146 rfl (lv_at hl 10 rfl) ?_
              refine lv_iload hx hb dL_law_147 (lv_at hl 2 rfl) ?_
              refine lv_iload hx hb dL_law_149 (lv_at hl 1 rfl) ?_
              refine kRVi (As := [.int (nI k), .int (nI j)]) (rest := []) ⟨hx, hb, hml, hown, hts⟩ (mX1_leadsRight l D cI x b a pa pe st bn hc hm (nI cN) (nI rN) lo (nI k) (nI j) (xhas_k hk (by omega)) (xhas_k hj (by omega))) (cwV 2 hts gL_law_X1_leadsRight rfl rfl rfl (by decide +kernel) ⟨Nat.le_of_ble_eq_true rfl, Nat.le_of_ble_eq_true rfl⟩) hP hK hN [0, 1, 2, 3, 4, 5, 6, 7] rfl [0] rfl rfl rfl rfl hl.1 rfl (Nat.le_of_ble_eq_true rfl) dL_law_151 ⟨by omega, by omega⟩ (fun r_47 hr_47 => ?_)
              subst r_47
              rw [xRight_pl h9 h8 hk hj, if_neg e0]
              rw [show bi false = 0 from rfl]
              refine lv_if_eq (tgt := 169) hx hb dL_law_154 (by decide) (fun _ => ?_) (fun c9 => absurd (by decide) c9)
              refine lv_aload_n hx hb dL_law_169 rfl (lv_at hl 10 rfl) ?_
              refine lv_iload hx hb dL_law_170 (lv_at hl 2 rfl) ?_
              refine lv_iload hx hb dL_law_172 (lv_at hl 1 rfl) ?_
              refine kRVi (As := [.int (nI k), .int (nI j)]) (rest := []) ⟨hx, hb, hml, hown, hts⟩ (mX1_countAt l D cI x b a pa pe st bn hc hm (nI cN) (nI rN) lo (nI k) (nI j) (xhas_k hk (by omega)) (xhas_k hj (by omega))) (cwV 2 hts gL_law_X1_countAt rfl rfl rfl (by decide +kernel) ⟨Nat.le_of_ble_eq_true rfl, Nat.le_of_ble_eq_true rfl⟩) hP hK hN [0, 1, 2, 3, 4, 5, 6, 7] rfl [0] rfl rfl rfl rfl hl.1 rfl (Nat.le_of_ble_eq_true rfl) dL_law_174 ⟨by omega, by omega⟩ (fun r_49 hr_49 => ?_)
              subst r_49
              rw [xCnt_pl h9 h8 hk hj, if_neg e5]
              refine lv_if_lt (tgt := 216) hx hb dL_law_177 (by decide) (fun c9 => absurd c9 (by decide)) (fun _ => ?_)
              refine lv_aload_n hx hb dL_law_180 rfl (lv_at hl 10 rfl) ?_
              refine lv_iload hx hb dL_law_181 (lv_at hl 2 rfl) ?_
              refine lv_iload hx hb dL_law_183 (lv_at hl 1 rfl) ?_
              refine kRVi (As := [.int (nI k), .int (nI j)]) (rest := []) ⟨hx, hb, hml, hown, hts⟩ (mX1_countAt l D cI x b a pa pe st bn hc hm (nI cN) (nI rN) lo (nI k) (nI j) (xhas_k hk (by omega)) (xhas_k hj (by omega))) (cwV 2 hts gL_law_X1_countAt rfl rfl rfl (by decide +kernel) ⟨Nat.le_of_ble_eq_true rfl, Nat.le_of_ble_eq_true rfl⟩) hP hK hN [0, 1, 2, 3, 4, 5, 6, 7] rfl [0] rfl rfl rfl rfl hl.1 rfl (Nat.le_of_ble_eq_true rfl) dL_law_185 ⟨by omega, by omega⟩ (fun r_51 hr_51 => ?_)
              subst r_51
              rw [xCnt_pl h9 h8 hk hj, if_neg e5]
              refine lv_if_le (tgt := 203) hx hb dL_law_188 (by decide) (fun _ => ?_) (fun c9 => absurd (by decide) c9)
              refine lv_aload_n hx hb dL_law_203 rfl (lv_at hl 10 rfl) ?_
              refine lv_iload hx hb dL_law_204 (lv_at hl 2 rfl) ?_
              refine lv_iload hx hb dL_law_206 (lv_at hl 1 rfl) ?_
              refine kRVi (As := [.int (nI k), .int (nI j)]) (rest := []) ⟨hx, hb, hml, hown, hts⟩ (mX1_countAt l D cI x b a pa pe st bn hc hm (nI cN) (nI rN) lo (nI k) (nI j) (xhas_k hk (by omega)) (xhas_k hj (by omega))) (cwV 2 hts gL_law_X1_countAt rfl rfl rfl (by decide +kernel) ⟨Nat.le_of_ble_eq_true rfl, Nat.le_of_ble_eq_true rfl⟩) hP hK hN [0, 1, 2, 3, 4, 5, 6, 7] rfl [0] rfl rfl rfl rfl hl.1 rfl (Nat.le_of_ble_eq_true rfl) dL_law_208 ⟨by omega, by omega⟩ (fun r_53 hr_53 => ?_)
              subst r_53
              rw [xCnt_pl h9 h8 hk hj, if_neg e5]
              refine lv_bipush (v := 8) hx hb dL_law_211 (by decide) ?_
              refine lv_icmp_le (tgt := 218) hx hb dL_law_213 (by decide) (fun _ => ?_) (fun c9 => absurd (by decide) c9)
              refine lv_iinc (v := (nI (j + 1))) (lv' := [(12, .int (nI (j + 1))), (11, .int (nI h)), (10, .int (nI k)), (9, .int tt), (8, .int (nI rN)), (7, .int (nI cN)), (5, .long bf), (4, .int xx), (3, .int tw), (2, .ref (v 0)), (1, .ref x), (0, .ref b0)]) hx hb dL_law_218 hl (k := 1) rfl (nI_1 j) (by decide) rfl (fun ls hl => ?_)
              refine lv_goto (tgt := 117) hx hb dL_law_221 (by decide) ?_
              exact ih117 (j + 1) h (by omega) (by show tg pa (k * cN) + h = tg pa (k * cN + j + 1); rw [tg_f e0]; omega) _ _ hP hD hS ls (lv_sub hl [0, 1, 2, 3, 4, 5, 6, 7, 8, 9, 10, 11] rfl)
      exact L117 cN 0 0 (by omega) rfl _ _ hP hD hS ls (lv_sub hl [0, 1, 2, 3, 4, 5, 6, 7, 8, 9, 10, 11] rfl)
  exact L104 rN 0 0 (by omega) (by rw [Nat.zero_mul]; rfl) _ _ hP hD hS ls (lv_sub hl [0, 1, 2, 3, 4, 5, 6, 7, 8, 9] rfl)
