theorem iw_X2_fall_X2 : ∀ w ∈ wsX20, w ∈ wsX2_fall := mem_pos [4, 5, 6, 7, 8, 9] (by decide +kernel)
set_option maxHeartbeats 4000000 in
set_option maxRecDepth 100000 in
theorem mX2_fall (l : Launch) (D : va_G) (cI : ClassId) (c2 c3 : ClassId) (v rw_ : Nat → Nat) (ow : Nat → Nat → Nat) (cN rN : Nat) (pa pd st bn hc hm : Nat → Int32) (lo tn : Int32) (h1 : 1 ≤ cN) (h9 : cN ≤ 9) (h8 : rN ≤ 8) (pe : Nat → Int32) (hO : OKs (rN * cN) pa pe pd st) (jj : Nat) (hjj : jj < cN) (sz : Nat) : Met l yX2_fall wsX2_fall ({ frames := 0, cells := 0, slots := 0, locals := 0 } : Room) (va_Pc [.ref (v 0), .int (nI jj), .int (nI rN)] (wPQ D [(cI, .int), (c2, .array .int), (c3, .array (.array .int))] sz (wS cI c2 c3 v rw_ ow cN rN pa pd st bn hc hm lo tn))) (va_Qi (fun (zz : Int32) (u : Int32) => zz = (xFall pa pe st (nI cN) (nI jj) (nI rN)).1) (wB D [(cI, .int), (c2, .array .int), (c3, .array (.array .int))] (va_A (wS cI c2 c3 v rw_ ow cN rN pa pd st bn hc hm lo tn) sz) (fun u : Int32 => (wS cI c2 c3 v rw_ ow cN rN pa pd ((xFall pa pe st (nI cN) (nI jj) (nI rN)).2) bn hc hm lo u))) (va_A (wS cI c2 c3 v rw_ ow cN rN pa pd st bn hc hm lo tn) sz)) 0 0 (va_A (wS cI c2 c3 v rw_ ow cN rN pa pd st bn hc hm lo tn) sz) := by
  refine mQ_of (by decide) rfl (Nat.le_of_ble_eq_true rfl) ?_
  intro p e s m below meth c hx hb hr hml hown hin hts hlocks hsz hP hK hN hD hA hS ls hl
  have hown : s.vm.findClass RX2 = some m.cls := hown
  have hl : lv_has ls 7 [(0, .ref (v 0)), (1, .int (nI jj)), (2, .int (nI rN))] := hl
  have hP : va_P D vwCl (wS cI c2 c3 v rw_ ow cN rN pa pd st bn hc hm lo tn) s.heap := hP
  refine lv_iload_n hx hb dX2_fall_0 rfl (lv_at hl 1 rfl) ?_
  refine lv_istore_n (lv' := [(3, .int (nI jj)), (0, .ref (v 0)), (1, .int (nI jj)), (2, .int (nI rN))]) hx hb dX2_fall_1 rfl hl (by decide) rfl (fun ls hl => ?_)
  refine lv_iconst (v := 0) hx hb dX2_fall_2 (by decide) ?_
  refine lv_istore (lv' := [(4, .int 0), (3, .int (nI jj)), (0, .ref (v 0)), (1, .int (nI jj)), (2, .int (nI rN))]) hx hb dX2_fall_3 hl (by decide) rfl (fun ls hl => ?_)
  refine lv_iconst (v := 0) hx hb dX2_fall_5 (by decide) ?_
  refine lv_istore (lv' := [(5, .int 0), (4, .int 0), (3, .int (nI jj)), (0, .ref (v 0)), (1, .int (nI jj)), (2, .int (nI rN))]) hx hb dX2_fall_6 hl (by decide) rfl (fun ls hl => ?_)
  have L8 : ∀ (n k : Nat) (j : Nat) (way : Int32) (sv : Nat → Int32) (tv : Int32), k + n = rN → xFall pa pe st (nI cN) (nI jj) (nI rN) = xFallL pa pe (nI cN) n k (nI j) way sv → j < cN → W3 way → OKs (rN * cN) pa pe pd sv → ∀ (H : Heap) (locs : List Loc), va_P D vwCl (wS cI c2 c3 v rw_ ow cN rN pa pd sv bn hc hm lo tv) H → va_D (va_A (wS cI c2 c3 v rw_ ow cN rN pa pd st bn hc hm lo tn) sz) (wS cI c2 c3 v rw_ ow cN rN pa pd sv bn hc hm lo tv) → va_S (va_A (wS cI c2 c3 v rw_ ow cN rN pa pd st bn hc hm lo tn) sz) s.heap H locs → ∀ ls : Array Slot, lv_has ls 7 [(5, .int (nI k)), (4, .int way), (3, .int (nI j)), (0, .ref (v 0)), (1, .int (nI jj)), (2, .int (nI rN))] → W p l e ({ frames := 0, cells := 0, slots := 0, locals := 0 } : Room) s m [.ref (v 0), .int (nI jj), .int (nI rN)].toArray below meth c H locs 0 0 (MQ below (va_Qi (fun (zz : Int32) (u : Int32) => zz = (xFall pa pe st (nI cN) (nI jj) (nI rN)).1) (wB D [(cI, .int), (c2, .array .int), (c3, .array (.array .int))] (va_A (wS cI c2 c3 v rw_ ow cN rN pa pd st bn hc hm lo tn) sz) (fun u : Int32 => (wS cI c2 c3 v rw_ ow cN rN pa pd ((xFall pa pe st (nI cN) (nI jj) (nI rN)).2) bn hc hm lo u))) (va_A (wS cI c2 c3 v rw_ ow cN rN pa pd st bn hc hm lo tn) sz)) [.ref (v 0), .int (nI jj), .int (nI rN)].toArray s 0 0 (va_A (wS cI c2 c3 v rw_ ow cN rN pa pd st bn hc hm lo tn) sz)) (F0 m 8 ls []) := by
    intro n
    induction n with
    | zero =>
      intro k j way sv tv hkn8 hf hj hw hOs H locs hP hD hS ls hl
      refine lv_iload hx hb dX2_fall_8 (lv_at hl 0 rfl) ?_
      refine lv_iload_n hx hb dX2_fall_10 rfl (lv_at hl 5 rfl) ?_
      refine lv_icmp_ge (tgt := 191) hx hb dX2_fall_11 (by decide) (fun c_1 => ?_) (fun c9 => absurd (nI_le (by omega) (by omega)) c9)
      refine lv_iload_n hx hb dX2_fall_191 rfl (lv_at hl 2 rfl) ?_
      have hP : va_P D vwCl (wS cI c2 c3 v rw_ ow cN rN pa pd ((xFall pa pe st (nI cN) (nI jj) (nI rN)).2) bn hc hm lo tv) H := by rw [hf]; simp only [xFallL]; exact hP
      have hD : va_D (va_A (wS cI c2 c3 v rw_ ow cN rN pa pd st bn hc hm lo tn) sz) (wS cI c2 c3 v rw_ ow cN rN pa pd ((xFall pa pe st (nI cN) (nI jj) (nI rN)).2) bn hc hm lo tv) := by rw [hf]; simp only [xFallL]; exact hD
      exact eQi tv hx hb hr hlocks hP hD hK hS dX2_fall_192 (by rw [hf]; rfl)
    | succ n ih8 =>
      intro k j way sv tv hkn8 hf hj hw hOs H locs hP hD hS ls hl
      refine lv_iload hx hb dX2_fall_8 (lv_at hl 0 rfl) ?_
      refine lv_iload_n hx hb dX2_fall_10 rfl (lv_at hl 5 rfl) ?_
      refine lv_icmp_ge (tgt := 191) hx hb dX2_fall_11 (by decide) (fun c9 => absurd c9 (nI_ge (by omega) (by omega))) (fun c_2 => ?_)
      rcases way_cases h9 h8 hOs (show k < rN by omega) hj way with ⟨e0, hwy⟩ | ⟨e0, hwy⟩ | ⟨e0, hwy⟩ | ⟨e0, hwy⟩ | ⟨e0, e2, hwy, hok⟩ | ⟨e0, e2, hwy, hok⟩ | ⟨e0, q, x, e1, e2, hqx, hq9, hwy, hok⟩ | ⟨e0, q, x, e1, e2, hqx, hq9, hwy, hok⟩
      · refine lv_aload_n hx hb dX2_fall_14 rfl (lv_at hl 3 rfl) ?_
        refine va_get (D := D) (ci := 2) (v := .ref (v 4)) (C := RX2) (T := TX2) (N := 6) hx hb hts iw_X2_fall_X2 hown hK hP 0 rfl rfl 0 (by decide) (hts (.fieldLink RX2 9 "MarbleRampsLaw$Sim" "board" "[[[I") (mg 1 rfl)) (fun _ h9 => h9) rfl dX2_fall_15 ?_
        refine lv_iload hx hb dX2_fall_18 (lv_at hl 0 rfl) ?_
        refine sLdR (r := k) (g := rw_) hx hb hK hP 2 rfl (List.mem_cons_of_mem _ (List.mem_cons_of_mem _ (List.mem_cons_of_mem _ (List.mem_cons_of_mem _ List.mem_cons_self)))) (by omega) (by omega) dX2_fall_20 ?_
        refine lv_iload_n hx hb dX2_fall_21 rfl (lv_at hl 2 rfl) ?_
        refine sLdR (r := j) (g := fun j => ow k j) hx hb hK hP 1 rfl (sRow_m (by omega)) (by omega) (by omega) dX2_fall_22 ?_
        refine lv_astore (lv' := [(6, .ref (ow k j)), (5, .int (nI k)), (4, .int way), (3, .int (nI j)), (0, .ref (v 0)), (1, .int (nI jj)), (2, .int (nI rN))]) hx hb dX2_fall_23 hl (by decide) rfl (fun ls hl => ?_)
        refine lv_aload hx hb dX2_fall_25 (lv_at hl 0 rfl) ?_
        refine lv_iconst (v := 0) hx hb dX2_fall_27 (by decide) ?_
        refine sLdI (j := 0) hx hb hK hP 0 rfl (sCell_m (by omega) (by omega)) (by decide) (by decide) dX2_fall_28 ?_
        rw [show t3 (pa (k * cN + j)) (pd (k * cN + j)) (sv (k * cN + j)) 0 = 0 from e0]
        refine lv_if_ne (tgt := 38) hx hb dX2_fall_29 (by decide) (fun c9 => absurd (by decide) c9) (fun _ => ?_)
        refine lv_iconst (v := 0) hx hb dX2_fall_32 (by decide) ?_
        refine lv_istore (lv' := [(4, .int 0), (6, .ref (ow k j)), (5, .int (nI k)), (3, .int (nI j)), (0, .ref (v 0)), (1, .int (nI jj)), (2, .int (nI rN))]) hx hb dX2_fall_33 hl (by decide) rfl (fun ls hl => ?_)
        refine lv_goto (tgt := 165) hx hb dX2_fall_35 (by decide) ?_
        refine lv_iload_n hx hb dX2_fall_165 rfl (lv_at hl 3 rfl) ?_
        refine lv_iload hx hb dX2_fall_166 (lv_at hl 0 rfl) ?_
        refine lv_iadd hx hb dX2_fall_168 ?_
        refine lv_istore_n (lv' := [(3, .int ((nI j) + 0)), (4, .int 0), (6, .ref (ow k j)), (5, .int (nI k)), (0, .ref (v 0)), (1, .int (nI jj)), (2, .int (nI rN))]) hx hb dX2_fall_169 rfl hl (by decide) rfl (fun ls hl => ?_)
        refine lv_iload_n hx hb dX2_fall_170 rfl (lv_at hl 0 rfl) ?_
        refine lv_if_lt (tgt := 183) hx hb dX2_fall_171 (by decide) (fun c_4 => ?_) (fun c_4 => ?_)
        · refine lv_iconst (v := (-1)) hx hb dX2_fall_183 (by decide) ?_
          have hP : va_P D vwCl (wS cI c2 c3 v rw_ ow cN rN pa pd ((xFall pa pe st (nI cN) (nI jj) (nI rN)).2) bn hc hm lo tv) H := by rw [hf, xFallL, hwy]; dsimp only; rw [tl_neg c_4, if_neg (by decide)]; exact hP
          have hD : va_D (va_A (wS cI c2 c3 v rw_ ow cN rN pa pd st bn hc hm lo tn) sz) (wS cI c2 c3 v rw_ ow cN rN pa pd ((xFall pa pe st (nI cN) (nI jj) (nI rN)).2) bn hc hm lo tv) := by rw [hf, xFallL, hwy]; dsimp only; rw [tl_neg c_4, if_neg (by decide)]; exact hD
          exact eQi tv hx hb hr hlocks hP hD hK hS dX2_fall_184 (by rw [hf, xFallL, hwy]; dsimp only; rw [tl_neg c_4, if_neg (by decide)])
        · refine lv_iload_n hx hb dX2_fall_174 rfl (lv_at hl 0 rfl) ?_
          refine lv_aload_n hx hb dX2_fall_175 rfl (lv_at hl 4 rfl) ?_
          refine va_get (D := D) (ci := 2) (v := .ref (v 1)) (C := RX2) (T := TX2) (N := 6) hx hb hts iw_X2_fall_X2 hown hK hP 0 rfl rfl 1 (by decide) (hts (.fieldLink RX2 14 "MarbleRampsLaw$Sim" "bins" "[I") (mg 3 rfl)) (fun _ h9 => h9) rfl dX2_fall_176 ?_
          refine va_alen hx hb hK hP 1 0 rfl rfl (v := (nI cN)) rfl dX2_fall_179 ?_
          refine lv_icmp_ne (tgt := 185) hx hb dX2_fall_180 (by decide) (fun c_5 => ?_) (fun c_5 => ?_)
          · obtain ⟨j2, hj2, ej2, hh2, _, _⟩ := tl_ok h9 hj (w := 0) (Or.inr (Or.inl rfl)) c_4 c_5
            rw [ej2] at hl
            refine lv_iinc (v := (nI (k + 1))) (lv' := [(5, .int (nI (k + 1))), (3, .int (nI j2)), (4, .int 0), (6, .ref (ow k j)), (0, .ref (v 0)), (1, .int (nI jj)), (2, .int (nI rN))]) hx hb dX2_fall_185 hl (k := 3) rfl (nI_1 k) (by decide) rfl (fun ls hl => ?_)
            refine lv_goto (tgt := 8) hx hb dX2_fall_188 (by decide) ?_
            exact ih8 (k + 1) j2 0 sv tv (by omega) (by rw [hf, xFallL, hwy]; dsimp only; rw [hh2, if_pos rfl, ej2]) hj2 (Or.inr (Or.inl rfl)) hOs _ _ hP hD hS ls (lv_sub hl [0, 2, 1, 4, 5, 6] rfl)
          · refine lv_iconst (v := (-1)) hx hb dX2_fall_183 (by decide) ?_
            have hP : va_P D vwCl (wS cI c2 c3 v rw_ ow cN rN pa pd ((xFall pa pe st (nI cN) (nI jj) (nI rN)).2) bn hc hm lo tv) H := by rw [hf, xFallL, hwy]; dsimp only; rw [tl_eq c_4 c_5, if_neg (by decide)]; exact hP
            have hD : va_D (va_A (wS cI c2 c3 v rw_ ow cN rN pa pd st bn hc hm lo tn) sz) (wS cI c2 c3 v rw_ ow cN rN pa pd ((xFall pa pe st (nI cN) (nI jj) (nI rN)).2) bn hc hm lo tv) := by rw [hf, xFallL, hwy]; dsimp only; rw [tl_eq c_4 c_5, if_neg (by decide)]; exact hD
            exact eQi tv hx hb hr hlocks hP hD hK hS dX2_fall_184 (by rw [hf, xFallL, hwy]; dsimp only; rw [tl_eq c_4 c_5, if_neg (by decide)])
      · refine lv_aload_n hx hb dX2_fall_14 rfl (lv_at hl 3 rfl) ?_
        refine va_get (D := D) (ci := 2) (v := .ref (v 4)) (C := RX2) (T := TX2) (N := 6) hx hb hts iw_X2_fall_X2 hown hK hP 0 rfl rfl 0 (by decide) (hts (.fieldLink RX2 9 "MarbleRampsLaw$Sim" "board" "[[[I") (mg 1 rfl)) (fun _ h9 => h9) rfl dX2_fall_15 ?_
        refine lv_iload hx hb dX2_fall_18 (lv_at hl 0 rfl) ?_
        refine sLdR (r := k) (g := rw_) hx hb hK hP 2 rfl (List.mem_cons_of_mem _ (List.mem_cons_of_mem _ (List.mem_cons_of_mem _ (List.mem_cons_of_mem _ List.mem_cons_self)))) (by omega) (by omega) dX2_fall_20 ?_
        refine lv_iload_n hx hb dX2_fall_21 rfl (lv_at hl 2 rfl) ?_
        refine sLdR (r := j) (g := fun j => ow k j) hx hb hK hP 1 rfl (sRow_m (by omega)) (by omega) (by omega) dX2_fall_22 ?_
        refine lv_astore (lv' := [(6, .ref (ow k j)), (5, .int (nI k)), (4, .int way), (3, .int (nI j)), (0, .ref (v 0)), (1, .int (nI jj)), (2, .int (nI rN))]) hx hb dX2_fall_23 hl (by decide) rfl (fun ls hl => ?_)
        refine lv_aload hx hb dX2_fall_25 (lv_at hl 0 rfl) ?_
        refine lv_iconst (v := 0) hx hb dX2_fall_27 (by decide) ?_
        refine sLdI (j := 0) hx hb hK hP 0 rfl (sCell_m (by omega) (by omega)) (by decide) (by decide) dX2_fall_28 ?_
        rw [show t3 (pa (k * cN + j)) (pd (k * cN + j)) (sv (k * cN + j)) 0 = 1 from e0]
        refine lv_if_ne (tgt := 38) hx hb dX2_fall_29 (by decide) (fun _ => ?_) (fun c9 => absurd c9 (by decide))
        refine lv_aload hx hb dX2_fall_38 (lv_at hl 0 rfl) ?_
        refine lv_iconst (v := 0) hx hb dX2_fall_40 (by decide) ?_
        refine sLdI (j := 0) hx hb hK hP 0 rfl (sCell_m (by omega) (by omega)) (by decide) (by decide) dX2_fall_41 ?_
        rw [show t3 (pa (k * cN + j)) (pd (k * cN + j)) (sv (k * cN + j)) 0 = 1 from e0]
        refine lv_iconst (v := 3) hx hb dX2_fall_42 (by decide) ?_
        refine lv_icmp_ge (tgt := 64) hx hb dX2_fall_43 (by decide) (fun c9 => absurd c9 (by decide)) (fun _ => ?_)
        refine lv_aload hx hb dX2_fall_46 (lv_at hl 0 rfl) ?_
        refine lv_iconst (v := 0) hx hb dX2_fall_48 (by decide) ?_
        refine sLdI (j := 0) hx hb hK hP 0 rfl (sCell_m (by omega) (by omega)) (by decide) (by decide) dX2_fall_49 ?_
        rw [show t3 (pa (k * cN + j)) (pd (k * cN + j)) (sv (k * cN + j)) 0 = 1 from e0]
        refine lv_iconst (v := 1) hx hb dX2_fall_50 (by decide) ?_
        refine lv_icmp_ne (tgt := 58) hx hb dX2_fall_51 (by decide) (fun c9 => absurd (by decide) c9) (fun _ => ?_)
        refine lv_iconst (v := (-1)) hx hb dX2_fall_54 (by decide) ?_
        refine lv_goto (tgt := 59) hx hb dX2_fall_55 (by decide) ?_
        refine lv_istore (lv' := [(4, .int (-1)), (6, .ref (ow k j)), (5, .int (nI k)), (3, .int (nI j)), (0, .ref (v 0)), (1, .int (nI jj)), (2, .int (nI rN))]) hx hb dX2_fall_59 hl (by decide) rfl (fun ls hl => ?_)
        refine lv_goto (tgt := 165) hx hb dX2_fall_61 (by decide) ?_
        refine lv_iload_n hx hb dX2_fall_165 rfl (lv_at hl 3 rfl) ?_
        refine lv_iload hx hb dX2_fall_166 (lv_at hl 0 rfl) ?_
        refine lv_iadd hx hb dX2_fall_168 ?_
        refine lv_istore_n (lv' := [(3, .int ((nI j) + (-1))), (4, .int (-1)), (6, .ref (ow k j)), (5, .int (nI k)), (0, .ref (v 0)), (1, .int (nI jj)), (2, .int (nI rN))]) hx hb dX2_fall_169 rfl hl (by decide) rfl (fun ls hl => ?_)
        refine lv_iload_n hx hb dX2_fall_170 rfl (lv_at hl 0 rfl) ?_
        refine lv_if_lt (tgt := 183) hx hb dX2_fall_171 (by decide) (fun c_9 => ?_) (fun c_9 => ?_)
        · refine lv_iconst (v := (-1)) hx hb dX2_fall_183 (by decide) ?_
          have hP : va_P D vwCl (wS cI c2 c3 v rw_ ow cN rN pa pd ((xFall pa pe st (nI cN) (nI jj) (nI rN)).2) bn hc hm lo tv) H := by rw [hf, xFallL, hwy]; dsimp only; rw [tl_neg c_9, if_neg (by decide)]; exact hP
          have hD : va_D (va_A (wS cI c2 c3 v rw_ ow cN rN pa pd st bn hc hm lo tn) sz) (wS cI c2 c3 v rw_ ow cN rN pa pd ((xFall pa pe st (nI cN) (nI jj) (nI rN)).2) bn hc hm lo tv) := by rw [hf, xFallL, hwy]; dsimp only; rw [tl_neg c_9, if_neg (by decide)]; exact hD
          exact eQi tv hx hb hr hlocks hP hD hK hS dX2_fall_184 (by rw [hf, xFallL, hwy]; dsimp only; rw [tl_neg c_9, if_neg (by decide)])
        · refine lv_iload_n hx hb dX2_fall_174 rfl (lv_at hl 0 rfl) ?_
          refine lv_aload_n hx hb dX2_fall_175 rfl (lv_at hl 4 rfl) ?_
          refine va_get (D := D) (ci := 2) (v := .ref (v 1)) (C := RX2) (T := TX2) (N := 6) hx hb hts iw_X2_fall_X2 hown hK hP 0 rfl rfl 1 (by decide) (hts (.fieldLink RX2 14 "MarbleRampsLaw$Sim" "bins" "[I") (mg 3 rfl)) (fun _ h9 => h9) rfl dX2_fall_176 ?_
          refine va_alen hx hb hK hP 1 0 rfl rfl (v := (nI cN)) rfl dX2_fall_179 ?_
          refine lv_icmp_ne (tgt := 185) hx hb dX2_fall_180 (by decide) (fun c_10 => ?_) (fun c_10 => ?_)
          · obtain ⟨j2, hj2, ej2, hh2, _, _⟩ := tl_ok h9 hj (w := (-1)) (Or.inl rfl) c_9 c_10
            rw [ej2] at hl
            refine lv_iinc (v := (nI (k + 1))) (lv' := [(5, .int (nI (k + 1))), (3, .int (nI j2)), (4, .int (-1)), (6, .ref (ow k j)), (0, .ref (v 0)), (1, .int (nI jj)), (2, .int (nI rN))]) hx hb dX2_fall_185 hl (k := 3) rfl (nI_1 k) (by decide) rfl (fun ls hl => ?_)
            refine lv_goto (tgt := 8) hx hb dX2_fall_188 (by decide) ?_
            exact ih8 (k + 1) j2 (-1) sv tv (by omega) (by rw [hf, xFallL, hwy]; dsimp only; rw [hh2, if_pos rfl, ej2]) hj2 (Or.inl rfl) hOs _ _ hP hD hS ls (lv_sub hl [0, 2, 1, 4, 5, 6] rfl)
          · refine lv_iconst (v := (-1)) hx hb dX2_fall_183 (by decide) ?_
            have hP : va_P D vwCl (wS cI c2 c3 v rw_ ow cN rN pa pd ((xFall pa pe st (nI cN) (nI jj) (nI rN)).2) bn hc hm lo tv) H := by rw [hf, xFallL, hwy]; dsimp only; rw [tl_eq c_9 c_10, if_neg (by decide)]; exact hP
            have hD : va_D (va_A (wS cI c2 c3 v rw_ ow cN rN pa pd st bn hc hm lo tn) sz) (wS cI c2 c3 v rw_ ow cN rN pa pd ((xFall pa pe st (nI cN) (nI jj) (nI rN)).2) bn hc hm lo tv) := by rw [hf, xFallL, hwy]; dsimp only; rw [tl_eq c_9 c_10, if_neg (by decide)]; exact hD
            exact eQi tv hx hb hr hlocks hP hD hK hS dX2_fall_184 (by rw [hf, xFallL, hwy]; dsimp only; rw [tl_eq c_9 c_10, if_neg (by decide)])
      · refine lv_aload_n hx hb dX2_fall_14 rfl (lv_at hl 3 rfl) ?_
        refine va_get (D := D) (ci := 2) (v := .ref (v 4)) (C := RX2) (T := TX2) (N := 6) hx hb hts iw_X2_fall_X2 hown hK hP 0 rfl rfl 0 (by decide) (hts (.fieldLink RX2 9 "MarbleRampsLaw$Sim" "board" "[[[I") (mg 1 rfl)) (fun _ h9 => h9) rfl dX2_fall_15 ?_
        refine lv_iload hx hb dX2_fall_18 (lv_at hl 0 rfl) ?_
        refine sLdR (r := k) (g := rw_) hx hb hK hP 2 rfl (List.mem_cons_of_mem _ (List.mem_cons_of_mem _ (List.mem_cons_of_mem _ (List.mem_cons_of_mem _ List.mem_cons_self)))) (by omega) (by omega) dX2_fall_20 ?_
        refine lv_iload_n hx hb dX2_fall_21 rfl (lv_at hl 2 rfl) ?_
        refine sLdR (r := j) (g := fun j => ow k j) hx hb hK hP 1 rfl (sRow_m (by omega)) (by omega) (by omega) dX2_fall_22 ?_
        refine lv_astore (lv' := [(6, .ref (ow k j)), (5, .int (nI k)), (4, .int way), (3, .int (nI j)), (0, .ref (v 0)), (1, .int (nI jj)), (2, .int (nI rN))]) hx hb dX2_fall_23 hl (by decide) rfl (fun ls hl => ?_)
        refine lv_aload hx hb dX2_fall_25 (lv_at hl 0 rfl) ?_
        refine lv_iconst (v := 0) hx hb dX2_fall_27 (by decide) ?_
        refine sLdI (j := 0) hx hb hK hP 0 rfl (sCell_m (by omega) (by omega)) (by decide) (by decide) dX2_fall_28 ?_
        rw [show t3 (pa (k * cN + j)) (pd (k * cN + j)) (sv (k * cN + j)) 0 = 2 from e0]
        refine lv_if_ne (tgt := 38) hx hb dX2_fall_29 (by decide) (fun _ => ?_) (fun c9 => absurd c9 (by decide))
        refine lv_aload hx hb dX2_fall_38 (lv_at hl 0 rfl) ?_
        refine lv_iconst (v := 0) hx hb dX2_fall_40 (by decide) ?_
        refine sLdI (j := 0) hx hb hK hP 0 rfl (sCell_m (by omega) (by omega)) (by decide) (by decide) dX2_fall_41 ?_
        rw [show t3 (pa (k * cN + j)) (pd (k * cN + j)) (sv (k * cN + j)) 0 = 2 from e0]
        refine lv_iconst (v := 3) hx hb dX2_fall_42 (by decide) ?_
        refine lv_icmp_ge (tgt := 64) hx hb dX2_fall_43 (by decide) (fun c9 => absurd c9 (by decide)) (fun _ => ?_)
        refine lv_aload hx hb dX2_fall_46 (lv_at hl 0 rfl) ?_
        refine lv_iconst (v := 0) hx hb dX2_fall_48 (by decide) ?_
        refine sLdI (j := 0) hx hb hK hP 0 rfl (sCell_m (by omega) (by omega)) (by decide) (by decide) dX2_fall_49 ?_
        rw [show t3 (pa (k * cN + j)) (pd (k * cN + j)) (sv (k * cN + j)) 0 = 2 from e0]
        refine lv_iconst (v := 1) hx hb dX2_fall_50 (by decide) ?_
        refine lv_icmp_ne (tgt := 58) hx hb dX2_fall_51 (by decide) (fun _ => ?_) (fun c9 => absurd c9 (by decide))
        refine lv_iconst (v := 1) hx hb dX2_fall_58 (by decide) ?_
        refine lv_istore (lv' := [(4, .int 1), (6, .ref (ow k j)), (5, .int (nI k)), (3, .int (nI j)), (0, .ref (v 0)), (1, .int (nI jj)), (2, .int (nI rN))]) hx hb dX2_fall_59 hl (by decide) rfl (fun ls hl => ?_)
        refine lv_goto (tgt := 165) hx hb dX2_fall_61 (by decide) ?_
        refine lv_iload_n hx hb dX2_fall_165 rfl (lv_at hl 3 rfl) ?_
        refine lv_iload hx hb dX2_fall_166 (lv_at hl 0 rfl) ?_
        refine lv_iadd hx hb dX2_fall_168 ?_
        refine lv_istore_n (lv' := [(3, .int ((nI j) + 1)), (4, .int 1), (6, .ref (ow k j)), (5, .int (nI k)), (0, .ref (v 0)), (1, .int (nI jj)), (2, .int (nI rN))]) hx hb dX2_fall_169 rfl hl (by decide) rfl (fun ls hl => ?_)
        refine lv_iload_n hx hb dX2_fall_170 rfl (lv_at hl 0 rfl) ?_
        refine lv_if_lt (tgt := 183) hx hb dX2_fall_171 (by decide) (fun c_14 => ?_) (fun c_14 => ?_)
        · refine lv_iconst (v := (-1)) hx hb dX2_fall_183 (by decide) ?_
          have hP : va_P D vwCl (wS cI c2 c3 v rw_ ow cN rN pa pd ((xFall pa pe st (nI cN) (nI jj) (nI rN)).2) bn hc hm lo tv) H := by rw [hf, xFallL, hwy]; dsimp only; rw [tl_neg c_14, if_neg (by decide)]; exact hP
          have hD : va_D (va_A (wS cI c2 c3 v rw_ ow cN rN pa pd st bn hc hm lo tn) sz) (wS cI c2 c3 v rw_ ow cN rN pa pd ((xFall pa pe st (nI cN) (nI jj) (nI rN)).2) bn hc hm lo tv) := by rw [hf, xFallL, hwy]; dsimp only; rw [tl_neg c_14, if_neg (by decide)]; exact hD
          exact eQi tv hx hb hr hlocks hP hD hK hS dX2_fall_184 (by rw [hf, xFallL, hwy]; dsimp only; rw [tl_neg c_14, if_neg (by decide)])
        · refine lv_iload_n hx hb dX2_fall_174 rfl (lv_at hl 0 rfl) ?_
          refine lv_aload_n hx hb dX2_fall_175 rfl (lv_at hl 4 rfl) ?_
          refine va_get (D := D) (ci := 2) (v := .ref (v 1)) (C := RX2) (T := TX2) (N := 6) hx hb hts iw_X2_fall_X2 hown hK hP 0 rfl rfl 1 (by decide) (hts (.fieldLink RX2 14 "MarbleRampsLaw$Sim" "bins" "[I") (mg 3 rfl)) (fun _ h9 => h9) rfl dX2_fall_176 ?_
          refine va_alen hx hb hK hP 1 0 rfl rfl (v := (nI cN)) rfl dX2_fall_179 ?_
          refine lv_icmp_ne (tgt := 185) hx hb dX2_fall_180 (by decide) (fun c_15 => ?_) (fun c_15 => ?_)
          · obtain ⟨j2, hj2, ej2, hh2, _, _⟩ := tl_ok h9 hj (w := 1) (Or.inr (Or.inr rfl)) c_14 c_15
            rw [ej2] at hl
            refine lv_iinc (v := (nI (k + 1))) (lv' := [(5, .int (nI (k + 1))), (3, .int (nI j2)), (4, .int 1), (6, .ref (ow k j)), (0, .ref (v 0)), (1, .int (nI jj)), (2, .int (nI rN))]) hx hb dX2_fall_185 hl (k := 3) rfl (nI_1 k) (by decide) rfl (fun ls hl => ?_)
            refine lv_goto (tgt := 8) hx hb dX2_fall_188 (by decide) ?_
            exact ih8 (k + 1) j2 1 sv tv (by omega) (by rw [hf, xFallL, hwy]; dsimp only; rw [hh2, if_pos rfl, ej2]) hj2 (Or.inr (Or.inr rfl)) hOs _ _ hP hD hS ls (lv_sub hl [0, 2, 1, 4, 5, 6] rfl)
          · refine lv_iconst (v := (-1)) hx hb dX2_fall_183 (by decide) ?_
            have hP : va_P D vwCl (wS cI c2 c3 v rw_ ow cN rN pa pd ((xFall pa pe st (nI cN) (nI jj) (nI rN)).2) bn hc hm lo tv) H := by rw [hf, xFallL, hwy]; dsimp only; rw [tl_eq c_14 c_15, if_neg (by decide)]; exact hP
            have hD : va_D (va_A (wS cI c2 c3 v rw_ ow cN rN pa pd st bn hc hm lo tn) sz) (wS cI c2 c3 v rw_ ow cN rN pa pd ((xFall pa pe st (nI cN) (nI jj) (nI rN)).2) bn hc hm lo tv) := by rw [hf, xFallL, hwy]; dsimp only; rw [tl_eq c_14 c_15, if_neg (by decide)]; exact hD
            exact eQi tv hx hb hr hlocks hP hD hK hS dX2_fall_184 (by rw [hf, xFallL, hwy]; dsimp only; rw [tl_eq c_14 c_15, if_neg (by decide)])
      · refine lv_aload_n hx hb dX2_fall_14 rfl (lv_at hl 3 rfl) ?_
        refine va_get (D := D) (ci := 2) (v := .ref (v 4)) (C := RX2) (T := TX2) (N := 6) hx hb hts iw_X2_fall_X2 hown hK hP 0 rfl rfl 0 (by decide) (hts (.fieldLink RX2 9 "MarbleRampsLaw$Sim" "board" "[[[I") (mg 1 rfl)) (fun _ h9 => h9) rfl dX2_fall_15 ?_
        refine lv_iload hx hb dX2_fall_18 (lv_at hl 0 rfl) ?_
        refine sLdR (r := k) (g := rw_) hx hb hK hP 2 rfl (List.mem_cons_of_mem _ (List.mem_cons_of_mem _ (List.mem_cons_of_mem _ (List.mem_cons_of_mem _ List.mem_cons_self)))) (by omega) (by omega) dX2_fall_20 ?_
        refine lv_iload_n hx hb dX2_fall_21 rfl (lv_at hl 2 rfl) ?_
        refine sLdR (r := j) (g := fun j => ow k j) hx hb hK hP 1 rfl (sRow_m (by omega)) (by omega) (by omega) dX2_fall_22 ?_
        refine lv_astore (lv' := [(6, .ref (ow k j)), (5, .int (nI k)), (4, .int way), (3, .int (nI j)), (0, .ref (v 0)), (1, .int (nI jj)), (2, .int (nI rN))]) hx hb dX2_fall_23 hl (by decide) rfl (fun ls hl => ?_)
        refine lv_aload hx hb dX2_fall_25 (lv_at hl 0 rfl) ?_
        refine lv_iconst (v := 0) hx hb dX2_fall_27 (by decide) ?_
        refine sLdI (j := 0) hx hb hK hP 0 rfl (sCell_m (by omega) (by omega)) (by decide) (by decide) dX2_fall_28 ?_
        rw [show t3 (pa (k * cN + j)) (pd (k * cN + j)) (sv (k * cN + j)) 0 = 4 from e0]
        refine lv_if_ne (tgt := 38) hx hb dX2_fall_29 (by decide) (fun _ => ?_) (fun c9 => absurd c9 (by decide))
        refine lv_aload hx hb dX2_fall_38 (lv_at hl 0 rfl) ?_
        refine lv_iconst (v := 0) hx hb dX2_fall_40 (by decide) ?_
        refine sLdI (j := 0) hx hb hK hP 0 rfl (sCell_m (by omega) (by omega)) (by decide) (by decide) dX2_fall_41 ?_
        rw [show t3 (pa (k * cN + j)) (pd (k * cN + j)) (sv (k * cN + j)) 0 = 4 from e0]
        refine lv_iconst (v := 3) hx hb dX2_fall_42 (by decide) ?_
        refine lv_icmp_ge (tgt := 64) hx hb dX2_fall_43 (by decide) (fun _ => ?_) (fun c9 => absurd (by decide) c9)
        refine lv_aload hx hb dX2_fall_64 (lv_at hl 0 rfl) ?_
        refine lv_iconst (v := 0) hx hb dX2_fall_66 (by decide) ?_
        refine sLdI (j := 0) hx hb hK hP 0 rfl (sCell_m (by omega) (by omega)) (by decide) (by decide) dX2_fall_67 ?_
        rw [show t3 (pa (k * cN + j)) (pd (k * cN + j)) (sv (k * cN + j)) 0 = 4 from e0]
        refine lv_iconst (v := 3) hx hb dX2_fall_68 (by decide) ?_
        refine lv_icmp_ne (tgt := 115) hx hb dX2_fall_69 (by decide) (fun _ => ?_) (fun c9 => absurd c9 (by decide))
        refine lv_aload hx hb dX2_fall_115 (lv_at hl 0 rfl) ?_
        refine lv_iconst (v := 0) hx hb dX2_fall_117 (by decide) ?_
        refine sLdI (j := 0) hx hb hK hP 0 rfl (sCell_m (by omega) (by omega)) (by decide) (by decide) dX2_fall_118 ?_
        rw [show t3 (pa (k * cN + j)) (pd (k * cN + j)) (sv (k * cN + j)) 0 = 4 from e0]
        refine lv_iconst (v := 5) hx hb dX2_fall_119 (by decide) ?_
        refine lv_icmp_ne (tgt := 165) hx hb dX2_fall_120 (by decide) (fun _ => ?_) (fun c9 => absurd c9 (by decide))
        refine lv_iload_n hx hb dX2_fall_165 rfl (lv_at hl 3 rfl) ?_
        refine lv_iload hx hb dX2_fall_166 (lv_at hl 2 rfl) ?_
        refine lv_iadd hx hb dX2_fall_168 ?_
        refine lv_istore_n (lv' := [(3, .int ((nI j) + way)), (6, .ref (ow k j)), (5, .int (nI k)), (4, .int way), (0, .ref (v 0)), (1, .int (nI jj)), (2, .int (nI rN))]) hx hb dX2_fall_169 rfl hl (by decide) rfl (fun ls hl => ?_)
        refine lv_iload_n hx hb dX2_fall_170 rfl (lv_at hl 0 rfl) ?_
        refine lv_if_lt (tgt := 183) hx hb dX2_fall_171 (by decide) (fun c_20 => ?_) (fun c_20 => ?_)
        · refine lv_iconst (v := (-1)) hx hb dX2_fall_183 (by decide) ?_
          have hP : va_P D vwCl (wS cI c2 c3 v rw_ ow cN rN pa pd ((xFall pa pe st (nI cN) (nI jj) (nI rN)).2) bn hc hm lo tv) H := by rw [hf, xFallL, hwy]; dsimp only; rw [tl_neg c_20, if_neg (by decide)]; exact hP
          have hD : va_D (va_A (wS cI c2 c3 v rw_ ow cN rN pa pd st bn hc hm lo tn) sz) (wS cI c2 c3 v rw_ ow cN rN pa pd ((xFall pa pe st (nI cN) (nI jj) (nI rN)).2) bn hc hm lo tv) := by rw [hf, xFallL, hwy]; dsimp only; rw [tl_neg c_20, if_neg (by decide)]; exact hD
          exact eQi tv hx hb hr hlocks hP hD hK hS dX2_fall_184 (by rw [hf, xFallL, hwy]; dsimp only; rw [tl_neg c_20, if_neg (by decide)])
        · refine lv_iload_n hx hb dX2_fall_174 rfl (lv_at hl 0 rfl) ?_
          refine lv_aload_n hx hb dX2_fall_175 rfl (lv_at hl 4 rfl) ?_
          refine va_get (D := D) (ci := 2) (v := .ref (v 1)) (C := RX2) (T := TX2) (N := 6) hx hb hts iw_X2_fall_X2 hown hK hP 0 rfl rfl 1 (by decide) (hts (.fieldLink RX2 14 "MarbleRampsLaw$Sim" "bins" "[I") (mg 3 rfl)) (fun _ h9 => h9) rfl dX2_fall_176 ?_
          refine va_alen hx hb hK hP 1 0 rfl rfl (v := (nI cN)) rfl dX2_fall_179 ?_
          refine lv_icmp_ne (tgt := 185) hx hb dX2_fall_180 (by decide) (fun c_21 => ?_) (fun c_21 => ?_)
          · obtain ⟨j2, hj2, ej2, hh2, _, _⟩ := tl_ok h9 hj (w := way) (hw) c_20 c_21
            rw [ej2] at hl
            refine lv_iinc (v := (nI (k + 1))) (lv' := [(5, .int (nI (k + 1))), (3, .int (nI j2)), (6, .ref (ow k j)), (4, .int way), (0, .ref (v 0)), (1, .int (nI jj)), (2, .int (nI rN))]) hx hb dX2_fall_185 hl (k := 2) rfl (nI_1 k) (by decide) rfl (fun ls hl => ?_)
            refine lv_goto (tgt := 8) hx hb dX2_fall_188 (by decide) ?_
            exact ih8 (k + 1) j2 way sv tv (by omega) (by rw [hf, xFallL, hwy]; dsimp only; rw [hh2, if_pos rfl, ej2]) hj2 (hw) hOs _ _ hP hD hS ls (lv_sub hl [0, 3, 1, 4, 5, 6] rfl)
          · refine lv_iconst (v := (-1)) hx hb dX2_fall_183 (by decide) ?_
            have hP : va_P D vwCl (wS cI c2 c3 v rw_ ow cN rN pa pd ((xFall pa pe st (nI cN) (nI jj) (nI rN)).2) bn hc hm lo tv) H := by rw [hf, xFallL, hwy]; dsimp only; rw [tl_eq c_20 c_21, if_neg (by decide)]; exact hP
            have hD : va_D (va_A (wS cI c2 c3 v rw_ ow cN rN pa pd st bn hc hm lo tn) sz) (wS cI c2 c3 v rw_ ow cN rN pa pd ((xFall pa pe st (nI cN) (nI jj) (nI rN)).2) bn hc hm lo tv) := by rw [hf, xFallL, hwy]; dsimp only; rw [tl_eq c_20 c_21, if_neg (by decide)]; exact hD
            exact eQi tv hx hb hr hlocks hP hD hK hS dX2_fall_184 (by rw [hf, xFallL, hwy]; dsimp only; rw [tl_eq c_20 c_21, if_neg (by decide)])
      · refine lv_aload_n hx hb dX2_fall_14 rfl (lv_at hl 3 rfl) ?_
        refine va_get (D := D) (ci := 2) (v := .ref (v 4)) (C := RX2) (T := TX2) (N := 6) hx hb hts iw_X2_fall_X2 hown hK hP 0 rfl rfl 0 (by decide) (hts (.fieldLink RX2 9 "MarbleRampsLaw$Sim" "board" "[[[I") (mg 1 rfl)) (fun _ h9 => h9) rfl dX2_fall_15 ?_
        refine lv_iload hx hb dX2_fall_18 (lv_at hl 0 rfl) ?_
        refine sLdR (r := k) (g := rw_) hx hb hK hP 2 rfl (List.mem_cons_of_mem _ (List.mem_cons_of_mem _ (List.mem_cons_of_mem _ (List.mem_cons_of_mem _ List.mem_cons_self)))) (by omega) (by omega) dX2_fall_20 ?_
        refine lv_iload_n hx hb dX2_fall_21 rfl (lv_at hl 2 rfl) ?_
        refine sLdR (r := j) (g := fun j => ow k j) hx hb hK hP 1 rfl (sRow_m (by omega)) (by omega) (by omega) dX2_fall_22 ?_
        refine lv_astore (lv' := [(6, .ref (ow k j)), (5, .int (nI k)), (4, .int way), (3, .int (nI j)), (0, .ref (v 0)), (1, .int (nI jj)), (2, .int (nI rN))]) hx hb dX2_fall_23 hl (by decide) rfl (fun ls hl => ?_)
        refine lv_aload hx hb dX2_fall_25 (lv_at hl 0 rfl) ?_
        refine lv_iconst (v := 0) hx hb dX2_fall_27 (by decide) ?_
        refine sLdI (j := 0) hx hb hK hP 0 rfl (sCell_m (by omega) (by omega)) (by decide) (by decide) dX2_fall_28 ?_
        rw [show t3 (pa (k * cN + j)) (pd (k * cN + j)) (sv (k * cN + j)) 0 = 3 from e0]
        refine lv_if_ne (tgt := 38) hx hb dX2_fall_29 (by decide) (fun _ => ?_) (fun c9 => absurd c9 (by decide))
        refine lv_aload hx hb dX2_fall_38 (lv_at hl 0 rfl) ?_
        refine lv_iconst (v := 0) hx hb dX2_fall_40 (by decide) ?_
        refine sLdI (j := 0) hx hb hK hP 0 rfl (sCell_m (by omega) (by omega)) (by decide) (by decide) dX2_fall_41 ?_
        rw [show t3 (pa (k * cN + j)) (pd (k * cN + j)) (sv (k * cN + j)) 0 = 3 from e0]
        refine lv_iconst (v := 3) hx hb dX2_fall_42 (by decide) ?_
        refine lv_icmp_ge (tgt := 64) hx hb dX2_fall_43 (by decide) (fun _ => ?_) (fun c9 => absurd (by decide) c9)
        refine lv_aload hx hb dX2_fall_64 (lv_at hl 0 rfl) ?_
        refine lv_iconst (v := 0) hx hb dX2_fall_66 (by decide) ?_
        refine sLdI (j := 0) hx hb hK hP 0 rfl (sCell_m (by omega) (by omega)) (by decide) (by decide) dX2_fall_67 ?_
        rw [show t3 (pa (k * cN + j)) (pd (k * cN + j)) (sv (k * cN + j)) 0 = 3 from e0]
        refine lv_iconst (v := 3) hx hb dX2_fall_68 (by decide) ?_
        refine lv_icmp_ne (tgt := 115) hx hb dX2_fall_69 (by decide) (fun c9 => absurd (by decide) c9) (fun _ => ?_)
        refine lv_aload hx hb dX2_fall_72 (lv_at hl 0 rfl) ?_
        refine lv_iconst (v := 2) hx hb dX2_fall_74 (by decide) ?_
        refine sLdI (j := 2) hx hb hK hP 0 rfl (sCell_m (by omega) (by omega)) (by decide) (by decide) dX2_fall_75 ?_
        rw [show t3 (pa (k * cN + j)) (pd (k * cN + j)) (sv (k * cN + j)) 2 = 0 from e2]
        refine lv_if_ne (tgt := 83) hx hb dX2_fall_76 (by decide) (fun c9 => absurd (by decide) c9) (fun _ => ?_)
        refine lv_iconst (v := (-1)) hx hb dX2_fall_79 (by decide) ?_
        refine lv_goto (tgt := 84) hx hb dX2_fall_80 (by decide) ?_
        refine lv_istore (lv' := [(4, .int (-1)), (6, .ref (ow k j)), (5, .int (nI k)), (3, .int (nI j)), (0, .ref (v 0)), (1, .int (nI jj)), (2, .int (nI rN))]) hx hb dX2_fall_84 hl (by decide) rfl (fun ls hl => ?_)
        refine lv_aload hx hb dX2_fall_86 (lv_at hl 1 rfl) ?_
        refine lv_iconst (v := 2) hx hb dX2_fall_88 (by decide) ?_
        refine lv_aload hx hb dX2_fall_89 (lv_at hl 1 rfl) ?_
        refine lv_iconst (v := 2) hx hb dX2_fall_91 (by decide) ?_
        refine sLdI (j := 2) hx hb hK hP 0 rfl (sCell_m (by omega) (by omega)) (by decide) (by decide) dX2_fall_92 ?_
        rw [show t3 (pa (k * cN + j)) (pd (k * cN + j)) (sv (k * cN + j)) 2 = 0 from e2]
        refine lv_if_ne (tgt := 100) hx hb dX2_fall_93 (by decide) (fun c9 => absurd (by decide) c9) (fun _ => ?_)
        refine lv_iconst (v := 1) hx hb dX2_fall_96 (by decide) ?_
        refine lv_goto (tgt := 101) hx hb dX2_fall_97 (by decide) ?_
        refine sSt2 (X := []) (r := k) (k := j) (x := 1) hx hb hK hP hD hS 0 rfl (by omega) (by omega) dX2_fall_101 (fun H locs hP hD hS => ?_)
        have hP : va_P D vwCl (wS cI c2 c3 v rw_ ow cN rN pa pd ((upd sv (k * cN + j) 1)) bn hc hm lo tv) H := hP
        have hD : va_D (va_A (wS cI c2 c3 v rw_ ow cN rN pa pd st bn hc hm lo tn) sz) (wS cI c2 c3 v rw_ ow cN rN pa pd ((upd sv (k * cN + j) 1)) bn hc hm lo tv) := hD
        refine lv_aload_n hx hb dX2_fall_102 rfl (lv_at hl 4 rfl) ?_
        refine lv_dup hx hb dX2_fall_103 rfl ?_
        refine va_get (D := D) (ci := 2) (v := .int tv) (C := RX2) (T := TX2) (N := 6) hx hb hts iw_X2_fall_X2 hown hK hP 0 rfl rfl 5 (by decide) (hts (.fieldLink RX2 34 "MarbleRampsLaw$Sim" "turned" "I") (mg 2 rfl)) (fun _ h9 => h9) rfl dX2_fall_104 ?_
        refine lv_iconst (v := 1) hx hb dX2_fall_107 (by decide) ?_
        refine lv_iadd hx hb dX2_fall_108 ?_
        refine va_put (D := D) (ci := 2) (v := .int (tv + 1)) (ty := .int) (C := RX2) (T := TX2) (N := 6) hx hb hts iw_X2_fall_X2 tyX2 tyX2_ok nmX2 hown hK hP hD hS 0 rfl rfl 5 (by decide) (hts (.fieldLink RX2 34 "MarbleRampsLaw$Sim" "turned" "I") (mg 2 rfl)) (fun _ h9 => h9) rfl (by decide +kernel) rfl rfl (Nat.le_of_ble_eq_true rfl) dX2_fall_109 (fun H locs hP hD hS => ?_)
        have hP : va_P D vwCl (wS cI c2 c3 v rw_ ow cN rN pa pd ((upd sv (k * cN + j) 1)) bn hc hm lo ((tv + 1))) H := hP
        have hD : va_D (va_A (wS cI c2 c3 v rw_ ow cN rN pa pd st bn hc hm lo tn) sz) (wS cI c2 c3 v rw_ ow cN rN pa pd ((upd sv (k * cN + j) 1)) bn hc hm lo ((tv + 1))) := hD
        refine lv_goto (tgt := 165) hx hb dX2_fall_112 (by decide) ?_
        refine lv_iload_n hx hb dX2_fall_165 rfl (lv_at hl 3 rfl) ?_
        refine lv_iload hx hb dX2_fall_166 (lv_at hl 0 rfl) ?_
        refine lv_iadd hx hb dX2_fall_168 ?_
        refine lv_istore_n (lv' := [(3, .int ((nI j) + (-1))), (4, .int (-1)), (6, .ref (ow k j)), (5, .int (nI k)), (0, .ref (v 0)), (1, .int (nI jj)), (2, .int (nI rN))]) hx hb dX2_fall_169 rfl hl (by decide) rfl (fun ls hl => ?_)
        refine lv_iload_n hx hb dX2_fall_170 rfl (lv_at hl 0 rfl) ?_
        refine lv_if_lt (tgt := 183) hx hb dX2_fall_171 (by decide) (fun c_27 => ?_) (fun c_27 => ?_)
        · refine lv_iconst (v := (-1)) hx hb dX2_fall_183 (by decide) ?_
          have hP : va_P D vwCl (wS cI c2 c3 v rw_ ow cN rN pa pd ((xFall pa pe st (nI cN) (nI jj) (nI rN)).2) bn hc hm lo (tv + 1)) H := by rw [hf, xFallL, hwy]; dsimp only; rw [tl_neg c_27, if_neg (by decide)]; exact hP
          have hD : va_D (va_A (wS cI c2 c3 v rw_ ow cN rN pa pd st bn hc hm lo tn) sz) (wS cI c2 c3 v rw_ ow cN rN pa pd ((xFall pa pe st (nI cN) (nI jj) (nI rN)).2) bn hc hm lo (tv + 1)) := by rw [hf, xFallL, hwy]; dsimp only; rw [tl_neg c_27, if_neg (by decide)]; exact hD
          exact eQi (tv + 1) hx hb hr hlocks hP hD hK hS dX2_fall_184 (by rw [hf, xFallL, hwy]; dsimp only; rw [tl_neg c_27, if_neg (by decide)])
        · refine lv_iload_n hx hb dX2_fall_174 rfl (lv_at hl 0 rfl) ?_
          refine lv_aload_n hx hb dX2_fall_175 rfl (lv_at hl 4 rfl) ?_
          refine va_get (D := D) (ci := 2) (v := .ref (v 1)) (C := RX2) (T := TX2) (N := 6) hx hb hts iw_X2_fall_X2 hown hK hP 0 rfl rfl 1 (by decide) (hts (.fieldLink RX2 14 "MarbleRampsLaw$Sim" "bins" "[I") (mg 3 rfl)) (fun _ h9 => h9) rfl dX2_fall_176 ?_
          refine va_alen hx hb hK hP 1 0 rfl rfl (v := (nI cN)) rfl dX2_fall_179 ?_
          refine lv_icmp_ne (tgt := 185) hx hb dX2_fall_180 (by decide) (fun c_28 => ?_) (fun c_28 => ?_)
          · obtain ⟨j2, hj2, ej2, hh2, _, _⟩ := tl_ok h9 hj (w := (-1)) (Or.inl rfl) c_27 c_28
            rw [ej2] at hl
            refine lv_iinc (v := (nI (k + 1))) (lv' := [(5, .int (nI (k + 1))), (3, .int (nI j2)), (4, .int (-1)), (6, .ref (ow k j)), (0, .ref (v 0)), (1, .int (nI jj)), (2, .int (nI rN))]) hx hb dX2_fall_185 hl (k := 3) rfl (nI_1 k) (by decide) rfl (fun ls hl => ?_)
            refine lv_goto (tgt := 8) hx hb dX2_fall_188 (by decide) ?_
            exact ih8 (k + 1) j2 (-1) (upd sv (k * cN + j) 1) (tv + 1) (by omega) (by rw [hf, xFallL, hwy]; dsimp only; rw [hh2, if_pos rfl, ej2]) hj2 (Or.inl rfl) (hOs.set hok) _ _ hP hD hS ls (lv_sub hl [0, 2, 1, 4, 5, 6] rfl)
          · refine lv_iconst (v := (-1)) hx hb dX2_fall_183 (by decide) ?_
            have hP : va_P D vwCl (wS cI c2 c3 v rw_ ow cN rN pa pd ((xFall pa pe st (nI cN) (nI jj) (nI rN)).2) bn hc hm lo (tv + 1)) H := by rw [hf, xFallL, hwy]; dsimp only; rw [tl_eq c_27 c_28, if_neg (by decide)]; exact hP
            have hD : va_D (va_A (wS cI c2 c3 v rw_ ow cN rN pa pd st bn hc hm lo tn) sz) (wS cI c2 c3 v rw_ ow cN rN pa pd ((xFall pa pe st (nI cN) (nI jj) (nI rN)).2) bn hc hm lo (tv + 1)) := by rw [hf, xFallL, hwy]; dsimp only; rw [tl_eq c_27 c_28, if_neg (by decide)]; exact hD
            exact eQi (tv + 1) hx hb hr hlocks hP hD hK hS dX2_fall_184 (by rw [hf, xFallL, hwy]; dsimp only; rw [tl_eq c_27 c_28, if_neg (by decide)])
      · refine lv_aload_n hx hb dX2_fall_14 rfl (lv_at hl 3 rfl) ?_
        refine va_get (D := D) (ci := 2) (v := .ref (v 4)) (C := RX2) (T := TX2) (N := 6) hx hb hts iw_X2_fall_X2 hown hK hP 0 rfl rfl 0 (by decide) (hts (.fieldLink RX2 9 "MarbleRampsLaw$Sim" "board" "[[[I") (mg 1 rfl)) (fun _ h9 => h9) rfl dX2_fall_15 ?_
        refine lv_iload hx hb dX2_fall_18 (lv_at hl 0 rfl) ?_
        refine sLdR (r := k) (g := rw_) hx hb hK hP 2 rfl (List.mem_cons_of_mem _ (List.mem_cons_of_mem _ (List.mem_cons_of_mem _ (List.mem_cons_of_mem _ List.mem_cons_self)))) (by omega) (by omega) dX2_fall_20 ?_
        refine lv_iload_n hx hb dX2_fall_21 rfl (lv_at hl 2 rfl) ?_
        refine sLdR (r := j) (g := fun j => ow k j) hx hb hK hP 1 rfl (sRow_m (by omega)) (by omega) (by omega) dX2_fall_22 ?_
        refine lv_astore (lv' := [(6, .ref (ow k j)), (5, .int (nI k)), (4, .int way), (3, .int (nI j)), (0, .ref (v 0)), (1, .int (nI jj)), (2, .int (nI rN))]) hx hb dX2_fall_23 hl (by decide) rfl (fun ls hl => ?_)
        refine lv_aload hx hb dX2_fall_25 (lv_at hl 0 rfl) ?_
        refine lv_iconst (v := 0) hx hb dX2_fall_27 (by decide) ?_
        refine sLdI (j := 0) hx hb hK hP 0 rfl (sCell_m (by omega) (by omega)) (by decide) (by decide) dX2_fall_28 ?_
        rw [show t3 (pa (k * cN + j)) (pd (k * cN + j)) (sv (k * cN + j)) 0 = 3 from e0]
        refine lv_if_ne (tgt := 38) hx hb dX2_fall_29 (by decide) (fun _ => ?_) (fun c9 => absurd c9 (by decide))
        refine lv_aload hx hb dX2_fall_38 (lv_at hl 0 rfl) ?_
        refine lv_iconst (v := 0) hx hb dX2_fall_40 (by decide) ?_
        refine sLdI (j := 0) hx hb hK hP 0 rfl (sCell_m (by omega) (by omega)) (by decide) (by decide) dX2_fall_41 ?_
        rw [show t3 (pa (k * cN + j)) (pd (k * cN + j)) (sv (k * cN + j)) 0 = 3 from e0]
        refine lv_iconst (v := 3) hx hb dX2_fall_42 (by decide) ?_
        refine lv_icmp_ge (tgt := 64) hx hb dX2_fall_43 (by decide) (fun _ => ?_) (fun c9 => absurd (by decide) c9)
        refine lv_aload hx hb dX2_fall_64 (lv_at hl 0 rfl) ?_
        refine lv_iconst (v := 0) hx hb dX2_fall_66 (by decide) ?_
        refine sLdI (j := 0) hx hb hK hP 0 rfl (sCell_m (by omega) (by omega)) (by decide) (by decide) dX2_fall_67 ?_
        rw [show t3 (pa (k * cN + j)) (pd (k * cN + j)) (sv (k * cN + j)) 0 = 3 from e0]
        refine lv_iconst (v := 3) hx hb dX2_fall_68 (by decide) ?_
        refine lv_icmp_ne (tgt := 115) hx hb dX2_fall_69 (by decide) (fun c9 => absurd (by decide) c9) (fun _ => ?_)
        refine lv_aload hx hb dX2_fall_72 (lv_at hl 0 rfl) ?_
        refine lv_iconst (v := 2) hx hb dX2_fall_74 (by decide) ?_
        refine sLdI (j := 2) hx hb hK hP 0 rfl (sCell_m (by omega) (by omega)) (by decide) (by decide) dX2_fall_75 ?_
        rw [show t3 (pa (k * cN + j)) (pd (k * cN + j)) (sv (k * cN + j)) 2 = 1 from e2]
        refine lv_if_ne (tgt := 83) hx hb dX2_fall_76 (by decide) (fun _ => ?_) (fun c9 => absurd c9 (by decide))
        refine lv_iconst (v := 1) hx hb dX2_fall_83 (by decide) ?_
        refine lv_istore (lv' := [(4, .int 1), (6, .ref (ow k j)), (5, .int (nI k)), (3, .int (nI j)), (0, .ref (v 0)), (1, .int (nI jj)), (2, .int (nI rN))]) hx hb dX2_fall_84 hl (by decide) rfl (fun ls hl => ?_)
        refine lv_aload hx hb dX2_fall_86 (lv_at hl 1 rfl) ?_
        refine lv_iconst (v := 2) hx hb dX2_fall_88 (by decide) ?_
        refine lv_aload hx hb dX2_fall_89 (lv_at hl 1 rfl) ?_
        refine lv_iconst (v := 2) hx hb dX2_fall_91 (by decide) ?_
        refine sLdI (j := 2) hx hb hK hP 0 rfl (sCell_m (by omega) (by omega)) (by decide) (by decide) dX2_fall_92 ?_
        rw [show t3 (pa (k * cN + j)) (pd (k * cN + j)) (sv (k * cN + j)) 2 = 1 from e2]
        refine lv_if_ne (tgt := 100) hx hb dX2_fall_93 (by decide) (fun _ => ?_) (fun c9 => absurd c9 (by decide))
        refine lv_iconst (v := 0) hx hb dX2_fall_100 (by decide) ?_
        refine sSt2 (X := []) (r := k) (k := j) (x := 0) hx hb hK hP hD hS 0 rfl (by omega) (by omega) dX2_fall_101 (fun H locs hP hD hS => ?_)
        have hP : va_P D vwCl (wS cI c2 c3 v rw_ ow cN rN pa pd ((upd sv (k * cN + j) 0)) bn hc hm lo tv) H := hP
        have hD : va_D (va_A (wS cI c2 c3 v rw_ ow cN rN pa pd st bn hc hm lo tn) sz) (wS cI c2 c3 v rw_ ow cN rN pa pd ((upd sv (k * cN + j) 0)) bn hc hm lo tv) := hD
        refine lv_aload_n hx hb dX2_fall_102 rfl (lv_at hl 4 rfl) ?_
        refine lv_dup hx hb dX2_fall_103 rfl ?_
        refine va_get (D := D) (ci := 2) (v := .int tv) (C := RX2) (T := TX2) (N := 6) hx hb hts iw_X2_fall_X2 hown hK hP 0 rfl rfl 5 (by decide) (hts (.fieldLink RX2 34 "MarbleRampsLaw$Sim" "turned" "I") (mg 2 rfl)) (fun _ h9 => h9) rfl dX2_fall_104 ?_
        refine lv_iconst (v := 1) hx hb dX2_fall_107 (by decide) ?_
        refine lv_iadd hx hb dX2_fall_108 ?_
        refine va_put (D := D) (ci := 2) (v := .int (tv + 1)) (ty := .int) (C := RX2) (T := TX2) (N := 6) hx hb hts iw_X2_fall_X2 tyX2 tyX2_ok nmX2 hown hK hP hD hS 0 rfl rfl 5 (by decide) (hts (.fieldLink RX2 34 "MarbleRampsLaw$Sim" "turned" "I") (mg 2 rfl)) (fun _ h9 => h9) rfl (by decide +kernel) rfl rfl (Nat.le_of_ble_eq_true rfl) dX2_fall_109 (fun H locs hP hD hS => ?_)
        have hP : va_P D vwCl (wS cI c2 c3 v rw_ ow cN rN pa pd ((upd sv (k * cN + j) 0)) bn hc hm lo ((tv + 1))) H := hP
        have hD : va_D (va_A (wS cI c2 c3 v rw_ ow cN rN pa pd st bn hc hm lo tn) sz) (wS cI c2 c3 v rw_ ow cN rN pa pd ((upd sv (k * cN + j) 0)) bn hc hm lo ((tv + 1))) := hD
        refine lv_goto (tgt := 165) hx hb dX2_fall_112 (by decide) ?_
        refine lv_iload_n hx hb dX2_fall_165 rfl (lv_at hl 3 rfl) ?_
        refine lv_iload hx hb dX2_fall_166 (lv_at hl 0 rfl) ?_
        refine lv_iadd hx hb dX2_fall_168 ?_
        refine lv_istore_n (lv' := [(3, .int ((nI j) + 1)), (4, .int 1), (6, .ref (ow k j)), (5, .int (nI k)), (0, .ref (v 0)), (1, .int (nI jj)), (2, .int (nI rN))]) hx hb dX2_fall_169 rfl hl (by decide) rfl (fun ls hl => ?_)
        refine lv_iload_n hx hb dX2_fall_170 rfl (lv_at hl 0 rfl) ?_
        refine lv_if_lt (tgt := 183) hx hb dX2_fall_171 (by decide) (fun c_34 => ?_) (fun c_34 => ?_)
        · refine lv_iconst (v := (-1)) hx hb dX2_fall_183 (by decide) ?_
          have hP : va_P D vwCl (wS cI c2 c3 v rw_ ow cN rN pa pd ((xFall pa pe st (nI cN) (nI jj) (nI rN)).2) bn hc hm lo (tv + 1)) H := by rw [hf, xFallL, hwy]; dsimp only; rw [tl_neg c_34, if_neg (by decide)]; exact hP
          have hD : va_D (va_A (wS cI c2 c3 v rw_ ow cN rN pa pd st bn hc hm lo tn) sz) (wS cI c2 c3 v rw_ ow cN rN pa pd ((xFall pa pe st (nI cN) (nI jj) (nI rN)).2) bn hc hm lo (tv + 1)) := by rw [hf, xFallL, hwy]; dsimp only; rw [tl_neg c_34, if_neg (by decide)]; exact hD
          exact eQi (tv + 1) hx hb hr hlocks hP hD hK hS dX2_fall_184 (by rw [hf, xFallL, hwy]; dsimp only; rw [tl_neg c_34, if_neg (by decide)])
        · refine lv_iload_n hx hb dX2_fall_174 rfl (lv_at hl 0 rfl) ?_
          refine lv_aload_n hx hb dX2_fall_175 rfl (lv_at hl 4 rfl) ?_
          refine va_get (D := D) (ci := 2) (v := .ref (v 1)) (C := RX2) (T := TX2) (N := 6) hx hb hts iw_X2_fall_X2 hown hK hP 0 rfl rfl 1 (by decide) (hts (.fieldLink RX2 14 "MarbleRampsLaw$Sim" "bins" "[I") (mg 3 rfl)) (fun _ h9 => h9) rfl dX2_fall_176 ?_
          refine va_alen hx hb hK hP 1 0 rfl rfl (v := (nI cN)) rfl dX2_fall_179 ?_
          refine lv_icmp_ne (tgt := 185) hx hb dX2_fall_180 (by decide) (fun c_35 => ?_) (fun c_35 => ?_)
          · obtain ⟨j2, hj2, ej2, hh2, _, _⟩ := tl_ok h9 hj (w := 1) (Or.inr (Or.inr rfl)) c_34 c_35
            rw [ej2] at hl
            refine lv_iinc (v := (nI (k + 1))) (lv' := [(5, .int (nI (k + 1))), (3, .int (nI j2)), (4, .int 1), (6, .ref (ow k j)), (0, .ref (v 0)), (1, .int (nI jj)), (2, .int (nI rN))]) hx hb dX2_fall_185 hl (k := 3) rfl (nI_1 k) (by decide) rfl (fun ls hl => ?_)
            refine lv_goto (tgt := 8) hx hb dX2_fall_188 (by decide) ?_
            exact ih8 (k + 1) j2 1 (upd sv (k * cN + j) 0) (tv + 1) (by omega) (by rw [hf, xFallL, hwy]; dsimp only; rw [hh2, if_pos rfl, ej2]) hj2 (Or.inr (Or.inr rfl)) (hOs.set hok) _ _ hP hD hS ls (lv_sub hl [0, 2, 1, 4, 5, 6] rfl)
          · refine lv_iconst (v := (-1)) hx hb dX2_fall_183 (by decide) ?_
            have hP : va_P D vwCl (wS cI c2 c3 v rw_ ow cN rN pa pd ((xFall pa pe st (nI cN) (nI jj) (nI rN)).2) bn hc hm lo (tv + 1)) H := by rw [hf, xFallL, hwy]; dsimp only; rw [tl_eq c_34 c_35, if_neg (by decide)]; exact hP
            have hD : va_D (va_A (wS cI c2 c3 v rw_ ow cN rN pa pd st bn hc hm lo tn) sz) (wS cI c2 c3 v rw_ ow cN rN pa pd ((xFall pa pe st (nI cN) (nI jj) (nI rN)).2) bn hc hm lo (tv + 1)) := by rw [hf, xFallL, hwy]; dsimp only; rw [tl_eq c_34 c_35, if_neg (by decide)]; exact hD
            exact eQi (tv + 1) hx hb hr hlocks hP hD hK hS dX2_fall_184 (by rw [hf, xFallL, hwy]; dsimp only; rw [tl_eq c_34 c_35, if_neg (by decide)])
      · refine lv_aload_n hx hb dX2_fall_14 rfl (lv_at hl 3 rfl) ?_
        refine va_get (D := D) (ci := 2) (v := .ref (v 4)) (C := RX2) (T := TX2) (N := 6) hx hb hts iw_X2_fall_X2 hown hK hP 0 rfl rfl 0 (by decide) (hts (.fieldLink RX2 9 "MarbleRampsLaw$Sim" "board" "[[[I") (mg 1 rfl)) (fun _ h9 => h9) rfl dX2_fall_15 ?_
        refine lv_iload hx hb dX2_fall_18 (lv_at hl 0 rfl) ?_
        refine sLdR (r := k) (g := rw_) hx hb hK hP 2 rfl (List.mem_cons_of_mem _ (List.mem_cons_of_mem _ (List.mem_cons_of_mem _ (List.mem_cons_of_mem _ List.mem_cons_self)))) (by omega) (by omega) dX2_fall_20 ?_
        refine lv_iload_n hx hb dX2_fall_21 rfl (lv_at hl 2 rfl) ?_
        refine sLdR (r := j) (g := fun j => ow k j) hx hb hK hP 1 rfl (sRow_m (by omega)) (by omega) (by omega) dX2_fall_22 ?_
        refine lv_astore (lv' := [(6, .ref (ow k j)), (5, .int (nI k)), (4, .int way), (3, .int (nI j)), (0, .ref (v 0)), (1, .int (nI jj)), (2, .int (nI rN))]) hx hb dX2_fall_23 hl (by decide) rfl (fun ls hl => ?_)
        refine lv_aload hx hb dX2_fall_25 (lv_at hl 0 rfl) ?_
        refine lv_iconst (v := 0) hx hb dX2_fall_27 (by decide) ?_
        refine sLdI (j := 0) hx hb hK hP 0 rfl (sCell_m (by omega) (by omega)) (by decide) (by decide) dX2_fall_28 ?_
        rw [show t3 (pa (k * cN + j)) (pd (k * cN + j)) (sv (k * cN + j)) 0 = 5 from e0]
        refine lv_if_ne (tgt := 38) hx hb dX2_fall_29 (by decide) (fun _ => ?_) (fun c9 => absurd c9 (by decide))
        refine lv_aload hx hb dX2_fall_38 (lv_at hl 0 rfl) ?_
        refine lv_iconst (v := 0) hx hb dX2_fall_40 (by decide) ?_
        refine sLdI (j := 0) hx hb hK hP 0 rfl (sCell_m (by omega) (by omega)) (by decide) (by decide) dX2_fall_41 ?_
        rw [show t3 (pa (k * cN + j)) (pd (k * cN + j)) (sv (k * cN + j)) 0 = 5 from e0]
        refine lv_iconst (v := 3) hx hb dX2_fall_42 (by decide) ?_
        refine lv_icmp_ge (tgt := 64) hx hb dX2_fall_43 (by decide) (fun _ => ?_) (fun c9 => absurd (by decide) c9)
        refine lv_aload hx hb dX2_fall_64 (lv_at hl 0 rfl) ?_
        refine lv_iconst (v := 0) hx hb dX2_fall_66 (by decide) ?_
        refine sLdI (j := 0) hx hb hK hP 0 rfl (sCell_m (by omega) (by omega)) (by decide) (by decide) dX2_fall_67 ?_
        rw [show t3 (pa (k * cN + j)) (pd (k * cN + j)) (sv (k * cN + j)) 0 = 5 from e0]
        refine lv_iconst (v := 3) hx hb dX2_fall_68 (by decide) ?_
        refine lv_icmp_ne (tgt := 115) hx hb dX2_fall_69 (by decide) (fun _ => ?_) (fun c9 => absurd c9 (by decide))
        refine lv_aload hx hb dX2_fall_115 (lv_at hl 0 rfl) ?_
        refine lv_iconst (v := 0) hx hb dX2_fall_117 (by decide) ?_
        refine sLdI (j := 0) hx hb hK hP 0 rfl (sCell_m (by omega) (by omega)) (by decide) (by decide) dX2_fall_118 ?_
        rw [show t3 (pa (k * cN + j)) (pd (k * cN + j)) (sv (k * cN + j)) 0 = 5 from e0]
        refine lv_iconst (v := 5) hx hb dX2_fall_119 (by decide) ?_
        refine lv_icmp_ne (tgt := 165) hx hb dX2_fall_120 (by decide) (fun c9 => absurd (by decide) c9) (fun _ => ?_)
        refine lv_aload hx hb dX2_fall_123 (lv_at hl 0 rfl) ?_
        refine lv_iconst (v := 2) hx hb dX2_fall_125 (by decide) ?_
        refine lv_dup2_11 hx hb dX2_fall_126 rfl rfl ?_
        refine sLdI (j := 2) hx hb hK hP 0 rfl (sCell_m (by omega) (by omega)) (by decide) (by decide) dX2_fall_127 ?_
        rw [show t3 (pa (k * cN + j)) (pd (k * cN + j)) (sv (k * cN + j)) 2 = (nI x) from e2]
        refine lv_iconst (v := 1) hx hb dX2_fall_128 (by decide) ?_
        refine lv_iadd hx hb dX2_fall_129 ?_
        refine sSt2 (X := []) (r := k) (k := j) (x := ((nI x) + 1)) hx hb hK hP hD hS 0 rfl (by omega) (by omega) dX2_fall_130 (fun H locs hP hD hS => ?_)
        have hP : va_P D vwCl (wS cI c2 c3 v rw_ ow cN rN pa pd ((upd sv (k * cN + j) ((nI x) + 1))) bn hc hm lo tv) H := hP
        have hD : va_D (va_A (wS cI c2 c3 v rw_ ow cN rN pa pd st bn hc hm lo tn) sz) (wS cI c2 c3 v rw_ ow cN rN pa pd ((upd sv (k * cN + j) ((nI x) + 1))) bn hc hm lo tv) := hD
        rw [nI_1] at hP hD
        have hP : va_P D vwCl (wS cI c2 c3 v rw_ ow cN rN pa pd ((upd sv (k * cN + j) (nI (x + 1)))) bn hc hm lo tv) H := hP
        have hD : va_D (va_A (wS cI c2 c3 v rw_ ow cN rN pa pd st bn hc hm lo tn) sz) (wS cI c2 c3 v rw_ ow cN rN pa pd ((upd sv (k * cN + j) (nI (x + 1)))) bn hc hm lo tv) := hD
        refine lv_aload hx hb dX2_fall_131 (lv_at hl 0 rfl) ?_
        refine lv_iconst (v := 2) hx hb dX2_fall_133 (by decide) ?_
        refine sLdI (j := 2) hx hb hK hP 0 rfl (sCell_m (by omega) (by omega)) (by decide) (by decide) dX2_fall_134 ?_
        rw [show t3 (pa (k * cN + j)) (pd (k * cN + j)) ((upd sv (k * cN + j) (nI (x + 1))) (k * cN + j)) 2 = (nI (x + 1)) from pk_us]
        refine lv_aload hx hb dX2_fall_135 (lv_at hl 0 rfl) ?_
        refine lv_iconst (v := 1) hx hb dX2_fall_137 (by decide) ?_
        refine sLdI (j := 1) hx hb hK hP 0 rfl (sCell_m (by omega) (by omega)) (by decide) (by decide) dX2_fall_138 ?_
        rw [show t3 (pa (k * cN + j)) (pd (k * cN + j)) ((upd sv (k * cN + j) (nI (x + 1))) (k * cN + j)) 1 = (nI q) from e1]
        refine lv_icmp_ne (tgt := 146) hx hb dX2_fall_139 (by decide) (fun c_40 => ?_) (fun c9 => absurd c9 (nI_neq (by omega) (by omega) (by omega)))
        refine lv_iconst (v := (-1)) hx hb dX2_fall_146 (by decide) ?_
        refine lv_istore (lv' := [(4, .int (-1)), (6, .ref (ow k j)), (5, .int (nI k)), (3, .int (nI j)), (0, .ref (v 0)), (1, .int (nI jj)), (2, .int (nI rN))]) hx hb dX2_fall_147 hl (by decide) rfl (fun ls hl => ?_)
        refine lv_aload hx hb dX2_fall_149 (lv_at hl 1 rfl) ?_
        refine lv_iconst (v := 2) hx hb dX2_fall_151 (by decide) ?_
        refine sLdI (j := 2) hx hb hK hP 0 rfl (sCell_m (by omega) (by omega)) (by decide) (by decide) dX2_fall_152 ?_
        rw [show t3 (pa (k * cN + j)) (pd (k * cN + j)) ((upd sv (k * cN + j) (nI (x + 1))) (k * cN + j)) 2 = (nI (x + 1)) from pk_us]
        refine lv_aload hx hb dX2_fall_153 (lv_at hl 1 rfl) ?_
        refine lv_iconst (v := 1) hx hb dX2_fall_155 (by decide) ?_
        refine sLdI (j := 1) hx hb hK hP 0 rfl (sCell_m (by omega) (by omega)) (by decide) (by decide) dX2_fall_156 ?_
        rw [show t3 (pa (k * cN + j)) (pd (k * cN + j)) ((upd sv (k * cN + j) (nI (x + 1))) (k * cN + j)) 1 = (nI q) from e1]
        refine lv_icmp_ne (tgt := 165) hx hb dX2_fall_157 (by decide) (fun c_41 => ?_) (fun c9 => absurd c9 (nI_neq (by omega) (by omega) (by omega)))
        refine lv_iload_n hx hb dX2_fall_165 rfl (lv_at hl 3 rfl) ?_
        refine lv_iload hx hb dX2_fall_166 (lv_at hl 0 rfl) ?_
        refine lv_iadd hx hb dX2_fall_168 ?_
        refine lv_istore_n (lv' := [(3, .int ((nI j) + (-1))), (4, .int (-1)), (6, .ref (ow k j)), (5, .int (nI k)), (0, .ref (v 0)), (1, .int (nI jj)), (2, .int (nI rN))]) hx hb dX2_fall_169 rfl hl (by decide) rfl (fun ls hl => ?_)
        refine lv_iload_n hx hb dX2_fall_170 rfl (lv_at hl 0 rfl) ?_
        refine lv_if_lt (tgt := 183) hx hb dX2_fall_171 (by decide) (fun c_42 => ?_) (fun c_42 => ?_)
        · refine lv_iconst (v := (-1)) hx hb dX2_fall_183 (by decide) ?_
          have hP : va_P D vwCl (wS cI c2 c3 v rw_ ow cN rN pa pd ((xFall pa pe st (nI cN) (nI jj) (nI rN)).2) bn hc hm lo tv) H := by rw [hf, xFallL, hwy]; dsimp only; rw [tl_neg c_42, if_neg (by decide)]; exact hP
          have hD : va_D (va_A (wS cI c2 c3 v rw_ ow cN rN pa pd st bn hc hm lo tn) sz) (wS cI c2 c3 v rw_ ow cN rN pa pd ((xFall pa pe st (nI cN) (nI jj) (nI rN)).2) bn hc hm lo tv) := by rw [hf, xFallL, hwy]; dsimp only; rw [tl_neg c_42, if_neg (by decide)]; exact hD
          exact eQi tv hx hb hr hlocks hP hD hK hS dX2_fall_184 (by rw [hf, xFallL, hwy]; dsimp only; rw [tl_neg c_42, if_neg (by decide)])
        · refine lv_iload_n hx hb dX2_fall_174 rfl (lv_at hl 0 rfl) ?_
          refine lv_aload_n hx hb dX2_fall_175 rfl (lv_at hl 4 rfl) ?_
          refine va_get (D := D) (ci := 2) (v := .ref (v 1)) (C := RX2) (T := TX2) (N := 6) hx hb hts iw_X2_fall_X2 hown hK hP 0 rfl rfl 1 (by decide) (hts (.fieldLink RX2 14 "MarbleRampsLaw$Sim" "bins" "[I") (mg 3 rfl)) (fun _ h9 => h9) rfl dX2_fall_176 ?_
          refine va_alen hx hb hK hP 1 0 rfl rfl (v := (nI cN)) rfl dX2_fall_179 ?_
          refine lv_icmp_ne (tgt := 185) hx hb dX2_fall_180 (by decide) (fun c_43 => ?_) (fun c_43 => ?_)
          · obtain ⟨j2, hj2, ej2, hh2, _, _⟩ := tl_ok h9 hj (w := (-1)) (Or.inl rfl) c_42 c_43
            rw [ej2] at hl
            refine lv_iinc (v := (nI (k + 1))) (lv' := [(5, .int (nI (k + 1))), (3, .int (nI j2)), (4, .int (-1)), (6, .ref (ow k j)), (0, .ref (v 0)), (1, .int (nI jj)), (2, .int (nI rN))]) hx hb dX2_fall_185 hl (k := 3) rfl (nI_1 k) (by decide) rfl (fun ls hl => ?_)
            refine lv_goto (tgt := 8) hx hb dX2_fall_188 (by decide) ?_
            exact ih8 (k + 1) j2 (-1) (upd sv (k * cN + j) (nI (x + 1))) tv (by omega) (by rw [hf, xFallL, hwy]; dsimp only; rw [hh2, if_pos rfl, ej2]) hj2 (Or.inl rfl) (hOs.set hok) _ _ hP hD hS ls (lv_sub hl [0, 2, 1, 4, 5, 6] rfl)
          · refine lv_iconst (v := (-1)) hx hb dX2_fall_183 (by decide) ?_
            have hP : va_P D vwCl (wS cI c2 c3 v rw_ ow cN rN pa pd ((xFall pa pe st (nI cN) (nI jj) (nI rN)).2) bn hc hm lo tv) H := by rw [hf, xFallL, hwy]; dsimp only; rw [tl_eq c_42 c_43, if_neg (by decide)]; exact hP
            have hD : va_D (va_A (wS cI c2 c3 v rw_ ow cN rN pa pd st bn hc hm lo tn) sz) (wS cI c2 c3 v rw_ ow cN rN pa pd ((xFall pa pe st (nI cN) (nI jj) (nI rN)).2) bn hc hm lo tv) := by rw [hf, xFallL, hwy]; dsimp only; rw [tl_eq c_42 c_43, if_neg (by decide)]; exact hD
            exact eQi tv hx hb hr hlocks hP hD hK hS dX2_fall_184 (by rw [hf, xFallL, hwy]; dsimp only; rw [tl_eq c_42 c_43, if_neg (by decide)])
      · refine lv_aload_n hx hb dX2_fall_14 rfl (lv_at hl 3 rfl) ?_
        refine va_get (D := D) (ci := 2) (v := .ref (v 4)) (C := RX2) (T := TX2) (N := 6) hx hb hts iw_X2_fall_X2 hown hK hP 0 rfl rfl 0 (by decide) (hts (.fieldLink RX2 9 "MarbleRampsLaw$Sim" "board" "[[[I") (mg 1 rfl)) (fun _ h9 => h9) rfl dX2_fall_15 ?_
        refine lv_iload hx hb dX2_fall_18 (lv_at hl 0 rfl) ?_
        refine sLdR (r := k) (g := rw_) hx hb hK hP 2 rfl (List.mem_cons_of_mem _ (List.mem_cons_of_mem _ (List.mem_cons_of_mem _ (List.mem_cons_of_mem _ List.mem_cons_self)))) (by omega) (by omega) dX2_fall_20 ?_
        refine lv_iload_n hx hb dX2_fall_21 rfl (lv_at hl 2 rfl) ?_
        refine sLdR (r := j) (g := fun j => ow k j) hx hb hK hP 1 rfl (sRow_m (by omega)) (by omega) (by omega) dX2_fall_22 ?_
        refine lv_astore (lv' := [(6, .ref (ow k j)), (5, .int (nI k)), (4, .int way), (3, .int (nI j)), (0, .ref (v 0)), (1, .int (nI jj)), (2, .int (nI rN))]) hx hb dX2_fall_23 hl (by decide) rfl (fun ls hl => ?_)
        refine lv_aload hx hb dX2_fall_25 (lv_at hl 0 rfl) ?_
        refine lv_iconst (v := 0) hx hb dX2_fall_27 (by decide) ?_
        refine sLdI (j := 0) hx hb hK hP 0 rfl (sCell_m (by omega) (by omega)) (by decide) (by decide) dX2_fall_28 ?_
        rw [show t3 (pa (k * cN + j)) (pd (k * cN + j)) (sv (k * cN + j)) 0 = 5 from e0]
        refine lv_if_ne (tgt := 38) hx hb dX2_fall_29 (by decide) (fun _ => ?_) (fun c9 => absurd c9 (by decide))
        refine lv_aload hx hb dX2_fall_38 (lv_at hl 0 rfl) ?_
        refine lv_iconst (v := 0) hx hb dX2_fall_40 (by decide) ?_
        refine sLdI (j := 0) hx hb hK hP 0 rfl (sCell_m (by omega) (by omega)) (by decide) (by decide) dX2_fall_41 ?_
        rw [show t3 (pa (k * cN + j)) (pd (k * cN + j)) (sv (k * cN + j)) 0 = 5 from e0]
        refine lv_iconst (v := 3) hx hb dX2_fall_42 (by decide) ?_
        refine lv_icmp_ge (tgt := 64) hx hb dX2_fall_43 (by decide) (fun _ => ?_) (fun c9 => absurd (by decide) c9)
        refine lv_aload hx hb dX2_fall_64 (lv_at hl 0 rfl) ?_
        refine lv_iconst (v := 0) hx hb dX2_fall_66 (by decide) ?_
        refine sLdI (j := 0) hx hb hK hP 0 rfl (sCell_m (by omega) (by omega)) (by decide) (by decide) dX2_fall_67 ?_
        rw [show t3 (pa (k * cN + j)) (pd (k * cN + j)) (sv (k * cN + j)) 0 = 5 from e0]
        refine lv_iconst (v := 3) hx hb dX2_fall_68 (by decide) ?_
        refine lv_icmp_ne (tgt := 115) hx hb dX2_fall_69 (by decide) (fun _ => ?_) (fun c9 => absurd c9 (by decide))
        refine lv_aload hx hb dX2_fall_115 (lv_at hl 0 rfl) ?_
        refine lv_iconst (v := 0) hx hb dX2_fall_117 (by decide) ?_
        refine sLdI (j := 0) hx hb hK hP 0 rfl (sCell_m (by omega) (by omega)) (by decide) (by decide) dX2_fall_118 ?_
        rw [show t3 (pa (k * cN + j)) (pd (k * cN + j)) (sv (k * cN + j)) 0 = 5 from e0]
        refine lv_iconst (v := 5) hx hb dX2_fall_119 (by decide) ?_
        refine lv_icmp_ne (tgt := 165) hx hb dX2_fall_120 (by decide) (fun c9 => absurd (by decide) c9) (fun _ => ?_)
        refine lv_aload hx hb dX2_fall_123 (lv_at hl 0 rfl) ?_
        refine lv_iconst (v := 2) hx hb dX2_fall_125 (by decide) ?_
        refine lv_dup2_11 hx hb dX2_fall_126 rfl rfl ?_
        refine sLdI (j := 2) hx hb hK hP 0 rfl (sCell_m (by omega) (by omega)) (by decide) (by decide) dX2_fall_127 ?_
        rw [show t3 (pa (k * cN + j)) (pd (k * cN + j)) (sv (k * cN + j)) 2 = (nI x) from e2]
        refine lv_iconst (v := 1) hx hb dX2_fall_128 (by decide) ?_
        refine lv_iadd hx hb dX2_fall_129 ?_
        refine sSt2 (X := []) (r := k) (k := j) (x := ((nI x) + 1)) hx hb hK hP hD hS 0 rfl (by omega) (by omega) dX2_fall_130 (fun H locs hP hD hS => ?_)
        have hP : va_P D vwCl (wS cI c2 c3 v rw_ ow cN rN pa pd ((upd sv (k * cN + j) ((nI x) + 1))) bn hc hm lo tv) H := hP
        have hD : va_D (va_A (wS cI c2 c3 v rw_ ow cN rN pa pd st bn hc hm lo tn) sz) (wS cI c2 c3 v rw_ ow cN rN pa pd ((upd sv (k * cN + j) ((nI x) + 1))) bn hc hm lo tv) := hD
        rw [nI_1] at hP hD
        have hP : va_P D vwCl (wS cI c2 c3 v rw_ ow cN rN pa pd ((upd sv (k * cN + j) (nI (x + 1)))) bn hc hm lo tv) H := hP
        have hD : va_D (va_A (wS cI c2 c3 v rw_ ow cN rN pa pd st bn hc hm lo tn) sz) (wS cI c2 c3 v rw_ ow cN rN pa pd ((upd sv (k * cN + j) (nI (x + 1)))) bn hc hm lo tv) := hD
        refine lv_aload hx hb dX2_fall_131 (lv_at hl 0 rfl) ?_
        refine lv_iconst (v := 2) hx hb dX2_fall_133 (by decide) ?_
        refine sLdI (j := 2) hx hb hK hP 0 rfl (sCell_m (by omega) (by omega)) (by decide) (by decide) dX2_fall_134 ?_
        rw [show t3 (pa (k * cN + j)) (pd (k * cN + j)) ((upd sv (k * cN + j) (nI (x + 1))) (k * cN + j)) 2 = (nI (x + 1)) from pk_us]
        refine lv_aload hx hb dX2_fall_135 (lv_at hl 0 rfl) ?_
        refine lv_iconst (v := 1) hx hb dX2_fall_137 (by decide) ?_
        refine sLdI (j := 1) hx hb hK hP 0 rfl (sCell_m (by omega) (by omega)) (by decide) (by decide) dX2_fall_138 ?_
        rw [show t3 (pa (k * cN + j)) (pd (k * cN + j)) ((upd sv (k * cN + j) (nI (x + 1))) (k * cN + j)) 1 = (nI q) from e1]
        refine lv_icmp_ne (tgt := 146) hx hb dX2_fall_139 (by decide) (fun c9 => absurd (by rw [hqx]) c9) (fun c_48 => ?_)
        refine lv_iconst (v := 1) hx hb dX2_fall_142 (by decide) ?_
        refine lv_goto (tgt := 147) hx hb dX2_fall_143 (by decide) ?_
        refine lv_istore (lv' := [(4, .int 1), (6, .ref (ow k j)), (5, .int (nI k)), (3, .int (nI j)), (0, .ref (v 0)), (1, .int (nI jj)), (2, .int (nI rN))]) hx hb dX2_fall_147 hl (by decide) rfl (fun ls hl => ?_)
        refine lv_aload hx hb dX2_fall_149 (lv_at hl 1 rfl) ?_
        refine lv_iconst (v := 2) hx hb dX2_fall_151 (by decide) ?_
        refine sLdI (j := 2) hx hb hK hP 0 rfl (sCell_m (by omega) (by omega)) (by decide) (by decide) dX2_fall_152 ?_
        rw [show t3 (pa (k * cN + j)) (pd (k * cN + j)) ((upd sv (k * cN + j) (nI (x + 1))) (k * cN + j)) 2 = (nI (x + 1)) from pk_us]
        refine lv_aload hx hb dX2_fall_153 (lv_at hl 1 rfl) ?_
        refine lv_iconst (v := 1) hx hb dX2_fall_155 (by decide) ?_
        refine sLdI (j := 1) hx hb hK hP 0 rfl (sCell_m (by omega) (by omega)) (by decide) (by decide) dX2_fall_156 ?_
        rw [show t3 (pa (k * cN + j)) (pd (k * cN + j)) ((upd sv (k * cN + j) (nI (x + 1))) (k * cN + j)) 1 = (nI q) from e1]
        refine lv_icmp_ne (tgt := 165) hx hb dX2_fall_157 (by decide) (fun c9 => absurd (by rw [hqx]) c9) (fun c_49 => ?_)
        refine lv_aload hx hb dX2_fall_160 (lv_at hl 1 rfl) ?_
        refine lv_iconst (v := 2) hx hb dX2_fall_162 (by decide) ?_
        refine lv_iconst (v := 0) hx hb dX2_fall_163 (by decide) ?_
        refine sSt2 (X := []) (r := k) (k := j) (x := 0) hx hb hK hP hD hS 0 rfl (by omega) (by omega) dX2_fall_164 (fun H locs hP hD hS => ?_)
        rw [upd_upd] at hP hD
        have hP : va_P D vwCl (wS cI c2 c3 v rw_ ow cN rN pa pd ((upd sv (k * cN + j) 0)) bn hc hm lo tv) H := hP
        have hD : va_D (va_A (wS cI c2 c3 v rw_ ow cN rN pa pd st bn hc hm lo tn) sz) (wS cI c2 c3 v rw_ ow cN rN pa pd ((upd sv (k * cN + j) 0)) bn hc hm lo tv) := hD
        refine lv_iload_n hx hb dX2_fall_165 rfl (lv_at hl 3 rfl) ?_
        refine lv_iload hx hb dX2_fall_166 (lv_at hl 0 rfl) ?_
        refine lv_iadd hx hb dX2_fall_168 ?_
        refine lv_istore_n (lv' := [(3, .int ((nI j) + 1)), (4, .int 1), (6, .ref (ow k j)), (5, .int (nI k)), (0, .ref (v 0)), (1, .int (nI jj)), (2, .int (nI rN))]) hx hb dX2_fall_169 rfl hl (by decide) rfl (fun ls hl => ?_)
        refine lv_iload_n hx hb dX2_fall_170 rfl (lv_at hl 0 rfl) ?_
        refine lv_if_lt (tgt := 183) hx hb dX2_fall_171 (by decide) (fun c_50 => ?_) (fun c_50 => ?_)
        · refine lv_iconst (v := (-1)) hx hb dX2_fall_183 (by decide) ?_
          have hP : va_P D vwCl (wS cI c2 c3 v rw_ ow cN rN pa pd ((xFall pa pe st (nI cN) (nI jj) (nI rN)).2) bn hc hm lo tv) H := by rw [hf, xFallL, hwy]; dsimp only; rw [tl_neg c_50, if_neg (by decide)]; exact hP
          have hD : va_D (va_A (wS cI c2 c3 v rw_ ow cN rN pa pd st bn hc hm lo tn) sz) (wS cI c2 c3 v rw_ ow cN rN pa pd ((xFall pa pe st (nI cN) (nI jj) (nI rN)).2) bn hc hm lo tv) := by rw [hf, xFallL, hwy]; dsimp only; rw [tl_neg c_50, if_neg (by decide)]; exact hD
          exact eQi tv hx hb hr hlocks hP hD hK hS dX2_fall_184 (by rw [hf, xFallL, hwy]; dsimp only; rw [tl_neg c_50, if_neg (by decide)])
        · refine lv_iload_n hx hb dX2_fall_174 rfl (lv_at hl 0 rfl) ?_
          refine lv_aload_n hx hb dX2_fall_175 rfl (lv_at hl 4 rfl) ?_
          refine va_get (D := D) (ci := 2) (v := .ref (v 1)) (C := RX2) (T := TX2) (N := 6) hx hb hts iw_X2_fall_X2 hown hK hP 0 rfl rfl 1 (by decide) (hts (.fieldLink RX2 14 "MarbleRampsLaw$Sim" "bins" "[I") (mg 3 rfl)) (fun _ h9 => h9) rfl dX2_fall_176 ?_
          refine va_alen hx hb hK hP 1 0 rfl rfl (v := (nI cN)) rfl dX2_fall_179 ?_
          refine lv_icmp_ne (tgt := 185) hx hb dX2_fall_180 (by decide) (fun c_51 => ?_) (fun c_51 => ?_)
          · obtain ⟨j2, hj2, ej2, hh2, _, _⟩ := tl_ok h9 hj (w := 1) (Or.inr (Or.inr rfl)) c_50 c_51
            rw [ej2] at hl
            refine lv_iinc (v := (nI (k + 1))) (lv' := [(5, .int (nI (k + 1))), (3, .int (nI j2)), (4, .int 1), (6, .ref (ow k j)), (0, .ref (v 0)), (1, .int (nI jj)), (2, .int (nI rN))]) hx hb dX2_fall_185 hl (k := 3) rfl (nI_1 k) (by decide) rfl (fun ls hl => ?_)
            refine lv_goto (tgt := 8) hx hb dX2_fall_188 (by decide) ?_
            exact ih8 (k + 1) j2 1 (upd sv (k * cN + j) 0) tv (by omega) (by rw [hf, xFallL, hwy]; dsimp only; rw [hh2, if_pos rfl, ej2]) hj2 (Or.inr (Or.inr rfl)) (hOs.set hok) _ _ hP hD hS ls (lv_sub hl [0, 2, 1, 4, 5, 6] rfl)
          · refine lv_iconst (v := (-1)) hx hb dX2_fall_183 (by decide) ?_
            have hP : va_P D vwCl (wS cI c2 c3 v rw_ ow cN rN pa pd ((xFall pa pe st (nI cN) (nI jj) (nI rN)).2) bn hc hm lo tv) H := by rw [hf, xFallL, hwy]; dsimp only; rw [tl_eq c_50 c_51, if_neg (by decide)]; exact hP
            have hD : va_D (va_A (wS cI c2 c3 v rw_ ow cN rN pa pd st bn hc hm lo tn) sz) (wS cI c2 c3 v rw_ ow cN rN pa pd ((xFall pa pe st (nI cN) (nI jj) (nI rN)).2) bn hc hm lo tv) := by rw [hf, xFallL, hwy]; dsimp only; rw [tl_eq c_50 c_51, if_neg (by decide)]; exact hD
            exact eQi tv hx hb hr hlocks hP hD hK hS dX2_fall_184 (by rw [hf, xFallL, hwy]; dsimp only; rw [tl_eq c_50 c_51, if_neg (by decide)])
  exact L8 rN 0 jj 0 st tn (by omega) (by unfold xFall; rw [nI_clamp (show rN < 2 ^ 31 by omega)]) hjj (Or.inr (Or.inl rfl)) hO _ _ hP hD hS ls (lv_sub hl [0, 1, 2, 3, 4, 5] rfl)
