set_option maxHeartbeats 4000000 in
set_option maxRecDepth 100000 in
theorem ac_lay {p : Program} {l : Launch} {e : Env} {s : State} {m : MethodId} {below : List Frame} {meth : Method} {c : Code} {D : va_G} {cI c2 c3 : ClassId} {x : Nat} {a b v rw_ : Nat → Nat} {ow : Nat → Nat → Nat} {args : Array Value} {A : Nat → Prop} {cN rN : Nat} {pa pe pd st bn hc hm : Nat → Int32} {lo tn : Int32} {ls : Array Slot} {xx : Int32} {k j : Nat} (F : AC p l s m meth c D cI c2 c3 args A) (hI : PI cN rN pa pe pd st bn hc hm) (hP : va_P D vwCl (wX x a b ++ wM cI a pa pe st bn hc hm ((nI cN)) ((nI rN)) lo ++ wS cI c2 c3 v rw_ ow cN rN pa pd st bn hc hm lo tn) s.heap) (hD : va_D A (wX x a b ++ wM cI a pa pe st bn hc hm ((nI cN)) ((nI rN)) lo ++ wS cI c2 c3 v rw_ ow cN rN pa pd st bn hc hm lo tn)) (hS : va_S A s.heap s.heap []) (hk : k < rN) (hj : j < cN) (hl : lv_has ls 12 [(6, .int 1), (5, .ref (ow k j)), (4, .int (nI k)), (3, .int (nI j)), (2, .int xx), (1, .ref (v 0)), (0, .ref x)]) : W p l e ({ frames := 9, cells := 84, slots := 310, locals := 156 } : Room) s m args below meth c s.heap [] 0 0 (MQ below (va_Qi (fun (zz : Int32) (u : LQ) => zz = 1 ∧ PIq u ∧ u.2.2.2.2.2.2.2.2.2.2.2.1 0 = v 0) (wB D [(cI, .int), (c2, .array .int), (c3, .array (.array .int))] A (lsW cI c2 c3 x a b)) A) args s 84 310 A) (F0 m 112 ls []) := by
  obtain ⟨hx, hb, hr, hml, hown, hts, hlocks, hK, hN, hG, hX, hZ, hA, htb, hst⟩ := F
  have h2 := hI.c2
  have h9 := hI.c9
  have h1r := hI.r1
  have h8 := hI.r8
  refine lv_iload_n hx hb dL_act_112 rfl (lv_at hl 4 rfl) ?_
  refine lv_iconst (v := 5) hx hb dL_act_113 (by decide) ?_
  refine lv_ishr hx hb dL_act_114 ?_
  refine lv_iconst (v := 4) hx hb dL_act_115 (by decide) ?_
  refine kBelow (v := (xx >>> (5 &&& 31))) (n := 4) (by omega) (by omega) ⟨hx, hb, hml, hown, hts⟩ (va_cwS 2 hts gL_act_L_below rfl rfl rfl (by decide +kernel) ⟨Nat.le_of_ble_eq_true rfl, Nat.le_of_ble_eq_true rfl⟩) hK hN hl.1 (Nat.le_of_ble_eq_true rfl) dL_act_116 ⟨Nat.zero_le _, Nat.zero_le _⟩ (fun b_1 hb_1 => ?_)
  refine lv_if_le (tgt := 124) hx hb dL_act_119 (by decide) (fun c_2 => ?_) (fun c_2 => ?_)
  · refine lv_iconst (v := 2) hx hb dL_act_124 (by decide) ?_
    refine lv_iload_n hx hb dL_act_125 rfl (lv_at hl 4 rfl) ?_
    refine lv_iconst (v := 3) hx hb dL_act_126 (by decide) ?_
    refine lv_ishr hx hb dL_act_127 ?_
    refine lv_bipush (v := 8) hx hb dL_act_128 (by decide) ?_
    refine kBelow (v := (xx >>> (3 &&& 31))) (n := 8) (by omega) (by omega) ⟨hx, hb, hml, hown, hts⟩ (va_cwS 2 hts gL_act_L_below rfl rfl rfl (by decide +kernel) ⟨Nat.le_of_ble_eq_true rfl, Nat.le_of_ble_eq_true rfl⟩) hK hN hl.1 (Nat.le_of_ble_eq_true rfl) dL_act_130 ⟨Nat.zero_le _, Nat.zero_le _⟩ (fun b_3 hb_3 => ?_)
    refine lv_iadd hx hb dL_act_133 ?_
    rw [show (2 : Int32) + nI b_3 = nI (2 + b_3) from nI_add 2 b_3]
    refine lv_istore (lv' := [(7, .int (nI (2 + b_3))), (6, .int 1), (5, .ref (ow k j)), (4, .int (nI k)), (3, .int (nI j)), (2, .int xx), (1, .ref (v 0)), (0, .ref x)]) hx hb dL_act_134 hl (by decide) rfl (fun ls hl => ?_)
    refine lv_iconst (v := 1) hx hb dL_act_136 (by decide) ?_
    refine lv_iload_n hx hb dL_act_137 rfl (lv_at hl 5 rfl) ?_
    refine lv_bipush (v := 6) hx hb dL_act_138 (by decide) ?_
    refine lv_ishr hx hb dL_act_140 ?_
    refine lv_bipush (v := 8) hx hb dL_act_141 (by decide) ?_
    refine kBelow (v := (xx >>> (6 &&& 31))) (n := 8) (by omega) (by omega) ⟨hx, hb, hml, hown, hts⟩ (va_cwS 2 hts gL_act_L_below rfl rfl rfl (by decide +kernel) ⟨Nat.le_of_ble_eq_true rfl, Nat.le_of_ble_eq_true rfl⟩) hK hN hl.1 (Nat.le_of_ble_eq_true rfl) dL_act_143 ⟨Nat.zero_le _, Nat.zero_le _⟩ (fun b_4 hb_4 => ?_)
    refine lv_iadd hx hb dL_act_146 ?_
    rw [show (1 : Int32) + nI b_4 = nI (1 + b_4) from nI_add 1 b_4]
    refine lv_istore (lv' := [(8, .int (nI (1 + b_4))), (7, .int (nI (2 + b_3))), (6, .int 1), (5, .ref (ow k j)), (4, .int (nI k)), (3, .int (nI j)), (2, .int xx), (1, .ref (v 0)), (0, .ref x)]) hx hb dL_act_147 hl (by decide) rfl (fun ls hl => ?_)
    refine lv_aload_n hx hb dL_act_149 rfl (lv_at hl 7 rfl) ?_
    refine lv_iload hx hb dL_act_150 (lv_at hl 1 rfl) ?_
    refine lv_iload hx hb dL_act_152 (lv_at hl 0 rfl) ?_
    refine kPVv (As := [.int (nI (2 + b_3)), .int (nI (1 + b_4))]) (rest := []) (Wr := (wX x a b ++ wM cI a pa pe st bn hc hm ((nI cN)) ((nI rN)) lo)) (W2 := (fun u : ((Nat → Nat) × (Nat → Nat) × (Nat → Nat → Nat)) => (wX x a b ++ wM cI a pa pe st bn hc hm ((nI cN)) ((nI rN)) lo) ++ wS cI c2 c3 u.1 u.2.1 u.2.2 (2 + b_3) (1 + b_4) ((fun _ => 0)) ((fun _ => 0)) ((fun _ => 0)) ((fun _ => 0)) ((upd (upd hc 0 0) 1 (nI (2 + b_3) - 1))) hm 0 tn)) ⟨hx, hb, hml, hown, hts⟩ (mX2_lay l D cI c2 c3 v rw_ ow cN rN pa pd st bn hc hm lo tn (2 + b_3) (1 + b_4) (by omega) (by omega) (by omega) (by omega) _) (cwV 2 hts gL_act_X2_lay rfl rfl rfl (by decide +kernel) ⟨Nat.le_of_ble_eq_true rfl, Nat.le_of_ble_eq_true rfl⟩) (preVK (K2 := fun U => KG cI c2 c3 U) (fun u U hv _ h => KG.same hv h) (fun U hU hW => KG.warm hW hG) (preVQ hK hN hP.right hD.right [0, 1, 2] rfl rfl rfl)) hP hD hS hA (pm_12 _ _) (fun _ => pm_12 _ _) rfl hl.1 rfl (Nat.le_of_ble_eq_true rfl) dL_act_154 ⟨by show _ ≤ 84; omega, by show _ ≤ 310; omega⟩ (fun u_5 H locs hr_5 hP hD hS => ?_)
    have hP : va_P D vwCl (wX x a b ++ wM cI a pa pe st bn hc hm ((nI cN)) ((nI rN)) lo ++ wS cI c2 c3 u_5.1 u_5.2.1 u_5.2.2 (2 + b_3) (1 + b_4) ((fun _ => 0)) ((fun _ => 0)) ((fun _ => 0)) ((fun _ => 0)) ((upd (upd hc 0 0) 1 (nI (2 + b_3) - 1))) hm 0 tn) H := hP
    have hD : va_D A (wX x a b ++ wM cI a pa pe st bn hc hm ((nI cN)) ((nI rN)) lo ++ wS cI c2 c3 u_5.1 u_5.2.1 u_5.2.2 (2 + b_3) (1 + b_4) ((fun _ => 0)) ((fun _ => 0)) ((fun _ => 0)) ((fun _ => 0)) ((upd (upd hc 0 0) 1 (nI (2 + b_3) - 1))) hm 0 tn) := hD
    refine lv_aload_n hx hb dL_act_157 rfl (lv_at hl 8 rfl) ?_
    refine lv_iload hx hb dL_act_158 (lv_at hl 1 rfl) ?_
    refine lv_iload hx hb dL_act_160 (lv_at hl 0 rfl) ?_
    refine kPVi (As := [.int (nI (2 + b_3)), .int (nI (1 + b_4))]) (rest := []) (Wr := (wS cI c2 c3 u_5.1 u_5.2.1 u_5.2.2 (2 + b_3) (1 + b_4) ((fun _ => 0)) ((fun _ => 0)) ((fun _ => 0)) ((fun _ => 0)) ((upd (upd hc 0 0) 1 (nI (2 + b_3) - 1))) hm 0 tn)) (W2 := fun _ : Unit => (wX x a b ++ wM cI a ((fun _ => 0)) ((fun _ => 0)) ((fun _ => 0)) ((fun _ => 0)) ((xsc 2 (xsc 2 hc 0 0) 1 ((nI (2 + b_3)) - 1))) hm ((nI (2 + b_3))) ((nI (1 + b_4))) 0 ++ wS cI c2 c3 u_5.1 u_5.2.1 u_5.2.2 (2 + b_3) (1 + b_4) ((fun _ => 0)) ((fun _ => 0)) ((fun _ => 0)) ((fun _ => 0)) ((upd (upd hc 0 0) 1 (nI (2 + b_3) - 1))) hm 0 tn)) ⟨hx, hb, hml, hown, hts⟩ (mX1_lay l D cI x b a pa pe st bn hc hm (nI cN) (nI rN) lo (nI (2 + b_3)) (nI (1 + b_4)) (show xin (nI (2 + b_3)) (nI 2) (nI 9) = true from xin_k (by omega) (by omega) (by omega)) (show xin (nI (1 + b_4)) (nI 1) (nI 8) = true from xin_k (by omega) (by omega) (by omega)) _) (cwV 2 hts gL_act_X1_lay rfl rfl rfl (by decide +kernel) ⟨Nat.le_of_ble_eq_true rfl, Nat.le_of_ble_eq_true rfl⟩) (preVQ hK hN hP.left hD.left [0] rfl rfl rfl) hP hD hS hA (List.Perm.refl _) (fun _ => List.Perm.refl _) rfl hl.1 rfl (Nat.le_of_ble_eq_true rfl) dL_act_162 ⟨by show _ ≤ 84; omega, by show _ ≤ 310; omega⟩ (fun r_6 u_6 H locs hr_6 hP hD hS => ?_)
    subst r_6
    rw [hc_lay] at hP hD
    have hP : va_P D vwCl (wX x a b ++ wM cI a ((fun _ => 0)) ((fun _ => 0)) ((fun _ => 0)) ((fun _ => 0)) ((upd (upd hc 0 0) 1 (nI (2 + b_3) - 1))) hm ((nI (2 + b_3))) ((nI (1 + b_4))) 0 ++ wS cI c2 c3 u_5.1 u_5.2.1 u_5.2.2 (2 + b_3) (1 + b_4) ((fun _ => 0)) ((fun _ => 0)) ((fun _ => 0)) ((fun _ => 0)) ((upd (upd hc 0 0) 1 (nI (2 + b_3) - 1))) hm 0 tn) H := hP
    have hD : va_D A (wX x a b ++ wM cI a ((fun _ => 0)) ((fun _ => 0)) ((fun _ => 0)) ((fun _ => 0)) ((upd (upd hc 0 0) 1 (nI (2 + b_3) - 1))) hm ((nI (2 + b_3))) ((nI (1 + b_4))) 0 ++ wS cI c2 c3 u_5.1 u_5.2.1 u_5.2.2 (2 + b_3) (1 + b_4) ((fun _ => 0)) ((fun _ => 0)) ((fun _ => 0)) ((fun _ => 0)) ((upd (upd hc 0 0) 1 (nI (2 + b_3) - 1))) hm 0 tn) := hD
    refine lv_iload hx hb dL_act_165 (lv_at hl 1 rfl) ?_
    refine lv_iload hx hb dL_act_167 (lv_at hl 0 rfl) ?_
    refine lv_imul hx hb dL_act_169 ?_
    refine lv_icmp_ne (tgt := 177) hx hb dL_act_170 (by decide) (fun c9 => absurd rfl c9) (fun c_7 => ?_)
    refine lv_iconst (v := 1) hx hb dL_act_173 (by decide) ?_
    refine lv_goto (tgt := 178) hx hb dL_act_174 (by decide) ?_
    refine W.widen (k := 84) (n := 310) (by omega) (by omega) ?_
    exact eQz (w := lsW cI c2 c3 x a b) ((2 + b_3), (1 + b_4), (fun _ => 0), (fun _ => 0), (fun _ => 0), (fun _ => 0), (fun _ => 0), (upd (upd hc 0 0) 1 (nI (2 + b_3) - 1)), hm, 0, tn, u_5.1, u_5.2.1, u_5.2.2) hx hb hr hlocks hP hD hK hS dL_act_178 (Or.inr rfl) ⟨rfl, hI.lay (nc := (2 + b_3)) (nr := (1 + b_4)) (by omega) (by omega) (by omega) (by omega), hr_5⟩
  · refine lv_iconst (v := 1) hx hb dL_act_122 (by decide) ?_
    refine W.widen (k := 84) (n := 310) (by omega) (by omega) ?_
    exact eQz (w := lsW cI c2 c3 x a b) (cN, rN, pa, pe, pd, st, bn, hc, hm, lo, tn, v, rw_, ow) hx hb hr hlocks hP hD hK hS dL_act_123 (Or.inr rfl) ⟨rfl, hI, rfl⟩
theorem iw_L_act_X2 : ∀ w ∈ wsX20, w ∈ wsL_act := mem_pos [182, 183, 184, 185, 186, 187] (by decide +kernel)
set_option maxHeartbeats 4000000 in
set_option maxRecDepth 100000 in
theorem ac_put {p : Program} {l : Launch} {e : Env} {s : State} {m : MethodId} {below : List Frame} {meth : Method} {c : Code} {D : va_G} {cI c2 c3 : ClassId} {x : Nat} {a b v rw_ : Nat → Nat} {ow : Nat → Nat → Nat} {args : Array Value} {A : Nat → Prop} {cN rN : Nat} {pa pe pd st bn hc hm : Nat → Int32} {lo tn : Int32} {ls : Array Slot} {xx : Int32} {k j : Nat} (F : AC p l s m meth c D cI c2 c3 args A) (hI : PI cN rN pa pe pd st bn hc hm) (hP : va_P D vwCl (wX x a b ++ wM cI a pa pe st bn hc hm ((nI cN)) ((nI rN)) lo ++ wS cI c2 c3 v rw_ ow cN rN pa pd st bn hc hm lo tn) s.heap) (hD : va_D A (wX x a b ++ wM cI a pa pe st bn hc hm ((nI cN)) ((nI rN)) lo ++ wS cI c2 c3 v rw_ ow cN rN pa pd st bn hc hm lo tn)) (hS : va_S A s.heap s.heap []) (hk : k < rN) (hj : j < cN) (hl : lv_has ls 12 [(6, .int 1), (5, .ref (ow k j)), (4, .int (nI k)), (3, .int (nI j)), (2, .int xx), (1, .ref (v 0)), (0, .ref x)]) : W p l e ({ frames := 9, cells := 84, slots := 310, locals := 156 } : Room) s m args below meth c s.heap [] 0 0 (MQ below (va_Qi (fun (zz : Int32) (u : LQ) => zz = 1 ∧ PIq u ∧ u.2.2.2.2.2.2.2.2.2.2.2.1 0 = v 0) (wB D [(cI, .int), (c2, .array .int), (c3, .array (.array .int))] A (lsW cI c2 c3 x a b)) A) args s 84 310 A) (F0 m 179 ls []) := by
  obtain ⟨hx, hb, hr, hml, hown, hts, hlocks, hK, hN, hG, hX, hZ, hA, htb, hst⟩ := F
  have h2 := hI.c2
  have h9 := hI.c9
  have h1r := hI.r1
  have h8 := hI.r8
  have hkI : ∃ kI : Class, s.vm.classes[cI]? = some kI := by
    obtain ⟨-, kI, i1, compI, i2⟩ := (hK.2 0 _ rfl).1 0 (fun _ => .null)
    exact ⟨kI, i1⟩
  refine lv_aload hx hb dL_act_179 (lv_at hl 1 rfl) ?_
  refine lv_iconst (v := 0) hx hb dL_act_181 (by decide) ?_
  refine sLdI (j := 0) hx hb hK hP 0 rfl (List.mem_append_right _ (sCell_m hk hj)) (by decide) (by decide) dL_act_182 ?_
  refine lv_istore (lv' := [(7, .int (pa (k * cN + j))), (6, .int 1), (5, .ref (ow k j)), (4, .int (nI k)), (3, .int (nI j)), (2, .int xx), (1, .ref (v 0)), (0, .ref x)]) hx hb dL_act_183 hl (by decide) rfl (fun ls hl => ?_)
  refine lv_iload_n hx hb dL_act_185 rfl (lv_at hl 5 rfl) ?_
  refine lv_bipush (v := 8) hx hb dL_act_186 (by decide) ?_
  refine lv_ishr hx hb dL_act_188 ?_
  refine lv_iconst (v := 3) hx hb dL_act_189 (by decide) ?_
  refine kBelow (v := (xx >>> (8 &&& 31))) (n := 3) (by omega) (by omega) ⟨hx, hb, hml, hown, hts⟩ (va_cwS 2 hts gL_act_L_below rfl rfl rfl (by decide +kernel) ⟨Nat.le_of_ble_eq_true rfl, Nat.le_of_ble_eq_true rfl⟩) hK hN hl.1 (Nat.le_of_ble_eq_true rfl) dL_act_190 ⟨Nat.zero_le _, Nat.zero_le _⟩ (fun b_1 hb_1 => ?_)
  refine lv_if_ne (tgt := 200) hx hb dL_act_193 (by decide) (fun c_2 => ?_) (fun c_2 => ?_)
  · refine lv_iload_n hx hb dL_act_200 rfl (lv_at hl 5 rfl) ?_
    refine lv_bipush (v := 9) hx hb dL_act_201 (by decide) ?_
    refine lv_ishr hx hb dL_act_203 ?_
    refine lv_iconst (v := 5) hx hb dL_act_204 (by decide) ?_
    refine kBelow (v := (xx >>> (9 &&& 31))) (n := 5) (by omega) (by omega) ⟨hx, hb, hml, hown, hts⟩ (va_cwS 2 hts gL_act_L_below rfl rfl rfl (by decide +kernel) ⟨Nat.le_of_ble_eq_true rfl, Nat.le_of_ble_eq_true rfl⟩) hK hN hl.1 (Nat.le_of_ble_eq_true rfl) dL_act_205 ⟨Nat.zero_le _, Nat.zero_le _⟩ (fun b_3 hb_3 => ?_)
    refine lv_istore (lv' := [(8, .int (nI b_3)), (7, .int (pa (k * cN + j))), (6, .int 1), (5, .ref (ow k j)), (4, .int (nI k)), (3, .int (nI j)), (2, .int xx), (1, .ref (v 0)), (0, .ref x)]) hx hb dL_act_208 hl (by decide) rfl (fun ls hl => ?_)
    refine lv_aload_n hx hb dL_act_210 rfl (lv_at hl 7 rfl) ?_
    refine va_get (D := D) (ci := 2) (v := .ref (v 4)) (C := RX2) (T := TX2) (N := 6) hx hb hts iw_L_act_X2 hown hK hP 8 rfl rfl 0 (by decide) (hts (.fieldLink RL 21 "MarbleRampsLaw$Sim" "board" "[[[I") (mg 3 rfl)) (fun _ h9 => h9) rfl dL_act_211 ?_
    refine lv_iload hx hb dL_act_214 (lv_at hl 4 rfl) ?_
    refine sLdR (r := k) (g := rw_) hx hb hK hP 2 rfl (List.mem_append_right _ (List.mem_cons_of_mem _ (List.mem_cons_of_mem _ (List.mem_cons_of_mem _ (List.mem_cons_of_mem _ List.mem_cons_self))))) hk (by omega) dL_act_216 ?_
    refine lv_iload_n hx hb dL_act_217 rfl (lv_at hl 5 rfl) ?_
    refine lv_iconst (v := 3) hx hb dL_act_218 (by decide) ?_
    refine newN (n := 3) hx hb (hts (.arrayClass .int) (mg 4 rfl)) hK hP hD hS hA 0 rfl (by decide) (by show _ ≤ 84; omega) (by show _ ≤ 310; omega) dL_act_219 (fun q_4 H hP hD hS => ?_)
    have hP : va_P D vwCl (wX x a b ++ wM cI a pa pe st bn hc hm ((nI cN)) ((nI rN)) lo ++ wS cI c2 c3 v rw_ ow cN rN pa pd st bn hc hm lo tn ++ wA cI q_4 3 ((fun _ => 0))) H := hP
    have hD : va_D A (wX x a b ++ wM cI a pa pe st bn hc hm ((nI cN)) ((nI rN)) lo ++ wS cI c2 c3 v rw_ ow cN rN pa pd st bn hc hm lo tn ++ wA cI q_4 3 ((fun _ => 0))) := hD
    refine lv_dup hx hb dL_act_221 rfl ?_
    refine lv_iconst (v := 0) hx hb dL_act_222 (by decide) ?_
    refine lv_iload hx hb dL_act_223 (lv_at hl 0 rfl) ?_
    refine sStL (j := 0) hx hb hK hP hD hS 0 rfl (by decide) (by decide) dL_act_225 (fun H locs hP hD hS => ?_)
    have hP : va_P D vwCl (wX x a b ++ wM cI a pa pe st bn hc hm ((nI cN)) ((nI rN)) lo ++ wS cI c2 c3 v rw_ ow cN rN pa pd st bn hc hm lo tn ++ wA cI q_4 3 ((upd (fun _ => 0) 0 (nI b_3)))) H := hP
    have hD : va_D A (wX x a b ++ wM cI a pa pe st bn hc hm ((nI cN)) ((nI rN)) lo ++ wS cI c2 c3 v rw_ ow cN rN pa pd st bn hc hm lo tn ++ wA cI q_4 3 ((upd (fun _ => 0) 0 (nI b_3)))) := hD
    refine lv_dup hx hb dL_act_226 rfl ?_
    refine lv_iconst (v := 1) hx hb dL_act_227 (by decide) ?_
    refine lv_iconst (v := 0) hx hb dL_act_228 (by decide) ?_
    refine sStL (j := 1) hx hb hK hP hD hS 0 rfl (by decide) (by decide) dL_act_229 (fun H locs hP hD hS => ?_)
    have hP : va_P D vwCl (wX x a b ++ wM cI a pa pe st bn hc hm ((nI cN)) ((nI rN)) lo ++ wS cI c2 c3 v rw_ ow cN rN pa pd st bn hc hm lo tn ++ wA cI q_4 3 ((upd (upd (fun _ => 0) 0 (nI b_3)) 1 0))) H := hP
    have hD : va_D A (wX x a b ++ wM cI a pa pe st bn hc hm ((nI cN)) ((nI rN)) lo ++ wS cI c2 c3 v rw_ ow cN rN pa pd st bn hc hm lo tn ++ wA cI q_4 3 ((upd (upd (fun _ => 0) 0 (nI b_3)) 1 0))) := hD
    refine lv_dup hx hb dL_act_230 rfl ?_
    refine lv_iconst (v := 2) hx hb dL_act_231 (by decide) ?_
    refine lv_iconst (v := 0) hx hb dL_act_232 (by decide) ?_
    refine sStL (j := 2) hx hb hK hP hD hS 0 rfl (by decide) (by decide) dL_act_233 (fun H locs hP hD hS => ?_)
    have hP : va_P D vwCl (wX x a b ++ wM cI a pa pe st bn hc hm ((nI cN)) ((nI rN)) lo ++ wS cI c2 c3 v rw_ ow cN rN pa pd st bn hc hm lo tn ++ wA cI q_4 3 ((upd (upd (upd (fun _ => 0) 0 (nI b_3)) 1 0) 2 0))) H := hP
    have hD : va_D A (wX x a b ++ wM cI a pa pe st bn hc hm ((nI cN)) ((nI rN)) lo ++ wS cI c2 c3 v rw_ ow cN rN pa pd st bn hc hm lo tn ++ wA cI q_4 3 ((upd (upd (upd (fun _ => 0) 0 (nI b_3)) 1 0) 2 0))) := hD
    rw [t3_new] at hP hD
    refine sStN (X := (wX x a b ++ wM cI a pa pe st bn hc hm ((nI cN)) ((nI rN)) lo)) (r := k) (k := j) hx hb hK hP hD hS hG.1 hkI hk hj (by omega) dL_act_234 (fun H locs hP hD hS => ?_)
    have hP : va_P D vwCl (wX x a b ++ wM cI a pa pe st bn hc hm ((nI cN)) ((nI rN)) lo ++ wS cI c2 c3 v rw_ ((upd2 ow k j q_4)) cN rN ((upd pa (k * cN + j) (nI b_3))) ((upd pd (k * cN + j) 0)) ((upd st (k * cN + j) 0)) bn hc hm lo tn) H := hP
    have hD : va_D A (wX x a b ++ wM cI a pa pe st bn hc hm ((nI cN)) ((nI rN)) lo ++ wS cI c2 c3 v rw_ ((upd2 ow k j q_4)) cN rN ((upd pa (k * cN + j) (nI b_3))) ((upd pd (k * cN + j) 0)) ((upd st (k * cN + j) 0)) bn hc hm lo tn) := hD
    refine lv_aload_n hx hb dL_act_235 rfl (lv_at hl 8 rfl) ?_
    refine lv_iload hx hb dL_act_236 (lv_at hl 4 rfl) ?_
    refine lv_iload_n hx hb dL_act_238 rfl (lv_at hl 5 rfl) ?_
    refine lv_iload hx hb dL_act_239 (lv_at hl 0 rfl) ?_
    refine kPVi (As := [.int (nI k), .int (nI j), .int (nI b_3)]) (rest := []) (Wr := (wS cI c2 c3 v rw_ ((upd2 ow k j q_4)) cN rN ((upd pa (k * cN + j) (nI b_3))) ((upd pd (k * cN + j) 0)) ((upd st (k * cN + j) 0)) bn hc hm lo tn)) (W2 := fun _ : Unit => (wX x a b ++ wM cI a ((xsc 72 pa ((nI k) * (nI cN) + (nI j)) (nI b_3))) ((xsc 72 pe ((nI k) * (nI cN) + (nI j)) (if (nI b_3) = 3 then 2 else 0))) ((xsc 72 st ((nI k) * (nI cN) + (nI j)) 0)) bn hc hm ((nI cN)) ((nI rN)) lo ++ wS cI c2 c3 v rw_ ((upd2 ow k j q_4)) cN rN ((upd pa (k * cN + j) (nI b_3))) ((upd pd (k * cN + j) 0)) ((upd st (k * cN + j) 0)) bn hc hm lo tn)) ⟨hx, hb, hml, hown, hts⟩ (mX1_put l D cI x b a pa pe st bn hc hm (nI cN) (nI rN) lo (nI k) (nI j) (nI b_3) (xhas_k hk (by omega)) (xhas_k hj (by omega)) (show xin (nI b_3) (nI 0) (nI 4) = true from xin_k (by omega) (by omega) (by omega)) _) (cwV 3 hts gL_act_X1_put rfl rfl rfl (by decide +kernel) ⟨Nat.le_of_ble_eq_true rfl, Nat.le_of_ble_eq_true rfl⟩) (preVQ hK hN hP.left hD.left [0] rfl rfl rfl) hP hD hS hA (List.Perm.refl _) (fun _ => List.Perm.refl _) rfl hl.1 rfl (Nat.le_of_ble_eq_true rfl) dL_act_241 ⟨by show _ ≤ 84; omega, by show _ ≤ 310; omega⟩ (fun r_5 u_5 H locs hr_5 hP hD hS => ?_)
    subst r_5
    rw [xsc_pl h9 h8 hk hj, xsc_pl h9 h8 hk hj, xsc_pl h9 h8 hk hj] at hP hD
    have hP : va_P D vwCl (wX x a b ++ wM cI a ((upd pa (k * cN + j) (nI b_3))) ((upd pe (k * cN + j) (if (nI b_3) = 3 then 2 else 0))) ((upd st (k * cN + j) 0)) bn hc hm ((nI cN)) ((nI rN)) lo ++ wS cI c2 c3 v rw_ ((upd2 ow k j q_4)) cN rN ((upd pa (k * cN + j) (nI b_3))) ((upd pd (k * cN + j) 0)) ((upd st (k * cN + j) 0)) bn hc hm lo tn) H := hP
    have hD : va_D A (wX x a b ++ wM cI a ((upd pa (k * cN + j) (nI b_3))) ((upd pe (k * cN + j) (if (nI b_3) = 3 then 2 else 0))) ((upd st (k * cN + j) 0)) bn hc hm ((nI cN)) ((nI rN)) lo ++ wS cI c2 c3 v rw_ ((upd2 ow k j q_4)) cN rN ((upd pa (k * cN + j) (nI b_3))) ((upd pd (k * cN + j) 0)) ((upd st (k * cN + j) 0)) bn hc hm lo tn) := hD
    refine lv_iload hx hb dL_act_244 (lv_at hl 1 rfl) ?_
    refine lv_icmp_ne (tgt := 253) hx hb dL_act_246 (by decide) (fun c9 => absurd (xcl_pl h9 h8 hk hj pa) c9) (fun c_6 => ?_)
    refine lv_iconst (v := 1) hx hb dL_act_249 (by decide) ?_
    refine lv_goto (tgt := 254) hx hb dL_act_250 (by decide) ?_
    refine W.widen (k := 84) (n := 310) (by omega) (by omega) ?_
    exact eQz (w := lsW cI c2 c3 x a b) (cN, rN, (upd pa (k * cN + j) (nI b_3)), (upd pe (k * cN + j) (if (nI b_3) = 3 then 2 else 0)), (upd pd (k * cN + j) 0), (upd st (k * cN + j) 0), bn, hc, hm, lo, tn, v, rw_, (upd2 ow k j q_4)) hx hb hr hlocks hP hD hK hS dL_act_254 (Or.inr rfl) ⟨rfl, hI.set hk hj (ok_put (by omega)), rfl⟩
  · refine lv_iconst (v := 3) hx hb dL_act_196 (by decide) ?_
    refine lv_goto (tgt := 208) hx hb dL_act_197 (by decide) ?_
    refine lv_istore (lv' := [(8, .int 3), (7, .int (pa (k * cN + j))), (6, .int 1), (5, .ref (ow k j)), (4, .int (nI k)), (3, .int (nI j)), (2, .int xx), (1, .ref (v 0)), (0, .ref x)]) hx hb dL_act_208 hl (by decide) rfl (fun ls hl => ?_)
    refine lv_aload_n hx hb dL_act_210 rfl (lv_at hl 7 rfl) ?_
    refine va_get (D := D) (ci := 2) (v := .ref (v 4)) (C := RX2) (T := TX2) (N := 6) hx hb hts iw_L_act_X2 hown hK hP 8 rfl rfl 0 (by decide) (hts (.fieldLink RL 21 "MarbleRampsLaw$Sim" "board" "[[[I") (mg 3 rfl)) (fun _ h9 => h9) rfl dL_act_211 ?_
    refine lv_iload hx hb dL_act_214 (lv_at hl 4 rfl) ?_
    refine sLdR (r := k) (g := rw_) hx hb hK hP 2 rfl (List.mem_append_right _ (List.mem_cons_of_mem _ (List.mem_cons_of_mem _ (List.mem_cons_of_mem _ (List.mem_cons_of_mem _ List.mem_cons_self))))) hk (by omega) dL_act_216 ?_
    refine lv_iload_n hx hb dL_act_217 rfl (lv_at hl 5 rfl) ?_
    refine lv_iconst (v := 3) hx hb dL_act_218 (by decide) ?_
    refine newN (n := 3) hx hb (hts (.arrayClass .int) (mg 4 rfl)) hK hP hD hS hA 0 rfl (by decide) (by show _ ≤ 84; omega) (by show _ ≤ 310; omega) dL_act_219 (fun q_7 H hP hD hS => ?_)
    have hP : va_P D vwCl (wX x a b ++ wM cI a pa pe st bn hc hm ((nI cN)) ((nI rN)) lo ++ wS cI c2 c3 v rw_ ow cN rN pa pd st bn hc hm lo tn ++ wA cI q_7 3 ((fun _ => 0))) H := hP
    have hD : va_D A (wX x a b ++ wM cI a pa pe st bn hc hm ((nI cN)) ((nI rN)) lo ++ wS cI c2 c3 v rw_ ow cN rN pa pd st bn hc hm lo tn ++ wA cI q_7 3 ((fun _ => 0))) := hD
    refine lv_dup hx hb dL_act_221 rfl ?_
    refine lv_iconst (v := 0) hx hb dL_act_222 (by decide) ?_
    refine lv_iload hx hb dL_act_223 (lv_at hl 0 rfl) ?_
    refine sStL (j := 0) hx hb hK hP hD hS 0 rfl (by decide) (by decide) dL_act_225 (fun H locs hP hD hS => ?_)
    have hP : va_P D vwCl (wX x a b ++ wM cI a pa pe st bn hc hm ((nI cN)) ((nI rN)) lo ++ wS cI c2 c3 v rw_ ow cN rN pa pd st bn hc hm lo tn ++ wA cI q_7 3 ((upd (fun _ => 0) 0 3))) H := hP
    have hD : va_D A (wX x a b ++ wM cI a pa pe st bn hc hm ((nI cN)) ((nI rN)) lo ++ wS cI c2 c3 v rw_ ow cN rN pa pd st bn hc hm lo tn ++ wA cI q_7 3 ((upd (fun _ => 0) 0 3))) := hD
    refine lv_dup hx hb dL_act_226 rfl ?_
    refine lv_iconst (v := 1) hx hb dL_act_227 (by decide) ?_
    refine lv_iconst (v := 0) hx hb dL_act_228 (by decide) ?_
    refine sStL (j := 1) hx hb hK hP hD hS 0 rfl (by decide) (by decide) dL_act_229 (fun H locs hP hD hS => ?_)
    have hP : va_P D vwCl (wX x a b ++ wM cI a pa pe st bn hc hm ((nI cN)) ((nI rN)) lo ++ wS cI c2 c3 v rw_ ow cN rN pa pd st bn hc hm lo tn ++ wA cI q_7 3 ((upd (upd (fun _ => 0) 0 3) 1 0))) H := hP
    have hD : va_D A (wX x a b ++ wM cI a pa pe st bn hc hm ((nI cN)) ((nI rN)) lo ++ wS cI c2 c3 v rw_ ow cN rN pa pd st bn hc hm lo tn ++ wA cI q_7 3 ((upd (upd (fun _ => 0) 0 3) 1 0))) := hD
    refine lv_dup hx hb dL_act_230 rfl ?_
    refine lv_iconst (v := 2) hx hb dL_act_231 (by decide) ?_
    refine lv_iconst (v := 0) hx hb dL_act_232 (by decide) ?_
    refine sStL (j := 2) hx hb hK hP hD hS 0 rfl (by decide) (by decide) dL_act_233 (fun H locs hP hD hS => ?_)
    have hP : va_P D vwCl (wX x a b ++ wM cI a pa pe st bn hc hm ((nI cN)) ((nI rN)) lo ++ wS cI c2 c3 v rw_ ow cN rN pa pd st bn hc hm lo tn ++ wA cI q_7 3 ((upd (upd (upd (fun _ => 0) 0 3) 1 0) 2 0))) H := hP
    have hD : va_D A (wX x a b ++ wM cI a pa pe st bn hc hm ((nI cN)) ((nI rN)) lo ++ wS cI c2 c3 v rw_ ow cN rN pa pd st bn hc hm lo tn ++ wA cI q_7 3 ((upd (upd (upd (fun _ => 0) 0 3) 1 0) 2 0))) := hD
    rw [t3_new] at hP hD
    refine sStN (X := (wX x a b ++ wM cI a pa pe st bn hc hm ((nI cN)) ((nI rN)) lo)) (r := k) (k := j) hx hb hK hP hD hS hG.1 hkI hk hj (by omega) dL_act_234 (fun H locs hP hD hS => ?_)
    have hP : va_P D vwCl (wX x a b ++ wM cI a pa pe st bn hc hm ((nI cN)) ((nI rN)) lo ++ wS cI c2 c3 v rw_ ((upd2 ow k j q_7)) cN rN ((upd pa (k * cN + j) 3)) ((upd pd (k * cN + j) 0)) ((upd st (k * cN + j) 0)) bn hc hm lo tn) H := hP
    have hD : va_D A (wX x a b ++ wM cI a pa pe st bn hc hm ((nI cN)) ((nI rN)) lo ++ wS cI c2 c3 v rw_ ((upd2 ow k j q_7)) cN rN ((upd pa (k * cN + j) 3)) ((upd pd (k * cN + j) 0)) ((upd st (k * cN + j) 0)) bn hc hm lo tn) := hD
    refine lv_aload_n hx hb dL_act_235 rfl (lv_at hl 8 rfl) ?_
    refine lv_iload hx hb dL_act_236 (lv_at hl 4 rfl) ?_
    refine lv_iload_n hx hb dL_act_238 rfl (lv_at hl 5 rfl) ?_
    refine lv_iload hx hb dL_act_239 (lv_at hl 0 rfl) ?_
    refine kPVi (As := [.int (nI k), .int (nI j), .int 3]) (rest := []) (Wr := (wS cI c2 c3 v rw_ ((upd2 ow k j q_7)) cN rN ((upd pa (k * cN + j) 3)) ((upd pd (k * cN + j) 0)) ((upd st (k * cN + j) 0)) bn hc hm lo tn)) (W2 := fun _ : Unit => (wX x a b ++ wM cI a ((xsc 72 pa ((nI k) * (nI cN) + (nI j)) 3)) ((xsc 72 pe ((nI k) * (nI cN) + (nI j)) (if 3 = 3 then 2 else 0))) ((xsc 72 st ((nI k) * (nI cN) + (nI j)) 0)) bn hc hm ((nI cN)) ((nI rN)) lo ++ wS cI c2 c3 v rw_ ((upd2 ow k j q_7)) cN rN ((upd pa (k * cN + j) 3)) ((upd pd (k * cN + j) 0)) ((upd st (k * cN + j) 0)) bn hc hm lo tn)) ⟨hx, hb, hml, hown, hts⟩ (mX1_put l D cI x b a pa pe st bn hc hm (nI cN) (nI rN) lo (nI k) (nI j) 3 (xhas_k hk (by omega)) (xhas_k hj (by omega)) (by decide) _) (cwV 3 hts gL_act_X1_put rfl rfl rfl (by decide +kernel) ⟨Nat.le_of_ble_eq_true rfl, Nat.le_of_ble_eq_true rfl⟩) (preVQ hK hN hP.left hD.left [0] rfl rfl rfl) hP hD hS hA (List.Perm.refl _) (fun _ => List.Perm.refl _) rfl hl.1 rfl (Nat.le_of_ble_eq_true rfl) dL_act_241 ⟨by show _ ≤ 84; omega, by show _ ≤ 310; omega⟩ (fun r_8 u_8 H locs hr_8 hP hD hS => ?_)
    subst r_8
    rw [xsc_pl h9 h8 hk hj, xsc_pl h9 h8 hk hj, xsc_pl h9 h8 hk hj] at hP hD
    have hP : va_P D vwCl (wX x a b ++ wM cI a ((upd pa (k * cN + j) 3)) ((upd pe (k * cN + j) (if 3 = 3 then 2 else 0))) ((upd st (k * cN + j) 0)) bn hc hm ((nI cN)) ((nI rN)) lo ++ wS cI c2 c3 v rw_ ((upd2 ow k j q_7)) cN rN ((upd pa (k * cN + j) 3)) ((upd pd (k * cN + j) 0)) ((upd st (k * cN + j) 0)) bn hc hm lo tn) H := hP
    have hD : va_D A (wX x a b ++ wM cI a ((upd pa (k * cN + j) 3)) ((upd pe (k * cN + j) (if 3 = 3 then 2 else 0))) ((upd st (k * cN + j) 0)) bn hc hm ((nI cN)) ((nI rN)) lo ++ wS cI c2 c3 v rw_ ((upd2 ow k j q_7)) cN rN ((upd pa (k * cN + j) 3)) ((upd pd (k * cN + j) 0)) ((upd st (k * cN + j) 0)) bn hc hm lo tn) := hD
    refine lv_iload hx hb dL_act_244 (lv_at hl 1 rfl) ?_
    refine lv_icmp_ne (tgt := 253) hx hb dL_act_246 (by decide) (fun c9 => absurd (xcl_pl h9 h8 hk hj pa) c9) (fun c_9 => ?_)
    refine lv_iconst (v := 1) hx hb dL_act_249 (by decide) ?_
    refine lv_goto (tgt := 254) hx hb dL_act_250 (by decide) ?_
    refine W.widen (k := 84) (n := 310) (by omega) (by omega) ?_
    exact eQz (w := lsW cI c2 c3 x a b) (cN, rN, (upd pa (k * cN + j) 3), (upd pe (k * cN + j) (if 3 = 3 then 2 else 0)), (upd pd (k * cN + j) 0), (upd st (k * cN + j) 0), bn, hc, hm, lo, tn, v, rw_, (upd2 ow k j q_7)) hx hb hr hlocks hP hD hK hS dL_act_254 (Or.inr rfl) ⟨rfl, hI.set hk hj (ok_put (i := 3) (by decide)), rfl⟩
set_option maxHeartbeats 4000000 in
set_option maxRecDepth 100000 in
theorem ac_cnt {p : Program} {l : Launch} {e : Env} {s : State} {m : MethodId} {below : List Frame} {meth : Method} {c : Code} {D : va_G} {cI c2 c3 : ClassId} {x : Nat} {a b v rw_ : Nat → Nat} {ow : Nat → Nat → Nat} {args : Array Value} {A : Nat → Prop} {cN rN : Nat} {pa pe pd st bn hc hm : Nat → Int32} {lo tn : Int32} {ls : Array Slot} {xx : Int32} {k j : Nat} (F : AC p l s m meth c D cI c2 c3 args A) (hI : PI cN rN pa pe pd st bn hc hm) (hP : va_P D vwCl (wX x a b ++ wM cI a pa pe st bn hc hm ((nI cN)) ((nI rN)) lo ++ wS cI c2 c3 v rw_ ow cN rN pa pd st bn hc hm lo tn) s.heap) (hD : va_D A (wX x a b ++ wM cI a pa pe st bn hc hm ((nI cN)) ((nI rN)) lo ++ wS cI c2 c3 v rw_ ow cN rN pa pd st bn hc hm lo tn)) (hS : va_S A s.heap s.heap []) (hk : k < rN) (hj : j < cN) (hl : lv_has ls 12 [(6, .int 1), (5, .ref (ow k j)), (4, .int (nI k)), (3, .int (nI j)), (2, .int xx), (1, .ref (v 0)), (0, .ref x)]) : W p l e ({ frames := 9, cells := 84, slots := 310, locals := 156 } : Room) s m args below meth c s.heap [] 0 0 (MQ below (va_Qi (fun (zz : Int32) (u : LQ) => zz = 1 ∧ PIq u ∧ u.2.2.2.2.2.2.2.2.2.2.2.1 0 = v 0) (wB D [(cI, .int), (c2, .array .int), (c3, .array (.array .int))] A (lsW cI c2 c3 x a b)) A) args s 84 310 A) (F0 m 255 ls []) := by
  obtain ⟨hx, hb, hr, hml, hown, hts, hlocks, hK, hN, hG, hX, hZ, hA, htb, hst⟩ := F
  have h2 := hI.c2
  have h9 := hI.c9
  have h1r := hI.r1
  have h8 := hI.r8
  have hkI : ∃ kI : Class, s.vm.classes[cI]? = some kI := by
    obtain ⟨-, kI, i1, compI, i2⟩ := (hK.2 0 _ rfl).1 0 (fun _ => .null)
    exact ⟨kI, i1⟩
  refine lv_aload hx hb dL_act_255 (lv_at hl 1 rfl) ?_
  refine lv_iconst (v := 0) hx hb dL_act_257 (by decide) ?_
  refine sLdI (j := 0) hx hb hK hP 0 rfl (List.mem_append_right _ (sCell_m hk hj)) (by decide) (by decide) dL_act_258 ?_
  refine lv_istore (lv' := [(7, .int (pa (k * cN + j))), (6, .int 1), (5, .ref (ow k j)), (4, .int (nI k)), (3, .int (nI j)), (2, .int xx), (1, .ref (v 0)), (0, .ref x)]) hx hb dL_act_259 hl (by decide) rfl (fun ls hl => ?_)
  refine lv_iconst (v := 2) hx hb dL_act_261 (by decide) ?_
  refine lv_iload_n hx hb dL_act_262 rfl (lv_at hl 5 rfl) ?_
  refine lv_bipush (v := 9) hx hb dL_act_263 (by decide) ?_
  refine lv_ishr hx hb dL_act_265 ?_
  refine lv_bipush (v := 8) hx hb dL_act_266 (by decide) ?_
  refine kBelow (v := (xx >>> (9 &&& 31))) (n := 8) (by omega) (by omega) ⟨hx, hb, hml, hown, hts⟩ (va_cwS 2 hts gL_act_L_below rfl rfl rfl (by decide +kernel) ⟨Nat.le_of_ble_eq_true rfl, Nat.le_of_ble_eq_true rfl⟩) hK hN hl.1 (Nat.le_of_ble_eq_true rfl) dL_act_268 ⟨Nat.zero_le _, Nat.zero_le _⟩ (fun b_1 hb_1 => ?_)
  refine lv_iadd hx hb dL_act_271 ?_
  rw [show (2 : Int32) + nI b_1 = nI (2 + b_1) from nI_add 2 b_1]
  refine lv_istore (lv' := [(8, .int (nI (2 + b_1))), (7, .int (pa (k * cN + j))), (6, .int 1), (5, .ref (ow k j)), (4, .int (nI k)), (3, .int (nI j)), (2, .int xx), (1, .ref (v 0)), (0, .ref x)]) hx hb dL_act_272 hl (by decide) rfl (fun ls hl => ?_)
  refine lv_aload_n hx hb dL_act_274 rfl (lv_at hl 7 rfl) ?_
  refine va_get (D := D) (ci := 2) (v := .ref (v 4)) (C := RX2) (T := TX2) (N := 6) hx hb hts iw_L_act_X2 hown hK hP 8 rfl rfl 0 (by decide) (hts (.fieldLink RL 21 "MarbleRampsLaw$Sim" "board" "[[[I") (mg 3 rfl)) (fun _ h9 => h9) rfl dL_act_275 ?_
  refine lv_iload hx hb dL_act_278 (lv_at hl 4 rfl) ?_
  refine sLdR (r := k) (g := rw_) hx hb hK hP 2 rfl (List.mem_append_right _ (List.mem_cons_of_mem _ (List.mem_cons_of_mem _ (List.mem_cons_of_mem _ (List.mem_cons_of_mem _ List.mem_cons_self))))) hk (by omega) dL_act_280 ?_
  refine lv_iload_n hx hb dL_act_281 rfl (lv_at hl 5 rfl) ?_
  refine lv_iconst (v := 3) hx hb dL_act_282 (by decide) ?_
  refine newN (n := 3) hx hb (hts (.arrayClass .int) (mg 4 rfl)) hK hP hD hS hA 0 rfl (by decide) (by show _ ≤ 84; omega) (by show _ ≤ 310; omega) dL_act_283 (fun q_2 H hP hD hS => ?_)
  have hP : va_P D vwCl (wX x a b ++ wM cI a pa pe st bn hc hm ((nI cN)) ((nI rN)) lo ++ wS cI c2 c3 v rw_ ow cN rN pa pd st bn hc hm lo tn ++ wA cI q_2 3 ((fun _ => 0))) H := hP
  have hD : va_D A (wX x a b ++ wM cI a pa pe st bn hc hm ((nI cN)) ((nI rN)) lo ++ wS cI c2 c3 v rw_ ow cN rN pa pd st bn hc hm lo tn ++ wA cI q_2 3 ((fun _ => 0))) := hD
  refine lv_dup hx hb dL_act_285 rfl ?_
  refine lv_iconst (v := 0) hx hb dL_act_286 (by decide) ?_
  refine lv_iconst (v := 5) hx hb dL_act_287 (by decide) ?_
  refine sStL (j := 0) hx hb hK hP hD hS 0 rfl (by decide) (by decide) dL_act_288 (fun H locs hP hD hS => ?_)
  have hP : va_P D vwCl (wX x a b ++ wM cI a pa pe st bn hc hm ((nI cN)) ((nI rN)) lo ++ wS cI c2 c3 v rw_ ow cN rN pa pd st bn hc hm lo tn ++ wA cI q_2 3 ((upd (fun _ => 0) 0 5))) H := hP
  have hD : va_D A (wX x a b ++ wM cI a pa pe st bn hc hm ((nI cN)) ((nI rN)) lo ++ wS cI c2 c3 v rw_ ow cN rN pa pd st bn hc hm lo tn ++ wA cI q_2 3 ((upd (fun _ => 0) 0 5))) := hD
  refine lv_dup hx hb dL_act_289 rfl ?_
  refine lv_iconst (v := 1) hx hb dL_act_290 (by decide) ?_
  refine lv_iload hx hb dL_act_291 (lv_at hl 0 rfl) ?_
  refine sStL (j := 1) hx hb hK hP hD hS 0 rfl (by decide) (by decide) dL_act_293 (fun H locs hP hD hS => ?_)
  have hP : va_P D vwCl (wX x a b ++ wM cI a pa pe st bn hc hm ((nI cN)) ((nI rN)) lo ++ wS cI c2 c3 v rw_ ow cN rN pa pd st bn hc hm lo tn ++ wA cI q_2 3 ((upd (upd (fun _ => 0) 0 5) 1 (nI (2 + b_1))))) H := hP
  have hD : va_D A (wX x a b ++ wM cI a pa pe st bn hc hm ((nI cN)) ((nI rN)) lo ++ wS cI c2 c3 v rw_ ow cN rN pa pd st bn hc hm lo tn ++ wA cI q_2 3 ((upd (upd (fun _ => 0) 0 5) 1 (nI (2 + b_1))))) := hD
  refine lv_dup hx hb dL_act_294 rfl ?_
  refine lv_iconst (v := 2) hx hb dL_act_295 (by decide) ?_
  refine lv_iconst (v := 0) hx hb dL_act_296 (by decide) ?_
  refine sStL (j := 2) hx hb hK hP hD hS 0 rfl (by decide) (by decide) dL_act_297 (fun H locs hP hD hS => ?_)
  have hP : va_P D vwCl (wX x a b ++ wM cI a pa pe st bn hc hm ((nI cN)) ((nI rN)) lo ++ wS cI c2 c3 v rw_ ow cN rN pa pd st bn hc hm lo tn ++ wA cI q_2 3 ((upd (upd (upd (fun _ => 0) 0 5) 1 (nI (2 + b_1))) 2 0))) H := hP
  have hD : va_D A (wX x a b ++ wM cI a pa pe st bn hc hm ((nI cN)) ((nI rN)) lo ++ wS cI c2 c3 v rw_ ow cN rN pa pd st bn hc hm lo tn ++ wA cI q_2 3 ((upd (upd (upd (fun _ => 0) 0 5) 1 (nI (2 + b_1))) 2 0))) := hD
  rw [t3_new] at hP hD
  refine sStN (X := (wX x a b ++ wM cI a pa pe st bn hc hm ((nI cN)) ((nI rN)) lo)) (r := k) (k := j) hx hb hK hP hD hS hG.1 hkI hk hj (by omega) dL_act_298 (fun H locs hP hD hS => ?_)
  have hP : va_P D vwCl (wX x a b ++ wM cI a pa pe st bn hc hm ((nI cN)) ((nI rN)) lo ++ wS cI c2 c3 v rw_ ((upd2 ow k j q_2)) cN rN ((upd pa (k * cN + j) 5)) ((upd pd (k * cN + j) (nI (2 + b_1)))) ((upd st (k * cN + j) 0)) bn hc hm lo tn) H := hP
  have hD : va_D A (wX x a b ++ wM cI a pa pe st bn hc hm ((nI cN)) ((nI rN)) lo ++ wS cI c2 c3 v rw_ ((upd2 ow k j q_2)) cN rN ((upd pa (k * cN + j) 5)) ((upd pd (k * cN + j) (nI (2 + b_1)))) ((upd st (k * cN + j) 0)) bn hc hm lo tn) := hD
  refine lv_aload_n hx hb dL_act_299 rfl (lv_at hl 8 rfl) ?_
  refine lv_iload hx hb dL_act_300 (lv_at hl 4 rfl) ?_
  refine lv_iload_n hx hb dL_act_302 rfl (lv_at hl 5 rfl) ?_
  refine lv_iload hx hb dL_act_303 (lv_at hl 0 rfl) ?_
  refine kPVi (As := [.int (nI k), .int (nI j), .int (nI (2 + b_1))]) (rest := []) (Wr := (wS cI c2 c3 v rw_ ((upd2 ow k j q_2)) cN rN ((upd pa (k * cN + j) 5)) ((upd pd (k * cN + j) (nI (2 + b_1)))) ((upd st (k * cN + j) 0)) bn hc hm lo tn)) (W2 := fun _ : Unit => (wX x a b ++ wM cI a ((xsc 72 pa ((nI k) * (nI cN) + (nI j)) 5)) ((xsc 72 pe ((nI k) * (nI cN) + (nI j)) (nI (2 + b_1)))) ((xsc 72 st ((nI k) * (nI cN) + (nI j)) 0)) bn hc hm ((nI cN)) ((nI rN)) lo ++ wS cI c2 c3 v rw_ ((upd2 ow k j q_2)) cN rN ((upd pa (k * cN + j) 5)) ((upd pd (k * cN + j) (nI (2 + b_1)))) ((upd st (k * cN + j) 0)) bn hc hm lo tn)) ⟨hx, hb, hml, hown, hts⟩ (mX1_putCounter l D cI x b a pa pe st bn hc hm (nI cN) (nI rN) lo (nI k) (nI j) (nI (2 + b_1)) (xhas_k hk (by omega)) (xhas_k hj (by omega)) (show xin (nI (2 + b_1)) (nI 2) (nI 9) = true from xin_k (by omega) (by omega) (by omega)) _) (cwV 3 hts gL_act_X1_putCounter rfl rfl rfl (by decide +kernel) ⟨Nat.le_of_ble_eq_true rfl, Nat.le_of_ble_eq_true rfl⟩) (preVQ hK hN hP.left hD.left [0] rfl rfl rfl) hP hD hS hA (List.Perm.refl _) (fun _ => List.Perm.refl _) rfl hl.1 rfl (Nat.le_of_ble_eq_true rfl) dL_act_305 ⟨by show _ ≤ 84; omega, by show _ ≤ 310; omega⟩ (fun r_3 u_3 H locs hr_3 hP hD hS => ?_)
  subst r_3
  rw [xsc_pl h9 h8 hk hj, xsc_pl h9 h8 hk hj, xsc_pl h9 h8 hk hj] at hP hD
  have hP : va_P D vwCl (wX x a b ++ wM cI a ((upd pa (k * cN + j) 5)) ((upd pe (k * cN + j) (nI (2 + b_1)))) ((upd st (k * cN + j) 0)) bn hc hm ((nI cN)) ((nI rN)) lo ++ wS cI c2 c3 v rw_ ((upd2 ow k j q_2)) cN rN ((upd pa (k * cN + j) 5)) ((upd pd (k * cN + j) (nI (2 + b_1)))) ((upd st (k * cN + j) 0)) bn hc hm lo tn) H := hP
  have hD : va_D A (wX x a b ++ wM cI a ((upd pa (k * cN + j) 5)) ((upd pe (k * cN + j) (nI (2 + b_1)))) ((upd st (k * cN + j) 0)) bn hc hm ((nI cN)) ((nI rN)) lo ++ wS cI c2 c3 v rw_ ((upd2 ow k j q_2)) cN rN ((upd pa (k * cN + j) 5)) ((upd pd (k * cN + j) (nI (2 + b_1)))) ((upd st (k * cN + j) 0)) bn hc hm lo tn) := hD
  refine lv_iload hx hb dL_act_308 (lv_at hl 1 rfl) ?_
  refine lv_icmp_ne (tgt := 317) hx hb dL_act_310 (by decide) (fun c9 => absurd (xcl_pl h9 h8 hk hj pa) c9) (fun c_4 => ?_)
  refine lv_iconst (v := 1) hx hb dL_act_313 (by decide) ?_
  refine lv_goto (tgt := 318) hx hb dL_act_314 (by decide) ?_
  refine W.widen (k := 84) (n := 310) (by omega) (by omega) ?_
  exact eQz (w := lsW cI c2 c3 x a b) (cN, rN, (upd pa (k * cN + j) 5), (upd pe (k * cN + j) (nI (2 + b_1))), (upd pd (k * cN + j) (nI (2 + b_1))), (upd st (k * cN + j) 0), bn, hc, hm, lo, tn, v, rw_, (upd2 ow k j q_2)) hx hb hr hlocks hP hD hK hS dL_act_318 (Or.inr rfl) ⟨rfl, hI.set hk hj (ok_cnt (by omega) (by omega)), rfl⟩
set_option maxHeartbeats 4000000 in
set_option maxRecDepth 100000 in
theorem ac_turn0 {p : Program} {l : Launch} {e : Env} {s : State} {m : MethodId} {below : List Frame} {meth : Method} {c : Code} {D : va_G} {cI c2 c3 : ClassId} {x : Nat} {a b v rw_ : Nat → Nat} {ow : Nat → Nat → Nat} {args : Array Value} {A : Nat → Prop} {cN rN : Nat} {pa pe pd st bn hc hm : Nat → Int32} {lo tn : Int32} {ls : Array Slot} {xx : Int32} {k j : Nat} (F : AC p l s m meth c D cI c2 c3 args A) (hI : PI cN rN pa pe pd st bn hc hm) (hP : va_P D vwCl (wX x a b ++ wM cI a pa pe st bn hc hm ((nI cN)) ((nI rN)) lo ++ wS cI c2 c3 v rw_ ow cN rN pa pd st bn hc hm lo tn) s.heap) (hD : va_D A (wX x a b ++ wM cI a pa pe st bn hc hm ((nI cN)) ((nI rN)) lo ++ wS cI c2 c3 v rw_ ow cN rN pa pd st bn hc hm lo tn)) (hS : va_S A s.heap s.heap []) (hk : k < rN) (hj : j < cN) (e0 : pa (k * cN + j) = 3) (e2 : st (k * cN + j) = 0) (hl : lv_has ls 12 [(6, .int 1), (5, .ref (ow k j)), (4, .int (nI k)), (3, .int (nI j)), (2, .int xx), (1, .ref (v 0)), (0, .ref x)]) : W p l e ({ frames := 9, cells := 84, slots := 310, locals := 156 } : Room) s m args below meth c s.heap [] 0 0 (MQ below (va_Qi (fun (zz : Int32) (u : LQ) => zz = 1 ∧ PIq u ∧ u.2.2.2.2.2.2.2.2.2.2.2.1 0 = v 0) (wB D [(cI, .int), (c2, .array .int), (c3, .array (.array .int))] A (lsW cI c2 c3 x a b)) A) args s 84 310 A) (F0 m 319 ls []) := by
  obtain ⟨hx, hb, hr, hml, hown, hts, hlocks, hK, hN, hG, hX, hZ, hA, htb, hst⟩ := F
  have h2 := hI.c2
  have h9 := hI.c9
  have h1r := hI.r1
  have h8 := hI.r8
  refine lv_aload hx hb dL_act_319 (lv_at hl 1 rfl) ?_
  refine lv_iconst (v := 0) hx hb dL_act_321 (by decide) ?_
  refine sLdI (j := 0) hx hb hK hP 0 rfl (List.mem_append_right _ (sCell_m hk hj)) (by decide) (by decide) dL_act_322 ?_
  rw [show t3 (pa (k * cN + j)) (pd (k * cN + j)) (st (k * cN + j)) 0 = 3 from e0]
  refine lv_iconst (v := 3) hx hb dL_act_323 (by decide) ?_
  refine lv_icmp_ne (tgt := 331) hx hb dL_act_324 (by decide) (fun c9 => absurd (by decide) c9) (fun _ => ?_)
  refine lv_iconst (v := 1) hx hb dL_act_327 (by decide) ?_
  refine lv_goto (tgt := 332) hx hb dL_act_328 (by decide) ?_
  refine lv_istore (lv' := [(6, .int 1), (5, .ref (ow k j)), (4, .int (nI k)), (3, .int (nI j)), (2, .int xx), (1, .ref (v 0)), (0, .ref x)]) hx hb dL_act_332 hl (by decide) rfl (fun ls hl => ?_)
  refine lv_iload hx hb dL_act_334 (lv_at hl 0 rfl) ?_
  refine lv_if_eq (tgt := 349) hx hb dL_act_336 (by decide) (fun c9 => absurd c9 (by decide)) (fun _ => ?_)
  refine lv_aload hx hb dL_act_339 (lv_at hl 1 rfl) ?_
  refine lv_iconst (v := 2) hx hb dL_act_341 (by decide) ?_
  refine lv_iconst (v := 1) hx hb dL_act_342 (by decide) ?_
  refine lv_aload hx hb dL_act_343 (lv_at hl 1 rfl) ?_
  refine lv_iconst (v := 2) hx hb dL_act_345 (by decide) ?_
  refine sLdI (j := 2) hx hb hK hP 0 rfl (List.mem_append_right _ (sCell_m hk hj)) (by decide) (by decide) dL_act_346 ?_
  rw [show t3 (pa (k * cN + j)) (pd (k * cN + j)) (st (k * cN + j)) 2 = 0 from e2]
  refine lv_isub hx hb dL_act_347 ?_
  rw [show (1 : Int32) - 0 = 1 from by decide]
  refine sSt2 (X := (wX x a b ++ wM cI a pa pe st bn hc hm ((nI cN)) ((nI rN)) lo)) (r := k) (k := j) (x := 1) hx hb hK hP hD hS 0 rfl hk hj dL_act_348 (fun H locs hP hD hS => ?_)
  have hP : va_P D vwCl (wX x a b ++ wM cI a pa pe st bn hc hm ((nI cN)) ((nI rN)) lo ++ wS cI c2 c3 v rw_ ow cN rN pa pd ((upd st (k * cN + j) 1)) bn hc hm lo tn) H := hP
  have hD : va_D A (wX x a b ++ wM cI a pa pe st bn hc hm ((nI cN)) ((nI rN)) lo ++ wS cI c2 c3 v rw_ ow cN rN pa pd ((upd st (k * cN + j) 1)) bn hc hm lo tn) := hD
  refine lv_aload_n hx hb dL_act_349 rfl (lv_at hl 6 rfl) ?_
  refine lv_iload hx hb dL_act_350 (lv_at hl 2 rfl) ?_
  refine lv_iload_n hx hb dL_act_352 rfl (lv_at hl 3 rfl) ?_
  refine kPVi (As := [.int (nI k), .int (nI j)]) (rest := []) (Wr := (wS cI c2 c3 v rw_ ow cN rN pa pd ((upd st (k * cN + j) 1)) bn hc hm lo tn)) (W2 := fun _ : Unit => (wX x a b ++ wM cI a pa pe ((xsc 72 st ((nI k) * (nI cN) + (nI j)) (if xRight pa st ((nI k) * (nI cN) + (nI j)) = true then 0 else 1))) bn hc hm ((nI cN)) ((nI rN)) lo ++ wS cI c2 c3 v rw_ ow cN rN pa pd ((upd st (k * cN + j) 1)) bn hc hm lo tn)) ⟨hx, hb, hml, hown, hts⟩ (mX1_turn l D cI x b a pa pe st bn hc hm (nI cN) (nI rN) lo (nI k) (nI j) (xhas_k hk (by omega)) (xhas_k hj (by omega)) (by rw [xcl_pl h9 h8 hk hj]; exact e0) _) (cwV 2 hts gL_act_X1_turn rfl rfl rfl (by decide +kernel) ⟨Nat.le_of_ble_eq_true rfl, Nat.le_of_ble_eq_true rfl⟩) (preVQ hK hN hP.left hD.left [0] rfl rfl rfl) hP hD hS hA (List.Perm.refl _) (fun _ => List.Perm.refl _) rfl hl.1 rfl (Nat.le_of_ble_eq_true rfl) dL_act_353 ⟨by show _ ≤ 84; omega, by show _ ≤ 310; omega⟩ (fun r_3 u_3 H locs hr_3 hP hD hS => ?_)
  rw [turn_0 h9 h8 hk hj e0 e2, turnR_0 h9 h8 hk hj e0] at hr_3
  rw [turn_0 h9 h8 hk hj e0 e2] at hP hD
  subst r_3
  have hP : va_P D vwCl (wX x a b ++ wM cI a pa pe ((upd st (k * cN + j) 1)) bn hc hm ((nI cN)) ((nI rN)) lo ++ wS cI c2 c3 v rw_ ow cN rN pa pd ((upd st (k * cN + j) 1)) bn hc hm lo tn) H := hP
  have hD : va_D A (wX x a b ++ wM cI a pa pe ((upd st (k * cN + j) 1)) bn hc hm ((nI cN)) ((nI rN)) lo ++ wS cI c2 c3 v rw_ ow cN rN pa pd ((upd st (k * cN + j) 1)) bn hc hm lo tn) := hD
  refine lv_aload hx hb dL_act_356 (lv_at hl 1 rfl) ?_
  refine lv_iconst (v := 2) hx hb dL_act_358 (by decide) ?_
  refine sLdI (j := 2) hx hb hK hP 0 rfl (List.mem_append_right _ (sCell_m hk hj)) (by decide) (by decide) dL_act_359 ?_
  rw [show t3 (pa (k * cN + j)) (pd (k * cN + j)) ((upd st (k * cN + j) 1) (k * cN + j)) 2 = 1 from pk_us]
  refine lv_iconst (v := 1) hx hb dL_act_360 (by decide) ?_
  refine lv_icmp_ne (tgt := 368) hx hb dL_act_361 (by decide) (fun c9 => absurd (by decide) c9) (fun _ => ?_)
  refine lv_iconst (v := 1) hx hb dL_act_364 (by decide) ?_
  refine lv_goto (tgt := 369) hx hb dL_act_365 (by decide) ?_
  refine lv_icmp_ne (tgt := 381) hx hb dL_act_369 (by decide) (fun c9 => absurd (by decide) c9) (fun _ => ?_)
  refine lv_iload hx hb dL_act_372 (lv_at hl 0 rfl) ?_
  refine lv_if_eq (tgt := 381) hx hb dL_act_374 (by decide) (fun c9 => absurd c9 (by decide)) (fun _ => ?_)
  refine lv_iconst (v := 1) hx hb dL_act_377 (by decide) ?_
  refine lv_goto (tgt := 382) hx hb dL_act_378 (by decide) ?_
  refine W.widen (k := 84) (n := 310) (by omega) (by omega) ?_
  exact eQz (w := lsW cI c2 c3 x a b) (cN, rN, pa, pe, pd, (upd st (k * cN + j) 1), bn, hc, hm, lo, tn, v, rw_, ow) hx hb hr hlocks hP hD hK hS dL_act_382 (Or.inr rfl) ⟨rfl, hI.turn hk hj e0 (Or.inr rfl), rfl⟩
set_option maxHeartbeats 4000000 in
set_option maxRecDepth 100000 in
theorem ac_turn1 {p : Program} {l : Launch} {e : Env} {s : State} {m : MethodId} {below : List Frame} {meth : Method} {c : Code} {D : va_G} {cI c2 c3 : ClassId} {x : Nat} {a b v rw_ : Nat → Nat} {ow : Nat → Nat → Nat} {args : Array Value} {A : Nat → Prop} {cN rN : Nat} {pa pe pd st bn hc hm : Nat → Int32} {lo tn : Int32} {ls : Array Slot} {xx : Int32} {k j : Nat} (F : AC p l s m meth c D cI c2 c3 args A) (hI : PI cN rN pa pe pd st bn hc hm) (hP : va_P D vwCl (wX x a b ++ wM cI a pa pe st bn hc hm ((nI cN)) ((nI rN)) lo ++ wS cI c2 c3 v rw_ ow cN rN pa pd st bn hc hm lo tn) s.heap) (hD : va_D A (wX x a b ++ wM cI a pa pe st bn hc hm ((nI cN)) ((nI rN)) lo ++ wS cI c2 c3 v rw_ ow cN rN pa pd st bn hc hm lo tn)) (hS : va_S A s.heap s.heap []) (hk : k < rN) (hj : j < cN) (e0 : pa (k * cN + j) = 3) (e2 : st (k * cN + j) = 1) (hl : lv_has ls 12 [(6, .int 1), (5, .ref (ow k j)), (4, .int (nI k)), (3, .int (nI j)), (2, .int xx), (1, .ref (v 0)), (0, .ref x)]) : W p l e ({ frames := 9, cells := 84, slots := 310, locals := 156 } : Room) s m args below meth c s.heap [] 0 0 (MQ below (va_Qi (fun (zz : Int32) (u : LQ) => zz = 1 ∧ PIq u ∧ u.2.2.2.2.2.2.2.2.2.2.2.1 0 = v 0) (wB D [(cI, .int), (c2, .array .int), (c3, .array (.array .int))] A (lsW cI c2 c3 x a b)) A) args s 84 310 A) (F0 m 319 ls []) := by
  obtain ⟨hx, hb, hr, hml, hown, hts, hlocks, hK, hN, hG, hX, hZ, hA, htb, hst⟩ := F
  have h2 := hI.c2
  have h9 := hI.c9
  have h1r := hI.r1
  have h8 := hI.r8
  refine lv_aload hx hb dL_act_319 (lv_at hl 1 rfl) ?_
  refine lv_iconst (v := 0) hx hb dL_act_321 (by decide) ?_
  refine sLdI (j := 0) hx hb hK hP 0 rfl (List.mem_append_right _ (sCell_m hk hj)) (by decide) (by decide) dL_act_322 ?_
  rw [show t3 (pa (k * cN + j)) (pd (k * cN + j)) (st (k * cN + j)) 0 = 3 from e0]
  refine lv_iconst (v := 3) hx hb dL_act_323 (by decide) ?_
  refine lv_icmp_ne (tgt := 331) hx hb dL_act_324 (by decide) (fun c9 => absurd (by decide) c9) (fun _ => ?_)
  refine lv_iconst (v := 1) hx hb dL_act_327 (by decide) ?_
  refine lv_goto (tgt := 332) hx hb dL_act_328 (by decide) ?_
  refine lv_istore (lv' := [(6, .int 1), (5, .ref (ow k j)), (4, .int (nI k)), (3, .int (nI j)), (2, .int xx), (1, .ref (v 0)), (0, .ref x)]) hx hb dL_act_332 hl (by decide) rfl (fun ls hl => ?_)
  refine lv_iload hx hb dL_act_334 (lv_at hl 0 rfl) ?_
  refine lv_if_eq (tgt := 349) hx hb dL_act_336 (by decide) (fun c9 => absurd c9 (by decide)) (fun _ => ?_)
  refine lv_aload hx hb dL_act_339 (lv_at hl 1 rfl) ?_
  refine lv_iconst (v := 2) hx hb dL_act_341 (by decide) ?_
  refine lv_iconst (v := 1) hx hb dL_act_342 (by decide) ?_
  refine lv_aload hx hb dL_act_343 (lv_at hl 1 rfl) ?_
  refine lv_iconst (v := 2) hx hb dL_act_345 (by decide) ?_
  refine sLdI (j := 2) hx hb hK hP 0 rfl (List.mem_append_right _ (sCell_m hk hj)) (by decide) (by decide) dL_act_346 ?_
  rw [show t3 (pa (k * cN + j)) (pd (k * cN + j)) (st (k * cN + j)) 2 = 1 from e2]
  refine lv_isub hx hb dL_act_347 ?_
  rw [show (1 : Int32) - 1 = 0 from by decide]
  refine sSt2 (X := (wX x a b ++ wM cI a pa pe st bn hc hm ((nI cN)) ((nI rN)) lo)) (r := k) (k := j) (x := 0) hx hb hK hP hD hS 0 rfl hk hj dL_act_348 (fun H locs hP hD hS => ?_)
  have hP : va_P D vwCl (wX x a b ++ wM cI a pa pe st bn hc hm ((nI cN)) ((nI rN)) lo ++ wS cI c2 c3 v rw_ ow cN rN pa pd ((upd st (k * cN + j) 0)) bn hc hm lo tn) H := hP
  have hD : va_D A (wX x a b ++ wM cI a pa pe st bn hc hm ((nI cN)) ((nI rN)) lo ++ wS cI c2 c3 v rw_ ow cN rN pa pd ((upd st (k * cN + j) 0)) bn hc hm lo tn) := hD
  refine lv_aload_n hx hb dL_act_349 rfl (lv_at hl 6 rfl) ?_
  refine lv_iload hx hb dL_act_350 (lv_at hl 2 rfl) ?_
  refine lv_iload_n hx hb dL_act_352 rfl (lv_at hl 3 rfl) ?_
  refine kPVi (As := [.int (nI k), .int (nI j)]) (rest := []) (Wr := (wS cI c2 c3 v rw_ ow cN rN pa pd ((upd st (k * cN + j) 0)) bn hc hm lo tn)) (W2 := fun _ : Unit => (wX x a b ++ wM cI a pa pe ((xsc 72 st ((nI k) * (nI cN) + (nI j)) (if xRight pa st ((nI k) * (nI cN) + (nI j)) = true then 0 else 1))) bn hc hm ((nI cN)) ((nI rN)) lo ++ wS cI c2 c3 v rw_ ow cN rN pa pd ((upd st (k * cN + j) 0)) bn hc hm lo tn)) ⟨hx, hb, hml, hown, hts⟩ (mX1_turn l D cI x b a pa pe st bn hc hm (nI cN) (nI rN) lo (nI k) (nI j) (xhas_k hk (by omega)) (xhas_k hj (by omega)) (by rw [xcl_pl h9 h8 hk hj]; exact e0) _) (cwV 2 hts gL_act_X1_turn rfl rfl rfl (by decide +kernel) ⟨Nat.le_of_ble_eq_true rfl, Nat.le_of_ble_eq_true rfl⟩) (preVQ hK hN hP.left hD.left [0] rfl rfl rfl) hP hD hS hA (List.Perm.refl _) (fun _ => List.Perm.refl _) rfl hl.1 rfl (Nat.le_of_ble_eq_true rfl) dL_act_353 ⟨by show _ ≤ 84; omega, by show _ ≤ 310; omega⟩ (fun r_3 u_3 H locs hr_3 hP hD hS => ?_)
  rw [turn_1 h9 h8 hk hj e0 e2, turnR_1 h9 h8 hk hj e0] at hr_3
  rw [turn_1 h9 h8 hk hj e0 e2] at hP hD
  subst r_3
  have hP : va_P D vwCl (wX x a b ++ wM cI a pa pe ((upd st (k * cN + j) 0)) bn hc hm ((nI cN)) ((nI rN)) lo ++ wS cI c2 c3 v rw_ ow cN rN pa pd ((upd st (k * cN + j) 0)) bn hc hm lo tn) H := hP
  have hD : va_D A (wX x a b ++ wM cI a pa pe ((upd st (k * cN + j) 0)) bn hc hm ((nI cN)) ((nI rN)) lo ++ wS cI c2 c3 v rw_ ow cN rN pa pd ((upd st (k * cN + j) 0)) bn hc hm lo tn) := hD
  refine lv_aload hx hb dL_act_356 (lv_at hl 1 rfl) ?_
  refine lv_iconst (v := 2) hx hb dL_act_358 (by decide) ?_
  refine sLdI (j := 2) hx hb hK hP 0 rfl (List.mem_append_right _ (sCell_m hk hj)) (by decide) (by decide) dL_act_359 ?_
  rw [show t3 (pa (k * cN + j)) (pd (k * cN + j)) ((upd st (k * cN + j) 0) (k * cN + j)) 2 = 0 from pk_us]
  refine lv_iconst (v := 1) hx hb dL_act_360 (by decide) ?_
  refine lv_icmp_ne (tgt := 368) hx hb dL_act_361 (by decide) (fun _ => ?_) (fun c9 => absurd c9 (by decide))
  refine lv_iconst (v := 0) hx hb dL_act_368 (by decide) ?_
  refine lv_icmp_ne (tgt := 381) hx hb dL_act_369 (by decide) (fun c9 => absurd (by decide) c9) (fun _ => ?_)
  refine lv_iload hx hb dL_act_372 (lv_at hl 0 rfl) ?_
  refine lv_if_eq (tgt := 381) hx hb dL_act_374 (by decide) (fun c9 => absurd c9 (by decide)) (fun _ => ?_)
  refine lv_iconst (v := 1) hx hb dL_act_377 (by decide) ?_
  refine lv_goto (tgt := 382) hx hb dL_act_378 (by decide) ?_
  refine W.widen (k := 84) (n := 310) (by omega) (by omega) ?_
  exact eQz (w := lsW cI c2 c3 x a b) (cN, rN, pa, pe, pd, (upd st (k * cN + j) 0), bn, hc, hm, lo, tn, v, rw_, ow) hx hb hr hlocks hP hD hK hS dL_act_382 (Or.inr rfl) ⟨rfl, hI.turn hk hj e0 (Or.inl rfl), rfl⟩
set_option maxHeartbeats 4000000 in
set_option maxRecDepth 100000 in
theorem ac_turnN {p : Program} {l : Launch} {e : Env} {s : State} {m : MethodId} {below : List Frame} {meth : Method} {c : Code} {D : va_G} {cI c2 c3 : ClassId} {x : Nat} {a b v rw_ : Nat → Nat} {ow : Nat → Nat → Nat} {args : Array Value} {A : Nat → Prop} {cN rN : Nat} {pa pe pd st bn hc hm : Nat → Int32} {lo tn : Int32} {ls : Array Slot} {xx : Int32} {k j : Nat} (F : AC p l s m meth c D cI c2 c3 args A) (hI : PI cN rN pa pe pd st bn hc hm) (hP : va_P D vwCl (wX x a b ++ wM cI a pa pe st bn hc hm ((nI cN)) ((nI rN)) lo ++ wS cI c2 c3 v rw_ ow cN rN pa pd st bn hc hm lo tn) s.heap) (hD : va_D A (wX x a b ++ wM cI a pa pe st bn hc hm ((nI cN)) ((nI rN)) lo ++ wS cI c2 c3 v rw_ ow cN rN pa pd st bn hc hm lo tn)) (hS : va_S A s.heap s.heap []) (hk : k < rN) (hj : j < cN) (e0 : ¬ pa (k * cN + j) = 3) (hl : lv_has ls 12 [(6, .int 1), (5, .ref (ow k j)), (4, .int (nI k)), (3, .int (nI j)), (2, .int xx), (1, .ref (v 0)), (0, .ref x)]) : W p l e ({ frames := 9, cells := 84, slots := 310, locals := 156 } : Room) s m args below meth c s.heap [] 0 0 (MQ below (va_Qi (fun (zz : Int32) (u : LQ) => zz = 1 ∧ PIq u ∧ u.2.2.2.2.2.2.2.2.2.2.2.1 0 = v 0) (wB D [(cI, .int), (c2, .array .int), (c3, .array (.array .int))] A (lsW cI c2 c3 x a b)) A) args s 84 310 A) (F0 m 319 ls []) := by
  obtain ⟨hx, hb, hr, hml, hown, hts, hlocks, hK, hN, hG, hX, hZ, hA, htb, hst⟩ := F
  have h2 := hI.c2
  have h9 := hI.c9
  have h1r := hI.r1
  have h8 := hI.r8
  refine lv_aload hx hb dL_act_319 (lv_at hl 1 rfl) ?_
  refine lv_iconst (v := 0) hx hb dL_act_321 (by decide) ?_
  refine sLdI (j := 0) hx hb hK hP 0 rfl (List.mem_append_right _ (sCell_m hk hj)) (by decide) (by decide) dL_act_322 ?_
  refine lv_iconst (v := 3) hx hb dL_act_323 (by decide) ?_
  refine lv_icmp_ne (tgt := 331) hx hb dL_act_324 (by decide) (fun c_1 => ?_) (fun c9 => absurd c9 e0)
  refine lv_iconst (v := 0) hx hb dL_act_331 (by decide) ?_
  refine lv_istore (lv' := [(6, .int 0), (5, .ref (ow k j)), (4, .int (nI k)), (3, .int (nI j)), (2, .int xx), (1, .ref (v 0)), (0, .ref x)]) hx hb dL_act_332 hl (by decide) rfl (fun ls hl => ?_)
  refine lv_iload hx hb dL_act_334 (lv_at hl 0 rfl) ?_
  refine lv_if_eq (tgt := 349) hx hb dL_act_336 (by decide) (fun _ => ?_) (fun c9 => absurd (by decide) c9)
  refine lv_aload_n hx hb dL_act_349 rfl (lv_at hl 6 rfl) ?_
  refine lv_iload hx hb dL_act_350 (lv_at hl 2 rfl) ?_
  refine lv_iload_n hx hb dL_act_352 rfl (lv_at hl 3 rfl) ?_
  refine kXVc (As := [.int (nI k), .int (nI j)]) (rest := []) (name := eIS) ⟨hx, hb, hml, hown, hts⟩ (tX1_turn_s l hst D cI x b a pa pe st bn hc hm (nI cN) (nI rN) lo (nI k) (nI j) (xhas_k hk (by omega)) (xhas_k hj (by omega)) (by rw [xcl_pl h9 h8 hk hj]; exact e0)) (cwV 2 hts gL_act_X1_turn rfl rfl rfl (by decide +kernel) ⟨Nat.le_of_ble_eq_true rfl, Nat.le_of_ble_eq_true rfl⟩) hP hK hN hX hZ hS [0, 1, 2, 3, 4, 5, 6, 7] rfl [0] rfl rfl rfl rfl hl.1 rfl (Nat.le_of_ble_eq_true rfl) dL_act_353 ⟨Nat.le_of_ble_eq_true rfl, Nat.le_of_ble_eq_true rfl⟩ [⟨40, 123, 588, 66⟩, ⟨124, 178, 588, 66⟩, ⟨179, 254, 588, 66⟩, ⟨255, 318, 588, 66⟩] ⟨319, 382, 588, 66⟩ [⟨383, 450, 588, 66⟩, ⟨451, 498, 588, 66⟩, ⟨499, 568, 588, 66⟩, ⟨569, 587, 588, 66⟩] htb (fun z hz => Or.inl (by revert z; decide)) (by decide) (by decide) (hts (.classLink RL 66 eIS) (mg 1 rfl)) hX.2.2.2.2.2.2.2.1 (fun q9 H locs hP hS => ?_)
  refine lv_astore (lv' := [(7, .ref q9), (6, .int 0), (5, .ref (ow k j)), (4, .int (nI k)), (3, .int (nI j)), (2, .int xx), (1, .ref (v 0)), (0, .ref x)]) hx hb dL_act_588 hl (by decide) rfl (fun ls hl => ?_)
  refine lv_iload hx hb dL_act_590 (lv_at hl 1 rfl) ?_
  refine lv_if_ne (tgt := 599) hx hb dL_act_592 (by decide) (fun c9 => absurd (by decide) c9) (fun _ => ?_)
  refine lv_iconst (v := 1) hx hb dL_act_595 (by decide) ?_
  refine lv_goto (tgt := 600) hx hb dL_act_596 (by decide) ?_
  refine W.widen (k := 84) (n := 310) (by omega) (by omega) ?_
  exact eQz (w := lsW cI c2 c3 x a b) (cN, rN, pa, pe, pd, st, bn, hc, hm, lo, tn, v, rw_, ow) hx hb hr hlocks hP hD hK hS dL_act_600 (Or.inr rfl) ⟨rfl, hI, rfl⟩
set_option maxHeartbeats 4000000 in
set_option maxRecDepth 100000 in
theorem ac_hop {p : Program} {l : Launch} {e : Env} {s : State} {m : MethodId} {below : List Frame} {meth : Method} {c : Code} {D : va_G} {cI c2 c3 : ClassId} {x : Nat} {a b v rw_ : Nat → Nat} {ow : Nat → Nat → Nat} {args : Array Value} {A : Nat → Prop} {cN rN : Nat} {pa pe pd st bn hc hm : Nat → Int32} {lo tn : Int32} {ls : Array Slot} {xx : Int32} {k j : Nat} (F : AC p l s m meth c D cI c2 c3 args A) (hI : PI cN rN pa pe pd st bn hc hm) (hP : va_P D vwCl (wX x a b ++ wM cI a pa pe st bn hc hm ((nI cN)) ((nI rN)) lo ++ wS cI c2 c3 v rw_ ow cN rN pa pd st bn hc hm lo tn) s.heap) (hD : va_D A (wX x a b ++ wM cI a pa pe st bn hc hm ((nI cN)) ((nI rN)) lo ++ wS cI c2 c3 v rw_ ow cN rN pa pd st bn hc hm lo tn)) (hS : va_S A s.heap s.heap []) (hk : k < rN) (hj : j < cN) (hl : lv_has ls 12 [(6, .int 1), (5, .ref (ow k j)), (4, .int (nI k)), (3, .int (nI j)), (2, .int xx), (1, .ref (v 0)), (0, .ref x)]) : W p l e ({ frames := 9, cells := 84, slots := 310, locals := 156 } : Room) s m args below meth c s.heap [] 0 0 (MQ below (va_Qi (fun (zz : Int32) (u : LQ) => zz = 1 ∧ PIq u ∧ u.2.2.2.2.2.2.2.2.2.2.2.1 0 = v 0) (wB D [(cI, .int), (c2, .array .int), (c3, .array (.array .int))] A (lsW cI c2 c3 x a b)) A) args s 84 310 A) (F0 m 383 ls []) := by
  obtain ⟨hx, hb, hr, hml, hown, hts, hlocks, hK, hN, hG, hX, hZ, hA, htb, hst⟩ := F
  have h2 := hI.c2
  have h9 := hI.c9
  have h1r := hI.r1
  have h8 := hI.r8
  refine lv_iload_n hx hb dL_act_383 rfl (lv_at hl 4 rfl) ?_
  refine lv_bipush (v := 6) hx hb dL_act_384 (by decide) ?_
  refine lv_ishr hx hb dL_act_386 ?_
  refine lv_iconst (v := 2) hx hb dL_act_387 (by decide) ?_
  refine kBelow (v := (xx >>> (6 &&& 31))) (n := 2) (by omega) (by omega) ⟨hx, hb, hml, hown, hts⟩ (va_cwS 2 hts gL_act_L_below rfl rfl rfl (by decide +kernel) ⟨Nat.le_of_ble_eq_true rfl, Nat.le_of_ble_eq_true rfl⟩) hK hN hl.1 (Nat.le_of_ble_eq_true rfl) dL_act_388 ⟨Nat.zero_le _, Nat.zero_le _⟩ (fun b_1 hb_1 => ?_)
  refine lv_istore (lv' := [(7, .int (nI b_1)), (6, .int 1), (5, .ref (ow k j)), (4, .int (nI k)), (3, .int (nI j)), (2, .int xx), (1, .ref (v 0)), (0, .ref x)]) hx hb dL_act_391 hl (by decide) rfl (fun ls hl => ?_)
  refine lv_aload_n hx hb dL_act_393 rfl (lv_at hl 6 rfl) ?_
  refine va_get (D := D) (ci := 2) (v := .ref (v 3)) (C := RX2) (T := TX2) (N := 6) hx hb hts iw_L_act_X2 hown hK hP 8 rfl rfl 4 (by decide) (hts (.fieldLink RL 44 "MarbleRampsLaw$Sim" "marbles" "[I") (mg 5 rfl)) (fun _ h9 => h9) rfl dL_act_394 ?_
  refine lv_iload hx hb dL_act_397 (lv_at hl 0 rfl) ?_
  refine va_iald hx hb hK hP 11 0 rfl rfl (vp_in_nI (by omega) (by omega)) dL_act_399 ?_
  rw [nI_clamp (show b_1 < 2 ^ 31 by omega)]
  refine lv_istore (lv' := [(8, .int (hm b_1)), (7, .int (nI b_1)), (6, .int 1), (5, .ref (ow k j)), (4, .int (nI k)), (3, .int (nI j)), (2, .int xx), (1, .ref (v 0)), (0, .ref x)]) hx hb dL_act_400 hl (by decide) rfl (fun ls hl => ?_)
  refine lv_aload_n hx hb dL_act_402 rfl (lv_at hl 7 rfl) ?_
  refine va_get (D := D) (ci := 2) (v := .ref (v 2)) (C := RX2) (T := TX2) (N := 6) hx hb hts iw_L_act_X2 hown hK hP 8 rfl rfl 3 (by decide) (hts (.fieldLink RL 47 "MarbleRampsLaw$Sim" "above" "[I") (mg 6 rfl)) (fun _ h9 => h9) rfl dL_act_403 ?_
  refine lv_iload hx hb dL_act_406 (lv_at hl 1 rfl) ?_
  refine lv_iload_n hx hb dL_act_408 rfl (lv_at hl 5 rfl) ?_
  refine va_iast hx hb hK hP hD hS 10 0 rfl rfl (vp_in_nI (by omega) (by omega)) dL_act_409 (fun H locs hP hD hS => ?_)
  rw [nI_clamp (show b_1 < 2 ^ 31 by omega)] at hP hD
  have hP : va_P D vwCl (wX x a b ++ wM cI a pa pe st bn hc hm ((nI cN)) ((nI rN)) lo ++ wS cI c2 c3 v rw_ ow cN rN pa pd st bn ((upd hc b_1 (nI j))) hm lo tn) H := hP
  have hD : va_D A (wX x a b ++ wM cI a pa pe st bn hc hm ((nI cN)) ((nI rN)) lo ++ wS cI c2 c3 v rw_ ow cN rN pa pd st bn ((upd hc b_1 (nI j))) hm lo tn) := hD
  refine lv_aload_n hx hb dL_act_410 rfl (lv_at hl 7 rfl) ?_
  refine va_get (D := D) (ci := 2) (v := .ref (v 3)) (C := RX2) (T := TX2) (N := 6) hx hb hts iw_L_act_X2 hown hK hP 8 rfl rfl 4 (by decide) (hts (.fieldLink RL 44 "MarbleRampsLaw$Sim" "marbles" "[I") (mg 5 rfl)) (fun _ h9 => h9) rfl dL_act_411 ?_
  refine lv_iload hx hb dL_act_414 (lv_at hl 1 rfl) ?_
  refine lv_iload_n hx hb dL_act_416 rfl (lv_at hl 6 rfl) ?_
  refine lv_bipush (v := 8) hx hb dL_act_417 (by decide) ?_
  refine lv_ishr hx hb dL_act_419 ?_
  refine lv_bipush (v := 100) hx hb dL_act_420 (by decide) ?_
  refine kBelow (v := (xx >>> (8 &&& 31))) (n := 100) (by omega) (by omega) ⟨hx, hb, hml, hown, hts⟩ (va_cwS 2 hts gL_act_L_below rfl rfl rfl (by decide +kernel) ⟨Nat.le_of_ble_eq_true rfl, Nat.le_of_ble_eq_true rfl⟩) hK hN hl.1 (Nat.le_of_ble_eq_true rfl) dL_act_422 ⟨Nat.zero_le _, Nat.zero_le _⟩ (fun b_2 hb_2 => ?_)
  refine va_iast hx hb hK hP hD hS 11 0 rfl rfl (vp_in_nI (by omega) (by omega)) dL_act_425 (fun H locs hP hD hS => ?_)
  rw [nI_clamp (show b_1 < 2 ^ 31 by omega)] at hP hD
  have hP : va_P D vwCl (wX x a b ++ wM cI a pa pe st bn hc hm ((nI cN)) ((nI rN)) lo ++ wS cI c2 c3 v rw_ ow cN rN pa pd st bn ((upd hc b_1 (nI j))) ((upd hm b_1 (nI b_2))) lo tn) H := hP
  have hD : va_D A (wX x a b ++ wM cI a pa pe st bn hc hm ((nI cN)) ((nI rN)) lo ++ wS cI c2 c3 v rw_ ow cN rN pa pd st bn ((upd hc b_1 (nI j))) ((upd hm b_1 (nI b_2))) lo tn) := hD
  refine lv_aload_n hx hb dL_act_426 rfl (lv_at hl 8 rfl) ?_
  refine lv_iload hx hb dL_act_427 (lv_at hl 1 rfl) ?_
  refine lv_iload_n hx hb dL_act_429 rfl (lv_at hl 5 rfl) ?_
  refine lv_aload_n hx hb dL_act_430 rfl (lv_at hl 7 rfl) ?_
  refine va_get (D := D) (ci := 2) (v := .ref (v 3)) (C := RX2) (T := TX2) (N := 6) hx hb hts iw_L_act_X2 hown hK hP 8 rfl rfl 4 (by decide) (hts (.fieldLink RL 44 "MarbleRampsLaw$Sim" "marbles" "[I") (mg 5 rfl)) (fun _ h9 => h9) rfl dL_act_431 ?_
  refine lv_iload hx hb dL_act_434 (lv_at hl 1 rfl) ?_
  refine va_iald hx hb hK hP 11 0 rfl rfl (vp_in_nI (by omega) (by omega)) dL_act_436 ?_
  rw [nI_clamp (show b_1 < 2 ^ 31 by omega)]
  rw [pk_us]
  refine kPVi (As := [.int (nI b_1), .int (nI j), .int (nI b_2)]) (rest := []) (Wr := (wS cI c2 c3 v rw_ ow cN rN pa pd st bn ((upd hc b_1 (nI j))) ((upd hm b_1 (nI b_2))) lo tn)) (W2 := fun _ : Unit => (wX x a b ++ wM cI a pa pe st bn ((xsc 2 hc (nI b_1) (nI j))) ((xsc 2 hm (nI b_1) (nI b_2))) ((nI cN)) ((nI rN)) lo ++ wS cI c2 c3 v rw_ ow cN rN pa pd st bn ((upd hc b_1 (nI j))) ((upd hm b_1 (nI b_2))) lo tn)) ⟨hx, hb, hml, hown, hts⟩ (mX1_setHopper l D cI x b a pa pe st bn hc hm (nI cN) (nI rN) lo (nI b_1) (nI j) (nI b_2) (xhas_2k (show b_1 < 2 by omega)) (xhas_k hj (by omega)) (show xin (nI b_2) (nI 0) (nI 99) = true from xin_k (by omega) (by omega) (by omega)) _) (cwV 3 hts gL_act_X1_setHopper rfl rfl rfl (by decide +kernel) ⟨Nat.le_of_ble_eq_true rfl, Nat.le_of_ble_eq_true rfl⟩) (preVQ hK hN hP.left hD.left [0] rfl rfl rfl) hP hD hS hA (List.Perm.refl _) (fun _ => List.Perm.refl _) rfl hl.1 rfl (Nat.le_of_ble_eq_true rfl) dL_act_437 ⟨by show _ ≤ 84; omega, by show _ ≤ 310; omega⟩ (fun r_3 u_3 H locs hr_3 hP hD hS => ?_)
  subst r_3
  rw [xsc_n (show b_1 < 2 by omega) (by decide), xsc_n (show b_1 < 2 by omega) (by decide)] at hP hD
  have hP : va_P D vwCl (wX x a b ++ wM cI a pa pe st bn ((upd hc b_1 (nI j))) ((upd hm b_1 (nI b_2))) ((nI cN)) ((nI rN)) lo ++ wS cI c2 c3 v rw_ ow cN rN pa pd st bn ((upd hc b_1 (nI j))) ((upd hm b_1 (nI b_2))) lo tn) H := hP
  have hD : va_D A (wX x a b ++ wM cI a pa pe st bn ((upd hc b_1 (nI j))) ((upd hm b_1 (nI b_2))) ((nI cN)) ((nI rN)) lo ++ wS cI c2 c3 v rw_ ow cN rN pa pd st bn ((upd hc b_1 (nI j))) ((upd hm b_1 (nI b_2))) lo tn) := hD
  refine lv_iload hx hb dL_act_440 (lv_at hl 0 rfl) ?_
  refine lv_icmp_ne (tgt := 449) hx hb dL_act_442 (by decide) (fun c9 => absurd (xcl_n (show b_1 < 2 by omega) (by decide) hm) c9) (fun c_4 => ?_)
  refine lv_iconst (v := 1) hx hb dL_act_445 (by decide) ?_
  refine lv_goto (tgt := 450) hx hb dL_act_446 (by decide) ?_
  refine W.widen (k := 84) (n := 310) (by omega) (by omega) ?_
  exact eQz (w := lsW cI c2 c3 x a b) (cN, rN, pa, pe, pd, st, bn, (upd hc b_1 (nI j)), (upd hm b_1 (nI b_2)), lo, tn, v, rw_, ow) hx hb hr hlocks hP hD hK hS dL_act_450 (Or.inr rfl) ⟨rfl, hI.hop hj (by omega), rfl⟩
set_option maxHeartbeats 4000000 in
set_option maxRecDepth 100000 in
theorem ac_run {p : Program} {l : Launch} {e : Env} {s : State} {m : MethodId} {below : List Frame} {meth : Method} {c : Code} {D : va_G} {cI c2 c3 : ClassId} {x : Nat} {a b v rw_ : Nat → Nat} {ow : Nat → Nat → Nat} {args : Array Value} {A : Nat → Prop} {cN rN : Nat} {pa pe pd st bn hc hm : Nat → Int32} {lo tn : Int32} {ls : Array Slot} {xx : Int32} {k j : Nat} (F : AC p l s m meth c D cI c2 c3 args A) (hI : PI cN rN pa pe pd st bn hc hm) (hP : va_P D vwCl (wX x a b ++ wM cI a pa pe st bn hc hm ((nI cN)) ((nI rN)) lo ++ wS cI c2 c3 v rw_ ow cN rN pa pd st bn hc hm lo tn) s.heap) (hD : va_D A (wX x a b ++ wM cI a pa pe st bn hc hm ((nI cN)) ((nI rN)) lo ++ wS cI c2 c3 v rw_ ow cN rN pa pd st bn hc hm lo tn)) (hS : va_S A s.heap s.heap []) (hk : k < rN) (hj : j < cN) (hl : lv_has ls 12 [(6, .int 1), (5, .ref (ow k j)), (4, .int (nI k)), (3, .int (nI j)), (2, .int xx), (1, .ref (v 0)), (0, .ref x)]) : W p l e ({ frames := 9, cells := 84, slots := 310, locals := 156 } : Room) s m args below meth c s.heap [] 0 0 (MQ below (va_Qi (fun (zz : Int32) (u : LQ) => zz = 1 ∧ PIq u ∧ u.2.2.2.2.2.2.2.2.2.2.2.1 0 = v 0) (wB D [(cI, .int), (c2, .array .int), (c3, .array (.array .int))] A (lsW cI c2 c3 x a b)) A) args s 84 310 A) (F0 m 451 ls []) := by
  obtain ⟨hx, hb, hr, hml, hown, hts, hlocks, hK, hN, hG, hX, hZ, hA, htb, hst⟩ := F
  have h2 := hI.c2
  have h9 := hI.c9
  have h1r := hI.r1
  have h8 := hI.r8
  refine lv_iload_n hx hb dL_act_451 rfl (lv_at hl 4 rfl) ?_
  refine lv_bipush (v := 6) hx hb dL_act_452 (by decide) ?_
  refine lv_ishr hx hb dL_act_454 ?_
  refine lv_iconst (v := 2) hx hb dL_act_455 (by decide) ?_
  refine kBelow (v := (xx >>> (6 &&& 31))) (n := 2) (by omega) (by omega) ⟨hx, hb, hml, hown, hts⟩ (va_cwS 2 hts gL_act_L_below rfl rfl rfl (by decide +kernel) ⟨Nat.le_of_ble_eq_true rfl, Nat.le_of_ble_eq_true rfl⟩) hK hN hl.1 (Nat.le_of_ble_eq_true rfl) dL_act_456 ⟨Nat.zero_le _, Nat.zero_le _⟩ (fun b_1 hb_1 => ?_)
  refine lv_istore (lv' := [(7, .int (nI b_1)), (6, .int 1), (5, .ref (ow k j)), (4, .int (nI k)), (3, .int (nI j)), (2, .int xx), (1, .ref (v 0)), (0, .ref x)]) hx hb dL_act_459 hl (by decide) rfl (fun ls hl => ?_)
  refine lv_iconst (v := 1) hx hb dL_act_461 (by decide) ?_
  refine lv_iload_n hx hb dL_act_462 rfl (lv_at hl 5 rfl) ?_
  refine lv_bipush (v := 8) hx hb dL_act_463 (by decide) ?_
  refine lv_ishr hx hb dL_act_465 ?_
  refine lv_bipush (v := 99) hx hb dL_act_466 (by decide) ?_
  refine kBelow (v := (xx >>> (8 &&& 31))) (n := 99) (by omega) (by omega) ⟨hx, hb, hml, hown, hts⟩ (va_cwS 2 hts gL_act_L_below rfl rfl rfl (by decide +kernel) ⟨Nat.le_of_ble_eq_true rfl, Nat.le_of_ble_eq_true rfl⟩) hK hN hl.1 (Nat.le_of_ble_eq_true rfl) dL_act_468 ⟨Nat.zero_le _, Nat.zero_le _⟩ (fun b_2 hb_2 => ?_)
  refine lv_iadd hx hb dL_act_471 ?_
  rw [show (1 : Int32) + nI b_2 = nI (1 + b_2) from nI_add 1 b_2]
  refine lv_istore (lv' := [(8, .int (nI (1 + b_2))), (7, .int (nI b_1)), (6, .int 1), (5, .ref (ow k j)), (4, .int (nI k)), (3, .int (nI j)), (2, .int xx), (1, .ref (v 0)), (0, .ref x)]) hx hb dL_act_472 hl (by decide) rfl (fun ls hl => ?_)
  refine lv_aload_n hx hb dL_act_474 rfl (lv_at hl 8 rfl) ?_
  refine lv_iload hx hb dL_act_475 (lv_at hl 1 rfl) ?_
  refine lv_iload hx hb dL_act_477 (lv_at hl 0 rfl) ?_
  refine kPVi (As := [.int (nI b_1), .int (nI (1 + b_2))]) (rest := []) (Wr := (wS cI c2 c3 v rw_ ow cN rN pa pd st bn hc hm lo tn)) (W2 := fun _ : Unit => (wX x a b ++ wM cI a pa pe ((xRun pa pe st bn hc hm (nI cN) (nI rN) lo (nI b_1) (nI (1 + b_2))).2.1) ((xRun pa pe st bn hc hm (nI cN) (nI rN) lo (nI b_1) (nI (1 + b_2))).2.2.1) hc ((xRun pa pe st bn hc hm (nI cN) (nI rN) lo (nI b_1) (nI (1 + b_2))).2.2.2.2) ((nI cN)) ((nI rN)) ((xRun pa pe st bn hc hm (nI cN) (nI rN) lo (nI b_1) (nI (1 + b_2))).2.2.2.1) ++ wS cI c2 c3 v rw_ ow cN rN pa pd st bn hc hm lo tn)) ⟨hx, hb, hml, hown, hts⟩ (mX1_run l D cI x b a pa pe st bn hc hm (nI cN) (nI rN) lo (nI b_1) (nI (1 + b_2)) (xhas_2k (show b_1 < 2 by omega)) (show xin (nI (1 + b_2)) (nI 1) (nI 99) = true from xin_k (by omega) (by omega) (by omega)) _) (cwV 2 hts gL_act_X1_run rfl rfl rfl (by decide +kernel) ⟨Nat.le_of_ble_eq_true rfl, Nat.le_of_ble_eq_true rfl⟩) (preVQ hK hN hP.left hD.left [0] rfl rfl rfl) hP hD hS hA (List.Perm.refl _) (fun _ => List.Perm.refl _) rfl hl.1 rfl (Nat.le_of_ble_eq_true rfl) dL_act_479 ⟨by show _ ≤ 84; omega, by show _ ≤ 310; omega⟩ (fun r_3 u_3 H locs hr_3 hP hD hS => ?_)
  subst r_3
  have hP : va_P D vwCl (wX x a b ++ wM cI a pa pe ((xRun pa pe st bn hc hm (nI cN) (nI rN) lo (nI b_1) (nI (1 + b_2))).2.1) ((xRun pa pe st bn hc hm (nI cN) (nI rN) lo (nI b_1) (nI (1 + b_2))).2.2.1) hc ((xRun pa pe st bn hc hm (nI cN) (nI rN) lo (nI b_1) (nI (1 + b_2))).2.2.2.2) ((nI cN)) ((nI rN)) ((xRun pa pe st bn hc hm (nI cN) (nI rN) lo (nI b_1) (nI (1 + b_2))).2.2.2.1) ++ wS cI c2 c3 v rw_ ow cN rN pa pd st bn hc hm lo tn) H := hP
  have hD : va_D A (wX x a b ++ wM cI a pa pe ((xRun pa pe st bn hc hm (nI cN) (nI rN) lo (nI b_1) (nI (1 + b_2))).2.1) ((xRun pa pe st bn hc hm (nI cN) (nI rN) lo (nI b_1) (nI (1 + b_2))).2.2.1) hc ((xRun pa pe st bn hc hm (nI cN) (nI rN) lo (nI b_1) (nI (1 + b_2))).2.2.2.2) ((nI cN)) ((nI rN)) ((xRun pa pe st bn hc hm (nI cN) (nI rN) lo (nI b_1) (nI (1 + b_2))).2.2.2.1) ++ wS cI c2 c3 v rw_ ow cN rN pa pd st bn hc hm lo tn) := hD
  refine lv_aload_n hx hb dL_act_482 rfl (lv_at hl 7 rfl) ?_
  refine lv_iload hx hb dL_act_483 (lv_at hl 1 rfl) ?_
  refine lv_iload hx hb dL_act_485 (lv_at hl 0 rfl) ?_
  refine kPVi (As := [.int (nI b_1), .int (nI (1 + b_2))]) (rest := [.int ((xRun pa pe st bn hc hm (nI cN) (nI rN) lo (nI b_1) (nI (1 + b_2))).1)]) (Wr := (wX x a b ++ wM cI a pa pe ((xRun pa pe st bn hc hm (nI cN) (nI rN) lo (nI b_1) (nI (1 + b_2))).2.1) ((xRun pa pe st bn hc hm (nI cN) (nI rN) lo (nI b_1) (nI (1 + b_2))).2.2.1) hc ((xRun pa pe st bn hc hm (nI cN) (nI rN) lo (nI b_1) (nI (1 + b_2))).2.2.2.2) ((nI cN)) ((nI rN)) ((xRun pa pe st bn hc hm (nI cN) (nI rN) lo (nI b_1) (nI (1 + b_2))).2.2.2.1))) (W2 := (fun u : Int32 => (wX x a b ++ wM cI a pa pe ((xRun pa pe st bn hc hm (nI cN) (nI rN) lo (nI b_1) (nI (1 + b_2))).2.1) ((xRun pa pe st bn hc hm (nI cN) (nI rN) lo (nI b_1) (nI (1 + b_2))).2.2.1) hc ((xRun pa pe st bn hc hm (nI cN) (nI rN) lo (nI b_1) (nI (1 + b_2))).2.2.2.2) ((nI cN)) ((nI rN)) ((xRun pa pe st bn hc hm (nI cN) (nI rN) lo (nI b_1) (nI (1 + b_2))).2.2.2.1)) ++ wS cI c2 c3 v rw_ ow cN rN pa pd ((xRun pa pe st bn hc hm (nI cN) (nI rN) lo (nI b_1) (nI (1 + b_2))).2.1) ((xRun pa pe st bn hc hm (nI cN) (nI rN) lo (nI b_1) (nI (1 + b_2))).2.2.1) hc ((xRun pa pe st bn hc hm (nI cN) (nI rN) lo (nI b_1) (nI (1 + b_2))).2.2.2.2) ((xRun pa pe st bn hc hm (nI cN) (nI rN) lo (nI b_1) (nI (1 + b_2))).2.2.2.1) u)) ⟨hx, hb, hml, hown, hts⟩ (mX2_run l D cI c2 c3 v rw_ ow cN rN pa pd st bn hc hm lo tn (by omega) h9 h8 pe hI.ok hI.hh b_1 (1 + b_2) (by omega) (by omega) _) (cwV 2 hts gL_act_X2_run rfl rfl rfl (by decide +kernel) ⟨Nat.le_of_ble_eq_true rfl, Nat.le_of_ble_eq_true rfl⟩) (preVQ hK hN hP.right hD.right [0, 1, 2] rfl rfl rfl) hP hD hS hA (pm_12 _ _) (fun _ => pm_12 _ _) rfl hl.1 rfl (Nat.le_of_ble_eq_true rfl) dL_act_487 ⟨by show _ ≤ 84; omega, by show _ ≤ 310; omega⟩ (fun r_4 u_4 H locs hr_4 hP hD hS => ?_)
  have hP : va_P D vwCl (wX x a b ++ wM cI a pa pe ((xRun pa pe st bn hc hm (nI cN) (nI rN) lo (nI b_1) (nI (1 + b_2))).2.1) ((xRun pa pe st bn hc hm (nI cN) (nI rN) lo (nI b_1) (nI (1 + b_2))).2.2.1) hc ((xRun pa pe st bn hc hm (nI cN) (nI rN) lo (nI b_1) (nI (1 + b_2))).2.2.2.2) ((nI cN)) ((nI rN)) ((xRun pa pe st bn hc hm (nI cN) (nI rN) lo (nI b_1) (nI (1 + b_2))).2.2.2.1) ++ wS cI c2 c3 v rw_ ow cN rN pa pd ((xRun pa pe st bn hc hm (nI cN) (nI rN) lo (nI b_1) (nI (1 + b_2))).2.1) ((xRun pa pe st bn hc hm (nI cN) (nI rN) lo (nI b_1) (nI (1 + b_2))).2.2.1) hc ((xRun pa pe st bn hc hm (nI cN) (nI rN) lo (nI b_1) (nI (1 + b_2))).2.2.2.2) ((xRun pa pe st bn hc hm (nI cN) (nI rN) lo (nI b_1) (nI (1 + b_2))).2.2.2.1) u_4) H := hP
  have hD : va_D A (wX x a b ++ wM cI a pa pe ((xRun pa pe st bn hc hm (nI cN) (nI rN) lo (nI b_1) (nI (1 + b_2))).2.1) ((xRun pa pe st bn hc hm (nI cN) (nI rN) lo (nI b_1) (nI (1 + b_2))).2.2.1) hc ((xRun pa pe st bn hc hm (nI cN) (nI rN) lo (nI b_1) (nI (1 + b_2))).2.2.2.2) ((nI cN)) ((nI rN)) ((xRun pa pe st bn hc hm (nI cN) (nI rN) lo (nI b_1) (nI (1 + b_2))).2.2.2.1) ++ wS cI c2 c3 v rw_ ow cN rN pa pd ((xRun pa pe st bn hc hm (nI cN) (nI rN) lo (nI b_1) (nI (1 + b_2))).2.1) ((xRun pa pe st bn hc hm (nI cN) (nI rN) lo (nI b_1) (nI (1 + b_2))).2.2.1) hc ((xRun pa pe st bn hc hm (nI cN) (nI rN) lo (nI b_1) (nI (1 + b_2))).2.2.2.2) ((xRun pa pe st bn hc hm (nI cN) (nI rN) lo (nI b_1) (nI (1 + b_2))).2.2.2.1) u_4) := hD
  subst r_4
  refine lv_icmp_ne (tgt := 497) hx hb dL_act_490 (by decide) (fun c9 => absurd rfl c9) (fun c_5 => ?_)
  refine lv_iconst (v := 1) hx hb dL_act_493 (by decide) ?_
  refine lv_goto (tgt := 498) hx hb dL_act_494 (by decide) ?_
  refine W.widen (k := 84) (n := 310) (by omega) (by omega) ?_
  exact eQz (w := lsW cI c2 c3 x a b) (cN, rN, pa, pe, pd, (xRun pa pe st bn hc hm (nI cN) (nI rN) lo (nI b_1) (nI (1 + b_2))).2.1, (xRun pa pe st bn hc hm (nI cN) (nI rN) lo (nI b_1) (nI (1 + b_2))).2.2.1, hc, (xRun pa pe st bn hc hm (nI cN) (nI rN) lo (nI b_1) (nI (1 + b_2))).2.2.2.2, (xRun pa pe st bn hc hm (nI cN) (nI rN) lo (nI b_1) (nI (1 + b_2))).2.2.2.1, u_4, v, rw_, ow) hx hb hr hlocks hP hD hK hS dL_act_498 (Or.inr rfl) ⟨rfl, hI.run2 lo (show b_1 < 2 by omega) (show 1 + b_2 < 1000 by omega), rfl⟩
set_option maxHeartbeats 4000000 in
set_option maxRecDepth 100000 in
theorem ac_emp {p : Program} {l : Launch} {e : Env} {s : State} {m : MethodId} {below : List Frame} {meth : Method} {c : Code} {D : va_G} {cI c2 c3 : ClassId} {x : Nat} {a b v rw_ : Nat → Nat} {ow : Nat → Nat → Nat} {args : Array Value} {A : Nat → Prop} {cN rN : Nat} {pa pe pd st bn hc hm : Nat → Int32} {lo tn : Int32} {ls : Array Slot} {xx : Int32} {k j : Nat} (F : AC p l s m meth c D cI c2 c3 args A) (hI : PI cN rN pa pe pd st bn hc hm) (hP : va_P D vwCl (wX x a b ++ wM cI a pa pe st bn hc hm ((nI cN)) ((nI rN)) lo ++ wS cI c2 c3 v rw_ ow cN rN pa pd st bn hc hm lo tn) s.heap) (hD : va_D A (wX x a b ++ wM cI a pa pe st bn hc hm ((nI cN)) ((nI rN)) lo ++ wS cI c2 c3 v rw_ ow cN rN pa pd st bn hc hm lo tn)) (hS : va_S A s.heap s.heap []) (hk : k < rN) (hj : j < cN) (hl : lv_has ls 12 [(6, .int 1), (5, .ref (ow k j)), (4, .int (nI k)), (3, .int (nI j)), (2, .int xx), (1, .ref (v 0)), (0, .ref x)]) : W p l e ({ frames := 9, cells := 84, slots := 310, locals := 156 } : Room) s m args below meth c s.heap [] 0 0 (MQ below (va_Qi (fun (zz : Int32) (u : LQ) => zz = 1 ∧ PIq u ∧ u.2.2.2.2.2.2.2.2.2.2.2.1 0 = v 0) (wB D [(cI, .int), (c2, .array .int), (c3, .array (.array .int))] A (lsW cI c2 c3 x a b)) A) args s 84 310 A) (F0 m 499 ls []) := by
  obtain ⟨hx, hb, hr, hml, hown, hts, hlocks, hK, hN, hG, hX, hZ, hA, htb, hst⟩ := F
  have h2 := hI.c2
  have h9 := hI.c9
  have h1r := hI.r1
  have h8 := hI.r8
  refine lv_iconst (v := 0) hx hb dL_act_499 (by decide) ?_
  refine lv_istore (lv' := [(7, .int 0), (6, .int 1), (5, .ref (ow k j)), (4, .int (nI k)), (3, .int (nI j)), (2, .int xx), (1, .ref (v 0)), (0, .ref x)]) hx hb dL_act_500 hl (by decide) rfl (fun ls hl => ?_)
  refine lv_aload_n hx hb dL_act_502 rfl (lv_at hl 6 rfl) ?_
  refine va_get (D := D) (ci := 2) (v := .ref (v 1)) (C := RX2) (T := TX2) (N := 6) hx hb hts iw_L_act_X2 hown hK hP 8 rfl rfl 1 (by decide) (hts (.fieldLink RL 9 "MarbleRampsLaw$Sim" "bins" "[I") (mg 2 rfl)) (fun _ h9 => h9) rfl dL_act_503 ?_
  refine lv_astore (lv' := [(8, .ref (v 1)), (7, .int 0), (6, .int 1), (5, .ref (ow k j)), (4, .int (nI k)), (3, .int (nI j)), (2, .int xx), (1, .ref (v 0)), (0, .ref x)]) hx hb dL_act_506 hl (by decide) rfl (fun ls hl => ?_)
  refine lv_aload hx hb dL_act_508 (lv_at hl 0 rfl) ?_
  refine va_alen hx hb hK hP 9 0 rfl rfl (v := (nI cN)) rfl dL_act_510 ?_
  refine lv_istore (lv' := [(9, .int (nI cN)), (8, .ref (v 1)), (7, .int 0), (6, .int 1), (5, .ref (ow k j)), (4, .int (nI k)), (3, .int (nI j)), (2, .int xx), (1, .ref (v 0)), (0, .ref x)]) hx hb dL_act_511 hl (by decide) rfl (fun ls hl => ?_)
  refine lv_iconst (v := 0) hx hb dL_act_513 (by decide) ?_
  refine lv_istore (lv' := [(10, .int 0), (9, .int (nI cN)), (8, .ref (v 1)), (7, .int 0), (6, .int 1), (5, .ref (ow k j)), (4, .int (nI k)), (3, .int (nI j)), (2, .int xx), (1, .ref (v 0)), (0, .ref x)]) hx hb dL_act_514 hl (by decide) rfl (fun ls hl => ?_)
  have L516 : ∀ (n3 k3 : Nat) (ss : Int32), k3 + n3 = cN → ss = sm bn k3 → ∀ (H : Heap) (locs : List Loc), va_P D vwCl (wX x a b ++ wM cI a pa pe st bn hc hm ((nI cN)) ((nI rN)) lo ++ wS cI c2 c3 v rw_ ow cN rN pa pd st bn hc hm lo tn) H → va_D A (wX x a b ++ wM cI a pa pe st bn hc hm ((nI cN)) ((nI rN)) lo ++ wS cI c2 c3 v rw_ ow cN rN pa pd st bn hc hm lo tn) → va_S A s.heap H locs → ∀ ls : Array Slot, lv_has ls 12 [(10, .int (nI k3)), (9, .int (nI cN)), (8, .ref (v 1)), (7, .int ss), (6, .int 1), (5, .ref (ow k j)), (4, .int (nI k)), (3, .int (nI j)), (2, .int xx), (1, .ref (v 0)), (0, .ref x)] → W p l e ({ frames := 9, cells := 84, slots := 310, locals := 156 } : Room) s m args below meth c H locs 0 0 (MQ below (va_Qi (fun (zz : Int32) (u : LQ) => zz = 1 ∧ PIq u ∧ u.2.2.2.2.2.2.2.2.2.2.2.1 0 = v 0) (wB D [(cI, .int), (c2, .array .int), (c3, .array (.array .int))] A (lsW cI c2 c3 x a b)) A) args s 84 310 A) (F0 m 516 ls []) := by
    intro n3
    induction n3 with
    | zero =>
      intro k3 ss hkn516 hs3 H locs hP hD hS ls hl
      refine lv_iload hx hb dL_act_516 (lv_at hl 0 rfl) ?_
      refine lv_iload hx hb dL_act_518 (lv_at hl 1 rfl) ?_
      refine lv_icmp_ge (tgt := 543) hx hb dL_act_520 (by decide) (fun c_1 => ?_) (fun c9 => absurd (nI_le (by omega) (by omega)) c9)
      refine lv_aload_n hx hb dL_act_543 rfl (lv_at hl 9 rfl) ?_
      refine lv_aload_n hx hb dL_act_544 rfl (lv_at hl 9 rfl) ?_
      refine va_get (D := D) (ci := 2) (v := .ref (v 1)) (C := RX2) (T := TX2) (N := 6) hx hb hts iw_L_act_X2 hown hK hP 8 rfl rfl 1 (by decide) (hts (.fieldLink RL 9 "MarbleRampsLaw$Sim" "bins" "[I") (mg 2 rfl)) (fun _ h9 => h9) rfl dL_act_545 ?_
      refine va_alen hx hb hK hP 9 0 rfl rfl (v := (nI cN)) rfl dL_act_548 ?_
      refine newN (n := cN) hx hb (hts (.arrayClass .int) (mg 4 rfl)) hK hP hD hS hA 0 rfl (by omega) (by show _ ≤ 84; omega) (by show _ ≤ 310; omega) dL_act_549 (fun q_2 H hP hD hS => ?_)
      have hP : va_P D vwCl (wX x a b ++ wM cI a pa pe st bn hc hm ((nI cN)) ((nI rN)) lo ++ wS cI c2 c3 v rw_ ow cN rN pa pd st bn hc hm lo tn ++ wA cI q_2 cN ((fun _ => 0))) H := hP
      have hD : va_D A (wX x a b ++ wM cI a pa pe st bn hc hm ((nI cN)) ((nI rN)) lo ++ wS cI c2 c3 v rw_ ow cN rN pa pd st bn hc hm lo tn ++ wA cI q_2 cN ((fun _ => 0))) := hD
      refine va_put (D := D) (ci := 2) (v := .ref q_2) (ty := (.array .int)) (C := RX2) (T := TX2) (N := 6) hx hb hts iw_L_act_X2 tyX2 tyX2_ok nmX2 hown hK hP hD hS 8 rfl rfl 1 (by decide) (hts (.fieldLink RL 9 "MarbleRampsLaw$Sim" "bins" "[I") (mg 2 rfl)) (fun _ h9 => h9) rfl (by decide +kernel) rfl rfl (Nat.le_of_ble_eq_true rfl) dL_act_551 (fun H locs hP hD hS => ?_)
      have hP := (hP.pm (pm_emp (wX x a b ++ wM cI a pa pe st bn hc hm ((nI cN)) ((nI rN)) lo) _ _ _ _)).left
      have hD := (hD.pm (pm_emp (wX x a b ++ wM cI a pa pe st bn hc hm ((nI cN)) ((nI rN)) lo) _ _ _ _)).left
      have hP : va_P D vwCl (wX x a b ++ wM cI a pa pe st bn hc hm ((nI cN)) ((nI rN)) lo ++ wS cI c2 c3 ((adr5 (v 0) q_2 (v 2) (v 3) (v 4))) rw_ ow cN rN pa pd st ((fun _ => 0)) hc hm lo tn) H := hP
      have hD : va_D A (wX x a b ++ wM cI a pa pe st bn hc hm ((nI cN)) ((nI rN)) lo ++ wS cI c2 c3 ((adr5 (v 0) q_2 (v 2) (v 3) (v 4))) rw_ ow cN rN pa pd st ((fun _ => 0)) hc hm lo tn) := hD
      refine lv_aload_n hx hb dL_act_554 rfl (lv_at hl 10 rfl) ?_
      refine kPVi (As := []) (rest := []) (Wr := (wS cI c2 c3 ((adr5 (v 0) q_2 (v 2) (v 3) (v 4))) rw_ ow cN rN pa pd st ((fun _ => 0)) hc hm lo tn)) (W2 := fun _ : Unit => (wX x a b ++ wM cI a pa pe st ((fun _ => 0)) hc hm ((nI cN)) ((nI rN)) lo ++ wS cI c2 c3 ((adr5 (v 0) q_2 (v 2) (v 3) (v 4))) rw_ ow cN rN pa pd st ((fun _ => 0)) hc hm lo tn)) ⟨hx, hb, hml, hown, hts⟩ (mX1_emptyBins l D cI x b a pa pe st bn hc hm (nI cN) (nI rN) lo _) (cwV 0 hts gL_act_X1_emptyBins rfl rfl rfl (by decide +kernel) ⟨Nat.le_of_ble_eq_true rfl, Nat.le_of_ble_eq_true rfl⟩) (preVQ hK hN hP.left hD.left [0] rfl rfl rfl) hP hD hS hA (List.Perm.refl _) (fun _ => List.Perm.refl _) rfl hl.1 rfl (Nat.le_of_ble_eq_true rfl) dL_act_555 ⟨by show _ ≤ 84; omega, by show _ ≤ 310; omega⟩ (fun r_3 u_3 H locs hr_3 hP hD hS => ?_)
      subst r_3
      have hP : va_P D vwCl (wX x a b ++ wM cI a pa pe st ((fun _ => 0)) hc hm ((nI cN)) ((nI rN)) lo ++ wS cI c2 c3 ((adr5 (v 0) q_2 (v 2) (v 3) (v 4))) rw_ ow cN rN pa pd st ((fun _ => 0)) hc hm lo tn) H := hP
      have hD : va_D A (wX x a b ++ wM cI a pa pe st ((fun _ => 0)) hc hm ((nI cN)) ((nI rN)) lo ++ wS cI c2 c3 ((adr5 (v 0) q_2 (v 2) (v 3) (v 4))) rw_ ow cN rN pa pd st ((fun _ => 0)) hc hm lo tn) := hD
      refine lv_iload hx hb dL_act_558 (lv_at hl 3 rfl) ?_
      refine lv_icmp_ne (tgt := 567) hx hb dL_act_560 (by decide) (fun c9 => absurd (by rw [hs3, show k3 = cN by omega]; exact sum_all h9 hI.b) c9) (fun c_4 => ?_)
      refine lv_iconst (v := 1) hx hb dL_act_563 (by decide) ?_
      refine lv_goto (tgt := 568) hx hb dL_act_564 (by decide) ?_
      refine W.widen (k := 84) (n := 310) (by omega) (by omega) ?_
      exact eQz (w := lsW cI c2 c3 x a b) (cN, rN, pa, pe, pd, st, (fun _ => 0), hc, hm, lo, tn, (adr5 (v 0) q_2 (v 2) (v 3) (v 4)), rw_, ow) hx hb hr hlocks hP hD hK hS dL_act_568 (Or.inr rfl) ⟨rfl, hI.on hI.ok (fun _ _ _ => rfl), rfl⟩
    | succ n3 ih516 =>
      intro k3 ss hkn516 hs3 H locs hP hD hS ls hl
      refine lv_iload hx hb dL_act_516 (lv_at hl 0 rfl) ?_
      refine lv_iload hx hb dL_act_518 (lv_at hl 1 rfl) ?_
      refine lv_icmp_ge (tgt := 543) hx hb dL_act_520 (by decide) (fun c9 => absurd c9 (nI_ge (by omega) (by omega))) (fun c_5 => ?_)
      refine lv_aload hx hb dL_act_523 (lv_at hl 2 rfl) ?_
      refine lv_iload hx hb dL_act_525 (lv_at hl 0 rfl) ?_
      refine va_iald hx hb hK hP 9 0 rfl rfl (vp_in_nI (by omega) (by omega)) dL_act_527 ?_
      rw [nI_clamp (show k3 < 2 ^ 31 by omega)]
      refine lv_istore (lv' := [(11, .int (bn k3)), (10, .int (nI k3)), (9, .int (nI cN)), (8, .ref (v 1)), (7, .int ss), (6, .int 1), (5, .ref (ow k j)), (4, .int (nI k)), (3, .int (nI j)), (2, .int xx), (1, .ref (v 0)), (0, .ref x)]) hx hb dL_act_528 hl (by decide) rfl (fun ls hl => ?_)
      refine lv_iload hx hb dL_act_530 (lv_at hl 4 rfl) ?_
      refine lv_iload hx hb dL_act_532 (lv_at hl 0 rfl) ?_
      refine lv_iadd hx hb dL_act_534 ?_
      refine lv_istore (lv' := [(7, .int (ss + (bn k3))), (11, .int (bn k3)), (10, .int (nI k3)), (9, .int (nI cN)), (8, .ref (v 1)), (6, .int 1), (5, .ref (ow k j)), (4, .int (nI k)), (3, .int (nI j)), (2, .int xx), (1, .ref (v 0)), (0, .ref x)]) hx hb dL_act_535 hl (by decide) rfl (fun ls hl => ?_)
      refine lv_iinc (v := (nI (k3 + 1))) (lv' := [(10, .int (nI (k3 + 1))), (7, .int (ss + (bn k3))), (11, .int (bn k3)), (9, .int (nI cN)), (8, .ref (v 1)), (6, .int 1), (5, .ref (ow k j)), (4, .int (nI k)), (3, .int (nI j)), (2, .int xx), (1, .ref (v 0)), (0, .ref x)]) hx hb dL_act_537 hl (k := 2) rfl (nI_1 k3) (by decide) rfl (fun ls hl => ?_)
      refine lv_goto (tgt := 516) hx hb dL_act_540 (by decide) ?_
      exact ih516 (k3 + 1) (ss + bn k3) (by omega) (by rw [hs3]; rfl) _ _ hP hD hS ls (lv_sub hl [0, 3, 4, 1, 5, 6, 7, 8, 9, 10, 11] rfl)
  exact L516 cN 0 0 (by omega) rfl _ _ hP hD hS ls (lv_sub hl [0, 1, 2, 3, 4, 5, 6, 7, 8, 9, 10] rfl)
set_option maxHeartbeats 4000000 in
set_option maxRecDepth 100000 in
theorem ac_drop {p : Program} {l : Launch} {e : Env} {s : State} {m : MethodId} {below : List Frame} {meth : Method} {c : Code} {D : va_G} {cI c2 c3 : ClassId} {x : Nat} {a b v rw_ : Nat → Nat} {ow : Nat → Nat → Nat} {args : Array Value} {A : Nat → Prop} {cN rN : Nat} {pa pe pd st bn hc hm : Nat → Int32} {lo tn : Int32} {ls : Array Slot} {xx : Int32} {k j : Nat} (F : AC p l s m meth c D cI c2 c3 args A) (hI : PI cN rN pa pe pd st bn hc hm) (hP : va_P D vwCl (wX x a b ++ wM cI a pa pe st bn hc hm ((nI cN)) ((nI rN)) lo ++ wS cI c2 c3 v rw_ ow cN rN pa pd st bn hc hm lo tn) s.heap) (hD : va_D A (wX x a b ++ wM cI a pa pe st bn hc hm ((nI cN)) ((nI rN)) lo ++ wS cI c2 c3 v rw_ ow cN rN pa pd st bn hc hm lo tn)) (hS : va_S A s.heap s.heap []) (hk : k < rN) (hj : j < cN) (hl : lv_has ls 12 [(6, .int 1), (5, .ref (ow k j)), (4, .int (nI k)), (3, .int (nI j)), (2, .int xx), (1, .ref (v 0)), (0, .ref x)]) : W p l e ({ frames := 9, cells := 84, slots := 310, locals := 156 } : Room) s m args below meth c s.heap [] 0 0 (MQ below (va_Qi (fun (zz : Int32) (u : LQ) => zz = 1 ∧ PIq u ∧ u.2.2.2.2.2.2.2.2.2.2.2.1 0 = v 0) (wB D [(cI, .int), (c2, .array .int), (c3, .array (.array .int))] A (lsW cI c2 c3 x a b)) A) args s 84 310 A) (F0 m 569 ls []) := by
  obtain ⟨hx, hb, hr, hml, hown, hts, hlocks, hK, hN, hG, hX, hZ, hA, htb, hst⟩ := F
  have h2 := hI.c2
  have h9 := hI.c9
  have h1r := hI.r1
  have h8 := hI.r8
  refine lv_aload_n hx hb dL_act_569 rfl (lv_at hl 6 rfl) ?_
  refine lv_iload_n hx hb dL_act_570 rfl (lv_at hl 3 rfl) ?_
  refine kPVi (As := [.int (nI j)]) (rest := []) (Wr := (wS cI c2 c3 v rw_ ow cN rN pa pd st bn hc hm lo tn)) (W2 := fun _ : Unit => (wX x a b ++ wM cI a pa pe ((xFall pa pe st (nI cN) (nI j) (nI rN)).2) ((xLandBn bn (xFall pa pe st (nI cN) (nI j) (nI rN)).1)) hc hm ((nI cN)) ((nI rN)) ((xLandLo lo (xFall pa pe st (nI cN) (nI j) (nI rN)).1)) ++ wS cI c2 c3 v rw_ ow cN rN pa pd st bn hc hm lo tn)) ⟨hx, hb, hml, hown, hts⟩ (mX1_drop l D cI x b a pa pe st bn hc hm (nI cN) (nI rN) lo (nI j) (xhas_k hj (by omega)) _) (cwV 1 hts gL_act_X1_drop rfl rfl rfl (by decide +kernel) ⟨Nat.le_of_ble_eq_true rfl, Nat.le_of_ble_eq_true rfl⟩) (preVQ hK hN hP.left hD.left [0] rfl rfl rfl) hP hD hS hA (List.Perm.refl _) (fun _ => List.Perm.refl _) rfl hl.1 rfl (Nat.le_of_ble_eq_true rfl) dL_act_571 ⟨by show _ ≤ 84; omega, by show _ ≤ 310; omega⟩ (fun r_1 u_1 H locs hr_1 hP hD hS => ?_)
  subst r_1
  have hP : va_P D vwCl (wX x a b ++ wM cI a pa pe ((xFall pa pe st (nI cN) (nI j) (nI rN)).2) ((xLandBn bn (xFall pa pe st (nI cN) (nI j) (nI rN)).1)) hc hm ((nI cN)) ((nI rN)) ((xLandLo lo (xFall pa pe st (nI cN) (nI j) (nI rN)).1)) ++ wS cI c2 c3 v rw_ ow cN rN pa pd st bn hc hm lo tn) H := hP
  have hD : va_D A (wX x a b ++ wM cI a pa pe ((xFall pa pe st (nI cN) (nI j) (nI rN)).2) ((xLandBn bn (xFall pa pe st (nI cN) (nI j) (nI rN)).1)) hc hm ((nI cN)) ((nI rN)) ((xLandLo lo (xFall pa pe st (nI cN) (nI j) (nI rN)).1)) ++ wS cI c2 c3 v rw_ ow cN rN pa pd st bn hc hm lo tn) := hD
  refine lv_aload_n hx hb dL_act_574 rfl (lv_at hl 5 rfl) ?_
  refine lv_iload_n hx hb dL_act_575 rfl (lv_at hl 3 rfl) ?_
  refine kPVi (As := [.int (nI j)]) (rest := [.int ((xFall pa pe st (nI cN) (nI j) (nI rN)).1)]) (Wr := (wX x a b ++ wM cI a pa pe ((xFall pa pe st (nI cN) (nI j) (nI rN)).2) ((xLandBn bn (xFall pa pe st (nI cN) (nI j) (nI rN)).1)) hc hm ((nI cN)) ((nI rN)) ((xLandLo lo (xFall pa pe st (nI cN) (nI j) (nI rN)).1)))) (W2 := (fun u : Int32 => (wX x a b ++ wM cI a pa pe ((xFall pa pe st (nI cN) (nI j) (nI rN)).2) ((xLandBn bn (xFall pa pe st (nI cN) (nI j) (nI rN)).1)) hc hm ((nI cN)) ((nI rN)) ((xLandLo lo (xFall pa pe st (nI cN) (nI j) (nI rN)).1))) ++ wS cI c2 c3 v rw_ ow cN rN pa pd ((xFall pa pe st (nI cN) (nI j) (nI rN)).2) ((xLandBn bn (xFall pa pe st (nI cN) (nI j) (nI rN)).1)) hc hm ((xLandLo lo (xFall pa pe st (nI cN) (nI j) (nI rN)).1)) u)) ⟨hx, hb, hml, hown, hts⟩ (mX2_drop l D cI c2 c3 v rw_ ow cN rN pa pd st bn hc hm lo tn (by omega) h9 h8 pe hI.ok j hj _) (cwV 1 hts gL_act_X2_drop rfl rfl rfl (by decide +kernel) ⟨Nat.le_of_ble_eq_true rfl, Nat.le_of_ble_eq_true rfl⟩) (preVQ hK hN hP.right hD.right [0, 1, 2] rfl rfl rfl) hP hD hS hA (pm_12 _ _) (fun _ => pm_12 _ _) rfl hl.1 rfl (Nat.le_of_ble_eq_true rfl) dL_act_576 ⟨by show _ ≤ 84; omega, by show _ ≤ 310; omega⟩ (fun r_2 u_2 H locs hr_2 hP hD hS => ?_)
  have hP : va_P D vwCl (wX x a b ++ wM cI a pa pe ((xFall pa pe st (nI cN) (nI j) (nI rN)).2) ((xLandBn bn (xFall pa pe st (nI cN) (nI j) (nI rN)).1)) hc hm ((nI cN)) ((nI rN)) ((xLandLo lo (xFall pa pe st (nI cN) (nI j) (nI rN)).1)) ++ wS cI c2 c3 v rw_ ow cN rN pa pd ((xFall pa pe st (nI cN) (nI j) (nI rN)).2) ((xLandBn bn (xFall pa pe st (nI cN) (nI j) (nI rN)).1)) hc hm ((xLandLo lo (xFall pa pe st (nI cN) (nI j) (nI rN)).1)) u_2) H := hP
  have hD : va_D A (wX x a b ++ wM cI a pa pe ((xFall pa pe st (nI cN) (nI j) (nI rN)).2) ((xLandBn bn (xFall pa pe st (nI cN) (nI j) (nI rN)).1)) hc hm ((nI cN)) ((nI rN)) ((xLandLo lo (xFall pa pe st (nI cN) (nI j) (nI rN)).1)) ++ wS cI c2 c3 v rw_ ow cN rN pa pd ((xFall pa pe st (nI cN) (nI j) (nI rN)).2) ((xLandBn bn (xFall pa pe st (nI cN) (nI j) (nI rN)).1)) hc hm ((xLandLo lo (xFall pa pe st (nI cN) (nI j) (nI rN)).1)) u_2) := hD
  subst r_2
  refine lv_icmp_ne (tgt := 586) hx hb dL_act_579 (by decide) (fun c9 => absurd rfl c9) (fun c_3 => ?_)
  refine lv_iconst (v := 1) hx hb dL_act_582 (by decide) ?_
  refine lv_goto (tgt := 587) hx hb dL_act_583 (by decide) ?_
  refine W.widen (k := 84) (n := 310) (by omega) (by omega) ?_
  exact eQz (w := lsW cI c2 c3 x a b) (cN, rN, pa, pe, pd, (xFall pa pe st (nI cN) (nI j) (nI rN)).2, (xLandBn bn (xFall pa pe st (nI cN) (nI j) (nI rN)).1), hc, hm, (xLandLo lo (xFall pa pe st (nI cN) (nI j) (nI rN)).1), u_2, v, rw_, ow) hx hb hr hlocks hP hD hK hS dL_act_587 (Or.inr rfl) ⟨rfl, hI.drop hj, rfl⟩
