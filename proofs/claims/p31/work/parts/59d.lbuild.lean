theorem pi_first {hc : Nat → Int32} {nc nr : Nat} (m2 : 2 ≤ nc) (m9 : nc ≤ 9) (d1 : 1 ≤ nr) (d8 : nr ≤ 8) : PI nc nr (fun _ => 0) (fun _ => 0) (fun _ => 0) (fun _ => 0) (fun _ => 0) (upd (upd hc 0 0) 1 (nI nc - 1)) (fun _ => 0) := by
  refine ⟨m2, m9, d1, d8, fun p _ => Or.inl (Or.inl rfl), fun _ _ _ => rfl, fun _ _ _ => rfl, fun k hk => ?_, fun _ _ => ⟨0, by omega, rfl⟩⟩
  obtain ⟨i, rfl⟩ : ∃ i, nc = i + 1 := ⟨nc - 1, by omega⟩
  rcases (show k = 0 ∨ k = 1 by omega) with rfl | rfl
  · exact ⟨0, by omega, rfl⟩
  · rw [pk_us]
    exact ⟨i, by omega, nI_pred i⟩
theorem iw_L_build_X2 : ∀ w ∈ wsX20, w ∈ wsL_build := mem_pos [196, 197, 198, 199, 200, 201] (by decide +kernel)
set_option maxHeartbeats 4000000 in
set_option maxRecDepth 100000 in
theorem mL_build (l : Launch) (hst : l.stackTraces = false) (D : va_G) (cI c2 c3 : ClassId) (x b0 L : Nat) (a b : Nat → Nat) (xs : Nat → Int32) (hL : L < 1000) (pa pe st bn hc : Nat → Int32) (C R0 lo : Int32) (sz : Nat) : Met l yL_build wsL_build ({ frames := 10, cells := 3220, slots := 11879, locals := 187 } : Room) (va_Pc [.ref x, .ref b0] (fun U => wPQ D [(cI, .int), (c2, .array .int), (c3, .array (.array .int))] sz (wX x a b ++ wM cI a pa pe st bn hc (fun _ => 0) C R0 lo) U ∧ K2B cI c2 c3 (wX x a b ++ wM cI a pa pe st bn hc (fun _ => 0) C R0 lo) sz b0 L xs U)) (va_Qr (fun u : LQ => PIq u) (wBr D [(cI, .int), (c2, .array .int), (c3, .array (.array .int))] (va_A (wX x a b ++ wM cI a pa pe st bn hc (fun _ => 0) C R0 lo) sz) (lsW cI c2 c3 x a b) (fun u : LQ => u.2.2.2.2.2.2.2.2.2.2.2.1 0)) (va_A (wX x a b ++ wM cI a pa pe st bn hc (fun _ => 0) C R0 lo) sz)) 3220 11879 (va_A (wX x a b ++ wM cI a pa pe st bn hc (fun _ => 0) C R0 lo) sz) := by
  refine mK_of (K2 := fun U => K2B cI c2 c3 (wX x a b ++ wM cI a pa pe st bn hc (fun _ => 0) C R0 lo) sz b0 L xs U) (by decide) rfl (Nat.le_of_ble_eq_true rfl) ?_
  intro p e s m below meth c hx hb hr hml hown hin hts hlocks hsz hP hK hN hD hK2 hA hS ls hl
  obtain ⟨hG, hX, hZ, hXs, hb0A, hNi⟩ := hK2
  subst hsz
  have hown : s.vm.findClass RL = some m.cls := hown
  have hb0l : b0 < s.heap.size := by
    obtain ⟨scr, h1, -⟩ := hXs
    exact (Array.getElem?_eq_some_iff.mp h1).1
  have hl : lv_has ls 8 [(0, .ref x), (1, .ref b0)] := hl
  have hP : va_P D vwCl (wX x a b ++ wM cI a pa pe st bn hc (fun _ => 0) C R0 lo) s.heap := hP
  refine va_new (D := D) (ci := 2) (fs := [.null, .null, .int 0, .null, .null, .int 0]) (C := RX2) (T := TX2) (N := 6) hx hb hts iw_L_build_X2 tyX2 tyX2_ok hown (hts (.classLink RL 10 RX2) (mg 1 rfl)) (hts (.instantiable RX2 6) (mg 2 rfl)) (hts (.initialized RX2) (mg 3 rfl)) hK hP hD hS hA rfl (fun j hj => by rcases (show j = 0 ∨ j = 1 ∨ j = 2 ∨ j = 3 ∨ j = 4 ∨ j = 5 by omega) with rfl | rfl | rfl | rfl | rfl | rfl <;> rfl) (Nat.le_of_ble_eq_true rfl) (Nat.le_of_ble_eq_true rfl) dL_build_0 (fun q_1 H hP hD hS => ?_)
  have hP : va_P D vwCl (wX x a b ++ wM cI a pa pe st bn hc ((fun _ => 0)) C R0 lo ++ [(q_1, .inr (2, [.null, .null, .int 0, .null, .null, .int 0]))]) H := hP
  have hD : va_D (va_A (wX x a b ++ wM cI a pa pe st bn hc (fun _ => 0) C R0 lo) s.heap.size) (wX x a b ++ wM cI a pa pe st bn hc ((fun _ => 0)) C R0 lo ++ [(q_1, .inr (2, [.null, .null, .int 0, .null, .null, .int 0]))]) := hD
  refine lv_dup hx hb dL_build_3 rfl ?_
  refine kPNIv (As := []) (rest := [.ref q_1]) (Wr := (wX x a b ++ wM cI a pa pe st bn hc (fun _ => 0) C R0 lo)) (W2 := fun u => (wX x a b ++ wM cI a pa pe st bn hc (fun _ => 0) C R0 lo) ++ (wS cI c2 c3 u.1 u.2.1 u.2.2 5 4 (fun _ => 0) (fun _ => 0) (fun _ => 0) (fun _ => 0) (upd (upd (fun _ => 0) 0 0) 1 4) (fun _ => 0) 0 0)) ⟨hx, hb, hml, hown, hts⟩ (mX2_init l D cI c2 c3 q_1 _) ⟨va_cnB (host := RL) 0 hts gL_build_X2_init_n68 rfl rfl rfl hNi (hts (.initialized RX2) (mg 3 rfl)) (by decide +kernel) ⟨Nat.le_of_ble_eq_true rfl, Nat.le_of_ble_eq_true rfl⟩, rfl, hts (.instanceMethod yX2_init) (mg 4 rfl)⟩ (preSK (K2 := fun U => KG cI c2 c3 U) (fun u U hv _ h => KG.same hv h) (fun U hU hW => KG.warm hW hG) (preSQ hK hN (hP.pm (pm_12 _ _)).left (hD.pm (pm_12 _ _)).left [0, 1, 2] rfl)) hP hD hS hA (pm_12 _ _) (fun u => pm_12 _ _) rfl hl.1 rfl (Nat.le_of_ble_eq_true rfl) dL_build_4 ⟨by show _ ≤ 3220; omega, by show _ ≤ 11879; omega⟩ (fun u_2 H locs hr_2 hP hD hS => ?_)
  have hPz := hP
  have hDz := hD
  obtain ⟨v, rw_, ow⟩ := u_2
  dsimp only at hPz hDz hr_2
  subst hr_2
  have hP : va_P D vwCl (wX x a b ++ wM cI a pa pe st bn hc ((fun _ => 0)) C R0 lo ++ wS cI c2 c3 v rw_ ow 5 4 ((fun _ => 0)) ((fun _ => 0)) ((fun _ => 0)) ((fun _ => 0)) ((upd (upd (fun _ => 0) 0 0) 1 4)) ((fun _ => 0)) 0 0) H := hPz
  have hD : va_D (va_A (wX x a b ++ wM cI a pa pe st bn hc (fun _ => 0) C R0 lo) s.heap.size) (wX x a b ++ wM cI a pa pe st bn hc ((fun _ => 0)) C R0 lo ++ wS cI c2 c3 v rw_ ow 5 4 ((fun _ => 0)) ((fun _ => 0)) ((fun _ => 0)) ((fun _ => 0)) ((upd (upd (fun _ => 0) 0 0) 1 4)) ((fun _ => 0)) 0 0) := hDz
  refine lv_astore_n (lv' := [(2, .ref (v 0)), (0, .ref x), (1, .ref b0)]) hx hb dL_build_7 rfl hl (by decide) rfl (fun ls hl => ?_)
  refine lv_iconst (v := 2) hx hb dL_build_8 (by decide) ?_
  refine lv_aload_n hx hb dL_build_9 rfl (lv_at hl 2 rfl) ?_
  refine lv_iconst (v := 0) hx hb dL_build_10 (by decide) ?_
  refine kCell (k := 0) (b0 := b0) (L := L) (xs := xs) (by omega) (by omega) ⟨hx, hb, hml, hown, hts⟩ (va_cwS 2 hts gL_build_L_cell rfl rfl rfl (by decide +kernel) ⟨Nat.le_of_ble_eq_true rfl, Nat.le_of_ble_eq_true rfl⟩) (hXs.kept (hS.2.1 b0 hb0l hb0A)) hl.1 (Nat.le_of_ble_eq_true rfl) dL_build_11 ⟨by show _ ≤ 3220; omega, by show _ ≤ 11879; omega⟩ (fun v_3 => ?_)
  refine lv_bipush (v := 8) hx hb dL_build_14 (by decide) ?_
  refine kBelow (v := v_3) (n := 8) (by omega) (by omega) ⟨hx, hb, hml, hown, hts⟩ (va_cwS 2 hts gL_build_L_below rfl rfl rfl (by decide +kernel) ⟨Nat.le_of_ble_eq_true rfl, Nat.le_of_ble_eq_true rfl⟩) hK hN hl.1 (Nat.le_of_ble_eq_true rfl) dL_build_16 ⟨by show _ ≤ 3220; omega, by show _ ≤ 11879; omega⟩ (fun b_4 hb_4 => ?_)
  refine lv_iadd hx hb dL_build_19 ?_
  rw [show (2 : Int32) + nI b_4 = nI (2 + b_4) from nI_add 2 b_4]
  refine lv_istore_n (lv' := [(3, .int (nI (2 + b_4))), (2, .ref (v 0)), (0, .ref x), (1, .ref b0)]) hx hb dL_build_20 rfl hl (by decide) rfl (fun ls hl => ?_)
  refine lv_iconst (v := 1) hx hb dL_build_21 (by decide) ?_
  refine lv_aload_n hx hb dL_build_22 rfl (lv_at hl 3 rfl) ?_
  refine lv_iconst (v := 0) hx hb dL_build_23 (by decide) ?_
  refine kCell (k := 0) (b0 := b0) (L := L) (xs := xs) (by omega) (by omega) ⟨hx, hb, hml, hown, hts⟩ (va_cwS 2 hts gL_build_L_cell rfl rfl rfl (by decide +kernel) ⟨Nat.le_of_ble_eq_true rfl, Nat.le_of_ble_eq_true rfl⟩) (hXs.kept (hS.2.1 b0 hb0l hb0A)) hl.1 (Nat.le_of_ble_eq_true rfl) dL_build_24 ⟨by show _ ≤ 3220; omega, by show _ ≤ 11879; omega⟩ (fun v_5 => ?_)
  refine lv_iconst (v := 4) hx hb dL_build_27 (by decide) ?_
  refine lv_ishr hx hb dL_build_28 ?_
  refine lv_bipush (v := 8) hx hb dL_build_29 (by decide) ?_
  refine kBelow (v := (v_5 >>> (4 &&& 31))) (n := 8) (by omega) (by omega) ⟨hx, hb, hml, hown, hts⟩ (va_cwS 2 hts gL_build_L_below rfl rfl rfl (by decide +kernel) ⟨Nat.le_of_ble_eq_true rfl, Nat.le_of_ble_eq_true rfl⟩) hK hN hl.1 (Nat.le_of_ble_eq_true rfl) dL_build_31 ⟨by show _ ≤ 3220; omega, by show _ ≤ 11879; omega⟩ (fun b_6 hb_6 => ?_)
  refine lv_iadd hx hb dL_build_34 ?_
  rw [show (1 : Int32) + nI b_6 = nI (1 + b_6) from nI_add 1 b_6]
  refine lv_istore (lv' := [(4, .int (nI (1 + b_6))), (3, .int (nI (2 + b_4))), (2, .ref (v 0)), (0, .ref x), (1, .ref b0)]) hx hb dL_build_35 hl (by decide) rfl (fun ls hl => ?_)
  refine lv_aload_n hx hb dL_build_37 rfl (lv_at hl 2 rfl) ?_
  refine lv_iload_n hx hb dL_build_38 rfl (lv_at hl 1 rfl) ?_
  refine lv_iload hx hb dL_build_39 (lv_at hl 0 rfl) ?_
  refine kPVv (As := [.int (nI (2 + b_4)), .int (nI (1 + b_6))]) (rest := []) (Wr := (wX x a b ++ wM cI a pa pe st bn hc ((fun _ => 0)) C R0 lo)) (W2 := (fun u : ((Nat → Nat) × (Nat → Nat) × (Nat → Nat → Nat)) => (wX x a b ++ wM cI a pa pe st bn hc ((fun _ => 0)) C R0 lo) ++ wS cI c2 c3 u.1 u.2.1 u.2.2 (2 + b_4) (1 + b_6) ((fun _ => 0)) ((fun _ => 0)) ((fun _ => 0)) ((fun _ => 0)) ((upd (upd (upd (upd (fun _ => 0) 0 0) 1 4) 0 0) 1 (nI (2 + b_4) - 1))) ((fun _ => 0)) 0 0)) ⟨hx, hb, hml, hown, hts⟩ (mX2_lay l D cI c2 c3 v rw_ ow 5 4 (fun _ => 0) (fun _ => 0) (fun _ => 0) (fun _ => 0) (upd (upd (fun _ => 0) 0 0) 1 4) (fun _ => 0) 0 0 (2 + b_4) (1 + b_6) (by omega) (by omega) (by omega) (by omega) _) (cwV 2 hts gL_build_X2_lay rfl rfl rfl (by decide +kernel) ⟨Nat.le_of_ble_eq_true rfl, Nat.le_of_ble_eq_true rfl⟩) (preVK (K2 := fun U => KG cI c2 c3 U) (fun u U hv _ h => KG.same hv h) (fun U hU hW => KG.warm hW hG) (preVQ hK hN hP.right hD.right [0, 1, 2] rfl rfl rfl)) hP hD hS hA (pm_12 _ _) (fun _ => pm_12 _ _) rfl hl.1 rfl (Nat.le_of_ble_eq_true rfl) dL_build_41 ⟨by show _ ≤ 3220; omega, by show _ ≤ 11879; omega⟩ (fun u_7 H locs hr_7 hP hD hS => ?_)
  have hP : va_P D vwCl (wX x a b ++ wM cI a pa pe st bn hc ((fun _ => 0)) C R0 lo ++ wS cI c2 c3 u_7.1 u_7.2.1 u_7.2.2 (2 + b_4) (1 + b_6) ((fun _ => 0)) ((fun _ => 0)) ((fun _ => 0)) ((fun _ => 0)) ((upd (upd (upd (upd (fun _ => 0) 0 0) 1 4) 0 0) 1 (nI (2 + b_4) - 1))) ((fun _ => 0)) 0 0) H := hP
  have hD : va_D (va_A (wX x a b ++ wM cI a pa pe st bn hc (fun _ => 0) C R0 lo) s.heap.size) (wX x a b ++ wM cI a pa pe st bn hc ((fun _ => 0)) C R0 lo ++ wS cI c2 c3 u_7.1 u_7.2.1 u_7.2.2 (2 + b_4) (1 + b_6) ((fun _ => 0)) ((fun _ => 0)) ((fun _ => 0)) ((fun _ => 0)) ((upd (upd (upd (upd (fun _ => 0) 0 0) 1 4) 0 0) 1 (nI (2 + b_4) - 1))) ((fun _ => 0)) 0 0) := hD
  obtain ⟨v2, rw2, ow2⟩ := u_7
  dsimp only at hP hD hr_7
  rw [← hr_7] at hl
  have hP : va_P D vwCl (wX x a b ++ wM cI a pa pe st bn hc ((fun _ => 0)) C R0 lo ++ wS cI c2 c3 v2 rw2 ow2 (2 + b_4) (1 + b_6) ((fun _ => 0)) ((fun _ => 0)) ((fun _ => 0)) ((fun _ => 0)) ((upd (upd (upd (upd (fun _ => 0) 0 0) 1 4) 0 0) 1 (nI (2 + b_4) - 1))) ((fun _ => 0)) 0 0) H := hP
  have hD : va_D (va_A (wX x a b ++ wM cI a pa pe st bn hc (fun _ => 0) C R0 lo) s.heap.size) (wX x a b ++ wM cI a pa pe st bn hc ((fun _ => 0)) C R0 lo ++ wS cI c2 c3 v2 rw2 ow2 (2 + b_4) (1 + b_6) ((fun _ => 0)) ((fun _ => 0)) ((fun _ => 0)) ((fun _ => 0)) ((upd (upd (upd (upd (fun _ => 0) 0 0) 1 4) 0 0) 1 (nI (2 + b_4) - 1))) ((fun _ => 0)) 0 0) := hD
  refine lv_aload_n hx hb dL_build_44 rfl (lv_at hl 3 rfl) ?_
  refine lv_iload_n hx hb dL_build_45 rfl (lv_at hl 1 rfl) ?_
  refine lv_iload hx hb dL_build_46 (lv_at hl 0 rfl) ?_
  refine kPVi (As := [.int (nI (2 + b_4)), .int (nI (1 + b_6))]) (rest := []) (Wr := (wS cI c2 c3 v2 rw2 ow2 (2 + b_4) (1 + b_6) ((fun _ => 0)) ((fun _ => 0)) ((fun _ => 0)) ((fun _ => 0)) ((upd (upd (upd (upd (fun _ => 0) 0 0) 1 4) 0 0) 1 (nI (2 + b_4) - 1))) ((fun _ => 0)) 0 0)) (W2 := fun _ : Unit => (wX x a b ++ wM cI a ((fun _ => 0)) ((fun _ => 0)) ((fun _ => 0)) ((fun _ => 0)) ((xsc 2 (xsc 2 hc 0 0) 1 ((nI (2 + b_4)) - 1))) ((fun _ => 0)) ((nI (2 + b_4))) ((nI (1 + b_6))) 0 ++ wS cI c2 c3 v2 rw2 ow2 (2 + b_4) (1 + b_6) ((fun _ => 0)) ((fun _ => 0)) ((fun _ => 0)) ((fun _ => 0)) ((upd (upd (upd (upd (fun _ => 0) 0 0) 1 4) 0 0) 1 (nI (2 + b_4) - 1))) ((fun _ => 0)) 0 0)) ⟨hx, hb, hml, hown, hts⟩ (mX1_lay l D cI x b a pa pe st bn hc (fun _ => 0) C R0 lo (nI (2 + b_4)) (nI (1 + b_6)) (show xin (nI (2 + b_4)) (nI 2) (nI 9) = true from xin_k (by omega) (by omega) (by omega)) (show xin (nI (1 + b_6)) (nI 1) (nI 8) = true from xin_k (by omega) (by omega) (by omega)) _) (cwV 2 hts gL_build_X1_lay rfl rfl rfl (by decide +kernel) ⟨Nat.le_of_ble_eq_true rfl, Nat.le_of_ble_eq_true rfl⟩) (preVQ hK hN hP.left hD.left [0] rfl rfl rfl) hP hD hS hA (List.Perm.refl _) (fun _ => List.Perm.refl _) rfl hl.1 rfl (Nat.le_of_ble_eq_true rfl) dL_build_48 ⟨by show _ ≤ 3220; omega, by show _ ≤ 11879; omega⟩ (fun r_8 u_8 H locs hr_8 hP hD hS => ?_)
  subst r_8
  rw [hc_lay] at hP hD
  have hP : va_P D vwCl (wX x a b ++ wM cI a ((fun _ => 0)) ((fun _ => 0)) ((fun _ => 0)) ((fun _ => 0)) ((upd (upd hc 0 0) 1 (nI (2 + b_4) - 1))) ((fun _ => 0)) ((nI (2 + b_4))) ((nI (1 + b_6))) 0 ++ wS cI c2 c3 v2 rw2 ow2 (2 + b_4) (1 + b_6) ((fun _ => 0)) ((fun _ => 0)) ((fun _ => 0)) ((fun _ => 0)) ((upd (upd (upd (upd (fun _ => 0) 0 0) 1 4) 0 0) 1 (nI (2 + b_4) - 1))) ((fun _ => 0)) 0 0) H := hP
  have hD : va_D (va_A (wX x a b ++ wM cI a pa pe st bn hc (fun _ => 0) C R0 lo) s.heap.size) (wX x a b ++ wM cI a ((fun _ => 0)) ((fun _ => 0)) ((fun _ => 0)) ((fun _ => 0)) ((upd (upd hc 0 0) 1 (nI (2 + b_4) - 1))) ((fun _ => 0)) ((nI (2 + b_4))) ((nI (1 + b_6))) 0 ++ wS cI c2 c3 v2 rw2 ow2 (2 + b_4) (1 + b_6) ((fun _ => 0)) ((fun _ => 0)) ((fun _ => 0)) ((fun _ => 0)) ((upd (upd (upd (upd (fun _ => 0) 0 0) 1 4) 0 0) 1 (nI (2 + b_4) - 1))) ((fun _ => 0)) 0 0) := hD
  have hP : va_P D vwCl (wX x a b ++ wM cI a ((fun _ => 0)) ((fun _ => 0)) ((fun _ => 0)) ((fun _ => 0)) ((upd (upd hc 0 0) 1 (nI (2 + b_4) - 1))) ((fun _ => 0)) ((nI (2 + b_4))) ((nI (1 + b_6))) 0 ++ wS cI c2 c3 v2 rw2 ow2 (2 + b_4) (1 + b_6) ((fun _ => 0)) ((fun _ => 0)) ((fun _ => 0)) ((fun _ => 0)) ((upd (upd hc 0 0) 1 (nI (2 + b_4) - 1))) ((fun _ => 0)) 0 0) H := hP.ext 10 rfl (fun j hj => two_ab _ _ _ _ hj) rfl
  have hD : va_D (va_A (wX x a b ++ wM cI a pa pe st bn hc (fun _ => 0) C R0 lo) s.heap.size) (wX x a b ++ wM cI a ((fun _ => 0)) ((fun _ => 0)) ((fun _ => 0)) ((fun _ => 0)) ((upd (upd hc 0 0) 1 (nI (2 + b_4) - 1))) ((fun _ => 0)) ((nI (2 + b_4))) ((nI (1 + b_6))) 0 ++ wS cI c2 c3 v2 rw2 ow2 (2 + b_4) (1 + b_6) ((fun _ => 0)) ((fun _ => 0)) ((fun _ => 0)) ((fun _ => 0)) ((upd (upd hc 0 0) 1 (nI (2 + b_4) - 1))) ((fun _ => 0)) 0 0) := hD.fst rfl
  have hP : va_P D vwCl (wX x a b ++ wM cI a ((fun _ => 0)) ((fun _ => 0)) ((fun _ => 0)) ((fun _ => 0)) ((upd (upd hc 0 0) 1 (nI (2 + b_4) - 1))) ((fun _ => 0)) ((nI (2 + b_4))) ((nI (1 + b_6))) 0 ++ wS cI c2 c3 v2 rw2 ow2 (2 + b_4) (1 + b_6) ((fun _ => 0)) ((fun _ => 0)) ((fun _ => 0)) ((fun _ => 0)) ((upd (upd hc 0 0) 1 (nI (2 + b_4) - 1))) ((fun _ => 0)) 0 0) H := hP
  have hD : va_D (va_A (wX x a b ++ wM cI a pa pe st bn hc (fun _ => 0) C R0 lo) s.heap.size) (wX x a b ++ wM cI a ((fun _ => 0)) ((fun _ => 0)) ((fun _ => 0)) ((fun _ => 0)) ((upd (upd hc 0 0) 1 (nI (2 + b_4) - 1))) ((fun _ => 0)) ((nI (2 + b_4))) ((nI (1 + b_6))) 0 ++ wS cI c2 c3 v2 rw2 ow2 (2 + b_4) (1 + b_6) ((fun _ => 0)) ((fun _ => 0)) ((fun _ => 0)) ((fun _ => 0)) ((upd (upd hc 0 0) 1 (nI (2 + b_4) - 1))) ((fun _ => 0)) 0 0) := hD
  refine lv_iload_n hx hb dL_build_51 rfl (lv_at hl 1 rfl) ?_
  refine lv_iload hx hb dL_build_52 (lv_at hl 0 rfl) ?_
  refine lv_imul hx hb dL_build_54 ?_
  refine lv_icmp_eq (tgt := 60) hx hb dL_build_55 (by decide) (fun c_9 => ?_) (fun c9 => absurd rfl c9)
  obtain ⟨q, hqd⟩ : ∃ q : LQ, q = ((2 + b_4), (1 + b_6), (fun _ => 0), (fun _ => 0), (fun _ => 0), (fun _ => 0), (fun _ => 0), (upd (upd hc 0 0) 1 (nI (2 + b_4) - 1)), (fun _ => 0), 0, 0, v2, rw2, ow2) := ⟨_, rfl⟩
  have hq : PIq q := by rw [hqd]; exact pi_first (hc := hc) (nc := (2 + b_4)) (nr := (1 + b_6)) (by omega) (by omega) (by omega) (by omega)
  have hP : va_P D vwCl (lsW cI c2 c3 x a b q) H := by rw [hqd]; exact hP
  have hD : va_D (va_A (wX x a b ++ wM cI a pa pe st bn hc (fun _ => 0) C R0 lo) s.heap.size) (lsW cI c2 c3 x a b q) := by rw [hqd]; exact hD
  obtain ⟨o, hqo⟩ : ∃ o, q.2.2.2.2.2.2.2.2.2.2.2.1 0 = o := ⟨_, rfl⟩
  have e0 : v2 0 = o := by rw [← hqo, hqd]
  rw [e0] at hl
  refine W.widen (k := 112 + 84 * 0) (n := 409 + 310 * 0) (by omega) (by omega) ?_
  refine lv_bipush (v := 8) hx hb dL_build_60 (by decide) ?_
  refine lv_aload_n hx hb dL_build_62 rfl (lv_at hl 4 rfl) ?_
  refine lv_iconst (v := 0) hx hb dL_build_63 (by decide) ?_
  refine kCell (k := 0) (b0 := b0) (L := L) (xs := xs) (by omega) (by omega) ⟨hx, hb, hml, hown, hts⟩ (va_cwS 2 hts gL_build_L_cell rfl rfl rfl (by decide +kernel) ⟨Nat.le_of_ble_eq_true rfl, Nat.le_of_ble_eq_true rfl⟩) (hXs.kept (hS.2.1 b0 hb0l hb0A)) hl.1 (Nat.le_of_ble_eq_true rfl) dL_build_64 ⟨by show _ ≤ 3220; omega, by show _ ≤ 11879; omega⟩ (fun v_10 => ?_)
  refine lv_bipush (v := 7) hx hb dL_build_67 (by decide) ?_
  refine lv_ishr hx hb dL_build_69 ?_
  refine lv_bipush (v := 30) hx hb dL_build_70 (by decide) ?_
  refine kBelow (v := (v_10 >>> (7 &&& 31))) (n := 30) (by omega) (by omega) ⟨hx, hb, hml, hown, hts⟩ (va_cwS 2 hts gL_build_L_below rfl rfl rfl (by decide +kernel) ⟨Nat.le_of_ble_eq_true rfl, Nat.le_of_ble_eq_true rfl⟩) hK hN hl.1 (Nat.le_of_ble_eq_true rfl) dL_build_72 ⟨by show _ ≤ 3220; omega, by show _ ≤ 11879; omega⟩ (fun b_11 hb_11 => ?_)
  refine lv_iadd hx hb dL_build_75 ?_
  rw [show (8 : Int32) + nI b_11 = nI (8 + b_11) from nI_add 8 b_11]
  refine lv_istore (lv' := [(5, .int (nI (8 + b_11))), (4, .int (nI (1 + b_6))), (3, .int (nI (2 + b_4))), (2, .ref o), (0, .ref x), (1, .ref b0)]) hx hb dL_build_76 hl (by decide) rfl (fun ls hl => ?_)
  obtain ⟨nB, hnB⟩ : ∃ z, z = (8 + b_11) := ⟨_, rfl⟩
  rw [← hnB] at hl
  have hnB2 : nB < 38 := by omega
  refine lv_iconst (v := 0) hx hb dL_build_78 (by decide) ?_
  refine lv_istore (lv' := [(6, .int 0), (5, .int (nI nB)), (4, .int (nI (1 + b_6))), (3, .int (nI (2 + b_4))), (2, .ref o), (0, .ref x), (1, .ref b0)]) hx hb dL_build_79 hl (by decide) rfl (fun ls hl => ?_)
  have L81 : ∀ (n k : Nat) (q : LQ), k + n = nB → PIq q → q.2.2.2.2.2.2.2.2.2.2.2.1 0 = o → ∀ (H : Heap) (locs : List Loc), va_P D vwCl (lsW cI c2 c3 x a b q) H → va_D (va_A (wX x a b ++ wM cI a pa pe st bn hc (fun _ => 0) C R0 lo) s.heap.size) (lsW cI c2 c3 x a b q) → va_S (va_A (wX x a b ++ wM cI a pa pe st bn hc (fun _ => 0) C R0 lo) s.heap.size) s.heap H locs → ∀ ls : Array Slot, lv_has ls 8 [(6, .int (nI k)), (5, .int (nI nB)), (4, .int (nI (1 + b_6))), (3, .int (nI (2 + b_4))), (2, .ref o), (0, .ref x), (1, .ref b0)] → W p l e ({ frames := 10, cells := 3220, slots := 11879, locals := 187 } : Room) s m #[Value.ref x, .ref b0] below meth c H locs (112 + 84 * k) (409 + 310 * k) (MQ below (va_Qr (fun u : LQ => PIq u) (wBr D [(cI, .int), (c2, .array .int), (c3, .array (.array .int))] (va_A (wX x a b ++ wM cI a pa pe st bn hc (fun _ => 0) C R0 lo) s.heap.size) (lsW cI c2 c3 x a b) (fun u : LQ => u.2.2.2.2.2.2.2.2.2.2.2.1 0)) (va_A (wX x a b ++ wM cI a pa pe st bn hc (fun _ => 0) C R0 lo) s.heap.size)) #[Value.ref x, .ref b0] s 3220 11879 (va_A (wX x a b ++ wM cI a pa pe st bn hc (fun _ => 0) C R0 lo) s.heap.size)) (F0 m 81 ls []) := by
    intro n
    induction n with
    | zero =>
      intro k q hkn81 hq hqo H locs hP hD hS ls hl
      refine lv_iload hx hb dL_build_81 (lv_at hl 0 rfl) ?_
      refine lv_iload hx hb dL_build_83 (lv_at hl 1 rfl) ?_
      refine lv_icmp_ge (tgt := 166) hx hb dL_build_85 (by decide) (fun c_12 => ?_) (fun c9 => absurd (nI_le (by omega) (by omega)) c9)
      refine lv_aload_n hx hb dL_build_166 rfl (lv_at hl 4 rfl) ?_
      refine W.widen (k := 3220) (n := 11879) (by omega) (by omega) ?_
      exact eQr (w := lsW cI c2 c3 x a b) (ad := fun u : LQ => u.2.2.2.2.2.2.2.2.2.2.2.1 0) q hx hb hr hlocks hP hD hK hS dL_build_167 hqo.symm hq
    | succ n ih81 =>
      intro k q hkn81 hq hqo H locs hP hD hS ls hl
      refine lv_iload hx hb dL_build_81 (lv_at hl 0 rfl) ?_
      refine lv_iload hx hb dL_build_83 (lv_at hl 1 rfl) ?_
      refine lv_icmp_ge (tgt := 166) hx hb dL_build_85 (by decide) (fun c9 => absurd c9 (nI_ge (by omega) (by omega))) (fun c_13 => ?_)
      refine lv_aload_n hx hb dL_build_88 rfl (lv_at hl 6 rfl) ?_
      refine lv_iconst (v := 1) hx hb dL_build_89 (by decide) ?_
      refine lv_iload hx hb dL_build_90 (lv_at hl 0 rfl) ?_
      refine lv_bipush (v := 15) hx hb dL_build_92 (by decide) ?_
      refine lv_irem hx hb dL_build_94 (by decide) ?_
      rw [show (15 : Int32) = nI 15 from rfl, pk_rem (show k < 2 ^ 31 by omega) (by decide) (by decide)]
      refine lv_iadd hx hb dL_build_95 ?_
      rw [show (1 : Int32) + nI (k % 15) = nI (1 + k % 15) from nI_add 1 _]
      refine kCell (k := (1 + k % 15)) (b0 := b0) (L := L) (xs := xs) (by omega) (by omega) ⟨hx, hb, hml, hown, hts⟩ (va_cwS 2 hts gL_build_L_cell rfl rfl rfl (by decide +kernel) ⟨Nat.le_of_ble_eq_true rfl, Nat.le_of_ble_eq_true rfl⟩) (hXs.kept (hS.2.1 b0 hb0l hb0A)) hl.1 (Nat.le_of_ble_eq_true rfl) dL_build_96 ⟨by show _ ≤ 3220; omega, by show _ ≤ 11879; omega⟩ (fun v_14 => ?_)
      refine lv_iload hx hb dL_build_99 (lv_at hl 0 rfl) ?_
      refine lv_bipush (v := 15) hx hb dL_build_101 (by decide) ?_
      refine lv_idiv hx hb dL_build_103 (by decide) ?_
      refine lv_iconst (v := 3) hx hb dL_build_104 (by decide) ?_
      refine lv_imul hx hb dL_build_105 ?_
      refine lv_ishr hx hb dL_build_106 ?_
      refine lv_bipush (v := 37) hx hb dL_build_107 (by decide) ?_
      refine lv_iload hx hb dL_build_109 (lv_at hl 0 rfl) ?_
      refine lv_imul hx hb dL_build_111 ?_
      refine lv_iadd hx hb dL_build_112 ?_
      refine lv_istore (lv' := [(7, .int ((v_14 >>> ((((nI k) / 15) * 3) &&& 31)) + (37 * (nI k)))), (6, .int (nI k)), (5, .int (nI nB)), (4, .int (nI (1 + b_6))), (3, .int (nI (2 + b_4))), (2, .ref o), (0, .ref x), (1, .ref b0)]) hx hb dL_build_113 hl (by decide) rfl (fun ls hl => ?_)
      obtain ⟨xx, hxx⟩ : ∃ xx : Int32, xx = ((v_14 >>> ((((nI k) / 15) * 3) &&& 31)) + (37 * (nI k))) := ⟨_, rfl⟩
      rw [← hxx] at hl
      refine lv_aload_n hx hb dL_build_115 rfl (lv_at hl 6 rfl) ?_
      refine lv_aload_n hx hb dL_build_116 rfl (lv_at hl 5 rfl) ?_
      refine lv_iload hx hb dL_build_117 (lv_at hl 1 rfl) ?_
      refine lv_iconst (v := 4) hx hb dL_build_119 (by decide) ?_
      refine lv_irem hx hb dL_build_120 (by decide) ?_
      refine lv_iconst (v := 3) hx hb dL_build_121 (by decide) ?_
      refine lv_icmp_ge (tgt := 150) hx hb dL_build_122 (by decide) (fun c_15 => ?_) (fun c_15 => ?_)
      · refine lv_iload hx hb dL_build_150 (lv_at hl 0 rfl) ?_
        refine kPWi (mc := 84) (ms := 310) (As := [.ref x, .ref o, .int xx]) (rest := []) (Wr := []) (W2 := fun u : LQ => lsW cI c2 c3 x a b u) ⟨hx, hb, hml, hown, hts⟩ (by rw [← hqo]; exact mL_actq l hst D cI c2 c3 x a b q hq xx _) (vx_cwSW 3 hts gL_build_L_act rfl rfl rfl (by decide +kernel) ⟨Nat.le_of_ble_eq_true rfl, Nat.le_of_ble_eq_true rfl⟩) (preSK (K2 := fun U => K2A cI c2 c3 U) (fun u U hv hh h => K2A.same hv hh h) (K2A.of hG hX (hZ.now hS hA)) (preSQ hK hN (hP.pm (pm_0 _)).left (hD.pm (pm_0 _)).left [0, 1, 2] rfl)) hP hD hS hA (pm_0 _) (fun _ => (pm_0 _).symm) rfl hl.1 rfl (Nat.le_of_ble_eq_true rfl) dL_build_152 ⟨by show _ ≤ 3220; omega, by show _ ≤ 11879; omega⟩ (fun r_16 u_16 H locs hr_16 hP hD hS => ?_)
        obtain ⟨hr1_16, hq_16, ho_16⟩ := hr_16
        subst hr1_16
        refine lv_if_ne (tgt := 160) hx hb dL_build_155 (by decide) (fun _ => ?_) (fun c9 => absurd c9 (by decide))
        refine lv_iinc (v := (nI (k + 1))) (lv' := [(6, .int (nI (k + 1))), (7, .int xx), (5, .int (nI nB)), (4, .int (nI (1 + b_6))), (3, .int (nI (2 + b_4))), (2, .ref o), (0, .ref x), (1, .ref b0)]) hx hb dL_build_160 hl (k := 1) rfl (nI_1 k) (by decide) rfl (fun ls hl => ?_)
        refine lv_goto (tgt := 81) hx hb dL_build_163 (by decide) ?_
        refine W.widen (k := 112 + 84 * (k + 1)) (n := 409 + 310 * (k + 1)) (by omega) (by omega) ?_
        exact ih81 (k + 1) u_16 (by omega) hq_16 (ho_16.trans hqo) _ _ hP hD hS ls (lv_sub hl [0, 2, 3, 4, 5, 6, 7] rfl)
      · refine lv_iload hx hb dL_build_125 (lv_at hl 0 rfl) ?_
        refine lv_iload hx hb dL_build_127 (lv_at hl 0 rfl) ?_
        refine lv_bipush (v := 16) hx hb dL_build_129 (by decide) ?_
        refine kBelow (v := xx) (n := 16) (by omega) (by omega) ⟨hx, hb, hml, hown, hts⟩ (va_cwS 2 hts gL_build_L_below rfl rfl rfl (by decide +kernel) ⟨Nat.le_of_ble_eq_true rfl, Nat.le_of_ble_eq_true rfl⟩) hK hN hl.1 (Nat.le_of_ble_eq_true rfl) dL_build_131 ⟨by show _ ≤ 3220; omega, by show _ ≤ 11879; omega⟩ (fun b_18 hb_18 => ?_)
        refine lv_isub hx hb dL_build_134 ?_
        refine lv_iconst (v := 1) hx hb dL_build_135 (by decide) ?_
        refine lv_iadd hx hb dL_build_136 ?_
        refine lv_iload hx hb dL_build_137 (lv_at hl 0 rfl) ?_
        refine lv_iconst (v := 5) hx hb dL_build_139 (by decide) ?_
        refine lv_ishr hx hb dL_build_140 ?_
        refine lv_bipush (v := 6) hx hb dL_build_141 (by decide) ?_
        refine kBelow (v := (xx >>> (5 &&& 31))) (n := 6) (by omega) (by omega) ⟨hx, hb, hml, hown, hts⟩ (va_cwS 2 hts gL_build_L_below rfl rfl rfl (by decide +kernel) ⟨Nat.le_of_ble_eq_true rfl, Nat.le_of_ble_eq_true rfl⟩) hK hN hl.1 (Nat.le_of_ble_eq_true rfl) dL_build_143 ⟨by show _ ≤ 3220; omega, by show _ ≤ 11879; omega⟩ (fun b_19 hb_19 => ?_)
        refine lv_iadd hx hb dL_build_146 ?_
        refine lv_goto (tgt := 152) hx hb dL_build_147 (by decide) ?_
        refine kPWi (mc := 84) (ms := 310) (As := [.ref x, .ref o, .int (((xx - (nI b_18)) + 1) + (nI b_19))]) (rest := []) (Wr := []) (W2 := fun u : LQ => lsW cI c2 c3 x a b u) ⟨hx, hb, hml, hown, hts⟩ (by rw [← hqo]; exact mL_actq l hst D cI c2 c3 x a b q hq (((xx - (nI b_18)) + 1) + (nI b_19)) _) (vx_cwSW 3 hts gL_build_L_act rfl rfl rfl (by decide +kernel) ⟨Nat.le_of_ble_eq_true rfl, Nat.le_of_ble_eq_true rfl⟩) (preSK (K2 := fun U => K2A cI c2 c3 U) (fun u U hv hh h => K2A.same hv hh h) (K2A.of hG hX (hZ.now hS hA)) (preSQ hK hN (hP.pm (pm_0 _)).left (hD.pm (pm_0 _)).left [0, 1, 2] rfl)) hP hD hS hA (pm_0 _) (fun _ => (pm_0 _).symm) rfl hl.1 rfl (Nat.le_of_ble_eq_true rfl) dL_build_152 ⟨by show _ ≤ 3220; omega, by show _ ≤ 11879; omega⟩ (fun r_20 u_20 H locs hr_20 hP hD hS => ?_)
        obtain ⟨hr1_20, hq_20, ho_20⟩ := hr_20
        subst hr1_20
        refine lv_if_ne (tgt := 160) hx hb dL_build_155 (by decide) (fun _ => ?_) (fun c9 => absurd c9 (by decide))
        refine lv_iinc (v := (nI (k + 1))) (lv' := [(6, .int (nI (k + 1))), (7, .int xx), (5, .int (nI nB)), (4, .int (nI (1 + b_6))), (3, .int (nI (2 + b_4))), (2, .ref o), (0, .ref x), (1, .ref b0)]) hx hb dL_build_160 hl (k := 1) rfl (nI_1 k) (by decide) rfl (fun ls hl => ?_)
        refine lv_goto (tgt := 81) hx hb dL_build_163 (by decide) ?_
        refine W.widen (k := 112 + 84 * (k + 1)) (n := 409 + 310 * (k + 1)) (by omega) (by omega) ?_
        exact ih81 (k + 1) u_20 (by omega) hq_20 (ho_20.trans hqo) _ _ hP hD hS ls (lv_sub hl [0, 2, 3, 4, 5, 6, 7] rfl)
  exact L81 nB 0 q (by omega) hq hqo _ _ hP hD hS ls (lv_sub hl [0, 1, 2, 3, 4, 5, 6] rfl)
