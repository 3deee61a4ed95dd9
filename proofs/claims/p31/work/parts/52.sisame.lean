theorem iw_X2_isSame_X2 : ∀ w ∈ wsX20, w ∈ wsX2_isSame := mem_pos [128, 129, 130, 131, 132, 133] (by decide +kernel)
set_option maxHeartbeats 4000000 in
set_option maxRecDepth 100000 in
theorem mX2_isSame (l : Launch) (D : va_G) (cI : ClassId) (x : Nat) (b : Nat → Nat) (a : Nat → Nat) (pa pe st bn hc hm : Nat → Int32) (lo : Int32) (c2 c3 : ClassId) (v rw_ : Nat → Nat) (ow : Nat → Nat → Nat) (pd : Nat → Int32) (tn : Int32) (cN rN : Nat) (h2 : 2 ≤ cN) (h9 : cN ≤ 9) (h8 : rN ≤ 8) (hz : ∀ p, rN * cN ≤ p → p < 72 → pa p = 0) (hb0 : ∀ c, cN ≤ c → c < 9 → bn c = 0) (sz : Nat) : Met l yX2_isSame wsX2_isSame ({ frames := 9, cells := 0, slots := 0, locals := 155 } : Room) (va_Pc [.ref (v 0), .ref x] (wPQ D [(cI, .int), (c2, .array .int), (c3, .array (.array .int))] sz (wX x a b ++ wM cI a pa pe st bn hc hm ((nI cN)) ((nI rN)) lo ++ wS cI c2 c3 v rw_ ow cN rN pa pd st bn hc hm lo tn))) (va_Qi (fun (zz : Int32) (_ : Unit) => zz = 1) (wB D [(cI, .int), (c2, .array .int), (c3, .array (.array .int))] (va_A (wX x a b ++ wM cI a pa pe st bn hc hm ((nI cN)) ((nI rN)) lo ++ wS cI c2 c3 v rw_ ow cN rN pa pd st bn hc hm lo tn) sz) (fun _ : Unit => (wX x a b ++ wM cI a pa pe st bn hc hm ((nI cN)) ((nI rN)) lo ++ wS cI c2 c3 v rw_ ow cN rN pa pd st bn hc hm lo tn))) (va_A (wX x a b ++ wM cI a pa pe st bn hc hm ((nI cN)) ((nI rN)) lo ++ wS cI c2 c3 v rw_ ow cN rN pa pd st bn hc hm lo tn) sz)) 0 0 (va_A (wX x a b ++ wM cI a pa pe st bn hc hm ((nI cN)) ((nI rN)) lo ++ wS cI c2 c3 v rw_ ow cN rN pa pd st bn hc hm lo tn) sz) := by
  refine mQ_of (by decide) rfl (Nat.le_of_ble_eq_true rfl) ?_
  intro p e s m below meth c hx hb hr hml hown hin hts hlocks hsz hP hK hN hD hA hS ls hl
  have hown : s.vm.findClass RX2 = some m.cls := hown
  have hl : lv_has ls 10 [(0, .ref (v 0)), (1, .ref x)] := hl
  have hP : va_P D vwCl (wX x a b ++ wM cI a pa pe st bn hc hm ((nI cN)) ((nI rN)) lo ++ wS cI c2 c3 v rw_ ow cN rN pa pd st bn hc hm lo tn) s.heap := hP
  refine lv_iconst (v := 0) hx hb dX2_isSame_0 (by decide) ?_
  refine lv_istore_n (lv' := [(2, .int 0), (0, .ref (v 0)), (1, .ref x)]) hx hb dX2_isSame_1 rfl hl (by decide) rfl (fun ls hl => ?_)
  refine lv_iconst (v := 0) hx hb dX2_isSame_2 (by decide) ?_
  refine lv_istore_n (lv' := [(3, .int 0), (2, .int 0), (0, .ref (v 0)), (1, .ref x)]) hx hb dX2_isSame_3 rfl hl (by decide) rfl (fun ls hl => ?_)
  refine lv_iconst (v := 0) hx hb dX2_isSame_4 (by decide) ?_
  refine lv_istore (lv' := [(4, .int 0), (3, .int 0), (2, .int 0), (0, .ref (v 0)), (1, .ref x)]) hx hb dX2_isSame_5 hl (by decide) rfl (fun ls hl => ?_)
  have L7 : ∀ (n k : Nat) (tt : Int32), k + n = rN → tt = nI (tg pa (k * cN)) → ∀ (H : Heap) (locs : List Loc), va_P D vwCl (wX x a b ++ wM cI a pa pe st bn hc hm ((nI cN)) ((nI rN)) lo ++ wS cI c2 c3 v rw_ ow cN rN pa pd st bn hc hm lo tn) H → va_D (va_A (wX x a b ++ wM cI a pa pe st bn hc hm ((nI cN)) ((nI rN)) lo ++ wS cI c2 c3 v rw_ ow cN rN pa pd st bn hc hm lo tn) sz) (wX x a b ++ wM cI a pa pe st bn hc hm ((nI cN)) ((nI rN)) lo ++ wS cI c2 c3 v rw_ ow cN rN pa pd st bn hc hm lo tn) → va_S (va_A (wX x a b ++ wM cI a pa pe st bn hc hm ((nI cN)) ((nI rN)) lo ++ wS cI c2 c3 v rw_ ow cN rN pa pd st bn hc hm lo tn) sz) s.heap H locs → ∀ ls : Array Slot, lv_has ls 10 [(4, .int (nI k)), (3, .int 0), (2, .int tt), (0, .ref (v 0)), (1, .ref x)] → W p l e ({ frames := 9, cells := 0, slots := 0, locals := 155 } : Room) s m [.ref (v 0), .ref x].toArray below meth c H locs 0 0 (MQ below (va_Qi (fun (zz : Int32) (_ : Unit) => zz = 1) (wB D [(cI, .int), (c2, .array .int), (c3, .array (.array .int))] (va_A (wX x a b ++ wM cI a pa pe st bn hc hm ((nI cN)) ((nI rN)) lo ++ wS cI c2 c3 v rw_ ow cN rN pa pd st bn hc hm lo tn) sz) (fun _ : Unit => (wX x a b ++ wM cI a pa pe st bn hc hm ((nI cN)) ((nI rN)) lo ++ wS cI c2 c3 v rw_ ow cN rN pa pd st bn hc hm lo tn))) (va_A (wX x a b ++ wM cI a pa pe st bn hc hm ((nI cN)) ((nI rN)) lo ++ wS cI c2 c3 v rw_ ow cN rN pa pd st bn hc hm lo tn) sz)) [.ref (v 0), .ref x].toArray s 0 0 (va_A (wX x a b ++ wM cI a pa pe st bn hc hm ((nI cN)) ((nI rN)) lo ++ wS cI c2 c3 v rw_ ow cN rN pa pd st bn hc hm lo tn) sz)) (F0 m 7 ls []) := by
    intro n
    induction n with
    | zero =>
      intro k tt hkn7 ht H locs hP hD hS ls hl
      refine lv_iload hx hb dX2_isSame_7 (lv_at hl 0 rfl) ?_
      refine lv_aload_n hx hb dX2_isSame_9 rfl (lv_at hl 3 rfl) ?_
      refine va_get (D := D) (ci := 2) (v := .ref (v 4)) (C := RX2) (T := TX2) (N := 6) hx hb hts iw_X2_isSame_X2 hown hK hP 8 rfl rfl 0 (by decide) (hts (.fieldLink RX2 9 "MarbleRampsLaw$Sim" "board" "[[[I") (mg 1 rfl)) (fun _ h9 => h9) rfl dX2_isSame_10 ?_
      refine va_alen hx hb hK hP 12 2 rfl rfl (v := (nI rN)) rfl dX2_isSame_13 ?_
      refine lv_icmp_ge (tgt := 190) hx hb dX2_isSame_14 (by decide) (fun c_1 => ?_) (fun c9 => absurd (nI_le (by omega) (by omega)) c9)
      refine lv_iconst (v := 0) hx hb dX2_isSame_190 (by decide) ?_
      refine lv_istore (lv' := [(4, .int 0), (3, .int 0), (2, .int tt), (0, .ref (v 0)), (1, .ref x)]) hx hb dX2_isSame_191 hl (by decide) rfl (fun ls hl => ?_)
      have L193 : ∀ (n3 k3 : Nat) (ss : Int32), k3 + n3 = cN → ss = sm bn k3 → ∀ (H : Heap) (locs : List Loc), va_P D vwCl (wX x a b ++ wM cI a pa pe st bn hc hm ((nI cN)) ((nI rN)) lo ++ wS cI c2 c3 v rw_ ow cN rN pa pd st bn hc hm lo tn) H → va_D (va_A (wX x a b ++ wM cI a pa pe st bn hc hm ((nI cN)) ((nI rN)) lo ++ wS cI c2 c3 v rw_ ow cN rN pa pd st bn hc hm lo tn) sz) (wX x a b ++ wM cI a pa pe st bn hc hm ((nI cN)) ((nI rN)) lo ++ wS cI c2 c3 v rw_ ow cN rN pa pd st bn hc hm lo tn) → va_S (va_A (wX x a b ++ wM cI a pa pe st bn hc hm ((nI cN)) ((nI rN)) lo ++ wS cI c2 c3 v rw_ ow cN rN pa pd st bn hc hm lo tn) sz) s.heap H locs → ∀ ls : Array Slot, lv_has ls 10 [(4, .int (nI k3)), (3, .int ss), (2, .int tt), (0, .ref (v 0)), (1, .ref x)] → W p l e ({ frames := 9, cells := 0, slots := 0, locals := 155 } : Room) s m [.ref (v 0), .ref x].toArray below meth c H locs 0 0 (MQ below (va_Qi (fun (zz : Int32) (_ : Unit) => zz = 1) (wB D [(cI, .int), (c2, .array .int), (c3, .array (.array .int))] (va_A (wX x a b ++ wM cI a pa pe st bn hc hm ((nI cN)) ((nI rN)) lo ++ wS cI c2 c3 v rw_ ow cN rN pa pd st bn hc hm lo tn) sz) (fun _ : Unit => (wX x a b ++ wM cI a pa pe st bn hc hm ((nI cN)) ((nI rN)) lo ++ wS cI c2 c3 v rw_ ow cN rN pa pd st bn hc hm lo tn))) (va_A (wX x a b ++ wM cI a pa pe st bn hc hm ((nI cN)) ((nI rN)) lo ++ wS cI c2 c3 v rw_ ow cN rN pa pd st bn hc hm lo tn) sz)) [.ref (v 0), .ref x].toArray s 0 0 (va_A (wX x a b ++ wM cI a pa pe st bn hc hm ((nI cN)) ((nI rN)) lo ++ wS cI c2 c3 v rw_ ow cN rN pa pd st bn hc hm lo tn) sz)) (F0 m 193 ls []) := by
        intro n3
        induction n3 with
        | zero =>
          intro k3 ss hkn193 hs3 H locs hP hD hS ls hl
          refine lv_iload hx hb dX2_isSame_193 (lv_at hl 0 rfl) ?_
          refine lv_aload_n hx hb dX2_isSame_195 rfl (lv_at hl 3 rfl) ?_
          refine va_get (D := D) (ci := 2) (v := .ref (v 1)) (C := RX2) (T := TX2) (N := 6) hx hb hts iw_X2_isSame_X2 hown hK hP 8 rfl rfl 1 (by decide) (hts (.fieldLink RX2 14 "MarbleRampsLaw$Sim" "bins" "[I") (mg 2 rfl)) (fun _ h9 => h9) rfl dX2_isSame_196 ?_
          refine va_alen hx hb hK hP 9 0 rfl rfl (v := (nI cN)) rfl dX2_isSame_199 ?_
          refine lv_icmp_ge (tgt := 237) hx hb dX2_isSame_200 (by decide) (fun c_2 => ?_) (fun c9 => absurd (nI_le (by omega) (by omega)) c9)
          refine lv_iconst (v := 0) hx hb dX2_isSame_237 (by decide) ?_
          refine lv_istore (lv' := [(4, .int 0), (3, .int ss), (2, .int tt), (0, .ref (v 0)), (1, .ref x)]) hx hb dX2_isSame_238 hl (by decide) rfl (fun ls hl => ?_)
          have L240 : ∀ (n4 k4 : Nat), k4 + n4 = 2 → ∀ (H : Heap) (locs : List Loc), va_P D vwCl (wX x a b ++ wM cI a pa pe st bn hc hm ((nI cN)) ((nI rN)) lo ++ wS cI c2 c3 v rw_ ow cN rN pa pd st bn hc hm lo tn) H → va_D (va_A (wX x a b ++ wM cI a pa pe st bn hc hm ((nI cN)) ((nI rN)) lo ++ wS cI c2 c3 v rw_ ow cN rN pa pd st bn hc hm lo tn) sz) (wX x a b ++ wM cI a pa pe st bn hc hm ((nI cN)) ((nI rN)) lo ++ wS cI c2 c3 v rw_ ow cN rN pa pd st bn hc hm lo tn) → va_S (va_A (wX x a b ++ wM cI a pa pe st bn hc hm ((nI cN)) ((nI rN)) lo ++ wS cI c2 c3 v rw_ ow cN rN pa pd st bn hc hm lo tn) sz) s.heap H locs → ∀ ls : Array Slot, lv_has ls 10 [(4, .int (nI k4)), (3, .int ss), (2, .int tt), (0, .ref (v 0)), (1, .ref x)] → W p l e ({ frames := 9, cells := 0, slots := 0, locals := 155 } : Room) s m [.ref (v 0), .ref x].toArray below meth c H locs 0 0 (MQ below (va_Qi (fun (zz : Int32) (_ : Unit) => zz = 1) (wB D [(cI, .int), (c2, .array .int), (c3, .array (.array .int))] (va_A (wX x a b ++ wM cI a pa pe st bn hc hm ((nI cN)) ((nI rN)) lo ++ wS cI c2 c3 v rw_ ow cN rN pa pd st bn hc hm lo tn) sz) (fun _ : Unit => (wX x a b ++ wM cI a pa pe st bn hc hm ((nI cN)) ((nI rN)) lo ++ wS cI c2 c3 v rw_ ow cN rN pa pd st bn hc hm lo tn))) (va_A (wX x a b ++ wM cI a pa pe st bn hc hm ((nI cN)) ((nI rN)) lo ++ wS cI c2 c3 v rw_ ow cN rN pa pd st bn hc hm lo tn) sz)) [.ref (v 0), .ref x].toArray s 0 0 (va_A (wX x a b ++ wM cI a pa pe st bn hc hm ((nI cN)) ((nI rN)) lo ++ wS cI c2 c3 v rw_ ow cN rN pa pd st bn hc hm lo tn) sz)) (F0 m 240 ls []) := by
            intro n4
            induction n4 with
            | zero =>
              intro k4 hkn240 H locs hP hD hS ls hl
              refine lv_iload hx hb dX2_isSame_240 (lv_at hl 0 rfl) ?_
              refine lv_iconst (v := 2) hx hb dX2_isSame_242 (by decide) ?_
              refine lv_icmp_ge (tgt := 286) hx hb dX2_isSame_243 (by decide) (fun c_3 => ?_) (fun c9 => absurd (by rw [show (2 : Int32) = nI 2 from rfl]; exact nI_le (by omega) (by omega)) c9)
              refine lv_aload_n hx hb dX2_isSame_286 rfl (lv_at hl 4 rfl) ?_
              refine kRVi (As := []) (rest := []) ⟨hx, hb, hml, hown, hts⟩ (mX1_columns l D cI x b a pa pe st bn hc hm (nI cN) (nI rN) lo) (cwV 0 hts gX2_isSame_X1_columns rfl rfl rfl (by decide +kernel) ⟨Nat.le_of_ble_eq_true rfl, Nat.le_of_ble_eq_true rfl⟩) hP hK hN [0, 1, 2, 3, 4, 5, 6, 7] rfl [0] rfl rfl rfl rfl hl.1 rfl (Nat.le_of_ble_eq_true rfl) dX2_isSame_287 ⟨Nat.zero_le _, Nat.zero_le _⟩ (fun r_4 hr_4 => ?_)
              subst r_4
              refine lv_aload_n hx hb dX2_isSame_290 rfl (lv_at hl 3 rfl) ?_
              refine va_get (D := D) (ci := 2) (v := .ref (v 1)) (C := RX2) (T := TX2) (N := 6) hx hb hts iw_X2_isSame_X2 hown hK hP 8 rfl rfl 1 (by decide) (hts (.fieldLink RX2 14 "MarbleRampsLaw$Sim" "bins" "[I") (mg 2 rfl)) (fun _ h9 => h9) rfl dX2_isSame_291 ?_
              refine va_alen hx hb hK hP 9 0 rfl rfl (v := (nI cN)) rfl dX2_isSame_294 ?_
              refine lv_icmp_ne (tgt := 350) hx hb dX2_isSame_295 (by decide) (fun c9 => absurd rfl c9) (fun c_5 => ?_)
              refine lv_aload_n hx hb dX2_isSame_298 rfl (lv_at hl 4 rfl) ?_
              refine kRVi (As := []) (rest := []) ⟨hx, hb, hml, hown, hts⟩ (mX1_rows l D cI x b a pa pe st bn hc hm (nI cN) (nI rN) lo) (cwV 0 hts gX2_isSame_X1_rows rfl rfl rfl (by decide +kernel) ⟨Nat.le_of_ble_eq_true rfl, Nat.le_of_ble_eq_true rfl⟩) hP hK hN [0, 1, 2, 3, 4, 5, 6, 7] rfl [0] rfl rfl rfl rfl hl.1 rfl (Nat.le_of_ble_eq_true rfl) dX2_isSame_299 ⟨Nat.zero_le _, Nat.zero_le _⟩ (fun r_6 hr_6 => ?_)
              subst r_6
              refine lv_aload_n hx hb dX2_isSame_302 rfl (lv_at hl 3 rfl) ?_
              refine va_get (D := D) (ci := 2) (v := .ref (v 4)) (C := RX2) (T := TX2) (N := 6) hx hb hts iw_X2_isSame_X2 hown hK hP 8 rfl rfl 0 (by decide) (hts (.fieldLink RX2 9 "MarbleRampsLaw$Sim" "board" "[[[I") (mg 1 rfl)) (fun _ h9 => h9) rfl dX2_isSame_303 ?_
              refine va_alen hx hb hK hP 12 2 rfl rfl (v := (nI rN)) rfl dX2_isSame_306 ?_
              refine lv_icmp_ne (tgt := 350) hx hb dX2_isSame_307 (by decide) (fun c9 => absurd rfl c9) (fun c_7 => ?_)
              refine lv_aload_n hx hb dX2_isSame_310 rfl (lv_at hl 4 rfl) ?_
              refine kRVi (As := []) (rest := []) ⟨hx, hb, hml, hown, hts⟩ (mX1_lost l D cI x b a pa pe st bn hc hm (nI cN) (nI rN) lo) (cwV 0 hts gX2_isSame_X1_lost rfl rfl rfl (by decide +kernel) ⟨Nat.le_of_ble_eq_true rfl, Nat.le_of_ble_eq_true rfl⟩) hP hK hN [0, 1, 2, 3, 4, 5, 6, 7] rfl [0] rfl rfl rfl rfl hl.1 rfl (Nat.le_of_ble_eq_true rfl) dX2_isSame_311 ⟨Nat.zero_le _, Nat.zero_le _⟩ (fun r_8 hr_8 => ?_)
              subst r_8
              refine lv_aload_n hx hb dX2_isSame_314 rfl (lv_at hl 3 rfl) ?_
              refine va_get (D := D) (ci := 2) (v := .int lo) (C := RX2) (T := TX2) (N := 6) hx hb hts iw_X2_isSame_X2 hown hK hP 8 rfl rfl 2 (by decide) (hts (.fieldLink RX2 30 "MarbleRampsLaw$Sim" "lost" "I") (mg 5 rfl)) (fun _ h9 => h9) rfl dX2_isSame_315 ?_
              refine lv_icmp_ne (tgt := 350) hx hb dX2_isSame_318 (by decide) (fun c9 => absurd rfl c9) (fun c_9 => ?_)
              refine lv_aload_n hx hb dX2_isSame_321 rfl (lv_at hl 4 rfl) ?_
              refine kRVi (As := []) (rest := []) ⟨hx, hb, hml, hown, hts⟩ (mX1_toggles l D cI x b a pa pe st bn hc hm (nI cN) (nI rN) lo) (cwV 0 hts gX2_isSame_X1_toggles rfl rfl rfl (by decide +kernel) ⟨Nat.le_of_ble_eq_true rfl, Nat.le_of_ble_eq_true rfl⟩) hP hK hN [0, 1, 2, 3, 4, 5, 6, 7] rfl [0] rfl rfl rfl rfl hl.1 rfl (Nat.le_of_ble_eq_true rfl) dX2_isSame_322 ⟨Nat.zero_le _, Nat.zero_le _⟩ (fun r_10 hr_10 => ?_)
              subst r_10
              refine lv_iload_n hx hb dX2_isSame_325 rfl (lv_at hl 2 rfl) ?_
              refine lv_icmp_ne (tgt := 350) hx hb dX2_isSame_326 (by decide) (fun c9 => absurd (by rw [ht, show k = rN by omega]; exact tog_all (pl_72 h8 h9) hz) c9) (fun c_11 => ?_)
              refine lv_aload_n hx hb dX2_isSame_329 rfl (lv_at hl 4 rfl) ?_
              refine kPVd (As := []) (rest := []) (Wr := (wS cI c2 c3 v rw_ ow cN rN pa pd st bn hc hm lo tn)) (W2 := fun _ : Unit => (wX x a b ++ wM cI a pa pe st bn hc hm ((nI cN)) ((nI rN)) lo ++ wS cI c2 c3 v rw_ ow cN rN pa pd st bn hc hm lo tn)) ⟨hx, hb, hml, hown, hts⟩ (mX1_meanInBins l D cI x b a pa pe st bn hc hm lo (nI rN) cN h2 h9 _) (cwV 0 hts gX2_isSame_X1_meanInBins rfl rfl rfl (by decide +kernel) ⟨Nat.le_of_ble_eq_true rfl, Nat.le_of_ble_eq_true rfl⟩) (preVQ hK hN hP.left hD.left [0] rfl rfl rfl) hP hD hS hA (List.Perm.refl _) (fun _ => List.Perm.refl _) rfl hl.1 rfl (Nat.le_of_ble_eq_true rfl) dX2_isSame_330 ⟨Nat.le_of_ble_eq_true rfl, Nat.le_of_ble_eq_true rfl⟩ (fun r_12 u_12 H locs hr_12 hP hD hS => ?_)
              subst r_12
              have hP : va_P D vwCl (wX x a b ++ wM cI a pa pe st bn hc hm ((nI cN)) ((nI rN)) lo ++ wS cI c2 c3 v rw_ ow cN rN pa pd st bn hc hm lo tn) H := hP
              have hD : va_D (va_A (wX x a b ++ wM cI a pa pe st bn hc hm ((nI cN)) ((nI rN)) lo ++ wS cI c2 c3 v rw_ ow cN rN pa pd st bn hc hm lo tn) sz) (wX x a b ++ wM cI a pa pe st bn hc hm ((nI cN)) ((nI rN)) lo ++ wS cI c2 c3 v rw_ ow cN rN pa pd st bn hc hm lo tn) := hD
              refine lv_iload_n hx hb dX2_isSame_333 rfl (lv_at hl 1 rfl) ?_
              refine lv_i2d hx hb dX2_isSame_334 ?_
              refine lv_aload_n hx hb dX2_isSame_335 rfl (lv_at hl 3 rfl) ?_
              refine va_get (D := D) (ci := 2) (v := .ref (v 1)) (C := RX2) (T := TX2) (N := 6) hx hb hts iw_X2_isSame_X2 hown hK hP 8 rfl rfl 1 (by decide) (hts (.fieldLink RX2 14 "MarbleRampsLaw$Sim" "bins" "[I") (mg 2 rfl)) (fun _ h9 => h9) rfl dX2_isSame_336 ?_
              refine va_alen hx hb hK hP 9 0 rfl rfl (v := (nI cN)) rfl dX2_isSame_339 ?_
              refine lv_i2d hx hb dX2_isSame_340 ?_
              refine lv_ddiv hx hb dX2_isSame_341 (mean_ok _ h2 h9) ?_
              refine lv_dcmp hx hb dX2_isSame_342 ?_
              refine lv_if_ne (tgt := 350) hx hb dX2_isSame_343 (by decide) (fun c9 => absurd (by rw [hs3, show k3 = cN by omega, sum_all h9 hb0, dcmp_self (mean_ok _ h2 h9)]; rfl) c9) (fun c_13 => ?_)
              refine lv_iconst (v := 1) hx hb dX2_isSame_346 (by decide) ?_
              refine lv_goto (tgt := 351) hx hb dX2_isSame_347 (by decide) ?_
              exact eQz () hx hb hr hlocks hP hD hK hS dX2_isSame_351 (Or.inr rfl) (rfl)
            | succ n4 ih240 =>
              intro k4 hkn240 H locs hP hD hS ls hl
              refine lv_iload hx hb dX2_isSame_240 (lv_at hl 0 rfl) ?_
              refine lv_iconst (v := 2) hx hb dX2_isSame_242 (by decide) ?_
              refine lv_icmp_ge (tgt := 286) hx hb dX2_isSame_243 (by decide) (fun c9 => absurd c9 (by rw [show (2 : Int32) = nI 2 from rfl]; exact nI_ge (by omega) (by decide))) (fun c_14 => ?_)
              refine lv_aload_n hx hb dX2_isSame_246 rfl (lv_at hl 4 rfl) ?_
              refine lv_iload hx hb dX2_isSame_247 (lv_at hl 0 rfl) ?_
              refine kRVi (As := [.int (nI k4)]) (rest := []) ⟨hx, hb, hml, hown, hts⟩ (mX1_marblesIn l D cI x b a pa pe st bn hc hm (nI cN) (nI rN) lo (nI k4) (xhas_2k (show k4 < 2 by omega))) (cwV 1 hts gX2_isSame_X1_marblesIn rfl rfl rfl (by decide +kernel) ⟨Nat.le_of_ble_eq_true rfl, Nat.le_of_ble_eq_true rfl⟩) hP hK hN [0, 1, 2, 3, 4, 5, 6, 7] rfl [0] rfl rfl rfl rfl hl.1 rfl (Nat.le_of_ble_eq_true rfl) dX2_isSame_249 ⟨Nat.zero_le _, Nat.zero_le _⟩ (fun r_15 hr_15 => ?_)
              subst r_15
              rw [xcl_n (show k4 < 2 by omega) (by decide)]
              refine lv_aload_n hx hb dX2_isSame_252 rfl (lv_at hl 3 rfl) ?_
              refine va_get (D := D) (ci := 2) (v := .ref (v 3)) (C := RX2) (T := TX2) (N := 6) hx hb hts iw_X2_isSame_X2 hown hK hP 8 rfl rfl 4 (by decide) (hts (.fieldLink RX2 21 "MarbleRampsLaw$Sim" "marbles" "[I") (mg 3 rfl)) (fun _ h9 => h9) rfl dX2_isSame_253 ?_
              refine lv_iload hx hb dX2_isSame_256 (lv_at hl 0 rfl) ?_
              refine va_iald hx hb hK hP 11 0 rfl rfl (vp_in_nI (by omega) (by omega)) dX2_isSame_258 ?_
              rw [nI_clamp (show k4 < 2 ^ 31 by omega)]
              refine lv_icmp_ne (tgt := 278) hx hb dX2_isSame_259 (by decide) (fun c9 => absurd rfl c9) (fun c_16 => ?_)
              refine lv_aload_n hx hb dX2_isSame_262 rfl (lv_at hl 4 rfl) ?_
              refine lv_iload hx hb dX2_isSame_263 (lv_at hl 0 rfl) ?_
              refine kRVi (As := [.int (nI k4)]) (rest := []) ⟨hx, hb, hml, hown, hts⟩ (mX1_columnOf l D cI x b a pa pe st bn hc hm (nI cN) (nI rN) lo (nI k4) (xhas_2k (show k4 < 2 by omega))) (cwV 1 hts gX2_isSame_X1_columnOf rfl rfl rfl (by decide +kernel) ⟨Nat.le_of_ble_eq_true rfl, Nat.le_of_ble_eq_true rfl⟩) hP hK hN [0, 1, 2, 3, 4, 5, 6, 7] rfl [0] rfl rfl rfl rfl hl.1 rfl (Nat.le_of_ble_eq_true rfl) dX2_isSame_265 ⟨Nat.zero_le _, Nat.zero_le _⟩ (fun r_17 hr_17 => ?_)
              subst r_17
              rw [xcl_n (show k4 < 2 by omega) (by decide)]
              refine lv_aload_n hx hb dX2_isSame_268 rfl (lv_at hl 3 rfl) ?_
              refine va_get (D := D) (ci := 2) (v := .ref (v 2)) (C := RX2) (T := TX2) (N := 6) hx hb hts iw_X2_isSame_X2 hown hK hP 8 rfl rfl 3 (by decide) (hts (.fieldLink RX2 18 "MarbleRampsLaw$Sim" "above" "[I") (mg 4 rfl)) (fun _ h9 => h9) rfl dX2_isSame_269 ?_
              refine lv_iload hx hb dX2_isSame_272 (lv_at hl 0 rfl) ?_
              refine va_iald hx hb hK hP 10 0 rfl rfl (vp_in_nI (by omega) (by omega)) dX2_isSame_274 ?_
              rw [nI_clamp (show k4 < 2 ^ 31 by omega)]
              refine lv_icmp_eq (tgt := 280) hx hb dX2_isSame_275 (by decide) (fun c_18 => ?_) (fun c9 => absurd rfl c9)
              refine lv_iinc (v := (nI (k4 + 1))) (lv' := [(4, .int (nI (k4 + 1))), (3, .int ss), (2, .int tt), (0, .ref (v 0)), (1, .ref x)]) hx hb dX2_isSame_280 hl (k := 0) rfl (nI_1 k4) (by decide) rfl (fun ls hl => ?_)
              refine lv_goto (tgt := 240) hx hb dX2_isSame_283 (by decide) ?_
              exact ih240 (k4 + 1)  (by omega)  _ _ hP hD hS ls (lv_sub hl [0, 1, 2, 3, 4] rfl)
          exact L240 2 0  (by omega)  _ _ hP hD hS ls (lv_sub hl [0, 1, 2, 3, 4] rfl)
        | succ n3 ih193 =>
          intro k3 ss hkn193 hs3 H locs hP hD hS ls hl
          refine lv_iload hx hb dX2_isSame_193 (lv_at hl 0 rfl) ?_
          refine lv_aload_n hx hb dX2_isSame_195 rfl (lv_at hl 3 rfl) ?_
          refine va_get (D := D) (ci := 2) (v := .ref (v 1)) (C := RX2) (T := TX2) (N := 6) hx hb hts iw_X2_isSame_X2 hown hK hP 8 rfl rfl 1 (by decide) (hts (.fieldLink RX2 14 "MarbleRampsLaw$Sim" "bins" "[I") (mg 2 rfl)) (fun _ h9 => h9) rfl dX2_isSame_196 ?_
          refine va_alen hx hb hK hP 9 0 rfl rfl (v := (nI cN)) rfl dX2_isSame_199 ?_
          refine lv_icmp_ge (tgt := 237) hx hb dX2_isSame_200 (by decide) (fun c9 => absurd c9 (nI_ge (by omega) (by omega))) (fun c_19 => ?_)
          refine lv_iload_n hx hb dX2_isSame_203 rfl (lv_at hl 1 rfl) ?_
          refine lv_aload_n hx hb dX2_isSame_204 rfl (lv_at hl 3 rfl) ?_
          refine va_get (D := D) (ci := 2) (v := .ref (v 1)) (C := RX2) (T := TX2) (N := 6) hx hb hts iw_X2_isSame_X2 hown hK hP 8 rfl rfl 1 (by decide) (hts (.fieldLink RX2 14 "MarbleRampsLaw$Sim" "bins" "[I") (mg 2 rfl)) (fun _ h9 => h9) rfl dX2_isSame_205 ?_
          refine lv_iload hx hb dX2_isSame_208 (lv_at hl 0 rfl) ?_
          refine va_iald hx hb hK hP 9 0 rfl rfl (vp_in_nI (by omega) (by omega)) dX2_isSame_210 ?_
          rw [nI_clamp (show k3 < 2 ^ 31 by omega)]
          refine lv_iadd hx hb dX2_isSame_211 ?_
          refine lv_istore_n (lv' := [(3, .int (ss + (bn k3))), (4, .int (nI k3)), (2, .int tt), (0, .ref (v 0)), (1, .ref x)]) hx hb dX2_isSame_212 rfl hl (by decide) rfl (fun ls hl => ?_)
          refine lv_aload_n hx hb dX2_isSame_213 rfl (lv_at hl 4 rfl) ?_
          refine lv_iload hx hb dX2_isSame_214 (lv_at hl 1 rfl) ?_
          refine kRVi (As := [.int (nI k3)]) (rest := []) ⟨hx, hb, hml, hown, hts⟩ (mX1_binOf l D cI x b a pa pe st bn hc hm (nI cN) (nI rN) lo (nI k3) (xhas_k (show k3 < cN by omega) (by omega))) (cwV 1 hts gX2_isSame_X1_binOf rfl rfl rfl (by decide +kernel) ⟨Nat.le_of_ble_eq_true rfl, Nat.le_of_ble_eq_true rfl⟩) hP hK hN [0, 1, 2, 3, 4, 5, 6, 7] rfl [0] rfl rfl rfl rfl hl.1 rfl (Nat.le_of_ble_eq_true rfl) dX2_isSame_216 ⟨Nat.zero_le _, Nat.zero_le _⟩ (fun r_20 hr_20 => ?_)
          subst r_20
          rw [xcl_n (show k3 < 9 by omega) (by decide)]
          refine lv_aload_n hx hb dX2_isSame_219 rfl (lv_at hl 3 rfl) ?_
          refine va_get (D := D) (ci := 2) (v := .ref (v 1)) (C := RX2) (T := TX2) (N := 6) hx hb hts iw_X2_isSame_X2 hown hK hP 8 rfl rfl 1 (by decide) (hts (.fieldLink RX2 14 "MarbleRampsLaw$Sim" "bins" "[I") (mg 2 rfl)) (fun _ h9 => h9) rfl dX2_isSame_220 ?_
          refine lv_iload hx hb dX2_isSame_223 (lv_at hl 1 rfl) ?_
          refine va_iald hx hb hK hP 9 0 rfl rfl (vp_in_nI (by omega) (by omega)) dX2_isSame_225 ?_
          rw [nI_clamp (show k3 < 2 ^ 31 by omega)]
          refine lv_icmp_eq (tgt := 231) hx hb dX2_isSame_226 (by decide) (fun c_21 => ?_) (fun c9 => absurd rfl c9)
          refine lv_iinc (v := (nI (k3 + 1))) (lv' := [(4, .int (nI (k3 + 1))), (3, .int (ss + (bn k3))), (2, .int tt), (0, .ref (v 0)), (1, .ref x)]) hx hb dX2_isSame_231 hl (k := 1) rfl (nI_1 k3) (by decide) rfl (fun ls hl => ?_)
          refine lv_goto (tgt := 193) hx hb dX2_isSame_234 (by decide) ?_
          exact ih193 (k3 + 1) (ss + bn k3) (by omega) (by rw [hs3]; rfl) _ _ hP hD hS ls (lv_sub hl [0, 1, 2, 3, 4] rfl)
      exact L193 cN 0 0 (by omega) rfl _ _ hP hD hS ls (lv_sub hl [0, 1, 2, 3, 4] rfl)
    | succ n ih7 =>
      intro k tt hkn7 ht H locs hP hD hS ls hl
      refine lv_iload hx hb dX2_isSame_7 (lv_at hl 0 rfl) ?_
      refine lv_aload_n hx hb dX2_isSame_9 rfl (lv_at hl 3 rfl) ?_
      refine va_get (D := D) (ci := 2) (v := .ref (v 4)) (C := RX2) (T := TX2) (N := 6) hx hb hts iw_X2_isSame_X2 hown hK hP 8 rfl rfl 0 (by decide) (hts (.fieldLink RX2 9 "MarbleRampsLaw$Sim" "board" "[[[I") (mg 1 rfl)) (fun _ h9 => h9) rfl dX2_isSame_10 ?_
      refine va_alen hx hb hK hP 12 2 rfl rfl (v := (nI rN)) rfl dX2_isSame_13 ?_
      refine lv_icmp_ge (tgt := 190) hx hb dX2_isSame_14 (by decide) (fun c9 => absurd c9 (nI_ge (by omega) (by omega))) (fun c_22 => ?_)
      refine lv_iconst (v := 0) hx hb dX2_isSame_17 (by decide) ?_
      refine lv_istore (lv' := [(5, .int 0), (4, .int (nI k)), (3, .int 0), (2, .int tt), (0, .ref (v 0)), (1, .ref x)]) hx hb dX2_isSame_18 hl (by decide) rfl (fun ls hl => ?_)
      refine lv_iconst (v := 0) hx hb dX2_isSame_20 (by decide) ?_
      refine lv_istore (lv' := [(6, .int 0), (5, .int 0), (4, .int (nI k)), (3, .int 0), (2, .int tt), (0, .ref (v 0)), (1, .ref x)]) hx hb dX2_isSame_21 hl (by decide) rfl (fun ls hl => ?_)
      refine lv_iconst (v := 0) hx hb dX2_isSame_23 (by decide) ?_
      refine lv_istore (lv' := [(7, .int 0), (6, .int 0), (5, .int 0), (4, .int (nI k)), (3, .int 0), (2, .int tt), (0, .ref (v 0)), (1, .ref x)]) hx hb dX2_isSame_24 hl (by decide) rfl (fun ls hl => ?_)
      have L26 : ∀ (n2 j : Nat) (num : Int32) (h : Nat), j + n2 = cN → xNum pa st (nI cN) (nI k) = xNumL pa st (nI cN) (nI k) n2 j num (nI (2 ^ h)) → tg pa (k * cN) + h = tg pa (k * cN + j) → h ≤ j → ∀ (H : Heap) (locs : List Loc), va_P D vwCl (wX x a b ++ wM cI a pa pe st bn hc hm ((nI cN)) ((nI rN)) lo ++ wS cI c2 c3 v rw_ ow cN rN pa pd st bn hc hm lo tn) H → va_D (va_A (wX x a b ++ wM cI a pa pe st bn hc hm ((nI cN)) ((nI rN)) lo ++ wS cI c2 c3 v rw_ ow cN rN pa pd st bn hc hm lo tn) sz) (wX x a b ++ wM cI a pa pe st bn hc hm ((nI cN)) ((nI rN)) lo ++ wS cI c2 c3 v rw_ ow cN rN pa pd st bn hc hm lo tn) → va_S (va_A (wX x a b ++ wM cI a pa pe st bn hc hm ((nI cN)) ((nI rN)) lo ++ wS cI c2 c3 v rw_ ow cN rN pa pd st bn hc hm lo tn) sz) s.heap H locs → ∀ ls : Array Slot, lv_has ls 10 [(7, .int (nI j)), (6, .int (nI h)), (5, .int num), (4, .int (nI k)), (3, .int 0), (2, .int tt), (0, .ref (v 0)), (1, .ref x)] → W p l e ({ frames := 9, cells := 0, slots := 0, locals := 155 } : Room) s m [.ref (v 0), .ref x].toArray below meth c H locs 0 0 (MQ below (va_Qi (fun (zz : Int32) (_ : Unit) => zz = 1) (wB D [(cI, .int), (c2, .array .int), (c3, .array (.array .int))] (va_A (wX x a b ++ wM cI a pa pe st bn hc hm ((nI cN)) ((nI rN)) lo ++ wS cI c2 c3 v rw_ ow cN rN pa pd st bn hc hm lo tn) sz) (fun _ : Unit => (wX x a b ++ wM cI a pa pe st bn hc hm ((nI cN)) ((nI rN)) lo ++ wS cI c2 c3 v rw_ ow cN rN pa pd st bn hc hm lo tn))) (va_A (wX x a b ++ wM cI a pa pe st bn hc hm ((nI cN)) ((nI rN)) lo ++ wS cI c2 c3 v rw_ ow cN rN pa pd st bn hc hm lo tn) sz)) [.ref (v 0), .ref x].toArray s 0 0 (va_A (wX x a b ++ wM cI a pa pe st bn hc hm ((nI cN)) ((nI rN)) lo ++ wS cI c2 c3 v rw_ ow cN rN pa pd st bn hc hm lo tn) sz)) (F0 m 26 ls []) := by
        intro n2
        induction n2 with
        | zero =>
          intro j num h hkn26 hn hh hhj H locs hP hD hS ls hl
          refine lv_iload hx hb dX2_isSame_26 (lv_at hl 0 rfl) ?_
          refine lv_aload_n hx hb dX2_isSame_28 rfl (lv_at hl 6 rfl) ?_
          refine va_get (D := D) (ci := 2) (v := .ref (v 1)) (C := RX2) (T := TX2) (N := 6) hx hb hts iw_X2_isSame_X2 hown hK hP 8 rfl rfl 1 (by decide) (hts (.fieldLink RX2 14 "MarbleRampsLaw$Sim" "bins" "[I") (mg 2 rfl)) (fun _ h9 => h9) rfl dX2_isSame_29 ?_
          refine va_alen hx hb hK hP 9 0 rfl rfl (v := (nI cN)) rfl dX2_isSame_32 ?_
          refine lv_icmp_ge (tgt := 166) hx hb dX2_isSame_33 (by decide) (fun c_23 => ?_) (fun c9 => absurd (nI_le (by omega) (by omega)) c9)
          refine lv_iload_n hx hb dX2_isSame_166 rfl (lv_at hl 5 rfl) ?_
          refine lv_iload hx hb dX2_isSame_167 (lv_at hl 1 rfl) ?_
          refine lv_iadd hx hb dX2_isSame_169 ?_
          refine lv_istore_n (lv' := [(2, .int (tt + (nI h))), (7, .int (nI j)), (6, .int (nI h)), (5, .int num), (4, .int (nI k)), (3, .int 0), (0, .ref (v 0)), (1, .ref x)]) hx hb dX2_isSame_170 rfl hl (by decide) rfl (fun ls hl => ?_)
          refine lv_aload_n hx hb dX2_isSame_171 rfl (lv_at hl 7 rfl) ?_
          refine lv_iload hx hb dX2_isSame_172 (lv_at hl 4 rfl) ?_
          refine kRVi (As := [.int (nI k)]) (rest := []) ⟨hx, hb, hml, hown, hts⟩ (mX1_numberIn l D cI x b a pa pe st bn hc hm (nI cN) (nI rN) lo (nI k) (xhas_k (show k < rN by omega) (by omega))) (cwV 1 hts gX2_isSame_X1_numberIn rfl rfl rfl (by decide +kernel) ⟨Nat.le_of_ble_eq_true rfl, Nat.le_of_ble_eq_true rfl⟩) hP hK hN [0, 1, 2, 3, 4, 5, 6, 7] rfl [0] rfl rfl rfl rfl hl.1 rfl (Nat.le_of_ble_eq_true rfl) dX2_isSame_174 ⟨Nat.zero_le _, Nat.zero_le _⟩ (fun r_24 hr_24 => ?_)
          subst r_24
          refine lv_iload hx hb dX2_isSame_177 (lv_at hl 3 rfl) ?_
          refine lv_icmp_eq (tgt := 184) hx hb dX2_isSame_179 (by decide) (fun c_25 => ?_) (fun c9 => absurd hn c9)
          refine lv_iinc (v := (nI (k + 1))) (lv' := [(4, .int (nI (k + 1))), (2, .int (tt + (nI h))), (7, .int (nI j)), (6, .int (nI h)), (5, .int num), (3, .int 0), (0, .ref (v 0)), (1, .ref x)]) hx hb dX2_isSame_184 hl (k := 4) rfl (nI_1 k) (by decide) rfl (fun ls hl => ?_)
          refine lv_goto (tgt := 7) hx hb dX2_isSame_187 (by decide) ?_
          exact ih7 (k + 1) (tt + nI h) (by omega) (by rw [ht, nI_add, hh, show j = cN by omega, Nat.succ_mul]) _ _ hP hD hS ls (lv_sub hl [0, 5, 1, 6, 7] rfl)
        | succ n2 ih26 =>
          intro j num h hkn26 hn hh hhj H locs hP hD hS ls hl
          refine lv_iload hx hb dX2_isSame_26 (lv_at hl 0 rfl) ?_
          refine lv_aload_n hx hb dX2_isSame_28 rfl (lv_at hl 6 rfl) ?_
          refine va_get (D := D) (ci := 2) (v := .ref (v 1)) (C := RX2) (T := TX2) (N := 6) hx hb hts iw_X2_isSame_X2 hown hK hP 8 rfl rfl 1 (by decide) (hts (.fieldLink RX2 14 "MarbleRampsLaw$Sim" "bins" "[I") (mg 2 rfl)) (fun _ h9 => h9) rfl dX2_isSame_29 ?_
          refine va_alen hx hb hK hP 9 0 rfl rfl (v := (nI cN)) rfl dX2_isSame_32 ?_
          refine lv_icmp_ge (tgt := 166) hx hb dX2_isSame_33 (by decide) (fun c9 => absurd c9 (nI_ge (by omega) (by omega))) (fun c_26 => ?_)
          refine lv_aload_n hx hb dX2_isSame_36 rfl (lv_at hl 6 rfl) ?_
          refine va_get (D := D) (ci := 2) (v := .ref (v 4)) (C := RX2) (T := TX2) (N := 6) hx hb hts iw_X2_isSame_X2 hown hK hP 8 rfl rfl 0 (by decide) (hts (.fieldLink RX2 9 "MarbleRampsLaw$Sim" "board" "[[[I") (mg 1 rfl)) (fun _ h9 => h9) rfl dX2_isSame_37 ?_
          refine lv_iload hx hb dX2_isSame_40 (lv_at hl 3 rfl) ?_
          refine sLdR (r := k) (g := rw_) hx hb hK hP 2 rfl (List.mem_append_right _ (List.mem_cons_of_mem _ (List.mem_cons_of_mem _ (List.mem_cons_of_mem _ (List.mem_cons_of_mem _ List.mem_cons_self))))) (by omega) (by omega) dX2_isSame_42 ?_
          refine lv_iload hx hb dX2_isSame_43 (lv_at hl 0 rfl) ?_
          refine sLdR (r := j) (g := fun j => ow k j) hx hb hK hP 1 rfl (List.mem_append_right _ (sRow_m (by omega))) (by omega) (by omega) dX2_isSame_45 ?_
          refine lv_astore (lv' := [(8, .ref (ow k j)), (7, .int (nI j)), (6, .int (nI h)), (5, .int num), (4, .int (nI k)), (3, .int 0), (2, .int tt), (0, .ref (v 0)), (1, .ref x)]) hx hb dX2_isSame_46 hl (by decide) rfl (fun ls hl => ?_)
          have hk : k < rN := by omega
          have hj : j < cN := by omega
          by_cases e0 : pa (k * cN + j) = 3
          · by_cases e2 : st (k * cN + j) = 1
            · refine lv_aload hx hb dX2_isSame_48 (lv_at hl 0 rfl) ?_
              refine lv_iconst (v := 0) hx hb dX2_isSame_50 (by decide) ?_
              refine sLdI (j := 0) hx hb hK hP 0 rfl (List.mem_append_right _ (sCell_m (by omega) (by omega))) (by decide) (by decide) dX2_isSame_51 ?_
              rw [show t3 (pa (k * cN + j)) (pd (k * cN + j)) (st (k * cN + j)) 0 = 3 from e0]
              refine lv_iconst (v := 3) hx hb dX2_isSame_52 (by decide) ?_
              refine lv_icmp_ne (tgt := 68) hx hb dX2_isSame_53 (by decide) (fun c9 => absurd (by decide) c9) (fun _ => ?_)
              refine lv_aload hx hb dX2_isSame_56 (lv_at hl 0 rfl) ?_
              refine lv_iconst (v := 2) hx hb dX2_isSame_58 (by decide) ?_
              refine sLdI (j := 2) hx hb hK hP 0 rfl (List.mem_append_right _ (sCell_m (by omega) (by omega))) (by decide) (by decide) dX2_isSame_59 ?_
              rw [show t3 (pa (k * cN + j)) (pd (k * cN + j)) (st (k * cN + j)) 2 = 1 from e2]
              refine lv_iconst (v := 1) hx hb dX2_isSame_60 (by decide) ?_
              refine lv_icmp_ne (tgt := 68) hx hb dX2_isSame_61 (by decide) (fun c9 => absurd (by decide) c9) (fun _ => ?_)
              refine lv_iconst (v := 1) hx hb dX2_isSame_64 (by decide) ?_
              refine lv_goto (tgt := 69) hx hb dX2_isSame_65 (by decide) ?_
              refine lv_istore (lv' := [(9, .int 1), (8, .ref (ow k j)), (7, .int (nI j)), (6, .int (nI h)), (5, .int num), (4, .int (nI k)), (3, .int 0), (2, .int tt), (0, .ref (v 0)), (1, .ref x)]) hx hb dX2_isSame_69 hl (by decide) rfl (fun ls hl => ?_)
              refine lv_iload hx hb dX2_isSame_71 (lv_at hl 0 rfl) ?_
              refine lv_if_eq (tgt := 85) hx hb dX2_isSame_73 (by decide) (fun c9 => absurd c9 (by decide)) (fun _ => ?_)
              refine lv_iload hx hb dX2_isSame_76 (lv_at hl 4 rfl) ?_
              refine lv_iconst (v := 1) hx hb dX2_isSame_78 (by decide) ?_
              refine lv_iload hx hb dX2_isSame_79 (lv_at hl 3 rfl) ?_
              refine lv_ishl hx hb dX2_isSame_81 ?_
              rw [shl_1 (show h ≤ 9 by omega)]
              refine lv_iadd hx hb dX2_isSame_82 ?_
              refine lv_istore (lv' := [(5, .int (num + (nI (2 ^ h)))), (9, .int 1), (8, .ref (ow k j)), (7, .int (nI j)), (6, .int (nI h)), (4, .int (nI k)), (3, .int 0), (2, .int tt), (0, .ref (v 0)), (1, .ref x)]) hx hb dX2_isSame_83 hl (by decide) rfl (fun ls hl => ?_)
              refine lv_iload hx hb dX2_isSame_85 (lv_at hl 4 rfl) ?_
              refine lv_aload hx hb dX2_isSame_87 (lv_at hl 2 rfl) ?_
              refine lv_iconst (v := 0) hx hb dX2_isSame_89 (by decide) ?_
              refine sLdI (j := 0) hx hb hK hP 0 rfl (List.mem_append_right _ (sCell_m (by omega) (by omega))) (by decide) (by decide) dX2_isSame_90 ?_
              rw [show t3 (pa (k * cN + j)) (pd (k * cN + j)) (st (k * cN + j)) 0 = 3 from e0]
              refine lv_iconst (v := 3) hx hb dX2_isSame_91 (by decide) ?_
              refine lv_icmp_ne (tgt := 99) hx hb dX2_isSame_92 (by decide) (fun c9 => absurd (by decide) c9) (fun _ => ?_)
              refine lv_iconst (v := 1) hx hb dX2_isSame_95 (by decide) ?_
              refine lv_goto (tgt := 100) hx hb dX2_isSame_96 (by decide) ?_
              refine lv_iadd hx hb dX2_isSame_100 ?_
              rw [nI_1]
              refine lv_istore (lv' := [(6, .int (nI (h + 1))), (5, .int (num + (nI (2 ^ h)))), (9, .int 1), (8, .ref (ow k j)), (7, .int (nI j)), (4, .int (nI k)), (3, .int 0), (2, .int tt), (0, .ref (v 0)), (1, .ref x)]) hx hb dX2_isSame_101 hl (by decide) rfl (fun ls hl => ?_)
              refine lv_aload_n hx hb dX2_isSame_103 rfl (lv_at hl 9 rfl) ?_
              refine lv_iload hx hb dX2_isSame_104 (lv_at hl 5 rfl) ?_
              refine lv_iload hx hb dX2_isSame_106 (lv_at hl 4 rfl) ?_
              refine kRVi (As := [.int (nI k), .int (nI j)]) (rest := []) ⟨hx, hb, hml, hown, hts⟩ (mX1_partAt l D cI x b a pa pe st bn hc hm (nI cN) (nI rN) lo (nI k) (nI j) (xhas_k hk (by omega)) (xhas_k hj (by omega))) (cwV 2 hts gX2_isSame_X1_partAt rfl rfl rfl (by decide +kernel) ⟨Nat.le_of_ble_eq_true rfl, Nat.le_of_ble_eq_true rfl⟩) hP hK hN [0, 1, 2, 3, 4, 5, 6, 7] rfl [0] rfl rfl rfl rfl hl.1 rfl (Nat.le_of_ble_eq_true rfl) dX2_isSame_108 ⟨Nat.zero_le _, Nat.zero_le _⟩ (fun r_31 hr_31 => ?_)
              subst r_31
              rw [xcl_pl h9 h8 hk hj]
              refine lv_aload hx hb dX2_isSame_111 (lv_at hl 3 rfl) ?_
              refine lv_iconst (v := 0) hx hb dX2_isSame_113 (by decide) ?_
              refine sLdI (j := 0) hx hb hK hP 0 rfl (List.mem_append_right _ (sCell_m (by omega) (by omega))) (by decide) (by decide) dX2_isSame_114 ?_
              rw [show t3 (pa (k * cN + j)) (pd (k * cN + j)) (st (k * cN + j)) 0 = 3 from e0]
              refine lv_icmp_ne (tgt := 158) hx hb dX2_isSame_115 (by decide) (fun c9 => absurd e0 c9) (fun c_32 => ?_)
              refine lv_aload_n hx hb dX2_isSame_118 rfl (lv_at hl 9 rfl) ?_
              refine lv_iload hx hb dX2_isSame_119 (lv_at hl 5 rfl) ?_
              refine lv_iload hx hb dX2_isSame_121 (lv_at hl 4 rfl) ?_
              refine kRVi (As := [.int (nI k), .int (nI j)]) (rest := []) ⟨hx, hb, hml, hown, hts⟩ (mX1_leadsRight l D cI x b a pa pe st bn hc hm (nI cN) (nI rN) lo (nI k) (nI j) (xhas_k hk (by omega)) (xhas_k hj (by omega))) (cwV 2 hts gX2_isSame_X1_leadsRight rfl rfl rfl (by decide +kernel) ⟨Nat.le_of_ble_eq_true rfl, Nat.le_of_ble_eq_true rfl⟩) hP hK hN [0, 1, 2, 3, 4, 5, 6, 7] rfl [0] rfl rfl rfl rfl hl.1 rfl (Nat.le_of_ble_eq_true rfl) dX2_isSame_123 ⟨Nat.zero_le _, Nat.zero_le _⟩ (fun r_33 hr_33 => ?_)
              subst r_33
              rw [xRight_pl h9 h8 hk hj, if_pos e0, if_pos e2]
              refine lv_iload hx hb dX2_isSame_126 (lv_at hl 2 rfl) ?_
              refine lv_icmp_ne (tgt := 158) hx hb dX2_isSame_128 (by decide) (fun c9 => absurd (by decide) c9) (fun c_34 => ?_)
              refine lv_aload_n hx hb dX2_isSame_131 rfl (lv_at hl 9 rfl) ?_
              refine lv_iload hx hb dX2_isSame_132 (lv_at hl 5 rfl) ?_
              refine lv_iload hx hb dX2_isSame_134 (lv_at hl 4 rfl) ?_
              refine kRVi (As := [.int (nI k), .int (nI j)]) (rest := []) ⟨hx, hb, hml, hown, hts⟩ (mX1_countAt l D cI x b a pa pe st bn hc hm (nI cN) (nI rN) lo (nI k) (nI j) (xhas_k hk (by omega)) (xhas_k hj (by omega))) (cwV 2 hts gX2_isSame_X1_countAt rfl rfl rfl (by decide +kernel) ⟨Nat.le_of_ble_eq_true rfl, Nat.le_of_ble_eq_true rfl⟩) hP hK hN [0, 1, 2, 3, 4, 5, 6, 7] rfl [0] rfl rfl rfl rfl hl.1 rfl (Nat.le_of_ble_eq_true rfl) dX2_isSame_136 ⟨Nat.zero_le _, Nat.zero_le _⟩ (fun r_35 hr_35 => ?_)
              subst r_35
              rw [xCnt_pl h9 h8 hk hj, if_neg (by rw [e0]; decide)]
              refine lv_aload hx hb dX2_isSame_139 (lv_at hl 3 rfl) ?_
              refine lv_iconst (v := 0) hx hb dX2_isSame_141 (by decide) ?_
              refine sLdI (j := 0) hx hb hK hP 0 rfl (List.mem_append_right _ (sCell_m (by omega) (by omega))) (by decide) (by decide) dX2_isSame_142 ?_
              rw [show t3 (pa (k * cN + j)) (pd (k * cN + j)) (st (k * cN + j)) 0 = 3 from e0]
              refine lv_iconst (v := 5) hx hb dX2_isSame_143 (by decide) ?_
              refine lv_icmp_ne (tgt := 154) hx hb dX2_isSame_144 (by decide) (fun _ => ?_) (fun c9 => absurd c9 (by decide))
              refine lv_iconst (v := 0) hx hb dX2_isSame_154 (by decide) ?_
              refine lv_icmp_eq (tgt := 160) hx hb dX2_isSame_155 (by decide) (fun _ => ?_) (fun c9 => absurd (by decide) c9)
              refine lv_iinc (v := (nI (j + 1))) (lv' := [(7, .int (nI (j + 1))), (6, .int (nI (h + 1))), (5, .int (num + (nI (2 ^ h)))), (9, .int 1), (8, .ref (ow k j)), (4, .int (nI k)), (3, .int 0), (2, .int tt), (0, .ref (v 0)), (1, .ref x)]) hx hb dX2_isSame_160 hl (k := 4) rfl (nI_1 j) (by decide) rfl (fun ls hl => ?_)
              refine lv_goto (tgt := 26) hx hb dX2_isSame_163 (by decide) ?_
              exact ih26 (j + 1) (num + (nI (2 ^ h))) (h + 1) (by omega) (by rw [hn, num_t h9 h8 hk hj e0 e2]) (by show tg pa (k * cN) + (h + 1) = tg pa (k * cN + j + 1); rw [tg_t e0]; omega) (by omega) _ _ hP hD hS ls (lv_sub hl [0, 1, 2, 5, 6, 7, 8, 9] rfl)
            · refine lv_aload hx hb dX2_isSame_48 (lv_at hl 0 rfl) ?_
              refine lv_iconst (v := 0) hx hb dX2_isSame_50 (by decide) ?_
              refine sLdI (j := 0) hx hb hK hP 0 rfl (List.mem_append_right _ (sCell_m (by omega) (by omega))) (by decide) (by decide) dX2_isSame_51 ?_
              rw [show t3 (pa (k * cN + j)) (pd (k * cN + j)) (st (k * cN + j)) 0 = 3 from e0]
              refine lv_iconst (v := 3) hx hb dX2_isSame_52 (by decide) ?_
              refine lv_icmp_ne (tgt := 68) hx hb dX2_isSame_53 (by decide) (fun c9 => absurd (by decide) c9) (fun _ => ?_)
              refine lv_aload hx hb dX2_isSame_56 (lv_at hl 0 rfl) ?_
              refine lv_iconst (v := 2) hx hb dX2_isSame_58 (by decide) ?_
              refine sLdI (j := 2) hx hb hK hP 0 rfl (List.mem_append_right _ (sCell_m (by omega) (by omega))) (by decide) (by decide) dX2_isSame_59 ?_
              refine lv_iconst (v := 1) hx hb dX2_isSame_60 (by decide) ?_
              refine lv_icmp_ne (tgt := 68) hx hb dX2_isSame_61 (by decide) (fun c_39 => ?_) (fun c9 => absurd c9 e2)
              refine lv_iconst (v := 0) hx hb dX2_isSame_68 (by decide) ?_
              refine lv_istore (lv' := [(9, .int 0), (8, .ref (ow k j)), (7, .int (nI j)), (6, .int (nI h)), (5, .int num), (4, .int (nI k)), (3, .int 0), (2, .int tt), (0, .ref (v 0)), (1, .ref x)]) hx hb dX2_isSame_69 hl (by decide) rfl (fun ls hl => ?_)
              refine lv_iload hx hb dX2_isSame_71 (lv_at hl 0 rfl) ?_
              refine lv_if_eq (tgt := 85) hx hb dX2_isSame_73 (by decide) (fun _ => ?_) (fun c9 => absurd (by decide) c9)
              refine lv_iload hx hb dX2_isSame_85 (lv_at hl 3 rfl) ?_
              refine lv_aload hx hb dX2_isSame_87 (lv_at hl 1 rfl) ?_
              refine lv_iconst (v := 0) hx hb dX2_isSame_89 (by decide) ?_
              refine sLdI (j := 0) hx hb hK hP 0 rfl (List.mem_append_right _ (sCell_m (by omega) (by omega))) (by decide) (by decide) dX2_isSame_90 ?_
              rw [show t3 (pa (k * cN + j)) (pd (k * cN + j)) (st (k * cN + j)) 0 = 3 from e0]
              refine lv_iconst (v := 3) hx hb dX2_isSame_91 (by decide) ?_
              refine lv_icmp_ne (tgt := 99) hx hb dX2_isSame_92 (by decide) (fun c9 => absurd (by decide) c9) (fun _ => ?_)
              refine lv_iconst (v := 1) hx hb dX2_isSame_95 (by decide) ?_
              refine lv_goto (tgt := 100) hx hb dX2_isSame_96 (by decide) ?_
              refine lv_iadd hx hb dX2_isSame_100 ?_
              rw [nI_1]
              refine lv_istore (lv' := [(6, .int (nI (h + 1))), (9, .int 0), (8, .ref (ow k j)), (7, .int (nI j)), (5, .int num), (4, .int (nI k)), (3, .int 0), (2, .int tt), (0, .ref (v 0)), (1, .ref x)]) hx hb dX2_isSame_101 hl (by decide) rfl (fun ls hl => ?_)
              refine lv_aload_n hx hb dX2_isSame_103 rfl (lv_at hl 9 rfl) ?_
              refine lv_iload hx hb dX2_isSame_104 (lv_at hl 5 rfl) ?_
              refine lv_iload hx hb dX2_isSame_106 (lv_at hl 3 rfl) ?_
              refine kRVi (As := [.int (nI k), .int (nI j)]) (rest := []) ⟨hx, hb, hml, hown, hts⟩ (mX1_partAt l D cI x b a pa pe st bn hc hm (nI cN) (nI rN) lo (nI k) (nI j) (xhas_k hk (by omega)) (xhas_k hj (by omega))) (cwV 2 hts gX2_isSame_X1_partAt rfl rfl rfl (by decide +kernel) ⟨Nat.le_of_ble_eq_true rfl, Nat.le_of_ble_eq_true rfl⟩) hP hK hN [0, 1, 2, 3, 4, 5, 6, 7] rfl [0] rfl rfl rfl rfl hl.1 rfl (Nat.le_of_ble_eq_true rfl) dX2_isSame_108 ⟨Nat.zero_le _, Nat.zero_le _⟩ (fun r_42 hr_42 => ?_)
              subst r_42
              rw [xcl_pl h9 h8 hk hj]
              refine lv_aload hx hb dX2_isSame_111 (lv_at hl 2 rfl) ?_
              refine lv_iconst (v := 0) hx hb dX2_isSame_113 (by decide) ?_
              refine sLdI (j := 0) hx hb hK hP 0 rfl (List.mem_append_right _ (sCell_m (by omega) (by omega))) (by decide) (by decide) dX2_isSame_114 ?_
              rw [show t3 (pa (k * cN + j)) (pd (k * cN + j)) (st (k * cN + j)) 0 = 3 from e0]
              refine lv_icmp_ne (tgt := 158) hx hb dX2_isSame_115 (by decide) (fun c9 => absurd e0 c9) (fun c_43 => ?_)
              refine lv_aload_n hx hb dX2_isSame_118 rfl (lv_at hl 9 rfl) ?_
              refine lv_iload hx hb dX2_isSame_119 (lv_at hl 5 rfl) ?_
              refine lv_iload hx hb dX2_isSame_121 (lv_at hl 3 rfl) ?_
              refine kRVi (As := [.int (nI k), .int (nI j)]) (rest := []) ⟨hx, hb, hml, hown, hts⟩ (mX1_leadsRight l D cI x b a pa pe st bn hc hm (nI cN) (nI rN) lo (nI k) (nI j) (xhas_k hk (by omega)) (xhas_k hj (by omega))) (cwV 2 hts gX2_isSame_X1_leadsRight rfl rfl rfl (by decide +kernel) ⟨Nat.le_of_ble_eq_true rfl, Nat.le_of_ble_eq_true rfl⟩) hP hK hN [0, 1, 2, 3, 4, 5, 6, 7] rfl [0] rfl rfl rfl rfl hl.1 rfl (Nat.le_of_ble_eq_true rfl) dX2_isSame_123 ⟨Nat.zero_le _, Nat.zero_le _⟩ (fun r_44 hr_44 => ?_)
              subst r_44
              rw [xRight_pl h9 h8 hk hj, if_pos e0, if_neg e2]
              refine lv_iload hx hb dX2_isSame_126 (lv_at hl 1 rfl) ?_
              refine lv_icmp_ne (tgt := 158) hx hb dX2_isSame_128 (by decide) (fun c9 => absurd (by decide) c9) (fun c_45 => ?_)
              refine lv_aload_n hx hb dX2_isSame_131 rfl (lv_at hl 9 rfl) ?_
              refine lv_iload hx hb dX2_isSame_132 (lv_at hl 5 rfl) ?_
              refine lv_iload hx hb dX2_isSame_134 (lv_at hl 3 rfl) ?_
              refine kRVi (As := [.int (nI k), .int (nI j)]) (rest := []) ⟨hx, hb, hml, hown, hts⟩ (mX1_countAt l D cI x b a pa pe st bn hc hm (nI cN) (nI rN) lo (nI k) (nI j) (xhas_k hk (by omega)) (xhas_k hj (by omega))) (cwV 2 hts gX2_isSame_X1_countAt rfl rfl rfl (by decide +kernel) ⟨Nat.le_of_ble_eq_true rfl, Nat.le_of_ble_eq_true rfl⟩) hP hK hN [0, 1, 2, 3, 4, 5, 6, 7] rfl [0] rfl rfl rfl rfl hl.1 rfl (Nat.le_of_ble_eq_true rfl) dX2_isSame_136 ⟨Nat.zero_le _, Nat.zero_le _⟩ (fun r_46 hr_46 => ?_)
              subst r_46
              rw [xCnt_pl h9 h8 hk hj, if_neg (by rw [e0]; decide)]
              refine lv_aload hx hb dX2_isSame_139 (lv_at hl 2 rfl) ?_
              refine lv_iconst (v := 0) hx hb dX2_isSame_141 (by decide) ?_
              refine sLdI (j := 0) hx hb hK hP 0 rfl (List.mem_append_right _ (sCell_m (by omega) (by omega))) (by decide) (by decide) dX2_isSame_142 ?_
              rw [show t3 (pa (k * cN + j)) (pd (k * cN + j)) (st (k * cN + j)) 0 = 3 from e0]
              refine lv_iconst (v := 5) hx hb dX2_isSame_143 (by decide) ?_
              refine lv_icmp_ne (tgt := 154) hx hb dX2_isSame_144 (by decide) (fun _ => ?_) (fun c9 => absurd c9 (by decide))
              refine lv_iconst (v := 0) hx hb dX2_isSame_154 (by decide) ?_
              refine lv_icmp_eq (tgt := 160) hx hb dX2_isSame_155 (by decide) (fun _ => ?_) (fun c9 => absurd (by decide) c9)
              refine lv_iinc (v := (nI (j + 1))) (lv' := [(7, .int (nI (j + 1))), (6, .int (nI (h + 1))), (9, .int 0), (8, .ref (ow k j)), (5, .int num), (4, .int (nI k)), (3, .int 0), (2, .int tt), (0, .ref (v 0)), (1, .ref x)]) hx hb dX2_isSame_160 hl (k := 3) rfl (nI_1 j) (by decide) rfl (fun ls hl => ?_)
              refine lv_goto (tgt := 26) hx hb dX2_isSame_163 (by decide) ?_
              exact ih26 (j + 1) num (h + 1) (by omega) (by rw [hn, num_f h9 h8 hk hj e0 e2]) (by show tg pa (k * cN) + (h + 1) = tg pa (k * cN + j + 1); rw [tg_t e0]; omega) (by omega) _ _ hP hD hS ls (lv_sub hl [0, 1, 4, 5, 6, 7, 8, 9] rfl)
          · by_cases e5 : pa (k * cN + j) = 5
            · refine lv_aload hx hb dX2_isSame_48 (lv_at hl 0 rfl) ?_
              refine lv_iconst (v := 0) hx hb dX2_isSame_50 (by decide) ?_
              refine sLdI (j := 0) hx hb hK hP 0 rfl (List.mem_append_right _ (sCell_m (by omega) (by omega))) (by decide) (by decide) dX2_isSame_51 ?_
              rw [show t3 (pa (k * cN + j)) (pd (k * cN + j)) (st (k * cN + j)) 0 = 5 from e5]
              refine lv_iconst (v := 3) hx hb dX2_isSame_52 (by decide) ?_
              refine lv_icmp_ne (tgt := 68) hx hb dX2_isSame_53 (by decide) (fun _ => ?_) (fun c9 => absurd c9 (by decide))
              refine lv_iconst (v := 0) hx hb dX2_isSame_68 (by decide) ?_
              refine lv_istore (lv' := [(9, .int 0), (8, .ref (ow k j)), (7, .int (nI j)), (6, .int (nI h)), (5, .int num), (4, .int (nI k)), (3, .int 0), (2, .int tt), (0, .ref (v 0)), (1, .ref x)]) hx hb dX2_isSame_69 hl (by decide) rfl (fun ls hl => ?_)
              refine lv_iload hx hb dX2_isSame_71 (lv_at hl 0 rfl) ?_
              refine lv_if_eq (tgt := 85) hx hb dX2_isSame_73 (by decide) (fun _ => ?_) (fun c9 => absurd (by decide) c9)
              refine lv_iload hx hb dX2_isSame_85 (lv_at hl 3 rfl) ?_
              refine lv_aload hx hb dX2_isSame_87 (lv_at hl 1 rfl) ?_
              refine lv_iconst (v := 0) hx hb dX2_isSame_89 (by decide) ?_
              refine sLdI (j := 0) hx hb hK hP 0 rfl (List.mem_append_right _ (sCell_m (by omega) (by omega))) (by decide) (by decide) dX2_isSame_90 ?_
              rw [show t3 (pa (k * cN + j)) (pd (k * cN + j)) (st (k * cN + j)) 0 = 5 from e5]
              refine lv_iconst (v := 3) hx hb dX2_isSame_91 (by decide) ?_
              refine lv_icmp_ne (tgt := 99) hx hb dX2_isSame_92 (by decide) (fun _ => ?_) (fun c9 => absurd c9 (by decide))
              refine lv_iconst (v := 0) hx hb dX2_isSame_99 (by decide) ?_
              refine lv_iadd hx hb dX2_isSame_100 ?_
              rw [Int32.add_zero]
              refine lv_istore (lv' := [(6, .int (nI h)), (9, .int 0), (8, .ref (ow k j)), (7, .int (nI j)), (5, .int num), (4, .int (nI k)), (3, .int 0), (2, .int tt), (0, .ref (v 0)), (1, .ref x)]) hx hb dX2_isSame_101 hl (by decide) rfl (fun ls hl => ?_)
              refine lv_aload_n hx hb dX2_isSame_103 rfl (lv_at hl 9 rfl) ?_
              refine lv_iload hx hb dX2_isSame_104 (lv_at hl 5 rfl) ?_
              refine lv_iload hx hb dX2_isSame_106 (lv_at hl 3 rfl) ?_
              refine kRVi (As := [.int (nI k), .int (nI j)]) (rest := []) ⟨hx, hb, hml, hown, hts⟩ (mX1_partAt l D cI x b a pa pe st bn hc hm (nI cN) (nI rN) lo (nI k) (nI j) (xhas_k hk (by omega)) (xhas_k hj (by omega))) (cwV 2 hts gX2_isSame_X1_partAt rfl rfl rfl (by decide +kernel) ⟨Nat.le_of_ble_eq_true rfl, Nat.le_of_ble_eq_true rfl⟩) hP hK hN [0, 1, 2, 3, 4, 5, 6, 7] rfl [0] rfl rfl rfl rfl hl.1 rfl (Nat.le_of_ble_eq_true rfl) dX2_isSame_108 ⟨Nat.zero_le _, Nat.zero_le _⟩ (fun r_52 hr_52 => ?_)
              subst r_52
              rw [xcl_pl h9 h8 hk hj]
              refine lv_aload hx hb dX2_isSame_111 (lv_at hl 2 rfl) ?_
              refine lv_iconst (v := 0) hx hb dX2_isSame_113 (by decide) ?_
              refine sLdI (j := 0) hx hb hK hP 0 rfl (List.mem_append_right _ (sCell_m (by omega) (by omega))) (by decide) (by decide) dX2_isSame_114 ?_
              rw [show t3 (pa (k * cN + j)) (pd (k * cN + j)) (st (k * cN + j)) 0 = 5 from e5]
              refine lv_icmp_ne (tgt := 158) hx hb dX2_isSame_115 (by decide) (fun c9 => absurd e5 c9) (fun c_53 => ?_)
              refine lv_aload_n hx hb dX2_isSame_118 rfl (lv_at hl 9 rfl) ?_
              refine lv_iload hx hb dX2_isSame_119 (lv_at hl 5 rfl) ?_
              refine lv_iload hx hb dX2_isSame_121 (lv_at hl 3 rfl) ?_
              refine kRVi (As := [.int (nI k), .int (nI j)]) (rest := []) ⟨hx, hb, hml, hown, hts⟩ (mX1_leadsRight l D cI x b a pa pe st bn hc hm (nI cN) (nI rN) lo (nI k) (nI j) (xhas_k hk (by omega)) (xhas_k hj (by omega))) (cwV 2 hts gX2_isSame_X1_leadsRight rfl rfl rfl (by decide +kernel) ⟨Nat.le_of_ble_eq_true rfl, Nat.le_of_ble_eq_true rfl⟩) hP hK hN [0, 1, 2, 3, 4, 5, 6, 7] rfl [0] rfl rfl rfl rfl hl.1 rfl (Nat.le_of_ble_eq_true rfl) dX2_isSame_123 ⟨Nat.zero_le _, Nat.zero_le _⟩ (fun r_54 hr_54 => ?_)
              subst r_54
              rw [xRight_pl h9 h8 hk hj, if_neg e0]
              refine lv_iload hx hb dX2_isSame_126 (lv_at hl 1 rfl) ?_
              refine lv_icmp_ne (tgt := 158) hx hb dX2_isSame_128 (by decide) (fun c9 => absurd (by decide) c9) (fun c_55 => ?_)
              refine lv_aload_n hx hb dX2_isSame_131 rfl (lv_at hl 9 rfl) ?_
              refine lv_iload hx hb dX2_isSame_132 (lv_at hl 5 rfl) ?_
              refine lv_iload hx hb dX2_isSame_134 (lv_at hl 3 rfl) ?_
              refine kRVi (As := [.int (nI k), .int (nI j)]) (rest := []) ⟨hx, hb, hml, hown, hts⟩ (mX1_countAt l D cI x b a pa pe st bn hc hm (nI cN) (nI rN) lo (nI k) (nI j) (xhas_k hk (by omega)) (xhas_k hj (by omega))) (cwV 2 hts gX2_isSame_X1_countAt rfl rfl rfl (by decide +kernel) ⟨Nat.le_of_ble_eq_true rfl, Nat.le_of_ble_eq_true rfl⟩) hP hK hN [0, 1, 2, 3, 4, 5, 6, 7] rfl [0] rfl rfl rfl rfl hl.1 rfl (Nat.le_of_ble_eq_true rfl) dX2_isSame_136 ⟨Nat.zero_le _, Nat.zero_le _⟩ (fun r_56 hr_56 => ?_)
              subst r_56
              rw [xCnt_pl h9 h8 hk hj, if_pos e5]
              refine lv_aload hx hb dX2_isSame_139 (lv_at hl 2 rfl) ?_
              refine lv_iconst (v := 0) hx hb dX2_isSame_141 (by decide) ?_
              refine sLdI (j := 0) hx hb hK hP 0 rfl (List.mem_append_right _ (sCell_m (by omega) (by omega))) (by decide) (by decide) dX2_isSame_142 ?_
              rw [show t3 (pa (k * cN + j)) (pd (k * cN + j)) (st (k * cN + j)) 0 = 5 from e5]
              refine lv_iconst (v := 5) hx hb dX2_isSame_143 (by decide) ?_
              refine lv_icmp_ne (tgt := 154) hx hb dX2_isSame_144 (by decide) (fun c9 => absurd (by decide) c9) (fun _ => ?_)
              refine lv_aload hx hb dX2_isSame_147 (lv_at hl 2 rfl) ?_
              refine lv_iconst (v := 2) hx hb dX2_isSame_149 (by decide) ?_
              refine sLdI (j := 2) hx hb hK hP 0 rfl (List.mem_append_right _ (sCell_m (by omega) (by omega))) (by decide) (by decide) dX2_isSame_150 ?_
              refine lv_goto (tgt := 155) hx hb dX2_isSame_151 (by decide) ?_
              refine lv_icmp_eq (tgt := 160) hx hb dX2_isSame_155 (by decide) (fun c_58 => ?_) (fun c9 => absurd rfl c9)
              refine lv_iinc (v := (nI (j + 1))) (lv' := [(7, .int (nI (j + 1))), (6, .int (nI h)), (9, .int 0), (8, .ref (ow k j)), (5, .int num), (4, .int (nI k)), (3, .int 0), (2, .int tt), (0, .ref (v 0)), (1, .ref x)]) hx hb dX2_isSame_160 hl (k := 3) rfl (nI_1 j) (by decide) rfl (fun ls hl => ?_)
              refine lv_goto (tgt := 26) hx hb dX2_isSame_163 (by decide) ?_
              exact ih26 (j + 1) num h (by omega) (by rw [hn, num_n h9 h8 hk hj e0]) (by show tg pa (k * cN) + h = tg pa (k * cN + j + 1); rw [tg_f e0]; omega) (by omega) _ _ hP hD hS ls (lv_sub hl [0, 1, 4, 5, 6, 7, 8, 9] rfl)
            · refine lv_aload hx hb dX2_isSame_48 (lv_at hl 0 rfl) ?_
              refine lv_iconst (v := 0) hx hb dX2_isSame_50 (by decide) ?_
              refine sLdI (j := 0) hx hb hK hP 0 rfl (List.mem_append_right _ (sCell_m (by omega) (by omega))) (by decide) (by decide) dX2_isSame_51 ?_
              refine lv_iconst (v := 3) hx hb dX2_isSame_52 (by decide) ?_
              refine lv_icmp_ne (tgt := 68) hx hb dX2_isSame_53 (by decide) (fun c_59 => ?_) (fun c9 => absurd c9 e0)
              refine lv_iconst (v := 0) hx hb dX2_isSame_68 (by decide) ?_
              refine lv_istore (lv' := [(9, .int 0), (8, .ref (ow k j)), (7, .int (nI j)), (6, .int (nI h)), (5, .int num), (4, .int (nI k)), (3, .int 0), (2, .int tt), (0, .ref (v 0)), (1, .ref x)]) hx hb dX2_isSame_69 hl (by decide) rfl (fun ls hl => ?_)
              refine lv_iload hx hb dX2_isSame_71 (lv_at hl 0 rfl) ?_
              refine lv_if_eq (tgt := 85) hx hb dX2_isSame_73 (by decide) (fun _ => ?_) (fun c9 => absurd (by decide) c9)
              refine lv_iload hx hb dX2_isSame_85 (lv_at hl 3 rfl) ?_
              refine lv_aload hx hb dX2_isSame_87 (lv_at hl 1 rfl) ?_
              refine lv_iconst (v := 0) hx hb dX2_isSame_89 (by decide) ?_
              refine sLdI (j := 0) hx hb hK hP 0 rfl (List.mem_append_right _ (sCell_m (by omega) (by omega))) (by decide) (by decide) dX2_isSame_90 ?_
              refine lv_iconst (v := 3) hx hb dX2_isSame_91 (by decide) ?_
              refine lv_icmp_ne (tgt := 99) hx hb dX2_isSame_92 (by decide) (fun c_61 => ?_) (fun c9 => absurd c9 e0)
              refine lv_iconst (v := 0) hx hb dX2_isSame_99 (by decide) ?_
              refine lv_iadd hx hb dX2_isSame_100 ?_
              rw [Int32.add_zero]
              refine lv_istore (lv' := [(6, .int (nI h)), (9, .int 0), (8, .ref (ow k j)), (7, .int (nI j)), (5, .int num), (4, .int (nI k)), (3, .int 0), (2, .int tt), (0, .ref (v 0)), (1, .ref x)]) hx hb dX2_isSame_101 hl (by decide) rfl (fun ls hl => ?_)
              refine lv_aload_n hx hb dX2_isSame_103 rfl (lv_at hl 9 rfl) ?_
              refine lv_iload hx hb dX2_isSame_104 (lv_at hl 5 rfl) ?_
              refine lv_iload hx hb dX2_isSame_106 (lv_at hl 3 rfl) ?_
              refine kRVi (As := [.int (nI k), .int (nI j)]) (rest := []) ⟨hx, hb, hml, hown, hts⟩ (mX1_partAt l D cI x b a pa pe st bn hc hm (nI cN) (nI rN) lo (nI k) (nI j) (xhas_k hk (by omega)) (xhas_k hj (by omega))) (cwV 2 hts gX2_isSame_X1_partAt rfl rfl rfl (by decide +kernel) ⟨Nat.le_of_ble_eq_true rfl, Nat.le_of_ble_eq_true rfl⟩) hP hK hN [0, 1, 2, 3, 4, 5, 6, 7] rfl [0] rfl rfl rfl rfl hl.1 rfl (Nat.le_of_ble_eq_true rfl) dX2_isSame_108 ⟨Nat.zero_le _, Nat.zero_le _⟩ (fun r_62 hr_62 => ?_)
              subst r_62
              rw [xcl_pl h9 h8 hk hj]
              refine lv_aload hx hb dX2_isSame_111 (lv_at hl 2 rfl) ?_
              refine lv_iconst (v := 0) hx hb dX2_isSame_113 (by decide) ?_
              refine sLdI (j := 0) hx hb hK hP 0 rfl (List.mem_append_right _ (sCell_m (by omega) (by omega))) (by decide) (by decide) dX2_isSame_114 ?_
              refine lv_icmp_ne (tgt := 158) hx hb dX2_isSame_115 (by decide) (fun c9 => absurd rfl c9) (fun c_63 => ?_)
              refine lv_aload_n hx hb dX2_isSame_118 rfl (lv_at hl 9 rfl) ?_
              refine lv_iload hx hb dX2_isSame_119 (lv_at hl 5 rfl) ?_
              refine lv_iload hx hb dX2_isSame_121 (lv_at hl 3 rfl) ?_
              refine kRVi (As := [.int (nI k), .int (nI j)]) (rest := []) ⟨hx, hb, hml, hown, hts⟩ (mX1_leadsRight l D cI x b a pa pe st bn hc hm (nI cN) (nI rN) lo (nI k) (nI j) (xhas_k hk (by omega)) (xhas_k hj (by omega))) (cwV 2 hts gX2_isSame_X1_leadsRight rfl rfl rfl (by decide +kernel) ⟨Nat.le_of_ble_eq_true rfl, Nat.le_of_ble_eq_true rfl⟩) hP hK hN [0, 1, 2, 3, 4, 5, 6, 7] rfl [0] rfl rfl rfl rfl hl.1 rfl (Nat.le_of_ble_eq_true rfl) dX2_isSame_123 ⟨Nat.zero_le _, Nat.zero_le _⟩ (fun r_64 hr_64 => ?_)
              subst r_64
              rw [xRight_pl h9 h8 hk hj, if_neg e0]
              refine lv_iload hx hb dX2_isSame_126 (lv_at hl 1 rfl) ?_
              refine lv_icmp_ne (tgt := 158) hx hb dX2_isSame_128 (by decide) (fun c9 => absurd (by decide) c9) (fun c_65 => ?_)
              refine lv_aload_n hx hb dX2_isSame_131 rfl (lv_at hl 9 rfl) ?_
              refine lv_iload hx hb dX2_isSame_132 (lv_at hl 5 rfl) ?_
              refine lv_iload hx hb dX2_isSame_134 (lv_at hl 3 rfl) ?_
              refine kRVi (As := [.int (nI k), .int (nI j)]) (rest := []) ⟨hx, hb, hml, hown, hts⟩ (mX1_countAt l D cI x b a pa pe st bn hc hm (nI cN) (nI rN) lo (nI k) (nI j) (xhas_k hk (by omega)) (xhas_k hj (by omega))) (cwV 2 hts gX2_isSame_X1_countAt rfl rfl rfl (by decide +kernel) ⟨Nat.le_of_ble_eq_true rfl, Nat.le_of_ble_eq_true rfl⟩) hP hK hN [0, 1, 2, 3, 4, 5, 6, 7] rfl [0] rfl rfl rfl rfl hl.1 rfl (Nat.le_of_ble_eq_true rfl) dX2_isSame_136 ⟨Nat.zero_le _, Nat.zero_le _⟩ (fun r_66 hr_66 => ?_)
              subst r_66
              rw [xCnt_pl h9 h8 hk hj, if_neg e5]
              refine lv_aload hx hb dX2_isSame_139 (lv_at hl 2 rfl) ?_
              refine lv_iconst (v := 0) hx hb dX2_isSame_141 (by decide) ?_
              refine sLdI (j := 0) hx hb hK hP 0 rfl (List.mem_append_right _ (sCell_m (by omega) (by omega))) (by decide) (by decide) dX2_isSame_142 ?_
              refine lv_iconst (v := 5) hx hb dX2_isSame_143 (by decide) ?_
              refine lv_icmp_ne (tgt := 154) hx hb dX2_isSame_144 (by decide) (fun c_67 => ?_) (fun c9 => absurd c9 e5)
              refine lv_iconst (v := 0) hx hb dX2_isSame_154 (by decide) ?_
              refine lv_icmp_eq (tgt := 160) hx hb dX2_isSame_155 (by decide) (fun _ => ?_) (fun c9 => absurd (by decide) c9)
              refine lv_iinc (v := (nI (j + 1))) (lv' := [(7, .int (nI (j + 1))), (6, .int (nI h)), (9, .int 0), (8, .ref (ow k j)), (5, .int num), (4, .int (nI k)), (3, .int 0), (2, .int tt), (0, .ref (v 0)), (1, .ref x)]) hx hb dX2_isSame_160 hl (k := 3) rfl (nI_1 j) (by decide) rfl (fun ls hl => ?_)
              refine lv_goto (tgt := 26) hx hb dX2_isSame_163 (by decide) ?_
              exact ih26 (j + 1) num h (by omega) (by rw [hn, num_n h9 h8 hk hj e0]) (by show tg pa (k * cN) + h = tg pa (k * cN + j + 1); rw [tg_f e0]; omega) (by omega) _ _ hP hD hS ls (lv_sub hl [0, 1, 4, 5, 6, 7, 8, 9] rfl)
      exact L26 cN 0 0 0 (by omega) (by unfold xNum; rw [nI_clamp (show cN < 2 ^ 31 by omega)]; rfl) rfl (Nat.le_refl _) _ _ hP hD hS ls (lv_sub hl [0, 1, 2, 3, 4, 5, 6, 7] rfl)
  exact L7 rN 0 0 (by omega) (by rw [Nat.zero_mul]; rfl) _ _ hP hD hS ls (lv_sub hl [0, 1, 2, 3, 4] rfl)
