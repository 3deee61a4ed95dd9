theorem hop_n {k : Nat} (h : k < 2) : nI k = 0 ∨ nI k = 1 := by
  rcases (show k = 0 ∨ k = 1 by omega) with rfl | rfl
  · exact Or.inl rfl
  · exact Or.inr rfl
theorem iw_X2_digest_X2 : ∀ w ∈ wsX20, w ∈ wsX2_digest := mem_pos [90, 91, 92, 93, 94, 95, 96, 97, 98, 99] (by decide +kernel)
set_option maxHeartbeats 4000000 in
set_option maxRecDepth 100000 in
theorem mX2_digest (l : Launch) (D : va_G) (cI : ClassId) (a : Nat → Nat) (pt pd ab nw kp wy : Nat → Int32) (th : Int32) (cN rN : Nat) (tn : Int32) (hI : mInv cN rN pt pd ab) (sz : Nat) : Met l yX2_digest wsX2_digest ({ frames := 6, cells := 10, slots := 41, locals := 136 } : Room) (va_Pc [.ref (a 0)] (wPQ D [(cI, .int)] sz (wN cI a pt pd ab nw kp wy th (nI cN) (nI rN) tn))) (va_Ql (fun (zz : Int64) (u : MJ) => zz = mDig pt pd ab cN rN nw) (wB D [(cI, .int)] (va_A (wN cI a pt pd ab nw kp wy th (nI cN) (nI rN) tn) sz) (fun u : MJ => (wN cI a pt pd ab nw u.1 u.2.1 0 (nI cN) (nI rN) u.2.2))) (va_A (wN cI a pt pd ab nw kp wy th (nI cN) (nI rN) tn) sz)) 10 41 (va_A (wN cI a pt pd ab nw kp wy th (nI cN) (nI rN) tn) sz) := by
  refine mQ_of (by decide) rfl (Nat.le_of_ble_eq_true rfl) ?_
  intro p e s m below meth c hx hb hr hml hown hin hts hlocks hsz hP hK hN hD hA hS ls hl
  have hown : s.vm.findClass RX2 = some m.cls := hown
  have hl : lv_has ls 10 [(0, .ref (a 0))] := hl
  obtain ⟨⟨hc1, hc9⟩, hr8, hz, hab⟩ := id hI
  have hP : va_P D vwCl (wN cI a pt pd ab nw kp wy th (nI cN) (nI rN) tn) s.heap := hP
  refine lv_aload_n hx hb dX2_digest_0 rfl (lv_at hl 0 rfl) ?_
  refine lv_iconst (v := 0) hx hb dX2_digest_1 (by decide) ?_
  refine va_put (D := D) (ci := 2) (v := .int 0) (ty := .int) (C := RX2) (T := TX2) (N := 10) hx hb hts iw_X2_digest_X2 tyX2 tyX2_ok nmX2 hown hK hP hD hS 0 rfl rfl 0 (by decide) (hts (.fieldLink RX2 35 "MarbleRampsModel" "thrown" "I") (mg 1 rfl)) (fun _ h9 => h9) rfl (by decide +kernel) rfl rfl (Nat.le_of_ble_eq_true rfl) dX2_digest_2 (fun H locs hP hD hS => ?_)
  have hP : va_P D vwCl (wN cI a pt pd ab nw kp wy 0 (nI cN) (nI rN) tn) H := hP
  have hD : va_D (va_A (wN cI a pt pd ab nw kp wy th (nI cN) (nI rN) tn) sz) (wN cI a pt pd ab nw kp wy 0 (nI cN) (nI rN) tn) := hD
  refine lv_iconst (v := 5) hx hb dX2_digest_5 (by decide) ?_
  refine newI hx hb (hts (.arrayClass .int) (mg 2 rfl)) hK hP hD hS hA 0 rfl (by decide) (N' := 5) (by decide) (by decide) (Nat.le_of_ble_eq_true rfl) (Nat.le_of_ble_eq_true rfl) dX2_digest_6 (fun q_1 H hP hD hS => ?_)
  have hP : va_P D vwCl (wN cI a pt pd ab nw kp wy 0 (nI cN) (nI rN) tn ++ wA cI q_1 5 ((fun _ => 0))) H := hP
  have hD : va_D (va_A (wN cI a pt pd ab nw kp wy th (nI cN) (nI rN) tn) sz) (wN cI a pt pd ab nw kp wy 0 (nI cN) (nI rN) tn ++ wA cI q_1 5 ((fun _ => 0))) := hD
  refine lv_dup hx hb dX2_digest_8 rfl ?_
  refine lv_iconst (v := 0) hx hb dX2_digest_9 (by decide) ?_
  refine lv_aload_n hx hb dX2_digest_10 rfl (lv_at hl 0 rfl) ?_
  refine va_get (D := D) (ci := 2) (v := .int (nI cN)) (C := RX2) (T := TX2) (N := 10) hx hb hts iw_X2_digest_X2 hown hK hP 0 rfl rfl 1 (by decide) (hts (.fieldLink RX2 9 "MarbleRampsModel" "columns" "I") (mg 3 rfl)) (fun _ h9 => h9) rfl dX2_digest_11 ?_
  refine va_iast hx hb hK hP hD hS 7 0 rfl rfl (vp_in_nI (n := 0) (by decide) (by decide)) dX2_digest_14 (fun H locs hP hD hS => ?_)
  rw [show (0 : Int32).toNatClampNeg = 0 from by decide] at hP hD
  have hP : va_P D vwCl (wN cI a pt pd ab nw kp wy 0 (nI cN) (nI rN) tn ++ wA cI q_1 5 ((upd (fun _ => 0) 0 (nI cN)))) H := hP
  have hD : va_D (va_A (wN cI a pt pd ab nw kp wy th (nI cN) (nI rN) tn) sz) (wN cI a pt pd ab nw kp wy 0 (nI cN) (nI rN) tn ++ wA cI q_1 5 ((upd (fun _ => 0) 0 (nI cN)))) := hD
  refine lv_dup hx hb dX2_digest_15 rfl ?_
  refine lv_iconst (v := 1) hx hb dX2_digest_16 (by decide) ?_
  refine lv_aload_n hx hb dX2_digest_17 rfl (lv_at hl 0 rfl) ?_
  refine va_get (D := D) (ci := 2) (v := .int (nI rN)) (C := RX2) (T := TX2) (N := 10) hx hb hts iw_X2_digest_X2 hown hK hP 0 rfl rfl 2 (by decide) (hts (.fieldLink RX2 13 "MarbleRampsModel" "rows" "I") (mg 4 rfl)) (fun _ h9 => h9) rfl dX2_digest_18 ?_
  refine va_iast hx hb hK hP hD hS 7 0 rfl rfl (vp_in_nI (n := 1) (by decide) (by decide)) dX2_digest_21 (fun H locs hP hD hS => ?_)
  rw [show (1 : Int32).toNatClampNeg = 1 from by decide] at hP hD
  have hP : va_P D vwCl (wN cI a pt pd ab nw kp wy 0 (nI cN) (nI rN) tn ++ wA cI q_1 5 ((upd (upd (fun _ => 0) 0 (nI cN)) 1 (nI rN)))) H := hP
  have hD : va_D (va_A (wN cI a pt pd ab nw kp wy th (nI cN) (nI rN) tn) sz) (wN cI a pt pd ab nw kp wy 0 (nI cN) (nI rN) tn ++ wA cI q_1 5 ((upd (upd (fun _ => 0) 0 (nI cN)) 1 (nI rN)))) := hD
  refine lv_dup hx hb dX2_digest_22 rfl ?_
  refine lv_iconst (v := 2) hx hb dX2_digest_23 (by decide) ?_
  refine lv_aload_n hx hb dX2_digest_24 rfl (lv_at hl 0 rfl) ?_
  refine va_get (D := D) (ci := 2) (v := .ref (a 4)) (C := RX2) (T := TX2) (N := 10) hx hb hts iw_X2_digest_X2 hown hK hP 0 rfl rfl 6 (by decide) (hts (.fieldLink RX2 26 "MarbleRampsModel" "now" "[I") (mg 5 rfl)) (fun _ h9 => h9) rfl dX2_digest_25 ?_
  refine lv_bipush (v := 83) hx hb dX2_digest_28 (by decide) ?_
  refine va_iald hx hb hK hP 4 0 rfl rfl (vp_in_nI (n := 83) (by decide) (by decide)) dX2_digest_30 ?_
  rw [show (83 : Int32).toNatClampNeg = 83 from by decide]
  refine va_iast hx hb hK hP hD hS 7 0 rfl rfl (vp_in_nI (n := 2) (by decide) (by decide)) dX2_digest_31 (fun H locs hP hD hS => ?_)
  rw [show (2 : Int32).toNatClampNeg = 2 from by decide] at hP hD
  have hP : va_P D vwCl (wN cI a pt pd ab nw kp wy 0 (nI cN) (nI rN) tn ++ wA cI q_1 5 ((upd (upd (upd (fun _ => 0) 0 (nI cN)) 1 (nI rN)) 2 (nw 83)))) H := hP
  have hD : va_D (va_A (wN cI a pt pd ab nw kp wy th (nI cN) (nI rN) tn) sz) (wN cI a pt pd ab nw kp wy 0 (nI cN) (nI rN) tn ++ wA cI q_1 5 ((upd (upd (upd (fun _ => 0) 0 (nI cN)) 1 (nI rN)) 2 (nw 83)))) := hD
  refine lv_dup hx hb dX2_digest_32 rfl ?_
  refine lv_iconst (v := 3) hx hb dX2_digest_33 (by decide) ?_
  refine lv_aload_n hx hb dX2_digest_34 rfl (lv_at hl 0 rfl) ?_
  refine kRVi (As := []) (rest := [.int 3, .ref q_1, .ref q_1]) ⟨hx, hb, hml, hown, hts⟩ (mX2_togglesNow l D cI a pt pd ab nw kp wy 0 cN rN tn) (cwV 0 hts gX2_digest_X2_togglesNow rfl rfl rfl (by decide +kernel) ⟨Nat.le_of_ble_eq_true rfl, Nat.le_of_ble_eq_true rfl⟩) hP hK hN [0, 1, 2, 3, 4, 5, 6] rfl [0] rfl rfl rfl rfl hl.1 rfl (Nat.le_of_ble_eq_true rfl) dX2_digest_35 ⟨Nat.le_of_ble_eq_true rfl, Nat.le_of_ble_eq_true rfl⟩ (fun r_2 hr_2 => ?_)
  subst r_2
  refine va_iast hx hb hK hP hD hS 7 0 rfl rfl (vp_in_nI (n := 3) (by decide) (by decide)) dX2_digest_38 (fun H locs hP hD hS => ?_)
  rw [show (3 : Int32).toNatClampNeg = 3 from by decide] at hP hD
  have hP : va_P D vwCl (wN cI a pt pd ab nw kp wy 0 (nI cN) (nI rN) tn ++ wA cI q_1 5 ((upd (upd (upd (upd (fun _ => 0) 0 (nI cN)) 1 (nI rN)) 2 (nw 83)) 3 (mTog pt)))) H := hP
  have hD : va_D (va_A (wN cI a pt pd ab nw kp wy th (nI cN) (nI rN) tn) sz) (wN cI a pt pd ab nw kp wy 0 (nI cN) (nI rN) tn ++ wA cI q_1 5 ((upd (upd (upd (upd (fun _ => 0) 0 (nI cN)) 1 (nI rN)) 2 (nw 83)) 3 (mTog pt)))) := hD
  refine lv_dup hx hb dX2_digest_39 rfl ?_
  refine lv_iconst (v := 4) hx hb dX2_digest_40 (by decide) ?_
  refine lv_aload_n hx hb dX2_digest_41 rfl (lv_at hl 0 rfl) ?_
  refine kQVi (As := []) (rest := [.int 4, .ref q_1, .ref q_1]) (wr := [(q_1, .inl (cI, 5, .inl (upd (upd (upd (upd (fun _ => 0) 0 (nI cN)) 1 (nI rN)) 2 (nw 83)) 3 (mTog pt))))]) (W2 := (fun u : MJ => (wN cI a pt pd ab nw u.1 u.2.1 0 (nI cN) (nI rN) u.2.2 ++ wA cI q_1 5 ((upd (upd (upd (upd (fun _ => 0) 0 (nI cN)) 1 (nI rN)) 2 (nw 83)) 3 (mTog pt)))))) ⟨hx, hb, hml, hown, hts⟩ (mX2_best l D cI a pt pd ab nw kp wy 0 cN rN tn hI _) (cwV 0 hts gX2_digest_X2_best rfl rfl rfl (by decide +kernel) ⟨Nat.le_of_ble_eq_true rfl, Nat.le_of_ble_eq_true rfl⟩) hP hD hK hN hS hA [0, 1, 2, 3, 4, 5, 6] (by decide) rfl [7] (by decide) rfl (by decide) [1, 2, 3, 4, 5, 6, 7, 0] (by decide) (fun _ => rfl) [0] rfl rfl rfl rfl hl.1 rfl (Nat.le_of_ble_eq_true rfl) dX2_digest_42 ⟨Nat.le_of_ble_eq_true rfl, Nat.le_of_ble_eq_true rfl⟩ (fun r_3 u_3 H locs hr_3 hP hD hS => ?_)
  subst r_3
  have hP : va_P D vwCl (wN cI a pt pd ab nw u_3.1 u_3.2.1 0 (nI cN) (nI rN) u_3.2.2 ++ wA cI q_1 5 ((upd (upd (upd (upd (fun _ => 0) 0 (nI cN)) 1 (nI rN)) 2 (nw 83)) 3 (mTog pt)))) H := hP
  have hD : va_D (va_A (wN cI a pt pd ab nw kp wy th (nI cN) (nI rN) tn) sz) (wN cI a pt pd ab nw u_3.1 u_3.2.1 0 (nI cN) (nI rN) u_3.2.2 ++ wA cI q_1 5 ((upd (upd (upd (upd (fun _ => 0) 0 (nI cN)) 1 (nI rN)) 2 (nw 83)) 3 (mTog pt)))) := hD
  refine va_iast hx hb hK hP hD hS 7 0 rfl rfl (vp_in_nI (n := 4) (by decide) (by decide)) dX2_digest_45 (fun H locs hP hD hS => ?_)
  rw [show (4 : Int32).toNatClampNeg = 4 from by decide] at hP hD
  have hP : va_P D vwCl (wN cI a pt pd ab nw u_3.1 u_3.2.1 0 (nI cN) (nI rN) u_3.2.2 ++ wA cI q_1 5 ((upd (upd (upd (upd (upd (fun _ => 0) 0 (nI cN)) 1 (nI rN)) 2 (nw 83)) 3 (mTog pt)) 4 (mBest pt pd cN rN nw)))) H := hP
  have hD : va_D (va_A (wN cI a pt pd ab nw kp wy th (nI cN) (nI rN) tn) sz) (wN cI a pt pd ab nw u_3.1 u_3.2.1 0 (nI cN) (nI rN) u_3.2.2 ++ wA cI q_1 5 ((upd (upd (upd (upd (upd (fun _ => 0) 0 (nI cN)) 1 (nI rN)) 2 (nw 83)) 3 (mTog pt)) 4 (mBest pt pd cN rN nw)))) := hD
  refine lv_astore_n (lv' := [(1, .ref q_1), (0, .ref (a 0))]) hx hb dX2_digest_46 rfl hl (by decide) rfl (fun ls hl => ?_)
  refine lv_ldc2 hx hb hown (hts (.constantLong RX2 132 (2239)) (mg 6 rfl)) dX2_digest_47 ?_
  refine lv_lstore_n (lv' := [(2, .long 2239), (1, .ref q_1), (0, .ref (a 0))]) hx hb dX2_digest_50 rfl hl (by decide) rfl (fun ls hl => ?_)
  refine lv_aload_n hx hb dX2_digest_51 rfl (lv_at hl 1 rfl) ?_
  refine lv_astore (lv' := [(4, .ref q_1), (2, .long 2239), (1, .ref q_1), (0, .ref (a 0))]) hx hb dX2_digest_52 hl (by decide) rfl (fun ls hl => ?_)
  refine lv_aload hx hb dX2_digest_54 (lv_at hl 0 rfl) ?_
  refine va_alen hx hb hK hP 7 0 rfl rfl (v := 5) rfl dX2_digest_56 ?_
  refine lv_istore (lv' := [(5, .int 5), (4, .ref q_1), (2, .long 2239), (1, .ref q_1), (0, .ref (a 0))]) hx hb dX2_digest_57 hl (by decide) rfl (fun ls hl => ?_)
  refine lv_iconst (v := 0) hx hb dX2_digest_59 (by decide) ?_
  refine lv_istore (lv' := [(6, .int 0), (5, .int 5), (4, .ref q_1), (2, .long 2239), (1, .ref q_1), (0, .ref (a 0))]) hx hb dX2_digest_60 hl (by decide) rfl (fun ls hl => ?_)
  have L62 : ∀ (n k : Nat) (dv : Int64), k + n = 5 → mDig pt pd ab cN rN nw = mDig1 pt pd ab cN rN nw 2 0 (dgA (upd (upd (upd (upd (upd (fun _ => 0) 0 (nI cN)) 1 (nI rN)) 2 (nw 83)) 3 (mTog pt)) 4 (mBest pt pd cN rN nw)) n k dv) → ∀ (H : Heap) (locs : List Loc), va_P D vwCl (wN cI a pt pd ab nw u_3.1 u_3.2.1 0 (nI cN) (nI rN) u_3.2.2 ++ wA cI q_1 5 ((upd (upd (upd (upd (upd (fun _ => 0) 0 (nI cN)) 1 (nI rN)) 2 (nw 83)) 3 (mTog pt)) 4 (mBest pt pd cN rN nw)))) H → va_D (va_A (wN cI a pt pd ab nw kp wy th (nI cN) (nI rN) tn) sz) (wN cI a pt pd ab nw u_3.1 u_3.2.1 0 (nI cN) (nI rN) u_3.2.2 ++ wA cI q_1 5 ((upd (upd (upd (upd (upd (fun _ => 0) 0 (nI cN)) 1 (nI rN)) 2 (nw 83)) 3 (mTog pt)) 4 (mBest pt pd cN rN nw)))) → va_S (va_A (wN cI a pt pd ab nw kp wy th (nI cN) (nI rN) tn) sz) s.heap H locs → ∀ ls : Array Slot, lv_has ls 10 [(6, .int (nI k)), (5, .int 5), (4, .ref q_1), (2, .long dv), (1, .ref q_1), (0, .ref (a 0))] → W p l e ({ frames := 6, cells := 10, slots := 41, locals := 136 } : Room) s m [.ref (a 0)].toArray below meth c H locs 1 5 (MQ below (va_Ql (fun (zz : Int64) (u : MJ) => zz = mDig pt pd ab cN rN nw) (wB D [(cI, .int)] (va_A (wN cI a pt pd ab nw kp wy th (nI cN) (nI rN) tn) sz) (fun u : MJ => (wN cI a pt pd ab nw u.1 u.2.1 0 (nI cN) (nI rN) u.2.2))) (va_A (wN cI a pt pd ab nw kp wy th (nI cN) (nI rN) tn) sz)) [.ref (a 0)].toArray s 10 41 (va_A (wN cI a pt pd ab nw kp wy th (nI cN) (nI rN) tn) sz)) (F0 m 62 ls []) := by
    intro n
    induction n with
    | zero =>
      intro k dv hkn62 hf H locs hP hD hS ls hl
      refine lv_iload hx hb dX2_digest_62 (lv_at hl 0 rfl) ?_
      refine lv_iload hx hb dX2_digest_64 (lv_at hl 1 rfl) ?_
      refine lv_icmp_ge (tgt := 92) hx hb dX2_digest_66 (by decide) (fun c_4 => ?_) (fun c9 => absurd (by rw [show (5 : Int32) = nI 5 from rfl]; exact nI_le (by omega) (by omega)) c9)
      have hP := hP.sub (ws' := (wN cI a pt pd ab nw u_3.1 u_3.2.1 0 (nI cN) (nI rN) u_3.2.2)) [0, 1, 2, 3, 4, 5, 6] rfl
      have hD := hD.sub (ws' := (wN cI a pt pd ab nw u_3.1 u_3.2.1 0 (nI cN) (nI rN) u_3.2.2)) [0, 1, 2, 3, 4, 5, 6] (by decide) rfl
      refine lv_iconst (v := 0) hx hb dX2_digest_92 (by decide) ?_
      refine lv_istore (lv' := [(4, .int 0), (6, .int (nI k)), (5, .int 5), (2, .long dv), (1, .ref q_1), (0, .ref (a 0))]) hx hb dX2_digest_93 hl (by decide) rfl (fun ls hl => ?_)
      have L95 : ∀ (n1 k1 : Nat) (dv1 : Int64) (kv1 : Nat → Int32) (wv1 : Nat → Int32) (tv1 : Int32), k1 + n1 = 2 → mDig pt pd ab cN rN nw = mDig1 pt pd ab cN rN nw n1 k1 dv1 → ∀ (H : Heap) (locs : List Loc), va_P D vwCl (wN cI a pt pd ab nw kv1 wv1 0 (nI cN) (nI rN) tv1) H → va_D (va_A (wN cI a pt pd ab nw kp wy th (nI cN) (nI rN) tn) sz) (wN cI a pt pd ab nw kv1 wv1 0 (nI cN) (nI rN) tv1) → va_S (va_A (wN cI a pt pd ab nw kp wy th (nI cN) (nI rN) tn) sz) s.heap H locs → ∀ ls : Array Slot, lv_has ls 10 [(4, .int (nI k1)), (2, .long dv1), (0, .ref (a 0))] → W p l e ({ frames := 6, cells := 10, slots := 41, locals := 136 } : Room) s m [.ref (a 0)].toArray below meth c H locs 1 5 (MQ below (va_Ql (fun (zz : Int64) (u : MJ) => zz = mDig pt pd ab cN rN nw) (wB D [(cI, .int)] (va_A (wN cI a pt pd ab nw kp wy th (nI cN) (nI rN) tn) sz) (fun u : MJ => (wN cI a pt pd ab nw u.1 u.2.1 0 (nI cN) (nI rN) u.2.2))) (va_A (wN cI a pt pd ab nw kp wy th (nI cN) (nI rN) tn) sz)) [.ref (a 0)].toArray s 10 41 (va_A (wN cI a pt pd ab nw kp wy th (nI cN) (nI rN) tn) sz)) (F0 m 95 ls []) := by
        intro n1
        induction n1 with
        | zero =>
          intro k1 dv1 kv1 wv1 tv1 hkn95 hf1 H locs hP hD hS ls hl
          refine lv_iload hx hb dX2_digest_95 (lv_at hl 0 rfl) ?_
          refine lv_iconst (v := 2) hx hb dX2_digest_97 (by decide) ?_
          refine lv_icmp_ge (tgt := 150) hx hb dX2_digest_98 (by decide) (fun c_5 => ?_) (fun c9 => absurd (by rw [show (2 : Int32) = nI 2 from rfl]; exact nI_le (by omega) (by omega)) c9)
          refine lv_iconst (v := 0) hx hb dX2_digest_150 (by decide) ?_
          refine lv_istore (lv' := [(4, .int 0), (2, .long dv1), (0, .ref (a 0))]) hx hb dX2_digest_151 hl (by decide) rfl (fun ls hl => ?_)
          have L153 : ∀ (n2 k2 : Nat) (dv2 : Int64), k2 + n2 = rN → mDig pt pd ab cN rN nw = mDig2 pt pd cN rN nw n2 k2 dv2 → ∀ (H : Heap) (locs : List Loc), va_P D vwCl (wN cI a pt pd ab nw kv1 wv1 0 (nI cN) (nI rN) tv1) H → va_D (va_A (wN cI a pt pd ab nw kp wy th (nI cN) (nI rN) tn) sz) (wN cI a pt pd ab nw kv1 wv1 0 (nI cN) (nI rN) tv1) → va_S (va_A (wN cI a pt pd ab nw kp wy th (nI cN) (nI rN) tn) sz) s.heap H locs → ∀ ls : Array Slot, lv_has ls 10 [(4, .int (nI k2)), (2, .long dv2), (0, .ref (a 0))] → W p l e ({ frames := 6, cells := 10, slots := 41, locals := 136 } : Room) s m [.ref (a 0)].toArray below meth c H locs 1 5 (MQ below (va_Ql (fun (zz : Int64) (u : MJ) => zz = mDig pt pd ab cN rN nw) (wB D [(cI, .int)] (va_A (wN cI a pt pd ab nw kp wy th (nI cN) (nI rN) tn) sz) (fun u : MJ => (wN cI a pt pd ab nw u.1 u.2.1 0 (nI cN) (nI rN) u.2.2))) (va_A (wN cI a pt pd ab nw kp wy th (nI cN) (nI rN) tn) sz)) [.ref (a 0)].toArray s 10 41 (va_A (wN cI a pt pd ab nw kp wy th (nI cN) (nI rN) tn) sz)) (F0 m 153 ls []) := by
            intro n2
            induction n2 with
            | zero =>
              intro k2 dv2 hkn153 hf2 H locs hP hD hS ls hl
              refine lv_iload hx hb dX2_digest_153 (lv_at hl 0 rfl) ?_
              refine lv_aload_n hx hb dX2_digest_155 rfl (lv_at hl 2 rfl) ?_
              refine va_get (D := D) (ci := 2) (v := .int (nI rN)) (C := RX2) (T := TX2) (N := 10) hx hb hts iw_X2_digest_X2 hown hK hP 0 rfl rfl 2 (by decide) (hts (.fieldLink RX2 13 "MarbleRampsModel" "rows" "I") (mg 4 rfl)) (fun _ h9 => h9) rfl dX2_digest_156 ?_
              refine lv_icmp_ge (tgt := 257) hx hb dX2_digest_159 (by decide) (fun c_6 => ?_) (fun c9 => absurd (nI_le (by omega) (by omega)) c9)
              refine lv_iconst (v := 0) hx hb dX2_digest_257 (by decide) ?_
              refine lv_istore (lv' := [(4, .int 0), (2, .long dv2), (0, .ref (a 0))]) hx hb dX2_digest_258 hl (by decide) rfl (fun ls hl => ?_)
              have L260 : ∀ (n5 k5 : Nat) (dv5 : Int64) (kv5 : Nat → Int32) (wv5 : Nat → Int32) (tv5 : Int32), k5 + n5 = cN → mDig pt pd ab cN rN nw = mDig3 pt pd cN rN nw n5 k5 dv5 → ∀ (H : Heap) (locs : List Loc), va_P D vwCl (wN cI a pt pd ab nw kv5 wv5 0 (nI cN) (nI rN) tv5) H → va_D (va_A (wN cI a pt pd ab nw kp wy th (nI cN) (nI rN) tn) sz) (wN cI a pt pd ab nw kv5 wv5 0 (nI cN) (nI rN) tv5) → va_S (va_A (wN cI a pt pd ab nw kp wy th (nI cN) (nI rN) tn) sz) s.heap H locs → ∀ ls : Array Slot, lv_has ls 10 [(4, .int (nI k5)), (2, .long dv5), (0, .ref (a 0))] → W p l e ({ frames := 6, cells := 10, slots := 41, locals := 136 } : Room) s m [.ref (a 0)].toArray below meth c H locs (1 + k5) (5 + 4 * k5) (MQ below (va_Ql (fun (zz : Int64) (u : MJ) => zz = mDig pt pd ab cN rN nw) (wB D [(cI, .int)] (va_A (wN cI a pt pd ab nw kp wy th (nI cN) (nI rN) tn) sz) (fun u : MJ => (wN cI a pt pd ab nw u.1 u.2.1 0 (nI cN) (nI rN) u.2.2))) (va_A (wN cI a pt pd ab nw kp wy th (nI cN) (nI rN) tn) sz)) [.ref (a 0)].toArray s 10 41 (va_A (wN cI a pt pd ab nw kp wy th (nI cN) (nI rN) tn) sz)) (F0 m 260 ls []) := by
                intro n5
                induction n5 with
                | zero =>
                  intro k5 dv5 kv5 wv5 tv5 hkn260 hf6 H locs hP hD hS ls hl
                  refine lv_iload hx hb dX2_digest_260 (lv_at hl 0 rfl) ?_
                  refine lv_aload_n hx hb dX2_digest_262 rfl (lv_at hl 2 rfl) ?_
                  refine va_get (D := D) (ci := 2) (v := .int (nI cN)) (C := RX2) (T := TX2) (N := 10) hx hb hts iw_X2_digest_X2 hown hK hP 0 rfl rfl 1 (by decide) (hts (.fieldLink RX2 9 "MarbleRampsModel" "columns" "I") (mg 3 rfl)) (fun _ h9 => h9) rfl dX2_digest_263 ?_
                  refine lv_icmp_ge (tgt := 363) hx hb dX2_digest_266 (by decide) (fun c_7 => ?_) (fun c9 => absurd (nI_le (by omega) (by omega)) c9)
                  refine lv_lload_n hx hb dX2_digest_363 rfl (lv_at hl 1 rfl) ?_
                  refine W.widen (k := 10) (n := 41) (by omega) (by omega) ?_
                  exact eQl (kv5, wv5, tv5) hx hb hr hlocks hP hD hK hS dX2_digest_364 (by rw [hf6]; rfl)
                | succ n5 ih260 =>
                  intro k5 dv5 kv5 wv5 tv5 hkn260 hf6 H locs hP hD hS ls hl
                  refine lv_iload hx hb dX2_digest_260 (lv_at hl 0 rfl) ?_
                  refine lv_aload_n hx hb dX2_digest_262 rfl (lv_at hl 2 rfl) ?_
                  refine va_get (D := D) (ci := 2) (v := .int (nI cN)) (C := RX2) (T := TX2) (N := 10) hx hb hts iw_X2_digest_X2 hown hK hP 0 rfl rfl 1 (by decide) (hts (.fieldLink RX2 9 "MarbleRampsModel" "columns" "I") (mg 3 rfl)) (fun _ h9 => h9) rfl dX2_digest_263 ?_
                  refine lv_icmp_ge (tgt := 363) hx hb dX2_digest_266 (by decide) (fun c9 => absurd c9 (nI_ge (by omega) (by omega))) (fun c_8 => ?_)
                  refine lv_iconst (v := 4) hx hb dX2_digest_269 (by decide) ?_
                  refine newI hx hb (hts (.arrayClass .int) (mg 2 rfl)) hK hP hD hS hA 0 rfl (by decide) (N' := 4) (by decide) (by decide) (by show _ ≤ 10; omega) (by show _ ≤ 41; omega) dX2_digest_270 (fun q_9 H hP hD hS => ?_)
                  have hP : va_P D vwCl (wN cI a pt pd ab nw kv5 wv5 0 (nI cN) (nI rN) tv5 ++ wA cI q_9 4 ((fun _ => 0))) H := hP
                  have hD : va_D (va_A (wN cI a pt pd ab nw kp wy th (nI cN) (nI rN) tn) sz) (wN cI a pt pd ab nw kv5 wv5 0 (nI cN) (nI rN) tv5 ++ wA cI q_9 4 ((fun _ => 0))) := hD
                  refine lv_dup hx hb dX2_digest_272 rfl ?_
                  refine lv_iconst (v := 0) hx hb dX2_digest_273 (by decide) ?_
                  refine lv_aload_n hx hb dX2_digest_274 rfl (lv_at hl 2 rfl) ?_
                  refine va_get (D := D) (ci := 2) (v := .ref (a 4)) (C := RX2) (T := TX2) (N := 10) hx hb hts iw_X2_digest_X2 hown hK hP 0 rfl rfl 6 (by decide) (hts (.fieldLink RX2 26 "MarbleRampsModel" "now" "[I") (mg 5 rfl)) (fun _ h9 => h9) rfl dX2_digest_275 ?_
                  refine lv_bipush (v := 72) hx hb dX2_digest_278 (by decide) ?_
                  refine lv_iload hx hb dX2_digest_280 (lv_at hl 0 rfl) ?_
                  refine lv_iadd hx hb dX2_digest_282 ?_
                  refine va_iald hx hb hK hP 4 0 rfl rfl (inbin hc9 ⟨k5, by omega, rfl⟩) dX2_digest_283 ?_
                  refine va_iast hx hb hK hP hD hS 7 0 rfl rfl (vp_in_nI (n := 0) (by decide) (by decide)) dX2_digest_284 (fun H locs hP hD hS => ?_)
                  rw [show (0 : Int32).toNatClampNeg = 0 from by decide] at hP hD
                  have hP : va_P D vwCl (wN cI a pt pd ab nw kv5 wv5 0 (nI cN) (nI rN) tv5 ++ wA cI q_9 4 ((upd (fun _ => 0) 0 (nw (72 + nI k5).toNatClampNeg)))) H := hP
                  have hD : va_D (va_A (wN cI a pt pd ab nw kp wy th (nI cN) (nI rN) tn) sz) (wN cI a pt pd ab nw kv5 wv5 0 (nI cN) (nI rN) tv5 ++ wA cI q_9 4 ((upd (fun _ => 0) 0 (nw (72 + nI k5).toNatClampNeg)))) := hD
                  refine lv_dup hx hb dX2_digest_285 rfl ?_
                  refine lv_iconst (v := 1) hx hb dX2_digest_286 (by decide) ?_
                  refine lv_aload_n hx hb dX2_digest_287 rfl (lv_at hl 2 rfl) ?_
                  refine lv_iload hx hb dX2_digest_288 (lv_at hl 0 rfl) ?_
                  refine lv_iconst (v := 1) hx hb dX2_digest_290 (by decide) ?_
                  refine kQVi (As := [.int (nI k5), .int 1]) (rest := [.int 1, .ref q_9, .ref q_9]) (wr := [(q_9, .inl (cI, 4, .inl (upd (fun _ => 0) 0 (nw (72 + nI k5).toNatClampNeg))))]) (W2 := (fun _ => (wN cI a pt pd ab nw nw ((mLook pt pd cN rN nw tv5 wv5 (nI k5) 1).2.2) 0 (nI cN) (nI rN) ((mLook pt pd cN rN nw tv5 wv5 (nI k5) 1).2.1) ++ wA cI q_9 4 ((upd (fun _ => 0) 0 (nw (72 + nI k5).toNatClampNeg)))))) ⟨hx, hb, hml, hown, hts⟩ (mX2_look l D cI a pt pd ab nw kv5 wv5 0 cN rN tv5 (nI k5) 1 hI ⟨k5, by omega, rfl⟩ _) (cwV 2 hts gX2_digest_X2_look rfl rfl rfl (by decide +kernel) ⟨Nat.le_of_ble_eq_true rfl, Nat.le_of_ble_eq_true rfl⟩) hP hD hK hN hS hA [0, 1, 2, 3, 4, 5, 6] (by decide) rfl [7] (by decide) rfl (by decide) [1, 2, 3, 4, 5, 6, 7, 0] (by decide) (fun _ => rfl) [0] rfl rfl rfl rfl hl.1 rfl (Nat.le_of_ble_eq_true rfl) dX2_digest_291 ⟨by show _ ≤ 10; omega, by show _ ≤ 41; omega⟩ (fun r_10 u_10 H locs hr_10 hP hD hS => ?_)
                  subst r_10
                  have hP : va_P D vwCl (wN cI a pt pd ab nw nw ((mLook pt pd cN rN nw tv5 wv5 (nI k5) 1).2.2) 0 (nI cN) (nI rN) ((mLook pt pd cN rN nw tv5 wv5 (nI k5) 1).2.1) ++ wA cI q_9 4 ((upd (fun _ => 0) 0 (nw (72 + nI k5).toNatClampNeg)))) H := hP
                  have hD : va_D (va_A (wN cI a pt pd ab nw kp wy th (nI cN) (nI rN) tn) sz) (wN cI a pt pd ab nw nw ((mLook pt pd cN rN nw tv5 wv5 (nI k5) 1).2.2) 0 (nI cN) (nI rN) ((mLook pt pd cN rN nw tv5 wv5 (nI k5) 1).2.1) ++ wA cI q_9 4 ((upd (fun _ => 0) 0 (nw (72 + nI k5).toNatClampNeg)))) := hD
                  refine va_iast hx hb hK hP hD hS 7 0 rfl rfl (vp_in_nI (n := 1) (by decide) (by decide)) dX2_digest_294 (fun H locs hP hD hS => ?_)
                  rw [show (1 : Int32).toNatClampNeg = 1 from by decide] at hP hD
                  have hP : va_P D vwCl (wN cI a pt pd ab nw nw ((mLook pt pd cN rN nw tv5 wv5 (nI k5) 1).2.2) 0 (nI cN) (nI rN) ((mLook pt pd cN rN nw tv5 wv5 (nI k5) 1).2.1) ++ wA cI q_9 4 ((upd (upd (fun _ => 0) 0 (nw (72 + nI k5).toNatClampNeg)) 1 ((mLook pt pd cN rN nw tv5 wv5 (nI k5) 1).1)))) H := hP
                  have hD : va_D (va_A (wN cI a pt pd ab nw kp wy th (nI cN) (nI rN) tn) sz) (wN cI a pt pd ab nw nw ((mLook pt pd cN rN nw tv5 wv5 (nI k5) 1).2.2) 0 (nI cN) (nI rN) ((mLook pt pd cN rN nw tv5 wv5 (nI k5) 1).2.1) ++ wA cI q_9 4 ((upd (upd (fun _ => 0) 0 (nw (72 + nI k5).toNatClampNeg)) 1 ((mLook pt pd cN rN nw tv5 wv5 (nI k5) 1).1)))) := hD
                  refine lv_dup hx hb dX2_digest_295 rfl ?_
                  refine lv_iconst (v := 2) hx hb dX2_digest_296 (by decide) ?_
                  refine lv_aload_n hx hb dX2_digest_297 rfl (lv_at hl 2 rfl) ?_
                  refine lv_iload hx hb dX2_digest_298 (lv_at hl 0 rfl) ?_
                  refine kQVi (As := [.int (nI k5)]) (rest := [.int 2, .ref q_9, .ref q_9]) (wr := [(q_9, .inl (cI, 4, .inl (upd (upd (fun _ => 0) 0 (nw (72 + nI k5).toNatClampNeg)) 1 ((mLook pt pd cN rN nw tv5 wv5 (nI k5) 1).1))))]) (W2 := (fun _ => (wN cI a pt pd ab nw nw ((mFall pt pd cN rN nw (nI k5)).2.2.2) 0 (nI cN) (nI rN) ((mFall pt pd cN rN nw (nI k5)).2.2.1) ++ wA cI q_9 4 ((upd (upd (fun _ => 0) 0 (nw (72 + nI k5).toNatClampNeg)) 1 ((mLook pt pd cN rN nw tv5 wv5 (nI k5) 1).1)))))) ⟨hx, hb, hml, hown, hts⟩ (mX2_turnedBy l D cI a pt pd ab nw nw ((mLook pt pd cN rN nw tv5 wv5 (nI k5) 1).2.2) 0 cN rN ((mLook pt pd cN rN nw tv5 wv5 (nI k5) 1).2.1) (nI k5) hI ⟨k5, by omega, rfl⟩ _) (cwV 1 hts gX2_digest_X2_turnedBy rfl rfl rfl (by decide +kernel) ⟨Nat.le_of_ble_eq_true rfl, Nat.le_of_ble_eq_true rfl⟩) hP hD hK hN hS hA [0, 1, 2, 3, 4, 5, 6] (by decide) rfl [7] (by decide) rfl (by decide) [1, 2, 3, 4, 5, 6, 7, 0] (by decide) (fun _ => rfl) [0] rfl rfl rfl rfl hl.1 rfl (Nat.le_of_ble_eq_true rfl) dX2_digest_300 ⟨by show _ ≤ 10; omega, by show _ ≤ 41; omega⟩ (fun r_11 u_11 H locs hr_11 hP hD hS => ?_)
                  subst r_11
                  have hP : va_P D vwCl (wN cI a pt pd ab nw nw ((mFall pt pd cN rN nw (nI k5)).2.2.2) 0 (nI cN) (nI rN) ((mFall pt pd cN rN nw (nI k5)).2.2.1) ++ wA cI q_9 4 ((upd (upd (fun _ => 0) 0 (nw (72 + nI k5).toNatClampNeg)) 1 ((mLook pt pd cN rN nw tv5 wv5 (nI k5) 1).1)))) H := hP
                  have hD : va_D (va_A (wN cI a pt pd ab nw kp wy th (nI cN) (nI rN) tn) sz) (wN cI a pt pd ab nw nw ((mFall pt pd cN rN nw (nI k5)).2.2.2) 0 (nI cN) (nI rN) ((mFall pt pd cN rN nw (nI k5)).2.2.1) ++ wA cI q_9 4 ((upd (upd (fun _ => 0) 0 (nw (72 + nI k5).toNatClampNeg)) 1 ((mLook pt pd cN rN nw tv5 wv5 (nI k5) 1).1)))) := hD
                  refine va_iast hx hb hK hP hD hS 7 0 rfl rfl (vp_in_nI (n := 2) (by decide) (by decide)) dX2_digest_303 (fun H locs hP hD hS => ?_)
                  rw [show (2 : Int32).toNatClampNeg = 2 from by decide] at hP hD
                  have hP : va_P D vwCl (wN cI a pt pd ab nw nw ((mFall pt pd cN rN nw (nI k5)).2.2.2) 0 (nI cN) (nI rN) ((mFall pt pd cN rN nw (nI k5)).2.2.1) ++ wA cI q_9 4 ((upd (upd (upd (fun _ => 0) 0 (nw (72 + nI k5).toNatClampNeg)) 1 ((mLook pt pd cN rN nw tv5 wv5 (nI k5) 1).1)) 2 ((mFall pt pd cN rN nw (nI k5)).2.2.1)))) H := hP
                  have hD : va_D (va_A (wN cI a pt pd ab nw kp wy th (nI cN) (nI rN) tn) sz) (wN cI a pt pd ab nw nw ((mFall pt pd cN rN nw (nI k5)).2.2.2) 0 (nI cN) (nI rN) ((mFall pt pd cN rN nw (nI k5)).2.2.1) ++ wA cI q_9 4 ((upd (upd (upd (fun _ => 0) 0 (nw (72 + nI k5).toNatClampNeg)) 1 ((mLook pt pd cN rN nw tv5 wv5 (nI k5) 1).1)) 2 ((mFall pt pd cN rN nw (nI k5)).2.2.1)))) := hD
                  refine lv_dup hx hb dX2_digest_304 rfl ?_
                  refine lv_iconst (v := 3) hx hb dX2_digest_305 (by decide) ?_
                  refine lv_aload_n hx hb dX2_digest_306 rfl (lv_at hl 2 rfl) ?_
                  refine lv_iload hx hb dX2_digest_307 (lv_at hl 0 rfl) ?_
                  refine kQVi (As := [.int (nI k5)]) (rest := [.int 3, .ref q_9, .ref q_9]) (wr := [(q_9, .inl (cI, 4, .inl (upd (upd (upd (fun _ => 0) 0 (nw (72 + nI k5).toNatClampNeg)) 1 ((mLook pt pd cN rN nw tv5 wv5 (nI k5) 1).1)) 2 ((mFall pt pd cN rN nw (nI k5)).2.2.1))))]) (W2 := (fun u : MJ => (wN cI a pt pd ab nw u.1 u.2.1 0 (nI cN) (nI rN) u.2.2 ++ wA cI q_9 4 ((upd (upd (upd (fun _ => 0) 0 (nw (72 + nI k5).toNatClampNeg)) 1 ((mLook pt pd cN rN nw tv5 wv5 (nI k5) 1).1)) 2 ((mFall pt pd cN rN nw (nI k5)).2.2.1)))))) ⟨hx, hb, hml, hown, hts⟩ (mX2_asBefore l D cI a pt pd ab nw nw ((mFall pt pd cN rN nw (nI k5)).2.2.2) 0 cN rN ((mFall pt pd cN rN nw (nI k5)).2.2.1) (nI k5) hI ⟨k5, by omega, rfl⟩ _) (cwV 1 hts gX2_digest_X2_asBefore rfl rfl rfl (by decide +kernel) ⟨Nat.le_of_ble_eq_true rfl, Nat.le_of_ble_eq_true rfl⟩) hP hD hK hN hS hA [0, 1, 2, 3, 4, 5, 6] (by decide) rfl [7] (by decide) rfl (by decide) [1, 2, 3, 4, 5, 6, 7, 0] (by decide) (fun _ => rfl) [0] rfl rfl rfl rfl hl.1 rfl (Nat.le_of_ble_eq_true rfl) dX2_digest_309 ⟨by show _ ≤ 10; omega, by show _ ≤ 41; omega⟩ (fun r_12 u_12 H locs hr_12 hP hD hS => ?_)
                  subst r_12
                  have hP : va_P D vwCl (wN cI a pt pd ab nw u_12.1 u_12.2.1 0 (nI cN) (nI rN) u_12.2.2 ++ wA cI q_9 4 ((upd (upd (upd (fun _ => 0) 0 (nw (72 + nI k5).toNatClampNeg)) 1 ((mLook pt pd cN rN nw tv5 wv5 (nI k5) 1).1)) 2 ((mFall pt pd cN rN nw (nI k5)).2.2.1)))) H := hP
                  have hD : va_D (va_A (wN cI a pt pd ab nw kp wy th (nI cN) (nI rN) tn) sz) (wN cI a pt pd ab nw u_12.1 u_12.2.1 0 (nI cN) (nI rN) u_12.2.2 ++ wA cI q_9 4 ((upd (upd (upd (fun _ => 0) 0 (nw (72 + nI k5).toNatClampNeg)) 1 ((mLook pt pd cN rN nw tv5 wv5 (nI k5) 1).1)) 2 ((mFall pt pd cN rN nw (nI k5)).2.2.1)))) := hD
                  refine va_iast hx hb hK hP hD hS 7 0 rfl rfl (vp_in_nI (n := 3) (by decide) (by decide)) dX2_digest_312 (fun H locs hP hD hS => ?_)
                  rw [show (3 : Int32).toNatClampNeg = 3 from by decide] at hP hD
                  have hP : va_P D vwCl (wN cI a pt pd ab nw u_12.1 u_12.2.1 0 (nI cN) (nI rN) u_12.2.2 ++ wA cI q_9 4 ((upd (upd (upd (upd (fun _ => 0) 0 (nw (72 + nI k5).toNatClampNeg)) 1 ((mLook pt pd cN rN nw tv5 wv5 (nI k5) 1).1)) 2 ((mFall pt pd cN rN nw (nI k5)).2.2.1)) 3 (mAsb pt pd cN rN nw (nI k5))))) H := hP
                  have hD : va_D (va_A (wN cI a pt pd ab nw kp wy th (nI cN) (nI rN) tn) sz) (wN cI a pt pd ab nw u_12.1 u_12.2.1 0 (nI cN) (nI rN) u_12.2.2 ++ wA cI q_9 4 ((upd (upd (upd (upd (fun _ => 0) 0 (nw (72 + nI k5).toNatClampNeg)) 1 ((mLook pt pd cN rN nw tv5 wv5 (nI k5) 1).1)) 2 ((mFall pt pd cN rN nw (nI k5)).2.2.1)) 3 (mAsb pt pd cN rN nw (nI k5))))) := hD
                  refine lv_astore (lv' := [(5, .ref q_9), (4, .int (nI k5)), (2, .long dv5), (0, .ref (a 0))]) hx hb dX2_digest_313 hl (by decide) rfl (fun ls hl => ?_)
                  refine lv_aload hx hb dX2_digest_315 (lv_at hl 0 rfl) ?_
                  refine lv_astore (lv' := [(6, .ref q_9), (5, .ref q_9), (4, .int (nI k5)), (2, .long dv5), (0, .ref (a 0))]) hx hb dX2_digest_317 hl (by decide) rfl (fun ls hl => ?_)
                  refine lv_aload hx hb dX2_digest_319 (lv_at hl 0 rfl) ?_
                  refine va_alen hx hb hK hP 7 0 rfl rfl (v := 4) rfl dX2_digest_321 ?_
                  refine lv_istore (lv' := [(7, .int 4), (6, .ref q_9), (5, .ref q_9), (4, .int (nI k5)), (2, .long dv5), (0, .ref (a 0))]) hx hb dX2_digest_322 hl (by decide) rfl (fun ls hl => ?_)
                  refine lv_iconst (v := 0) hx hb dX2_digest_324 (by decide) ?_
                  refine lv_istore (lv' := [(8, .int 0), (7, .int 4), (6, .ref q_9), (5, .ref q_9), (4, .int (nI k5)), (2, .long dv5), (0, .ref (a 0))]) hx hb dX2_digest_325 hl (by decide) rfl (fun ls hl => ?_)
                  have L327 : ∀ (n7 k7 : Nat) (dv7 : Int64), k7 + n7 = 4 → mDig pt pd ab cN rN nw = mDig3 pt pd cN rN nw n5 (k5 + 1) (dgA (upd (upd (upd (upd (fun _ => 0) 0 (nw (72 + nI k5).toNatClampNeg)) 1 ((mLook pt pd cN rN nw tv5 wv5 (nI k5) 1).1)) 2 ((mFall pt pd cN rN nw (nI k5)).2.2.1)) 3 (mAsb pt pd cN rN nw (nI k5))) n7 k7 dv7) → ∀ (H : Heap) (locs : List Loc), va_P D vwCl (wN cI a pt pd ab nw u_12.1 u_12.2.1 0 (nI cN) (nI rN) u_12.2.2 ++ wA cI q_9 4 ((upd (upd (upd (upd (fun _ => 0) 0 (nw (72 + nI k5).toNatClampNeg)) 1 ((mLook pt pd cN rN nw tv5 wv5 (nI k5) 1).1)) 2 ((mFall pt pd cN rN nw (nI k5)).2.2.1)) 3 (mAsb pt pd cN rN nw (nI k5))))) H → va_D (va_A (wN cI a pt pd ab nw kp wy th (nI cN) (nI rN) tn) sz) (wN cI a pt pd ab nw u_12.1 u_12.2.1 0 (nI cN) (nI rN) u_12.2.2 ++ wA cI q_9 4 ((upd (upd (upd (upd (fun _ => 0) 0 (nw (72 + nI k5).toNatClampNeg)) 1 ((mLook pt pd cN rN nw tv5 wv5 (nI k5) 1).1)) 2 ((mFall pt pd cN rN nw (nI k5)).2.2.1)) 3 (mAsb pt pd cN rN nw (nI k5))))) → va_S (va_A (wN cI a pt pd ab nw kp wy th (nI cN) (nI rN) tn) sz) s.heap H locs → ∀ ls : Array Slot, lv_has ls 10 [(8, .int (nI k7)), (7, .int 4), (6, .ref q_9), (5, .ref q_9), (4, .int (nI k5)), (2, .long dv7), (0, .ref (a 0))] → W p l e ({ frames := 6, cells := 10, slots := 41, locals := 136 } : Room) s m [.ref (a 0)].toArray below meth c H locs (1 + k5 + 1) (5 + 4 * k5 + 4) (MQ below (va_Ql (fun (zz : Int64) (u : MJ) => zz = mDig pt pd ab cN rN nw) (wB D [(cI, .int)] (va_A (wN cI a pt pd ab nw kp wy th (nI cN) (nI rN) tn) sz) (fun u : MJ => (wN cI a pt pd ab nw u.1 u.2.1 0 (nI cN) (nI rN) u.2.2))) (va_A (wN cI a pt pd ab nw kp wy th (nI cN) (nI rN) tn) sz)) [.ref (a 0)].toArray s 10 41 (va_A (wN cI a pt pd ab nw kp wy th (nI cN) (nI rN) tn) sz)) (F0 m 327 ls []) := by
                    intro n7
                    induction n7 with
                    | zero =>
                      intro k7 dv7 hkn327 hf7 H locs hP hD hS ls hl
                      refine lv_iload hx hb dX2_digest_327 (lv_at hl 0 rfl) ?_
                      refine lv_iload hx hb dX2_digest_329 (lv_at hl 1 rfl) ?_
                      refine lv_icmp_ge (tgt := 357) hx hb dX2_digest_331 (by decide) (fun c_13 => ?_) (fun c9 => absurd (by rw [show (4 : Int32) = nI 4 from rfl]; exact nI_le (by omega) (by omega)) c9)
                      refine lv_iinc (v := (nI (k5 + 1))) (lv' := [(4, .int (nI (k5 + 1))), (8, .int (nI k7)), (7, .int 4), (6, .ref q_9), (5, .ref q_9), (2, .long dv7), (0, .ref (a 0))]) hx hb dX2_digest_357 hl (k := 4) rfl (nI_1 k5) (by decide) rfl (fun ls hl => ?_)
                      refine lv_goto (tgt := 260) hx hb dX2_digest_360 (by decide) ?_
                      have hP := hP.sub (ws' := (wN cI a pt pd ab nw u_12.1 u_12.2.1 0 (nI cN) (nI rN) u_12.2.2)) [0, 1, 2, 3, 4, 5, 6] rfl
                      have hD := hD.sub (ws' := (wN cI a pt pd ab nw u_12.1 u_12.2.1 0 (nI cN) (nI rN) u_12.2.2)) [0, 1, 2, 3, 4, 5, 6] (by decide) rfl
                      refine W.widen (k := 1 + (k5 + 1)) (n := 5 + 4 * (k5 + 1)) (by omega) (by omega) ?_
                      exact ih260 (k5 + 1) dv7 u_12.1 u_12.2.1 u_12.2.2 (by omega) (by rw [hf7]; rfl) _ _ hP hD hS ls (lv_sub hl [0, 5, 6] rfl)
                    | succ n7 ih327 =>
                      intro k7 dv7 hkn327 hf7 H locs hP hD hS ls hl
                      refine lv_iload hx hb dX2_digest_327 (lv_at hl 0 rfl) ?_
                      refine lv_iload hx hb dX2_digest_329 (lv_at hl 1 rfl) ?_
                      refine lv_icmp_ge (tgt := 357) hx hb dX2_digest_331 (by decide) (fun c9 => absurd c9 (by rw [show (4 : Int32) = nI 4 from rfl]; exact nI_ge (by omega) (by decide))) (fun c_14 => ?_)
                      refine lv_aload hx hb dX2_digest_334 (lv_at hl 2 rfl) ?_
                      refine lv_iload hx hb dX2_digest_336 (lv_at hl 0 rfl) ?_
                      refine va_iald hx hb hK hP 7 0 rfl rfl (vp_in_nI (by omega) (by decide)) dX2_digest_338 ?_
                      rw [nI_clamp (show k7 < 2 ^ 31 by omega)]
                      refine lv_istore (lv' := [(9, .int ((upd (upd (upd (upd (fun _ => 0) 0 (nw (72 + nI k5).toNatClampNeg)) 1 ((mLook pt pd cN rN nw tv5 wv5 (nI k5) 1).1)) 2 ((mFall pt pd cN rN nw (nI k5)).2.2.1)) 3 (mAsb pt pd cN rN nw (nI k5))) k7)), (8, .int (nI k7)), (7, .int 4), (6, .ref q_9), (5, .ref q_9), (4, .int (nI k5)), (2, .long dv7), (0, .ref (a 0))]) hx hb dX2_digest_339 hl (by decide) rfl (fun ls hl => ?_)
                      refine lv_lload_n hx hb dX2_digest_341 rfl (lv_at hl 6 rfl) ?_
                      refine lv_ldc2 hx hb hown (hts (.constantLong RX2 134 (31)) (mg 7 rfl)) dX2_digest_342 ?_
                      refine lv_lmul hx hb dX2_digest_345 ?_
                      refine lv_iload hx hb dX2_digest_346 (lv_at hl 0 rfl) ?_
                      refine lv_i2l (v := (((upd (upd (upd (upd (fun _ => 0) 0 (nw (72 + nI k5).toNatClampNeg)) 1 ((mLook pt pd cN rN nw tv5 wv5 (nI k5) 1).1)) 2 ((mFall pt pd cN rN nw (nI k5)).2.2.1)) 3 (mAsb pt pd cN rN nw (nI k5))) k7) : Int32).toInt64) hx hb dX2_digest_348 rfl ?_
                      refine lv_ladd hx hb dX2_digest_349 ?_
                      refine lv_lstore_n (lv' := [(2, .long ((dv7 * 31) + ((((upd (upd (upd (upd (fun _ => 0) 0 (nw (72 + nI k5).toNatClampNeg)) 1 ((mLook pt pd cN rN nw tv5 wv5 (nI k5) 1).1)) 2 ((mFall pt pd cN rN nw (nI k5)).2.2.1)) 3 (mAsb pt pd cN rN nw (nI k5))) k7) : Int32).toInt64))), (9, .int ((upd (upd (upd (upd (fun _ => 0) 0 (nw (72 + nI k5).toNatClampNeg)) 1 ((mLook pt pd cN rN nw tv5 wv5 (nI k5) 1).1)) 2 ((mFall pt pd cN rN nw (nI k5)).2.2.1)) 3 (mAsb pt pd cN rN nw (nI k5))) k7)), (8, .int (nI k7)), (7, .int 4), (6, .ref q_9), (5, .ref q_9), (4, .int (nI k5)), (0, .ref (a 0))]) hx hb dX2_digest_350 rfl hl (by decide) rfl (fun ls hl => ?_)
                      refine lv_iinc (v := (nI (k7 + 1))) (lv' := [(8, .int (nI (k7 + 1))), (2, .long ((dv7 * 31) + ((((upd (upd (upd (upd (fun _ => 0) 0 (nw (72 + nI k5).toNatClampNeg)) 1 ((mLook pt pd cN rN nw tv5 wv5 (nI k5) 1).1)) 2 ((mFall pt pd cN rN nw (nI k5)).2.2.1)) 3 (mAsb pt pd cN rN nw (nI k5))) k7) : Int32).toInt64))), (9, .int ((upd (upd (upd (upd (fun _ => 0) 0 (nw (72 + nI k5).toNatClampNeg)) 1 ((mLook pt pd cN rN nw tv5 wv5 (nI k5) 1).1)) 2 ((mFall pt pd cN rN nw (nI k5)).2.2.1)) 3 (mAsb pt pd cN rN nw (nI k5))) k7)), (7, .int 4), (6, .ref q_9), (5, .ref q_9), (4, .int (nI k5)), (0, .ref (a 0))]) hx hb dX2_digest_351 hl (k := 2) rfl (nI_1 k7) (by decide) rfl (fun ls hl => ?_)
                      refine lv_goto (tgt := 327) hx hb dX2_digest_354 (by decide) ?_
                      exact ih327 (k7 + 1) ((dv7 * 31) + ((((upd (upd (upd (upd (fun _ => 0) 0 (nw (72 + nI k5).toNatClampNeg)) 1 ((mLook pt pd cN rN nw tv5 wv5 (nI k5) 1).1)) 2 ((mFall pt pd cN rN nw (nI k5)).2.2.1)) 3 (mAsb pt pd cN rN nw (nI k5))) k7) : Int32).toInt64)) (by omega) (by rw [hf7]; rfl) _ _ hP hD hS ls (lv_sub hl [0, 3, 4, 5, 6, 1, 7] rfl)
                  exact L327 4 0 dv5 (by omega) (by rw [hf6, mDig3]; rfl) _ _ hP hD hS ls (lv_sub hl [0, 1, 2, 3, 4, 5, 6] rfl)
              exact L260 cN 0 dv2 kv1 wv1 tv1 (by omega) (by rw [hf2]; rfl) _ _ hP hD hS ls (lv_sub hl [0, 1, 2] rfl)
            | succ n2 ih153 =>
              intro k2 dv2 hkn153 hf2 H locs hP hD hS ls hl
              refine lv_iload hx hb dX2_digest_153 (lv_at hl 0 rfl) ?_
              refine lv_aload_n hx hb dX2_digest_155 rfl (lv_at hl 2 rfl) ?_
              refine va_get (D := D) (ci := 2) (v := .int (nI rN)) (C := RX2) (T := TX2) (N := 10) hx hb hts iw_X2_digest_X2 hown hK hP 0 rfl rfl 2 (by decide) (hts (.fieldLink RX2 13 "MarbleRampsModel" "rows" "I") (mg 4 rfl)) (fun _ h9 => h9) rfl dX2_digest_156 ?_
              refine lv_icmp_ge (tgt := 257) hx hb dX2_digest_159 (by decide) (fun c9 => absurd c9 (nI_ge (by omega) (by omega))) (fun c_15 => ?_)
              refine lv_lload_n hx hb dX2_digest_162 rfl (lv_at hl 1 rfl) ?_
              refine lv_ldc2 hx hb hown (hts (.constantLong RX2 134 (31)) (mg 7 rfl)) dX2_digest_163 ?_
              refine lv_lmul hx hb dX2_digest_166 ?_
              refine lv_aload_n hx hb dX2_digest_167 rfl (lv_at hl 2 rfl) ?_
              refine lv_iload hx hb dX2_digest_168 (lv_at hl 0 rfl) ?_
              refine kRVi (As := [.int (nI k2)]) (rest := [.long (dv2 * 31)]) ⟨hx, hb, hml, hown, hts⟩ (mX2_number l D cI a pt pd ab nw kv1 wv1 0 cN rN tv1 (nI k2) hc9 ⟨k2, by omega, rfl⟩) (cwV 1 hts gX2_digest_X2_number rfl rfl rfl (by decide +kernel) ⟨Nat.le_of_ble_eq_true rfl, Nat.le_of_ble_eq_true rfl⟩) hP hK hN [0, 1, 2, 3, 4, 5, 6] rfl [0] rfl rfl rfl rfl hl.1 rfl (Nat.le_of_ble_eq_true rfl) dX2_digest_170 ⟨Nat.le_of_ble_eq_true rfl, Nat.le_of_ble_eq_true rfl⟩ (fun r_16 hr_16 => ?_)
              subst r_16
              refine lv_i2l (v := (mNum pt nw cN (nI k2) : Int32).toInt64) hx hb dX2_digest_173 rfl ?_
              refine lv_ladd hx hb dX2_digest_174 ?_
              refine lv_lstore_n (lv' := [(2, .long ((dv2 * 31) + ((mNum pt nw cN (nI k2) : Int32).toInt64))), (4, .int (nI k2)), (0, .ref (a 0))]) hx hb dX2_digest_175 rfl hl (by decide) rfl (fun ls hl => ?_)
              refine lv_iconst (v := 0) hx hb dX2_digest_176 (by decide) ?_
              refine lv_istore (lv' := [(5, .int 0), (2, .long ((dv2 * 31) + ((mNum pt nw cN (nI k2) : Int32).toInt64))), (4, .int (nI k2)), (0, .ref (a 0))]) hx hb dX2_digest_177 hl (by decide) rfl (fun ls hl => ?_)
              have L179 : ∀ (n4 k4 : Nat) (dv4 : Int64), k4 + n4 = cN → mDig pt pd ab cN rN nw = mDig2 pt pd cN rN nw n2 (k2 + 1) (mDig4 pt nw k2 n4 k4 dv4) → ∀ (H : Heap) (locs : List Loc), va_P D vwCl (wN cI a pt pd ab nw kv1 wv1 0 (nI cN) (nI rN) tv1) H → va_D (va_A (wN cI a pt pd ab nw kp wy th (nI cN) (nI rN) tn) sz) (wN cI a pt pd ab nw kv1 wv1 0 (nI cN) (nI rN) tv1) → va_S (va_A (wN cI a pt pd ab nw kp wy th (nI cN) (nI rN) tn) sz) s.heap H locs → ∀ ls : Array Slot, lv_has ls 10 [(5, .int (nI k4)), (2, .long dv4), (4, .int (nI k2)), (0, .ref (a 0))] → W p l e ({ frames := 6, cells := 10, slots := 41, locals := 136 } : Room) s m [.ref (a 0)].toArray below meth c H locs 1 5 (MQ below (va_Ql (fun (zz : Int64) (u : MJ) => zz = mDig pt pd ab cN rN nw) (wB D [(cI, .int)] (va_A (wN cI a pt pd ab nw kp wy th (nI cN) (nI rN) tn) sz) (fun u : MJ => (wN cI a pt pd ab nw u.1 u.2.1 0 (nI cN) (nI rN) u.2.2))) (va_A (wN cI a pt pd ab nw kp wy th (nI cN) (nI rN) tn) sz)) [.ref (a 0)].toArray s 10 41 (va_A (wN cI a pt pd ab nw kp wy th (nI cN) (nI rN) tn) sz)) (F0 m 179 ls []) := by
                intro n4
                induction n4 with
                | zero =>
                  intro k4 dv4 hkn179 hf4 H locs hP hD hS ls hl
                  refine lv_iload hx hb dX2_digest_179 (lv_at hl 0 rfl) ?_
                  refine lv_aload_n hx hb dX2_digest_181 rfl (lv_at hl 3 rfl) ?_
                  refine va_get (D := D) (ci := 2) (v := .int (nI cN)) (C := RX2) (T := TX2) (N := 10) hx hb hts iw_X2_digest_X2 hown hK hP 0 rfl rfl 1 (by decide) (hts (.fieldLink RX2 9 "MarbleRampsModel" "columns" "I") (mg 3 rfl)) (fun _ h9 => h9) rfl dX2_digest_182 ?_
                  refine lv_icmp_ge (tgt := 251) hx hb dX2_digest_185 (by decide) (fun c_17 => ?_) (fun c9 => absurd (nI_le (by omega) (by omega)) c9)
                  refine lv_iinc (v := (nI (k2 + 1))) (lv' := [(4, .int (nI (k2 + 1))), (5, .int (nI k4)), (2, .long dv4), (0, .ref (a 0))]) hx hb dX2_digest_251 hl (k := 2) rfl (nI_1 k2) (by decide) rfl (fun ls hl => ?_)
                  refine lv_goto (tgt := 153) hx hb dX2_digest_254 (by decide) ?_
                  exact ih153 (k2 + 1) dv4 (by omega) (by rw [hf4]; rfl) _ _ hP hD hS ls (lv_sub hl [0, 2, 3] rfl)
                | succ n4 ih179 =>
                  intro k4 dv4 hkn179 hf4 H locs hP hD hS ls hl
                  refine lv_iload hx hb dX2_digest_179 (lv_at hl 0 rfl) ?_
                  refine lv_aload_n hx hb dX2_digest_181 rfl (lv_at hl 3 rfl) ?_
                  refine va_get (D := D) (ci := 2) (v := .int (nI cN)) (C := RX2) (T := TX2) (N := 10) hx hb hts iw_X2_digest_X2 hown hK hP 0 rfl rfl 1 (by decide) (hts (.fieldLink RX2 9 "MarbleRampsModel" "columns" "I") (mg 3 rfl)) (fun _ h9 => h9) rfl dX2_digest_182 ?_
                  refine lv_icmp_ge (tgt := 251) hx hb dX2_digest_185 (by decide) (fun c9 => absurd c9 (nI_ge (by omega) (by omega))) (fun c_18 => ?_)
                  refine lv_lload_n hx hb dX2_digest_188 rfl (lv_at hl 1 rfl) ?_
                  refine lv_ldc2 hx hb hown (hts (.constantLong RX2 134 (31)) (mg 7 rfl)) dX2_digest_189 ?_
                  refine lv_lmul hx hb dX2_digest_192 ?_
                  refine lv_aload_n hx hb dX2_digest_193 rfl (lv_at hl 3 rfl) ?_
                  refine va_get (D := D) (ci := 2) (v := .ref (a 1)) (C := RX2) (T := TX2) (N := 10) hx hb hts iw_X2_digest_X2 hown hK hP 0 rfl rfl 3 (by decide) (hts (.fieldLink RX2 16 "MarbleRampsModel" "part" "[I") (mg 9 rfl)) (fun _ h9 => h9) rfl dX2_digest_194 ?_
                  refine lv_bipush (v := 9) hx hb dX2_digest_197 (by decide) ?_
                  refine lv_iload hx hb dX2_digest_199 (lv_at hl 2 rfl) ?_
                  refine lv_imul hx hb dX2_digest_201 ?_
                  refine lv_iload hx hb dX2_digest_202 (lv_at hl 0 rfl) ?_
                  refine lv_iadd hx hb dX2_digest_204 ?_
                  refine va_iald hx hb hK hP 1 0 rfl rfl (in72 (mat (show k2 < 8 by omega) hc9 ⟨k4, by omega, rfl⟩)) dX2_digest_205 ?_
                  refine lv_i2l (v := ((pt ((9 * nI k2) + nI k4).toNatClampNeg) : Int32).toInt64) hx hb dX2_digest_206 rfl ?_
                  refine lv_ladd hx hb dX2_digest_207 ?_
                  refine lv_ldc2 hx hb hown (hts (.constantLong RX2 134 (31)) (mg 7 rfl)) dX2_digest_208 ?_
                  refine lv_lmul hx hb dX2_digest_211 ?_
                  refine lv_aload_n hx hb dX2_digest_212 rfl (lv_at hl 3 rfl) ?_
                  refine lv_iload hx hb dX2_digest_213 (lv_at hl 2 rfl) ?_
                  refine lv_iload hx hb dX2_digest_215 (lv_at hl 0 rfl) ?_
                  refine kRVi (As := [.int (nI k2), .int (nI k4)]) (rest := [.long (((dv4 * 31) + (((pt ((9 * nI k2) + nI k4).toNatClampNeg) : Int32).toInt64)) * 31)]) ⟨hx, hb, hml, hown, hts⟩ (mX2_isRight l D cI a pt pd ab nw kv1 wv1 0 cN rN tv1 (nI k2) (nI k4) (mat (show k2 < 8 by omega) hc9 ⟨k4, by omega, rfl⟩)) (cwV 2 hts gX2_digest_X2_isRight rfl rfl rfl (by decide +kernel) ⟨Nat.le_of_ble_eq_true rfl, Nat.le_of_ble_eq_true rfl⟩) hP hK hN [0, 1, 2, 3, 4, 5, 6] rfl [0] rfl rfl rfl rfl hl.1 rfl (Nat.le_of_ble_eq_true rfl) dX2_digest_217 ⟨Nat.le_of_ble_eq_true rfl, Nat.le_of_ble_eq_true rfl⟩ (fun r_19 hr_19 => ?_)
                  subst r_19
                  refine lv_if_eq (tgt := 227) hx hb dX2_digest_220 (by decide) (fun c_20 => ?_) (fun c_20 => ?_)
                  · simp only [ne_eq, bi_e0, Bool.not_eq_false] at c_20
                    refine lv_iconst (v := 0) hx hb dX2_digest_227 (by decide) ?_
                    refine lv_i2l (v := (0 : Int32).toInt64) hx hb dX2_digest_228 rfl ?_
                    refine lv_ladd hx hb dX2_digest_229 ?_
                    refine lv_ldc2 hx hb hown (hts (.constantLong RX2 134 (31)) (mg 7 rfl)) dX2_digest_230 ?_
                    refine lv_lmul hx hb dX2_digest_233 ?_
                    refine lv_aload_n hx hb dX2_digest_234 rfl (lv_at hl 3 rfl) ?_
                    refine lv_iload hx hb dX2_digest_235 (lv_at hl 2 rfl) ?_
                    refine lv_iload hx hb dX2_digest_237 (lv_at hl 0 rfl) ?_
                    refine kRVi (As := [.int (nI k2), .int (nI k4)]) (rest := [.long (((((dv4 * 31) + (((pt ((9 * nI k2) + nI k4).toNatClampNeg) : Int32).toInt64)) * 31) + ((0 : Int32).toInt64)) * 31)]) ⟨hx, hb, hml, hown, hts⟩ (mX2_counted l D cI a pt pd ab nw kv1 wv1 0 cN rN tv1 (nI k2) (nI k4) (mat (show k2 < 8 by omega) hc9 ⟨k4, by omega, rfl⟩)) (cwV 2 hts gX2_digest_X2_counted rfl rfl rfl (by decide +kernel) ⟨Nat.le_of_ble_eq_true rfl, Nat.le_of_ble_eq_true rfl⟩) hP hK hN [0, 1, 2, 3, 4, 5, 6] rfl [0] rfl rfl rfl rfl hl.1 rfl (Nat.le_of_ble_eq_true rfl) dX2_digest_239 ⟨Nat.le_of_ble_eq_true rfl, Nat.le_of_ble_eq_true rfl⟩ (fun r_21 hr_21 => ?_)
                    subst r_21
                    refine lv_i2l (v := (mCnt pt nw (9 * (nI k2) + (nI k4)) : Int32).toInt64) hx hb dX2_digest_242 rfl ?_
                    refine lv_ladd hx hb dX2_digest_243 ?_
                    refine lv_lstore_n (lv' := [(2, .long ((((((dv4 * 31) + (((pt ((9 * nI k2) + nI k4).toNatClampNeg) : Int32).toInt64)) * 31) + ((0 : Int32).toInt64)) * 31) + ((mCnt pt nw (9 * (nI k2) + (nI k4)) : Int32).toInt64))), (5, .int (nI k4)), (4, .int (nI k2)), (0, .ref (a 0))]) hx hb dX2_digest_244 rfl hl (by decide) rfl (fun ls hl => ?_)
                    refine lv_iinc (v := (nI (k4 + 1))) (lv' := [(5, .int (nI (k4 + 1))), (2, .long ((((((dv4 * 31) + (((pt ((9 * nI k2) + nI k4).toNatClampNeg) : Int32).toInt64)) * 31) + ((0 : Int32).toInt64)) * 31) + ((mCnt pt nw (9 * (nI k2) + (nI k4)) : Int32).toInt64))), (4, .int (nI k2)), (0, .ref (a 0))]) hx hb dX2_digest_245 hl (k := 1) rfl (nI_1 k4) (by decide) rfl (fun ls hl => ?_)
                    refine lv_goto (tgt := 179) hx hb dX2_digest_248 (by decide) ?_
                    exact ih179 (k4 + 1) ((((((dv4 * 31) + (((pt ((9 * nI k2) + nI k4).toNatClampNeg) : Int32).toInt64)) * 31) + ((0 : Int32).toInt64)) * 31) + ((mCnt pt nw (9 * (nI k2) + (nI k4)) : Int32).toInt64)) (by omega) (by rw [hf4, mDig4]; first | rw [if_neg (by rw [c_20]; decide)] | rw [if_pos c_20]) _ _ hP hD hS ls (lv_sub hl [0, 1, 2, 3] rfl)
                  · simp only [ne_eq, bi_e0, Bool.not_eq_false] at c_20
                    refine lv_iconst (v := 1) hx hb dX2_digest_223 (by decide) ?_
                    refine lv_goto (tgt := 228) hx hb dX2_digest_224 (by decide) ?_
                    refine lv_i2l (v := (1 : Int32).toInt64) hx hb dX2_digest_228 rfl ?_
                    refine lv_ladd hx hb dX2_digest_229 ?_
                    refine lv_ldc2 hx hb hown (hts (.constantLong RX2 134 (31)) (mg 7 rfl)) dX2_digest_230 ?_
                    refine lv_lmul hx hb dX2_digest_233 ?_
                    refine lv_aload_n hx hb dX2_digest_234 rfl (lv_at hl 3 rfl) ?_
                    refine lv_iload hx hb dX2_digest_235 (lv_at hl 2 rfl) ?_
                    refine lv_iload hx hb dX2_digest_237 (lv_at hl 0 rfl) ?_
                    refine kRVi (As := [.int (nI k2), .int (nI k4)]) (rest := [.long (((((dv4 * 31) + (((pt ((9 * nI k2) + nI k4).toNatClampNeg) : Int32).toInt64)) * 31) + ((1 : Int32).toInt64)) * 31)]) ⟨hx, hb, hml, hown, hts⟩ (mX2_counted l D cI a pt pd ab nw kv1 wv1 0 cN rN tv1 (nI k2) (nI k4) (mat (show k2 < 8 by omega) hc9 ⟨k4, by omega, rfl⟩)) (cwV 2 hts gX2_digest_X2_counted rfl rfl rfl (by decide +kernel) ⟨Nat.le_of_ble_eq_true rfl, Nat.le_of_ble_eq_true rfl⟩) hP hK hN [0, 1, 2, 3, 4, 5, 6] rfl [0] rfl rfl rfl rfl hl.1 rfl (Nat.le_of_ble_eq_true rfl) dX2_digest_239 ⟨Nat.le_of_ble_eq_true rfl, Nat.le_of_ble_eq_true rfl⟩ (fun r_22 hr_22 => ?_)
                    subst r_22
                    refine lv_i2l (v := (mCnt pt nw (9 * (nI k2) + (nI k4)) : Int32).toInt64) hx hb dX2_digest_242 rfl ?_
                    refine lv_ladd hx hb dX2_digest_243 ?_
                    refine lv_lstore_n (lv' := [(2, .long ((((((dv4 * 31) + (((pt ((9 * nI k2) + nI k4).toNatClampNeg) : Int32).toInt64)) * 31) + ((1 : Int32).toInt64)) * 31) + ((mCnt pt nw (9 * (nI k2) + (nI k4)) : Int32).toInt64))), (5, .int (nI k4)), (4, .int (nI k2)), (0, .ref (a 0))]) hx hb dX2_digest_244 rfl hl (by decide) rfl (fun ls hl => ?_)
                    refine lv_iinc (v := (nI (k4 + 1))) (lv' := [(5, .int (nI (k4 + 1))), (2, .long ((((((dv4 * 31) + (((pt ((9 * nI k2) + nI k4).toNatClampNeg) : Int32).toInt64)) * 31) + ((1 : Int32).toInt64)) * 31) + ((mCnt pt nw (9 * (nI k2) + (nI k4)) : Int32).toInt64))), (4, .int (nI k2)), (0, .ref (a 0))]) hx hb dX2_digest_245 hl (k := 1) rfl (nI_1 k4) (by decide) rfl (fun ls hl => ?_)
                    refine lv_goto (tgt := 179) hx hb dX2_digest_248 (by decide) ?_
                    exact ih179 (k4 + 1) ((((((dv4 * 31) + (((pt ((9 * nI k2) + nI k4).toNatClampNeg) : Int32).toInt64)) * 31) + ((1 : Int32).toInt64)) * 31) + ((mCnt pt nw (9 * (nI k2) + (nI k4)) : Int32).toInt64)) (by omega) (by rw [hf4, mDig4]; first | rw [if_neg (by rw [c_20]; decide)] | rw [if_pos c_20]) _ _ hP hD hS ls (lv_sub hl [0, 1, 2, 3] rfl)
              exact L179 cN 0 ((dv2 * 31) + ((mNum pt nw cN (nI k2) : Int32).toInt64)) (by omega) (by rw [hf2]; rfl) _ _ hP hD hS ls (lv_sub hl [0, 1, 2, 3] rfl)
          exact L153 rN 0 dv1 (by omega) (by rw [hf1]; rfl) _ _ hP hD hS ls (lv_sub hl [0, 1, 2] rfl)
        | succ n1 ih95 =>
          intro k1 dv1 kv1 wv1 tv1 hkn95 hf1 H locs hP hD hS ls hl
          refine lv_iload hx hb dX2_digest_95 (lv_at hl 0 rfl) ?_
          refine lv_iconst (v := 2) hx hb dX2_digest_97 (by decide) ?_
          refine lv_icmp_ge (tgt := 150) hx hb dX2_digest_98 (by decide) (fun c9 => absurd c9 (by rw [show (2 : Int32) = nI 2 from rfl]; exact nI_ge (by omega) (by decide))) (fun c_23 => ?_)
          refine lv_lload_n hx hb dX2_digest_101 rfl (lv_at hl 1 rfl) ?_
          refine lv_ldc2 hx hb hown (hts (.constantLong RX2 134 (31)) (mg 7 rfl)) dX2_digest_102 ?_
          refine lv_lmul hx hb dX2_digest_105 ?_
          refine lv_aload_n hx hb dX2_digest_106 rfl (lv_at hl 2 rfl) ?_
          refine va_get (D := D) (ci := 2) (v := .ref (a 4)) (C := RX2) (T := TX2) (N := 10) hx hb hts iw_X2_digest_X2 hown hK hP 0 rfl rfl 6 (by decide) (hts (.fieldLink RX2 26 "MarbleRampsModel" "now" "[I") (mg 5 rfl)) (fun _ h9 => h9) rfl dX2_digest_107 ?_
          refine lv_bipush (v := 81) hx hb dX2_digest_110 (by decide) ?_
          refine lv_iload hx hb dX2_digest_112 (lv_at hl 0 rfl) ?_
          refine lv_iadd hx hb dX2_digest_114 ?_
          refine va_iald hx hb hK hP 4 0 rfl rfl (by rw [show (81 : Int32) = nI 81 from rfl, nI_add]; exact vp_in_nI (by omega) (by decide)) dX2_digest_115 ?_
          refine lv_i2l (v := ((nw (81 + nI k1).toNatClampNeg) : Int32).toInt64) hx hb dX2_digest_116 rfl ?_
          refine lv_ladd hx hb dX2_digest_117 ?_
          refine lv_ldc2 hx hb hown (hts (.constantLong RX2 134 (31)) (mg 7 rfl)) dX2_digest_118 ?_
          refine lv_lmul hx hb dX2_digest_121 ?_
          refine lv_aload_n hx hb dX2_digest_122 rfl (lv_at hl 2 rfl) ?_
          refine va_get (D := D) (ci := 2) (v := .ref (a 3)) (C := RX2) (T := TX2) (N := 10) hx hb hts iw_X2_digest_X2 hown hK hP 0 rfl rfl 5 (by decide) (hts (.fieldLink RX2 23 "MarbleRampsModel" "above" "[I") (mg 8 rfl)) (fun _ h9 => h9) rfl dX2_digest_123 ?_
          refine lv_iload hx hb dX2_digest_126 (lv_at hl 0 rfl) ?_
          refine va_iald hx hb hK hP 3 0 rfl rfl (vp_in_nI (by omega) (by decide)) dX2_digest_128 ?_
          rw [nI_clamp (show k1 < 2 ^ 31 by omega)]
          refine lv_i2l (v := ((ab k1) : Int32).toInt64) hx hb dX2_digest_129 rfl ?_
          refine lv_ladd hx hb dX2_digest_130 ?_
          refine lv_ldc2 hx hb hown (hts (.constantLong RX2 134 (31)) (mg 7 rfl)) dX2_digest_131 ?_
          refine lv_lmul hx hb dX2_digest_134 ?_
          refine lv_aload_n hx hb dX2_digest_135 rfl (lv_at hl 2 rfl) ?_
          refine lv_iload hx hb dX2_digest_136 (lv_at hl 0 rfl) ?_
          refine kQVi (As := [.int (nI k1)]) (rest := [.long (((((dv1 * 31) + (((nw (81 + nI k1).toNatClampNeg) : Int32).toInt64)) * 31) + (((ab k1) : Int32).toInt64)) * 31)]) (wr := []) (W2 := (fun _ => (wN cI a pt pd ab nw nw ((mRun pt pd ab cN rN nw tv1 wv1 (nI k1) 99).2.2.2) 0 (nI cN) (nI rN) ((mRun pt pd ab cN rN nw tv1 wv1 (nI k1) 99).2.2.1)))) ⟨hx, hb, hml, hown, hts⟩ (mX2_runs l D cI a pt pd ab nw kv1 wv1 0 cN rN tv1 (nI k1) hI (Or.inr (hop_n (by omega))) _) (cwV 1 hts gX2_digest_X2_runs rfl rfl rfl (by decide +kernel) ⟨Nat.le_of_ble_eq_true rfl, Nat.le_of_ble_eq_true rfl⟩) hP hD hK hN hS hA [0, 1, 2, 3, 4, 5, 6] (by decide) rfl [] (by decide) rfl (by decide) [0, 1, 2, 3, 4, 5, 6] (by decide) (fun _ => rfl) [0] rfl rfl rfl rfl hl.1 rfl (Nat.le_of_ble_eq_true rfl) dX2_digest_138 ⟨Nat.le_of_ble_eq_true rfl, Nat.le_of_ble_eq_true rfl⟩ (fun r_24 u_24 H locs hr_24 hP hD hS => ?_)
          subst r_24
          have hP : va_P D vwCl (wN cI a pt pd ab nw nw ((mRun pt pd ab cN rN nw tv1 wv1 (nI k1) 99).2.2.2) 0 (nI cN) (nI rN) ((mRun pt pd ab cN rN nw tv1 wv1 (nI k1) 99).2.2.1)) H := hP
          have hD : va_D (va_A (wN cI a pt pd ab nw kp wy th (nI cN) (nI rN) tn) sz) (wN cI a pt pd ab nw nw ((mRun pt pd ab cN rN nw tv1 wv1 (nI k1) 99).2.2.2) 0 (nI cN) (nI rN) ((mRun pt pd ab cN rN nw tv1 wv1 (nI k1) 99).2.2.1)) := hD
          refine lv_i2l (v := (mRuns pt pd ab cN rN nw (nI k1) : Int32).toInt64) hx hb dX2_digest_141 rfl ?_
          refine lv_ladd hx hb dX2_digest_142 ?_
          refine lv_lstore_n (lv' := [(2, .long ((((((dv1 * 31) + (((nw (81 + nI k1).toNatClampNeg) : Int32).toInt64)) * 31) + (((ab k1) : Int32).toInt64)) * 31) + ((mRuns pt pd ab cN rN nw (nI k1) : Int32).toInt64))), (4, .int (nI k1)), (0, .ref (a 0))]) hx hb dX2_digest_143 rfl hl (by decide) rfl (fun ls hl => ?_)
          refine lv_iinc (v := (nI (k1 + 1))) (lv' := [(4, .int (nI (k1 + 1))), (2, .long ((((((dv1 * 31) + (((nw (81 + nI k1).toNatClampNeg) : Int32).toInt64)) * 31) + (((ab k1) : Int32).toInt64)) * 31) + ((mRuns pt pd ab cN rN nw (nI k1) : Int32).toInt64))), (0, .ref (a 0))]) hx hb dX2_digest_144 hl (k := 1) rfl (nI_1 k1) (by decide) rfl (fun ls hl => ?_)
          refine lv_goto (tgt := 95) hx hb dX2_digest_147 (by decide) ?_
          exact ih95 (k1 + 1) ((((((dv1 * 31) + (((nw (81 + nI k1).toNatClampNeg) : Int32).toInt64)) * 31) + (((ab k1) : Int32).toInt64)) * 31) + ((mRuns pt pd ab cN rN nw (nI k1) : Int32).toInt64)) nw ((mRun pt pd ab cN rN nw tv1 wv1 (nI k1) 99).2.2.2) ((mRun pt pd ab cN rN nw tv1 wv1 (nI k1) 99).2.2.1) (by omega) (by rw [hf1]; rfl) _ _ hP hD hS ls (lv_sub hl [0, 1, 2] rfl)
      exact L95 2 0 dv u_3.1 u_3.2.1 u_3.2.2 (by omega) (by rw [hf]; rfl) _ _ hP hD hS ls (lv_sub hl [0, 3, 5] rfl)
    | succ n ih62 =>
      intro k dv hkn62 hf H locs hP hD hS ls hl
      refine lv_iload hx hb dX2_digest_62 (lv_at hl 0 rfl) ?_
      refine lv_iload hx hb dX2_digest_64 (lv_at hl 1 rfl) ?_
      refine lv_icmp_ge (tgt := 92) hx hb dX2_digest_66 (by decide) (fun c9 => absurd c9 (by rw [show (5 : Int32) = nI 5 from rfl]; exact nI_ge (by omega) (by decide))) (fun c_25 => ?_)
      refine lv_aload hx hb dX2_digest_69 (lv_at hl 2 rfl) ?_
      refine lv_iload hx hb dX2_digest_71 (lv_at hl 0 rfl) ?_
      refine va_iald hx hb hK hP 7 0 rfl rfl (vp_in_nI (by omega) (by decide)) dX2_digest_73 ?_
      rw [nI_clamp (show k < 2 ^ 31 by omega)]
      refine lv_istore (lv' := [(7, .int ((upd (upd (upd (upd (upd (fun _ => 0) 0 (nI cN)) 1 (nI rN)) 2 (nw 83)) 3 (mTog pt)) 4 (mBest pt pd cN rN nw)) k)), (6, .int (nI k)), (5, .int 5), (4, .ref q_1), (2, .long dv), (1, .ref q_1), (0, .ref (a 0))]) hx hb dX2_digest_74 hl (by decide) rfl (fun ls hl => ?_)
      refine lv_lload_n hx hb dX2_digest_76 rfl (lv_at hl 4 rfl) ?_
      refine lv_ldc2 hx hb hown (hts (.constantLong RX2 134 (31)) (mg 7 rfl)) dX2_digest_77 ?_
      refine lv_lmul hx hb dX2_digest_80 ?_
      refine lv_iload hx hb dX2_digest_81 (lv_at hl 0 rfl) ?_
      refine lv_i2l (v := (((upd (upd (upd (upd (upd (fun _ => 0) 0 (nI cN)) 1 (nI rN)) 2 (nw 83)) 3 (mTog pt)) 4 (mBest pt pd cN rN nw)) k) : Int32).toInt64) hx hb dX2_digest_83 rfl ?_
      refine lv_ladd hx hb dX2_digest_84 ?_
      refine lv_lstore_n (lv' := [(2, .long ((dv * 31) + ((((upd (upd (upd (upd (upd (fun _ => 0) 0 (nI cN)) 1 (nI rN)) 2 (nw 83)) 3 (mTog pt)) 4 (mBest pt pd cN rN nw)) k) : Int32).toInt64))), (7, .int ((upd (upd (upd (upd (upd (fun _ => 0) 0 (nI cN)) 1 (nI rN)) 2 (nw 83)) 3 (mTog pt)) 4 (mBest pt pd cN rN nw)) k)), (6, .int (nI k)), (5, .int 5), (4, .ref q_1), (1, .ref q_1), (0, .ref (a 0))]) hx hb dX2_digest_85 rfl hl (by decide) rfl (fun ls hl => ?_)
      refine lv_iinc (v := (nI (k + 1))) (lv' := [(6, .int (nI (k + 1))), (2, .long ((dv * 31) + ((((upd (upd (upd (upd (upd (fun _ => 0) 0 (nI cN)) 1 (nI rN)) 2 (nw 83)) 3 (mTog pt)) 4 (mBest pt pd cN rN nw)) k) : Int32).toInt64))), (7, .int ((upd (upd (upd (upd (upd (fun _ => 0) 0 (nI cN)) 1 (nI rN)) 2 (nw 83)) 3 (mTog pt)) 4 (mBest pt pd cN rN nw)) k)), (5, .int 5), (4, .ref q_1), (1, .ref q_1), (0, .ref (a 0))]) hx hb dX2_digest_86 hl (k := 2) rfl (nI_1 k) (by decide) rfl (fun ls hl => ?_)
      refine lv_goto (tgt := 62) hx hb dX2_digest_89 (by decide) ?_
      exact ih62 (k + 1) ((dv * 31) + ((((upd (upd (upd (upd (upd (fun _ => 0) 0 (nI cN)) 1 (nI rN)) 2 (nw 83)) 3 (mTog pt)) 4 (mBest pt pd cN rN nw)) k) : Int32).toInt64)) (by omega) (by rw [hf]; rfl) _ _ hP hD hS ls (lv_sub hl [0, 3, 4, 1, 5, 6] rfl)
  exact L62 5 0 2239 (by omega) rfl _ _ hP hD hS ls (lv_sub hl [0, 1, 2, 3, 4, 5] rfl)
theorem iw_X2_init_X2 : ∀ w ∈ wsX20, w ∈ wsX2_init := mem_pos [13, 14, 15, 16, 17, 18, 19, 20, 21, 22] (by decide +kernel)
set_option maxHeartbeats 4000000 in
set_option maxRecDepth 100000 in
theorem mX2_init (l : Launch) (D : va_G) (cI : ClassId) (h : Nat) (sz : Nat) : Met l yX2_init wsX2_init ({ frames := 1, cells := 6, slots := 322, locals := 12 } : Room) (va_Pc [.ref h] (wPQ D [(cI, .int)] sz ([(h, .inr (2, [.int 0, .int 0, .int 0, .null, .null, .null, .null, .null, .int 0, .null]))]))) (va_Qv (fun u : (Nat → Nat) => u 0 = h) (wB D [(cI, .int)] (va_A ([(h, .inr (2, [.int 0, .int 0, .int 0, .null, .null, .null, .null, .null, .int 0, .null]))]) sz) (fun u : (Nat → Nat) => (wN cI u ((fun _ => 0)) ((fun _ => 0)) ((upd (upd (fun _ => 0) 0 0) 1 4)) ((fun _ => 0)) ((fun _ => 0)) ((fun _ => 0)) 0 5 4 0))) (va_A ([(h, .inr (2, [.int 0, .int 0, .int 0, .null, .null, .null, .null, .null, .int 0, .null]))]) sz)) 6 322 (va_A ([(h, .inr (2, [.int 0, .int 0, .int 0, .null, .null, .null, .null, .null, .int 0, .null]))]) sz) := by
  refine mQ_of (by decide) rfl (Nat.le_of_ble_eq_true rfl) ?_
  intro p e s m below meth c hx hb hr hml hown hin hts hlocks hsz hP hK hN hD hA hS ls hl
  have hown : s.vm.findClass RX2 = some m.cls := hown
  have hl : lv_has ls 1 [(0, .ref h)] := hl
  have hP : va_P D vwCl ([(h, .inr (2, [.int 0, .int 0, .int 0, .null, .null, .null, .null, .null, .int 0, .null]))]) s.heap := hP
  refine lv_aload_n hx hb dX2_init_0 rfl (lv_at hl 0 rfl) ?_
  refine W.objInit hx hb hown (hts (.methodLink RX2 3 objectInit) (mg 1 rfl)) (hts (.instanceMethod objectInit) (mg 2 rfl)) (hts (.code objectInit ⟨#[0xb1]⟩ 1 none) (mg 3 rfl)) rfl (by rw [hml]; exact hl.1) rfl dX2_init_1 (Nat.le_of_ble_eq_true rfl) (Nat.le_of_ble_eq_true rfl) ?_
  refine W.eq (g2 := F0 m 4 ls []) rfl ?_
  refine lv_aload_n hx hb dX2_init_4 rfl (lv_at hl 0 rfl) ?_
  refine lv_iconst (v := 5) hx hb dX2_init_5 (by decide) ?_
  refine va_put (D := D) (ci := 2) (v := .int 5) (ty := .int) (C := RX2) (T := TX2) (N := 10) hx hb hts iw_X2_init_X2 tyX2 tyX2_ok nmX2 hown hK hP hD hS 0 rfl rfl 1 (by decide) (hts (.fieldLink RX2 9 "MarbleRampsModel" "columns" "I") (mg 4 rfl)) (fun _ h9 => h9) rfl (by decide +kernel) rfl rfl (Nat.le_of_ble_eq_true rfl) dX2_init_6 (fun H locs hP hD hS => ?_)
  have hP : va_P D vwCl ([(h, .inr (2, [.int 0, .int 5, .int 0, .null, .null, .null, .null, .null, .int 0, .null]))]) H := hP
  have hD : va_D (va_A ([(h, .inr (2, [.int 0, .int 0, .int 0, .null, .null, .null, .null, .null, .int 0, .null]))]) sz) ([(h, .inr (2, [.int 0, .int 5, .int 0, .null, .null, .null, .null, .null, .int 0, .null]))]) := hD
  refine lv_aload_n hx hb dX2_init_9 rfl (lv_at hl 0 rfl) ?_
  refine lv_iconst (v := 4) hx hb dX2_init_10 (by decide) ?_
  refine va_put (D := D) (ci := 2) (v := .int 4) (ty := .int) (C := RX2) (T := TX2) (N := 10) hx hb hts iw_X2_init_X2 tyX2 tyX2_ok nmX2 hown hK hP hD hS 0 rfl rfl 2 (by decide) (hts (.fieldLink RX2 13 "MarbleRampsModel" "rows" "I") (mg 5 rfl)) (fun _ h9 => h9) rfl (by decide +kernel) rfl rfl (Nat.le_of_ble_eq_true rfl) dX2_init_11 (fun H locs hP hD hS => ?_)
  have hP : va_P D vwCl ([(h, .inr (2, [.int 0, .int 5, .int 4, .null, .null, .null, .null, .null, .int 0, .null]))]) H := hP
  have hD : va_D (va_A ([(h, .inr (2, [.int 0, .int 0, .int 0, .null, .null, .null, .null, .null, .int 0, .null]))]) sz) ([(h, .inr (2, [.int 0, .int 5, .int 4, .null, .null, .null, .null, .null, .int 0, .null]))]) := hD
  refine lv_aload_n hx hb dX2_init_14 rfl (lv_at hl 0 rfl) ?_
  refine lv_bipush (v := 72) hx hb dX2_init_15 (by decide) ?_
  refine newI hx hb (hts (.arrayClass .int) (mg 6 rfl)) hK hP hD hS hA 0 rfl (by decide) (N' := 72) (by decide) (by decide) (Nat.le_of_ble_eq_true rfl) (Nat.le_of_ble_eq_true rfl) dX2_init_17 (fun q_1 H hP hD hS => ?_)
  have hP : va_P D vwCl ([(h, .inr (2, [.int 0, .int 5, .int 4, .null, .null, .null, .null, .null, .int 0, .null]))] ++ wA cI q_1 72 ((fun _ => 0))) H := hP
  have hD : va_D (va_A ([(h, .inr (2, [.int 0, .int 0, .int 0, .null, .null, .null, .null, .null, .int 0, .null]))]) sz) ([(h, .inr (2, [.int 0, .int 5, .int 4, .null, .null, .null, .null, .null, .int 0, .null]))] ++ wA cI q_1 72 ((fun _ => 0))) := hD
  refine va_putF (D := D) (ci := 2) (v := .ref q_1) (ty := (.array .int)) (C := RX2) (T := TX2) (N := 10) hx hb hts iw_X2_init_X2 tyX2 tyX2_ok nmX2 hown hK hP hD hS 0 rfl rfl 3 (by decide) (hts (.fieldLink RX2 16 "MarbleRampsModel" "part" "[I") (mg 7 rfl)) (fun _ h9 => h9) rfl hin rfl (by decide +kernel) rfl rfl (Nat.le_of_ble_eq_true rfl) dX2_init_19 (fun H locs hP hD hS => ?_)
  have hP : va_P D vwCl ([(h, .inr (2, [.int 0, .int 5, .int 4, .ref q_1, .null, .null, .null, .null, .int 0, .null]))] ++ wA cI q_1 72 ((fun _ => 0))) H := hP
  have hD : va_D (va_A ([(h, .inr (2, [.int 0, .int 0, .int 0, .null, .null, .null, .null, .null, .int 0, .null]))]) sz) ([(h, .inr (2, [.int 0, .int 5, .int 4, .ref q_1, .null, .null, .null, .null, .int 0, .null]))] ++ wA cI q_1 72 ((fun _ => 0))) := hD
  refine lv_aload_n hx hb dX2_init_22 rfl (lv_at hl 0 rfl) ?_
  refine lv_bipush (v := 72) hx hb dX2_init_23 (by decide) ?_
  refine newI hx hb (hts (.arrayClass .int) (mg 6 rfl)) hK hP hD hS hA 0 rfl (by decide) (N' := 72) (by decide) (by decide) (Nat.le_of_ble_eq_true rfl) (Nat.le_of_ble_eq_true rfl) dX2_init_25 (fun q_2 H hP hD hS => ?_)
  have hP : va_P D vwCl ([(h, .inr (2, [.int 0, .int 5, .int 4, .ref q_1, .null, .null, .null, .null, .int 0, .null]))] ++ wA cI q_1 72 ((fun _ => 0)) ++ wA cI q_2 72 ((fun _ => 0))) H := hP
  have hD : va_D (va_A ([(h, .inr (2, [.int 0, .int 0, .int 0, .null, .null, .null, .null, .null, .int 0, .null]))]) sz) ([(h, .inr (2, [.int 0, .int 5, .int 4, .ref q_1, .null, .null, .null, .null, .int 0, .null]))] ++ wA cI q_1 72 ((fun _ => 0)) ++ wA cI q_2 72 ((fun _ => 0))) := hD
  refine va_putF (D := D) (ci := 2) (v := .ref q_2) (ty := (.array .int)) (C := RX2) (T := TX2) (N := 10) hx hb hts iw_X2_init_X2 tyX2 tyX2_ok nmX2 hown hK hP hD hS 0 rfl rfl 4 (by decide) (hts (.fieldLink RX2 20 "MarbleRampsModel" "period" "[I") (mg 8 rfl)) (fun _ h9 => h9) rfl hin rfl (by decide +kernel) rfl rfl (Nat.le_of_ble_eq_true rfl) dX2_init_27 (fun H locs hP hD hS => ?_)
  have hP : va_P D vwCl ([(h, .inr (2, [.int 0, .int 5, .int 4, .ref q_1, .ref q_2, .null, .null, .null, .int 0, .null]))] ++ wA cI q_1 72 ((fun _ => 0)) ++ wA cI q_2 72 ((fun _ => 0))) H := hP
  have hD : va_D (va_A ([(h, .inr (2, [.int 0, .int 0, .int 0, .null, .null, .null, .null, .null, .int 0, .null]))]) sz) ([(h, .inr (2, [.int 0, .int 5, .int 4, .ref q_1, .ref q_2, .null, .null, .null, .int 0, .null]))] ++ wA cI q_1 72 ((fun _ => 0)) ++ wA cI q_2 72 ((fun _ => 0))) := hD
  refine lv_aload_n hx hb dX2_init_30 rfl (lv_at hl 0 rfl) ?_
  refine lv_iconst (v := 2) hx hb dX2_init_31 (by decide) ?_
  refine newI hx hb (hts (.arrayClass .int) (mg 6 rfl)) hK hP hD hS hA 0 rfl (by decide) (N' := 2) (by decide) (by decide) (Nat.le_of_ble_eq_true rfl) (Nat.le_of_ble_eq_true rfl) dX2_init_32 (fun q_3 H hP hD hS => ?_)
  have hP : va_P D vwCl ([(h, .inr (2, [.int 0, .int 5, .int 4, .ref q_1, .ref q_2, .null, .null, .null, .int 0, .null]))] ++ wA cI q_1 72 ((fun _ => 0)) ++ wA cI q_2 72 ((fun _ => 0)) ++ wA cI q_3 2 ((fun _ => 0))) H := hP
  have hD : va_D (va_A ([(h, .inr (2, [.int 0, .int 0, .int 0, .null, .null, .null, .null, .null, .int 0, .null]))]) sz) ([(h, .inr (2, [.int 0, .int 5, .int 4, .ref q_1, .ref q_2, .null, .null, .null, .int 0, .null]))] ++ wA cI q_1 72 ((fun _ => 0)) ++ wA cI q_2 72 ((fun _ => 0)) ++ wA cI q_3 2 ((fun _ => 0))) := hD
  refine lv_dup hx hb dX2_init_34 rfl ?_
  refine lv_iconst (v := 0) hx hb dX2_init_35 (by decide) ?_
  refine lv_iconst (v := 0) hx hb dX2_init_36 (by decide) ?_
  refine va_iast hx hb hK hP hD hS 3 0 rfl rfl (vp_in_nI (n := 0) (by decide) (by decide)) dX2_init_37 (fun H locs hP hD hS => ?_)
  rw [show (0 : Int32).toNatClampNeg = 0 from by decide] at hP hD
  have hP : va_P D vwCl ([(h, .inr (2, [.int 0, .int 5, .int 4, .ref q_1, .ref q_2, .null, .null, .null, .int 0, .null]))] ++ wA cI q_1 72 ((fun _ => 0)) ++ wA cI q_2 72 ((fun _ => 0)) ++ wA cI q_3 2 ((upd (fun _ => 0) 0 0))) H := hP
  have hD : va_D (va_A ([(h, .inr (2, [.int 0, .int 0, .int 0, .null, .null, .null, .null, .null, .int 0, .null]))]) sz) ([(h, .inr (2, [.int 0, .int 5, .int 4, .ref q_1, .ref q_2, .null, .null, .null, .int 0, .null]))] ++ wA cI q_1 72 ((fun _ => 0)) ++ wA cI q_2 72 ((fun _ => 0)) ++ wA cI q_3 2 ((upd (fun _ => 0) 0 0))) := hD
  refine lv_dup hx hb dX2_init_38 rfl ?_
  refine lv_iconst (v := 1) hx hb dX2_init_39 (by decide) ?_
  refine lv_iconst (v := 4) hx hb dX2_init_40 (by decide) ?_
  refine va_iast hx hb hK hP hD hS 3 0 rfl rfl (vp_in_nI (n := 1) (by decide) (by decide)) dX2_init_41 (fun H locs hP hD hS => ?_)
  rw [show (1 : Int32).toNatClampNeg = 1 from by decide] at hP hD
  have hP : va_P D vwCl ([(h, .inr (2, [.int 0, .int 5, .int 4, .ref q_1, .ref q_2, .null, .null, .null, .int 0, .null]))] ++ wA cI q_1 72 ((fun _ => 0)) ++ wA cI q_2 72 ((fun _ => 0)) ++ wA cI q_3 2 ((upd (upd (fun _ => 0) 0 0) 1 4))) H := hP
  have hD : va_D (va_A ([(h, .inr (2, [.int 0, .int 0, .int 0, .null, .null, .null, .null, .null, .int 0, .null]))]) sz) ([(h, .inr (2, [.int 0, .int 5, .int 4, .ref q_1, .ref q_2, .null, .null, .null, .int 0, .null]))] ++ wA cI q_1 72 ((fun _ => 0)) ++ wA cI q_2 72 ((fun _ => 0)) ++ wA cI q_3 2 ((upd (upd (fun _ => 0) 0 0) 1 4))) := hD
  refine va_putF (D := D) (ci := 2) (v := .ref q_3) (ty := (.array .int)) (C := RX2) (T := TX2) (N := 10) hx hb hts iw_X2_init_X2 tyX2 tyX2_ok nmX2 hown hK hP hD hS 0 rfl rfl 5 (by decide) (hts (.fieldLink RX2 23 "MarbleRampsModel" "above" "[I") (mg 9 rfl)) (fun _ h9 => h9) rfl hin rfl (by decide +kernel) rfl rfl (Nat.le_of_ble_eq_true rfl) dX2_init_42 (fun H locs hP hD hS => ?_)
  have hP : va_P D vwCl ([(h, .inr (2, [.int 0, .int 5, .int 4, .ref q_1, .ref q_2, .ref q_3, .null, .null, .int 0, .null]))] ++ wA cI q_1 72 ((fun _ => 0)) ++ wA cI q_2 72 ((fun _ => 0)) ++ wA cI q_3 2 ((upd (upd (fun _ => 0) 0 0) 1 4))) H := hP
  have hD : va_D (va_A ([(h, .inr (2, [.int 0, .int 0, .int 0, .null, .null, .null, .null, .null, .int 0, .null]))]) sz) ([(h, .inr (2, [.int 0, .int 5, .int 4, .ref q_1, .ref q_2, .ref q_3, .null, .null, .int 0, .null]))] ++ wA cI q_1 72 ((fun _ => 0)) ++ wA cI q_2 72 ((fun _ => 0)) ++ wA cI q_3 2 ((upd (upd (fun _ => 0) 0 0) 1 4))) := hD
  refine lv_aload_n hx hb dX2_init_45 rfl (lv_at hl 0 rfl) ?_
  refine lv_bipush (v := 84) hx hb dX2_init_46 (by decide) ?_
  refine newI hx hb (hts (.arrayClass .int) (mg 6 rfl)) hK hP hD hS hA 0 rfl (by decide) (N' := 84) (by decide) (by decide) (Nat.le_of_ble_eq_true rfl) (Nat.le_of_ble_eq_true rfl) dX2_init_48 (fun q_4 H hP hD hS => ?_)
  have hP : va_P D vwCl ([(h, .inr (2, [.int 0, .int 5, .int 4, .ref q_1, .ref q_2, .ref q_3, .null, .null, .int 0, .null]))] ++ wA cI q_1 72 ((fun _ => 0)) ++ wA cI q_2 72 ((fun _ => 0)) ++ wA cI q_3 2 ((upd (upd (fun _ => 0) 0 0) 1 4)) ++ wA cI q_4 84 ((fun _ => 0))) H := hP
  have hD : va_D (va_A ([(h, .inr (2, [.int 0, .int 0, .int 0, .null, .null, .null, .null, .null, .int 0, .null]))]) sz) ([(h, .inr (2, [.int 0, .int 5, .int 4, .ref q_1, .ref q_2, .ref q_3, .null, .null, .int 0, .null]))] ++ wA cI q_1 72 ((fun _ => 0)) ++ wA cI q_2 72 ((fun _ => 0)) ++ wA cI q_3 2 ((upd (upd (fun _ => 0) 0 0) 1 4)) ++ wA cI q_4 84 ((fun _ => 0))) := hD
  refine va_putF (D := D) (ci := 2) (v := .ref q_4) (ty := (.array .int)) (C := RX2) (T := TX2) (N := 10) hx hb hts iw_X2_init_X2 tyX2 tyX2_ok nmX2 hown hK hP hD hS 0 rfl rfl 6 (by decide) (hts (.fieldLink RX2 26 "MarbleRampsModel" "now" "[I") (mg 10 rfl)) (fun _ h9 => h9) rfl hin rfl (by decide +kernel) rfl rfl (Nat.le_of_ble_eq_true rfl) dX2_init_50 (fun H locs hP hD hS => ?_)
  have hP : va_P D vwCl ([(h, .inr (2, [.int 0, .int 5, .int 4, .ref q_1, .ref q_2, .ref q_3, .ref q_4, .null, .int 0, .null]))] ++ wA cI q_1 72 ((fun _ => 0)) ++ wA cI q_2 72 ((fun _ => 0)) ++ wA cI q_3 2 ((upd (upd (fun _ => 0) 0 0) 1 4)) ++ wA cI q_4 84 ((fun _ => 0))) H := hP
  have hD : va_D (va_A ([(h, .inr (2, [.int 0, .int 0, .int 0, .null, .null, .null, .null, .null, .int 0, .null]))]) sz) ([(h, .inr (2, [.int 0, .int 5, .int 4, .ref q_1, .ref q_2, .ref q_3, .ref q_4, .null, .int 0, .null]))] ++ wA cI q_1 72 ((fun _ => 0)) ++ wA cI q_2 72 ((fun _ => 0)) ++ wA cI q_3 2 ((upd (upd (fun _ => 0) 0 0) 1 4)) ++ wA cI q_4 84 ((fun _ => 0))) := hD
  refine lv_aload_n hx hb dX2_init_53 rfl (lv_at hl 0 rfl) ?_
  refine lv_bipush (v := 84) hx hb dX2_init_54 (by decide) ?_
  refine newI hx hb (hts (.arrayClass .int) (mg 6 rfl)) hK hP hD hS hA 0 rfl (by decide) (N' := 84) (by decide) (by decide) (Nat.le_of_ble_eq_true rfl) (Nat.le_of_ble_eq_true rfl) dX2_init_56 (fun q_5 H hP hD hS => ?_)
  have hP : va_P D vwCl ([(h, .inr (2, [.int 0, .int 5, .int 4, .ref q_1, .ref q_2, .ref q_3, .ref q_4, .null, .int 0, .null]))] ++ wA cI q_1 72 ((fun _ => 0)) ++ wA cI q_2 72 ((fun _ => 0)) ++ wA cI q_3 2 ((upd (upd (fun _ => 0) 0 0) 1 4)) ++ wA cI q_4 84 ((fun _ => 0)) ++ wA cI q_5 84 ((fun _ => 0))) H := hP
  have hD : va_D (va_A ([(h, .inr (2, [.int 0, .int 0, .int 0, .null, .null, .null, .null, .null, .int 0, .null]))]) sz) ([(h, .inr (2, [.int 0, .int 5, .int 4, .ref q_1, .ref q_2, .ref q_3, .ref q_4, .null, .int 0, .null]))] ++ wA cI q_1 72 ((fun _ => 0)) ++ wA cI q_2 72 ((fun _ => 0)) ++ wA cI q_3 2 ((upd (upd (fun _ => 0) 0 0) 1 4)) ++ wA cI q_4 84 ((fun _ => 0)) ++ wA cI q_5 84 ((fun _ => 0))) := hD
  refine va_putF (D := D) (ci := 2) (v := .ref q_5) (ty := (.array .int)) (C := RX2) (T := TX2) (N := 10) hx hb hts iw_X2_init_X2 tyX2 tyX2_ok nmX2 hown hK hP hD hS 0 rfl rfl 7 (by decide) (hts (.fieldLink RX2 29 "MarbleRampsModel" "kept" "[I") (mg 11 rfl)) (fun _ h9 => h9) rfl hin rfl (by decide +kernel) rfl rfl (Nat.le_of_ble_eq_true rfl) dX2_init_58 (fun H locs hP hD hS => ?_)
  have hP : va_P D vwCl ([(h, .inr (2, [.int 0, .int 5, .int 4, .ref q_1, .ref q_2, .ref q_3, .ref q_4, .ref q_5, .int 0, .null]))] ++ wA cI q_1 72 ((fun _ => 0)) ++ wA cI q_2 72 ((fun _ => 0)) ++ wA cI q_3 2 ((upd (upd (fun _ => 0) 0 0) 1 4)) ++ wA cI q_4 84 ((fun _ => 0)) ++ wA cI q_5 84 ((fun _ => 0))) H := hP
  have hD : va_D (va_A ([(h, .inr (2, [.int 0, .int 0, .int 0, .null, .null, .null, .null, .null, .int 0, .null]))]) sz) ([(h, .inr (2, [.int 0, .int 5, .int 4, .ref q_1, .ref q_2, .ref q_3, .ref q_4, .ref q_5, .int 0, .null]))] ++ wA cI q_1 72 ((fun _ => 0)) ++ wA cI q_2 72 ((fun _ => 0)) ++ wA cI q_3 2 ((upd (upd (fun _ => 0) 0 0) 1 4)) ++ wA cI q_4 84 ((fun _ => 0)) ++ wA cI q_5 84 ((fun _ => 0))) := hD
  refine lv_aload_n hx hb dX2_init_61 rfl (lv_at hl 0 rfl) ?_
  refine lv_bipush (v := 8) hx hb dX2_init_62 (by decide) ?_
  refine newI hx hb (hts (.arrayClass .int) (mg 6 rfl)) hK hP hD hS hA 0 rfl (by decide) (N' := 8) (by decide) (by decide) (Nat.le_of_ble_eq_true rfl) (Nat.le_of_ble_eq_true rfl) dX2_init_64 (fun q_6 H hP hD hS => ?_)
  have hP : va_P D vwCl ([(h, .inr (2, [.int 0, .int 5, .int 4, .ref q_1, .ref q_2, .ref q_3, .ref q_4, .ref q_5, .int 0, .null]))] ++ wA cI q_1 72 ((fun _ => 0)) ++ wA cI q_2 72 ((fun _ => 0)) ++ wA cI q_3 2 ((upd (upd (fun _ => 0) 0 0) 1 4)) ++ wA cI q_4 84 ((fun _ => 0)) ++ wA cI q_5 84 ((fun _ => 0)) ++ wA cI q_6 8 ((fun _ => 0))) H := hP
  have hD : va_D (va_A ([(h, .inr (2, [.int 0, .int 0, .int 0, .null, .null, .null, .null, .null, .int 0, .null]))]) sz) ([(h, .inr (2, [.int 0, .int 5, .int 4, .ref q_1, .ref q_2, .ref q_3, .ref q_4, .ref q_5, .int 0, .null]))] ++ wA cI q_1 72 ((fun _ => 0)) ++ wA cI q_2 72 ((fun _ => 0)) ++ wA cI q_3 2 ((upd (upd (fun _ => 0) 0 0) 1 4)) ++ wA cI q_4 84 ((fun _ => 0)) ++ wA cI q_5 84 ((fun _ => 0)) ++ wA cI q_6 8 ((fun _ => 0))) := hD
  refine va_putF (D := D) (ci := 2) (v := .ref q_6) (ty := (.array .int)) (C := RX2) (T := TX2) (N := 10) hx hb hts iw_X2_init_X2 tyX2 tyX2_ok nmX2 hown hK hP hD hS 0 rfl rfl 9 (by decide) (hts (.fieldLink RX2 32 "MarbleRampsModel" "way" "[I") (mg 12 rfl)) (fun _ h9 => h9) rfl hin rfl (by decide +kernel) rfl rfl (Nat.le_of_ble_eq_true rfl) dX2_init_66 (fun H locs hP hD hS => ?_)
  have hP : va_P D vwCl ([(h, .inr (2, [.int 0, .int 5, .int 4, .ref q_1, .ref q_2, .ref q_3, .ref q_4, .ref q_5, .int 0, .ref q_6]))] ++ wA cI q_1 72 ((fun _ => 0)) ++ wA cI q_2 72 ((fun _ => 0)) ++ wA cI q_3 2 ((upd (upd (fun _ => 0) 0 0) 1 4)) ++ wA cI q_4 84 ((fun _ => 0)) ++ wA cI q_5 84 ((fun _ => 0)) ++ wA cI q_6 8 ((fun _ => 0))) H := hP
  have hD : va_D (va_A ([(h, .inr (2, [.int 0, .int 0, .int 0, .null, .null, .null, .null, .null, .int 0, .null]))]) sz) ([(h, .inr (2, [.int 0, .int 5, .int 4, .ref q_1, .ref q_2, .ref q_3, .ref q_4, .ref q_5, .int 0, .ref q_6]))] ++ wA cI q_1 72 ((fun _ => 0)) ++ wA cI q_2 72 ((fun _ => 0)) ++ wA cI q_3 2 ((upd (upd (fun _ => 0) 0 0) 1 4)) ++ wA cI q_4 84 ((fun _ => 0)) ++ wA cI q_5 84 ((fun _ => 0)) ++ wA cI q_6 8 ((fun _ => 0))) := hD
  obtain ⟨a, ha⟩ : ∃ a : Nat → Nat, a = adr7 h q_1 q_2 q_3 q_4 q_5 q_6 := ⟨_, rfl⟩
  have hP : va_P D vwCl (wN cI a ((fun _ => 0)) ((fun _ => 0)) ((upd (upd (fun _ => 0) 0 0) 1 4)) ((fun _ => 0)) ((fun _ => 0)) ((fun _ => 0)) 0 5 4 0) H := by rw [ha]; exact hP
  have hD : va_D (va_A ([(h, .inr (2, [.int 0, .int 0, .int 0, .null, .null, .null, .null, .null, .int 0, .null]))]) sz) (wN cI a ((fun _ => 0)) ((fun _ => 0)) ((upd (upd (fun _ => 0) 0 0) 1 4)) ((fun _ => 0)) ((fun _ => 0)) ((fun _ => 0)) 0 5 4 0) := by rw [ha]; exact hD
  refine W.widen (k := 6) (n := 322) (by omega) (by omega) ?_
  exact eQv a hx hb hr hlocks hP hD hK hS dX2_init_69 (by rw [ha]; rfl)
