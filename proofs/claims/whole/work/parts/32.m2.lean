theorem iw_X2_keep_X2 : ∀ w ∈ wsX20, w ∈ wsX2_keep := mem_pos [7, 8, 9, 10, 11, 12, 13, 14, 15, 16] (by decide +kernel)
set_option maxHeartbeats 4000000 in
set_option maxRecDepth 100000 in
theorem mX2_keep (l : Launch) (D : va_G) (cI : ClassId) (a : Nat → Nat) (pt pd ab nw kp wy : Nat → Int32) (th : Int32) (cN rN : Nat) (tn : Int32) (sz : Nat) : Met l yX2_keep wsX2_keep ({ frames := 1, cells := 0, slots := 0, locals := 40 } : Room) (va_Pc [.ref (a 0)] (wPQ D [(cI, .int)] sz (wN cI a pt pd ab nw kp wy th (nI cN) (nI rN) tn))) (va_Qv (fun _ : Unit => True) (wB D [(cI, .int)] (va_A (wN cI a pt pd ab nw kp wy th (nI cN) (nI rN) tn) sz) (fun _ : Unit => (wN cI a pt pd ab nw nw wy th (nI cN) (nI rN) tn))) (va_A (wN cI a pt pd ab nw kp wy th (nI cN) (nI rN) tn) sz)) 0 0 (va_A (wN cI a pt pd ab nw kp wy th (nI cN) (nI rN) tn) sz) := by
  refine mQ_of (by decide) rfl (Nat.le_of_ble_eq_true rfl) ?_
  intro p e s m below meth c hx hb hr hml hown hin hts hlocks hsz hP hK hN hD hA hS ls hl
  have hown : s.vm.findClass RX2 = some m.cls := hown
  have hl : lv_has ls 1 [(0, .ref (a 0))] := hl
  have hP : va_P D vwCl (wN cI a pt pd ab nw kp wy th (nI cN) (nI rN) tn) s.heap := hP
  refine lv_aload_n hx hb dX2_keep_0 rfl (lv_at hl 0 rfl) ?_
  refine va_get (D := D) (ci := 2) (v := .ref (a 4)) (C := RX2) (T := TX2) (N := 10) hx hb hts iw_X2_keep_X2 hown hK hP 0 rfl rfl 6 (by decide) (hts (.fieldLink RX2 26 "MarbleRampsModel" "now" "[I") (mg 1 rfl)) (fun _ h9 => h9) rfl dX2_keep_1 ?_
  refine lv_iconst (v := 0) hx hb dX2_keep_4 (by decide) ?_
  refine lv_aload_n hx hb dX2_keep_5 rfl (lv_at hl 0 rfl) ?_
  refine va_get (D := D) (ci := 2) (v := .ref (a 5)) (C := RX2) (T := TX2) (N := 10) hx hb hts iw_X2_keep_X2 hown hK hP 0 rfl rfl 7 (by decide) (hts (.fieldLink RX2 29 "MarbleRampsModel" "kept" "[I") (mg 2 rfl)) (fun _ h9 => h9) rfl dX2_keep_6 ?_
  refine lv_iconst (v := 0) hx hb dX2_keep_9 (by decide) ?_
  refine lv_bipush (v := 84) hx hb dX2_keep_10 (by decide) ?_
  refine va_copyi hx hb (hml.trans hl.1.symm) hown (hts (.methodLink RX2 49 arraycopyName) (mg 3 rfl)) (hts (.native arraycopyName) (mg 4 rfl)) (hts (.static arraycopyName) (mg 5 rfl)) (hts (.initialized RJ10) (mg 6 rfl)) hK hP hD hS 4 5 0 0 rfl rfl rfl rfl rfl (by decide) (by decide) (by decide) (by decide) (by decide) (fun i _ => rfl) (by decide) (by decide) dX2_keep_12 (fun H locs hP hD hS => ?_)
  have hP : va_P D vwCl (wN cI a pt pd ab nw nw wy th (nI cN) (nI rN) tn) H := hP.ext 5 rfl (cpy0 _ _) rfl
  have hD : va_D (va_A (wN cI a pt pd ab nw kp wy th (nI cN) (nI rN) tn) sz) (wN cI a pt pd ab nw nw wy th (nI cN) (nI rN) tn) := hD.set (p := 5) rfl
  exact eQv () hx hb hr hlocks hP hD hK hS dX2_keep_15 (trivial)
theorem iw_X2_bringBack_X2 : ∀ w ∈ wsX20, w ∈ wsX2_bringBack := mem_pos [7, 8, 9, 10, 11, 12, 13, 14, 15, 16] (by decide +kernel)
set_option maxHeartbeats 4000000 in
set_option maxRecDepth 100000 in
theorem mX2_bringBack (l : Launch) (D : va_G) (cI : ClassId) (a : Nat → Nat) (pt pd ab nw kp wy : Nat → Int32) (th : Int32) (cN rN : Nat) (tn : Int32) (sz : Nat) : Met l yX2_bringBack wsX2_bringBack ({ frames := 1, cells := 0, slots := 0, locals := 40 } : Room) (va_Pc [.ref (a 0)] (wPQ D [(cI, .int)] sz (wN cI a pt pd ab nw kp wy th (nI cN) (nI rN) tn))) (va_Qv (fun _ : Unit => True) (wB D [(cI, .int)] (va_A (wN cI a pt pd ab nw kp wy th (nI cN) (nI rN) tn) sz) (fun _ : Unit => (wN cI a pt pd ab kp kp wy th (nI cN) (nI rN) tn))) (va_A (wN cI a pt pd ab nw kp wy th (nI cN) (nI rN) tn) sz)) 0 0 (va_A (wN cI a pt pd ab nw kp wy th (nI cN) (nI rN) tn) sz) := by
  refine mQ_of (by decide) rfl (Nat.le_of_ble_eq_true rfl) ?_
  intro p e s m below meth c hx hb hr hml hown hin hts hlocks hsz hP hK hN hD hA hS ls hl
  have hown : s.vm.findClass RX2 = some m.cls := hown
  have hl : lv_has ls 1 [(0, .ref (a 0))] := hl
  have hP : va_P D vwCl (wN cI a pt pd ab nw kp wy th (nI cN) (nI rN) tn) s.heap := hP
  refine lv_aload_n hx hb dX2_bringBack_0 rfl (lv_at hl 0 rfl) ?_
  refine va_get (D := D) (ci := 2) (v := .ref (a 5)) (C := RX2) (T := TX2) (N := 10) hx hb hts iw_X2_bringBack_X2 hown hK hP 0 rfl rfl 7 (by decide) (hts (.fieldLink RX2 29 "MarbleRampsModel" "kept" "[I") (mg 1 rfl)) (fun _ h9 => h9) rfl dX2_bringBack_1 ?_
  refine lv_iconst (v := 0) hx hb dX2_bringBack_4 (by decide) ?_
  refine lv_aload_n hx hb dX2_bringBack_5 rfl (lv_at hl 0 rfl) ?_
  refine va_get (D := D) (ci := 2) (v := .ref (a 4)) (C := RX2) (T := TX2) (N := 10) hx hb hts iw_X2_bringBack_X2 hown hK hP 0 rfl rfl 6 (by decide) (hts (.fieldLink RX2 26 "MarbleRampsModel" "now" "[I") (mg 2 rfl)) (fun _ h9 => h9) rfl dX2_bringBack_6 ?_
  refine lv_iconst (v := 0) hx hb dX2_bringBack_9 (by decide) ?_
  refine lv_bipush (v := 84) hx hb dX2_bringBack_10 (by decide) ?_
  refine va_copyi hx hb (hml.trans hl.1.symm) hown (hts (.methodLink RX2 49 arraycopyName) (mg 3 rfl)) (hts (.native arraycopyName) (mg 4 rfl)) (hts (.static arraycopyName) (mg 5 rfl)) (hts (.initialized RJ10) (mg 6 rfl)) hK hP hD hS 5 4 0 0 rfl rfl rfl rfl rfl (by decide) (by decide) (by decide) (by decide) (by decide) (fun i _ => rfl) (by decide) (by decide) dX2_bringBack_12 (fun H locs hP hD hS => ?_)
  have hP : va_P D vwCl (wN cI a pt pd ab kp kp wy th (nI cN) (nI rN) tn) H := hP.ext 4 rfl (cpy0 _ _) rfl
  have hD : va_D (va_A (wN cI a pt pd ab nw kp wy th (nI cN) (nI rN) tn) sz) (wN cI a pt pd ab kp kp wy th (nI cN) (nI rN) tn) := hD.set (p := 4) rfl
  exact eQv () hx hb hr hlocks hP hD hK hS dX2_bringBack_15 (trivial)
set_option maxHeartbeats 4000000 in
set_option maxRecDepth 100000 in
theorem mX2_look (l : Launch) (D : va_G) (cI : ClassId) (a : Nat → Nat) (pt pd ab nw kp wy : Nat → Int32) (th : Int32) (cN rN : Nat) (tn : Int32) (co mm : Int32) (hI : mInv cN rN pt pd ab) (hco : ∃ j, j < cN ∧ co = nI j) (sz : Nat) : Met l yX2_look wsX2_look ({ frames := 3, cells := 0, slots := 0, locals := 67 } : Room) (va_Pc [.ref (a 0), .int co, .int mm] (wPQ D [(cI, .int)] sz (wN cI a pt pd ab nw kp wy th (nI cN) (nI rN) tn))) (va_Qi (fun (zz : Int32) (_ : Unit) => zz = (mLook pt pd cN rN nw tn wy co mm).1) (wB D [(cI, .int)] (va_A (wN cI a pt pd ab nw kp wy th (nI cN) (nI rN) tn) sz) (fun _ : Unit => (wN cI a pt pd ab nw nw ((mLook pt pd cN rN nw tn wy co mm).2.2) th (nI cN) (nI rN) ((mLook pt pd cN rN nw tn wy co mm).2.1)))) (va_A (wN cI a pt pd ab nw kp wy th (nI cN) (nI rN) tn) sz)) 0 0 (va_A (wN cI a pt pd ab nw kp wy th (nI cN) (nI rN) tn) sz) := by
  refine mQ_of (by decide) rfl (Nat.le_of_ble_eq_true rfl) ?_
  intro p e s m below meth c hx hb hr hml hown hin hts hlocks hsz hP hK hN hD hA hS ls hl
  have hown : s.vm.findClass RX2 = some m.cls := hown
  have hl : lv_has ls 5 [(0, .ref (a 0)), (1, .int co), (2, .int mm)] := hl
  have hP : va_P D vwCl (wN cI a pt pd ab nw kp wy th (nI cN) (nI rN) tn) s.heap := hP
  refine lv_aload_n hx hb dX2_look_0 rfl (lv_at hl 0 rfl) ?_
  refine kQVv (As := []) (rest := []) (wr := []) (W2 := (fun _ => (wN cI a pt pd ab nw nw wy th (nI cN) (nI rN) tn))) ⟨hx, hb, hml, hown, hts⟩ (mX2_keep l D cI a pt pd ab nw kp wy th cN rN tn _) (cwV 0 hts gX2_look_X2_keep rfl rfl rfl (by decide +kernel) ⟨Nat.le_of_ble_eq_true rfl, Nat.le_of_ble_eq_true rfl⟩) hP hD hK hN hS hA [0, 1, 2, 3, 4, 5, 6] (by decide) rfl [] (by decide) rfl (by decide) [0, 1, 2, 3, 4, 5, 6] (by decide) (fun _ => rfl) [0] rfl rfl rfl rfl hl.1 rfl (Nat.le_of_ble_eq_true rfl) dX2_look_1 ⟨Nat.le_of_ble_eq_true rfl, Nat.le_of_ble_eq_true rfl⟩ (fun u_1 H locs hr_1 hP hD hS => ?_)
  have hP : va_P D vwCl (wN cI a pt pd ab nw nw wy th (nI cN) (nI rN) tn) H := hP
  have hD : va_D (va_A (wN cI a pt pd ab nw kp wy th (nI cN) (nI rN) tn) sz) (wN cI a pt pd ab nw nw wy th (nI cN) (nI rN) tn) := hD
  refine lv_iconst (v := (-1)) hx hb dX2_look_4 (by decide) ?_
  refine lv_istore_n (lv' := [(3, .int (-1)), (0, .ref (a 0)), (1, .int co), (2, .int mm)]) hx hb dX2_look_5 rfl hl (by decide) rfl (fun ls hl => ?_)
  refine lv_iconst (v := 0) hx hb dX2_look_6 (by decide) ?_
  refine lv_istore (lv' := [(4, .int 0), (3, .int (-1)), (0, .ref (a 0)), (1, .int co), (2, .int mm)]) hx hb dX2_look_7 hl (by decide) rfl (fun ls hl => ?_)
  have L9 : ∀ (n k : Nat) (en : Int32) (nv : Nat → Int32) (tv : Int32) (wv : Nat → Int32), k + n = mm.toNatClampNeg → mLook pt pd cN rN nw tn wy co mm = mLookL pt pd cN rN co n en nv tv wv → ∀ (H : Heap) (locs : List Loc), va_P D vwCl (wN cI a pt pd ab nv nw wv th (nI cN) (nI rN) tv) H → va_D (va_A (wN cI a pt pd ab nw kp wy th (nI cN) (nI rN) tn) sz) (wN cI a pt pd ab nv nw wv th (nI cN) (nI rN) tv) → va_S (va_A (wN cI a pt pd ab nw kp wy th (nI cN) (nI rN) tn) sz) s.heap H locs → ∀ ls : Array Slot, lv_has ls 5 [(4, .int (nI k)), (3, .int en), (0, .ref (a 0)), (1, .int co), (2, .int mm)] → W p l e ({ frames := 3, cells := 0, slots := 0, locals := 67 } : Room) s m [.ref (a 0), .int co, .int mm].toArray below meth c H locs 0 0 (MQ below (va_Qi (fun (zz : Int32) (_ : Unit) => zz = (mLook pt pd cN rN nw tn wy co mm).1) (wB D [(cI, .int)] (va_A (wN cI a pt pd ab nw kp wy th (nI cN) (nI rN) tn) sz) (fun _ : Unit => (wN cI a pt pd ab nw nw ((mLook pt pd cN rN nw tn wy co mm).2.2) th (nI cN) (nI rN) ((mLook pt pd cN rN nw tn wy co mm).2.1)))) (va_A (wN cI a pt pd ab nw kp wy th (nI cN) (nI rN) tn) sz)) [.ref (a 0), .int co, .int mm].toArray s 0 0 (va_A (wN cI a pt pd ab nw kp wy th (nI cN) (nI rN) tn) sz)) (F0 m 9 ls []) := by
    intro n
    induction n with
    | zero =>
      intro k en nv tv wv hkn9 hf H locs hP hD hS ls hl
      refine lv_iload hx hb dX2_look_9 (lv_at hl 0 rfl) ?_
      refine lv_iload_n hx hb dX2_look_11 rfl (lv_at hl 4 rfl) ?_
      refine lv_icmp_ge (tgt := 27) hx hb dX2_look_12 (by decide) (fun c_2 => ?_) (fun c9 => absurd (by rw [lc_le (by have := clampLt mm; omega)]; omega) c9)
      refine lv_aload_n hx hb dX2_look_27 rfl (lv_at hl 2 rfl) ?_
      refine kQVv (As := []) (rest := []) (wr := []) (W2 := (fun _ => (wN cI a pt pd ab nw nw wv th (nI cN) (nI rN) tv))) ⟨hx, hb, hml, hown, hts⟩ (mX2_bringBack l D cI a pt pd ab nv nw wv th cN rN tv _) (cwV 0 hts gX2_look_X2_bringBack rfl rfl rfl (by decide +kernel) ⟨Nat.le_of_ble_eq_true rfl, Nat.le_of_ble_eq_true rfl⟩) hP hD hK hN hS hA [0, 1, 2, 3, 4, 5, 6] (by decide) rfl [] (by decide) rfl (by decide) [0, 1, 2, 3, 4, 5, 6] (by decide) (fun _ => rfl) [0] rfl rfl rfl rfl hl.1 rfl (Nat.le_of_ble_eq_true rfl) dX2_look_28 ⟨Nat.le_of_ble_eq_true rfl, Nat.le_of_ble_eq_true rfl⟩ (fun u_3 H locs hr_3 hP hD hS => ?_)
      have hP : va_P D vwCl (wN cI a pt pd ab nw nw wv th (nI cN) (nI rN) tv) H := hP
      have hD : va_D (va_A (wN cI a pt pd ab nw kp wy th (nI cN) (nI rN) tn) sz) (wN cI a pt pd ab nw nw wv th (nI cN) (nI rN) tv) := hD
      refine lv_iload_n hx hb dX2_look_31 rfl (lv_at hl 1 rfl) ?_
      have hP : va_P D vwCl (wN cI a pt pd ab nw nw ((mLook pt pd cN rN nw tn wy co mm).2.2) th (nI cN) (nI rN) ((mLook pt pd cN rN nw tn wy co mm).2.1)) H := by rw [hf]; simp only [mLookL]; exact hP
      have hD : va_D (va_A (wN cI a pt pd ab nw kp wy th (nI cN) (nI rN) tn) sz) (wN cI a pt pd ab nw nw ((mLook pt pd cN rN nw tn wy co mm).2.2) th (nI cN) (nI rN) ((mLook pt pd cN rN nw tn wy co mm).2.1)) := by rw [hf]; simp only [mLookL]; exact hD
      exact eQi () hx hb hr hlocks hP hD hK hS dX2_look_32 (by rw [hf]; rfl)
    | succ n ih9 =>
      intro k en nv tv wv hkn9 hf H locs hP hD hS ls hl
      refine lv_iload hx hb dX2_look_9 (lv_at hl 0 rfl) ?_
      refine lv_iload_n hx hb dX2_look_11 rfl (lv_at hl 4 rfl) ?_
      refine lv_icmp_ge (tgt := 27) hx hb dX2_look_12 (by decide) (fun c9 => absurd c9 (by rw [lc_le (by have := clampLt mm; omega)]; omega)) (fun c_4 => ?_)
      refine lv_aload_n hx hb dX2_look_15 rfl (lv_at hl 2 rfl) ?_
      refine lv_iload_n hx hb dX2_look_16 rfl (lv_at hl 3 rfl) ?_
      refine kQVi (As := [.int co]) (rest := []) (wr := []) (W2 := (fun _ => (wN cI a pt pd ab ((mFall pt pd cN rN nv co).2.1) nw ((mFall pt pd cN rN nv co).2.2.2) th (nI cN) (nI rN) ((mFall pt pd cN rN nv co).2.2.1)))) ⟨hx, hb, hml, hown, hts⟩ (mX2_fall l D cI a pt pd ab nv nw wv th cN rN tv co hI hco _) (cwV 1 hts gX2_look_X2_fall rfl rfl rfl (by decide +kernel) ⟨Nat.le_of_ble_eq_true rfl, Nat.le_of_ble_eq_true rfl⟩) hP hD hK hN hS hA [0, 1, 2, 3, 4, 5, 6] (by decide) rfl [] (by decide) rfl (by decide) [0, 1, 2, 3, 4, 5, 6] (by decide) (fun _ => rfl) [0] rfl rfl rfl rfl hl.1 rfl (Nat.le_of_ble_eq_true rfl) dX2_look_17 ⟨Nat.le_of_ble_eq_true rfl, Nat.le_of_ble_eq_true rfl⟩ (fun r_5 u_5 H locs hr_5 hP hD hS => ?_)
      subst r_5
      have hP : va_P D vwCl (wN cI a pt pd ab ((mFall pt pd cN rN nv co).2.1) nw ((mFall pt pd cN rN nv co).2.2.2) th (nI cN) (nI rN) ((mFall pt pd cN rN nv co).2.2.1)) H := hP
      have hD : va_D (va_A (wN cI a pt pd ab nw kp wy th (nI cN) (nI rN) tn) sz) (wN cI a pt pd ab ((mFall pt pd cN rN nv co).2.1) nw ((mFall pt pd cN rN nv co).2.2.2) th (nI cN) (nI rN) ((mFall pt pd cN rN nv co).2.2.1)) := hD
      refine lv_istore_n (lv' := [(3, .int ((mFall pt pd cN rN nv co).1)), (4, .int (nI k)), (0, .ref (a 0)), (1, .int co), (2, .int mm)]) hx hb dX2_look_20 rfl hl (by decide) rfl (fun ls hl => ?_)
      refine lv_iinc (v := (nI (k + 1))) (lv' := [(4, .int (nI (k + 1))), (3, .int ((mFall pt pd cN rN nv co).1)), (0, .ref (a 0)), (1, .int co), (2, .int mm)]) hx hb dX2_look_21 hl (k := 1) rfl (nI_1 k) (by decide) rfl (fun ls hl => ?_)
      refine lv_goto (tgt := 9) hx hb dX2_look_24 (by decide) ?_
      exact ih9 (k + 1) ((mFall pt pd cN rN nv co).1) ((mFall pt pd cN rN nv co).2.1) ((mFall pt pd cN rN nv co).2.2.1) ((mFall pt pd cN rN nv co).2.2.2) (by omega) (by rw [hf]; simp [mLookL]) _ _ hP hD hS ls (lv_sub hl [0, 1, 2, 3, 4] rfl)
  exact L9 mm.toNatClampNeg 0 (-1) nw tn wy (by omega) rfl _ _ hP hD hS ls (lv_sub hl [0, 1, 2, 3, 4] rfl)
theorem iw_X2_turnedBy_X2 : ∀ w ∈ wsX20, w ∈ wsX2_turnedBy := mem_pos [41, 42, 43, 44, 45, 46, 47, 48, 49, 50] (by decide +kernel)
set_option maxHeartbeats 4000000 in
set_option maxRecDepth 100000 in
theorem mX2_turnedBy (l : Launch) (D : va_G) (cI : ClassId) (a : Nat → Nat) (pt pd ab nw kp wy : Nat → Int32) (th : Int32) (cN rN : Nat) (tn : Int32) (co : Int32) (hI : mInv cN rN pt pd ab) (hco : ∃ j, j < cN ∧ co = nI j) (sz : Nat) : Met l yX2_turnedBy wsX2_turnedBy ({ frames := 4, cells := 0, slots := 0, locals := 91 } : Room) (va_Pc [.ref (a 0), .int co] (wPQ D [(cI, .int)] sz (wN cI a pt pd ab nw kp wy th (nI cN) (nI rN) tn))) (va_Qi (fun (zz : Int32) (_ : Unit) => zz = (mFall pt pd cN rN nw co).2.2.1) (wB D [(cI, .int)] (va_A (wN cI a pt pd ab nw kp wy th (nI cN) (nI rN) tn) sz) (fun _ : Unit => (wN cI a pt pd ab nw nw ((mFall pt pd cN rN nw co).2.2.2) th (nI cN) (nI rN) ((mFall pt pd cN rN nw co).2.2.1)))) (va_A (wN cI a pt pd ab nw kp wy th (nI cN) (nI rN) tn) sz)) 0 0 (va_A (wN cI a pt pd ab nw kp wy th (nI cN) (nI rN) tn) sz) := by
  refine mQ_of (by decide) rfl (Nat.le_of_ble_eq_true rfl) ?_
  intro p e s m below meth c hx hb hr hml hown hin hts hlocks hsz hP hK hN hD hA hS ls hl
  have hown : s.vm.findClass RX2 = some m.cls := hown
  have hl : lv_has ls 2 [(0, .ref (a 0)), (1, .int co)] := hl
  have hP : va_P D vwCl (wN cI a pt pd ab nw kp wy th (nI cN) (nI rN) tn) s.heap := hP
  refine lv_aload_n hx hb dX2_turnedBy_0 rfl (lv_at hl 0 rfl) ?_
  refine lv_iload_n hx hb dX2_turnedBy_1 rfl (lv_at hl 1 rfl) ?_
  refine lv_iconst (v := 1) hx hb dX2_turnedBy_2 (by decide) ?_
  refine kQVi (As := [.int co, .int 1]) (rest := []) (wr := []) (W2 := (fun _ => (wN cI a pt pd ab nw nw ((mLook pt pd cN rN nw tn wy co 1).2.2) th (nI cN) (nI rN) ((mLook pt pd cN rN nw tn wy co 1).2.1)))) ⟨hx, hb, hml, hown, hts⟩ (mX2_look l D cI a pt pd ab nw kp wy th cN rN tn co 1 hI hco _) (cwV 2 hts gX2_turnedBy_X2_look rfl rfl rfl (by decide +kernel) ⟨Nat.le_of_ble_eq_true rfl, Nat.le_of_ble_eq_true rfl⟩) hP hD hK hN hS hA [0, 1, 2, 3, 4, 5, 6] (by decide) rfl [] (by decide) rfl (by decide) [0, 1, 2, 3, 4, 5, 6] (by decide) (fun _ => rfl) [0] rfl rfl rfl rfl hl.1 rfl (Nat.le_of_ble_eq_true rfl) dX2_turnedBy_3 ⟨Nat.le_of_ble_eq_true rfl, Nat.le_of_ble_eq_true rfl⟩ (fun r_1 u_1 H locs hr_1 hP hD hS => ?_)
  subst r_1
  have hP : va_P D vwCl (wN cI a pt pd ab nw nw ((mLook pt pd cN rN nw tn wy co 1).2.2) th (nI cN) (nI rN) ((mLook pt pd cN rN nw tn wy co 1).2.1)) H := hP
  have hD : va_D (va_A (wN cI a pt pd ab nw kp wy th (nI cN) (nI rN) tn) sz) (wN cI a pt pd ab nw nw ((mLook pt pd cN rN nw tn wy co 1).2.2) th (nI cN) (nI rN) ((mLook pt pd cN rN nw tn wy co 1).2.1)) := hD
  refine lv_pop hx hb dX2_turnedBy_6 rfl ?_
  refine lv_aload_n hx hb dX2_turnedBy_7 rfl (lv_at hl 0 rfl) ?_
  refine va_get (D := D) (ci := 2) (v := .int ((mLook pt pd cN rN nw tn wy co 1).2.1)) (C := RX2) (T := TX2) (N := 10) hx hb hts iw_X2_turnedBy_X2 hown hK hP 0 rfl rfl 8 (by decide) (hts (.fieldLink RX2 55 "MarbleRampsModel" "turned" "I") (mg 1 rfl)) (fun _ h9 => h9) rfl dX2_turnedBy_8 ?_
  have hP : va_P D vwCl (wN cI a pt pd ab nw nw ((mFall pt pd cN rN nw co).2.2.2) th (nI cN) (nI rN) ((mFall pt pd cN rN nw co).2.2.1)) H := by rw [show (mFall pt pd cN rN nw co).2.2.1 = (mLook pt pd cN rN nw tn wy co 1).2.1 from by rw [mLook1], show (mFall pt pd cN rN nw co).2.2.2 = (mLook pt pd cN rN nw tn wy co 1).2.2 from by rw [mLook1]]; exact hP
  have hD : va_D (va_A (wN cI a pt pd ab nw kp wy th (nI cN) (nI rN) tn) sz) (wN cI a pt pd ab nw nw ((mFall pt pd cN rN nw co).2.2.2) th (nI cN) (nI rN) ((mFall pt pd cN rN nw co).2.2.1)) := by rw [show (mFall pt pd cN rN nw co).2.2.1 = (mLook pt pd cN rN nw tn wy co 1).2.1 from by rw [mLook1], show (mFall pt pd cN rN nw co).2.2.2 = (mLook pt pd cN rN nw tn wy co 1).2.2 from by rw [mLook1]]; exact hD
  exact eQi () hx hb hr hlocks hP hD hK hS dX2_turnedBy_11 (by rw [mLook1])
theorem iw_X2_isAsKept_X2 : ∀ w ∈ wsX20, w ∈ wsX2_isAsKept := mem_pos [3, 4, 5, 6, 7, 8, 9, 10, 11, 12] (by decide +kernel)
set_option maxHeartbeats 4000000 in
set_option maxRecDepth 100000 in
theorem mX2_isAsKept (l : Launch) (D : va_G) (cI : ClassId) (a : Nat → Nat) (pt pd ab nw kp wy : Nat → Int32) (th : Int32) (cN rN : Nat) (tn : Int32) : Met l yX2_isAsKept wsX2_isAsKept ({ frames := 0, cells := 0, slots := 0, locals := 0 } : Room) (va_Pc [.ref (a 0)] (wPR D [(cI, .int)] (wN cI a pt pd ab nw kp wy th (nI cN) (nI rN) tn))) (vp_Si (fun zz : Int32 => zz = bi (mSame nw kp))) 0 0 (fun _ => False) := by
  refine mR_of (by decide) rfl (Nat.le_of_ble_eq_true rfl) ?_
  intro p e s m below meth c hx hb hr hml hown hts hlocks hP hK hN ls hl
  have hown : s.vm.findClass RX2 = some m.cls := hown
  have hl : lv_has ls 2 [(0, .ref (a 0))] := hl
  refine lv_iconst (v := 0) hx hb dX2_isAsKept_0 (by decide) ?_
  refine lv_istore_n (lv' := [(1, .int 0), (0, .ref (a 0))]) hx hb dX2_isAsKept_1 rfl hl (by decide) rfl (fun ls hl => ?_)
  have L2 : ∀ (n k : Nat), k + n = 72 → mSame nw kp = mSameL nw kp n k → ∀ ls : Array Slot, lv_has ls 2 [(1, .int (nI k)), (0, .ref (a 0))] → W p l e ({ frames := 0, cells := 0, slots := 0, locals := 0 } : Room) s m [.ref (a 0)].toArray below meth c s.heap [] 0 0 (MQ below (vp_Si (fun zz : Int32 => zz = bi (mSame nw kp))) [.ref (a 0)].toArray s 0 0 (fun _ => False)) (F0 m 2 ls []) := by
    intro n
    induction n with
    | zero =>
      intro k hkn2 hf ls hl
      refine lv_iload_n hx hb dX2_isAsKept_2 rfl (lv_at hl 0 rfl) ?_
      refine lv_bipush (v := 72) hx hb dX2_isAsKept_3 (by decide) ?_
      refine lv_icmp_ge (tgt := 31) hx hb dX2_isAsKept_5 (by decide) (fun c_1 => ?_) (fun c9 => absurd (by rw [show (72 : Int32) = nI 72 from rfl]; exact nI_le (by omega) (by omega)) c9)
      refine lv_iconst (v := 1) hx hb dX2_isAsKept_31 (by decide) ?_
      exact eRz hx hb hr hlocks dX2_isAsKept_32 (Or.inr rfl) (by rw [hf]; rfl)
    | succ n ih2 =>
      intro k hkn2 hf ls hl
      refine lv_iload_n hx hb dX2_isAsKept_2 rfl (lv_at hl 0 rfl) ?_
      refine lv_bipush (v := 72) hx hb dX2_isAsKept_3 (by decide) ?_
      refine lv_icmp_ge (tgt := 31) hx hb dX2_isAsKept_5 (by decide) (fun c9 => absurd c9 (by rw [show (72 : Int32) = nI 72 from rfl]; exact nI_ge (by omega) (by decide))) (fun c_2 => ?_)
      refine lv_aload_n hx hb dX2_isAsKept_8 rfl (lv_at hl 1 rfl) ?_
      refine va_get (D := D) (ci := 2) (v := .ref (a 4)) (C := RX2) (T := TX2) (N := 10) hx hb hts iw_X2_isAsKept_X2 hown hK hP 0 rfl rfl 6 (by decide) (hts (.fieldLink RX2 26 "MarbleRampsModel" "now" "[I") (mg 1 rfl)) (fun _ h9 => h9) rfl dX2_isAsKept_9 ?_
      refine lv_iload_n hx hb dX2_isAsKept_12 rfl (lv_at hl 0 rfl) ?_
      refine va_iald hx hb hK hP 4 0 rfl rfl (vp_in_nI (by omega) (by decide)) dX2_isAsKept_13 ?_
      rw [nI_clamp (show k < 2 ^ 31 by omega)]
      refine lv_aload_n hx hb dX2_isAsKept_14 rfl (lv_at hl 1 rfl) ?_
      refine va_get (D := D) (ci := 2) (v := .ref (a 5)) (C := RX2) (T := TX2) (N := 10) hx hb hts iw_X2_isAsKept_X2 hown hK hP 0 rfl rfl 7 (by decide) (hts (.fieldLink RX2 29 "MarbleRampsModel" "kept" "[I") (mg 2 rfl)) (fun _ h9 => h9) rfl dX2_isAsKept_15 ?_
      refine lv_iload_n hx hb dX2_isAsKept_18 rfl (lv_at hl 0 rfl) ?_
      refine va_iald hx hb hK hP 5 0 rfl rfl (vp_in_nI (by omega) (by decide)) dX2_isAsKept_19 ?_
      rw [nI_clamp (show k < 2 ^ 31 by omega)]
      refine lv_icmp_eq (tgt := 25) hx hb dX2_isAsKept_20 (by decide) (fun c_3 => ?_) (fun c_3 => ?_)
      · refine lv_iinc (v := (nI (k + 1))) (lv' := [(1, .int (nI (k + 1))), (0, .ref (a 0))]) hx hb dX2_isAsKept_25 hl (k := 0) rfl (nI_1 k) (by decide) rfl (fun ls hl => ?_)
        refine lv_goto (tgt := 2) hx hb dX2_isAsKept_28 (by decide) ?_
        exact ih2 (k + 1)  (by omega) (by rw [hf]; simp [mSameL, c_3]) ls (lv_sub hl [0, 1] rfl)
      · refine lv_iconst (v := 0) hx hb dX2_isAsKept_23 (by decide) ?_
        exact eRz hx hb hr hlocks dX2_isAsKept_24 (Or.inl rfl) (by rw [hf]; simp [mSameL, bi, c_3])
  exact L2 72 0  (by omega) rfl ls (lv_sub hl [0, 1] rfl)
set_option maxHeartbeats 4000000 in
set_option maxRecDepth 100000 in
theorem mX2_asBefore (l : Launch) (D : va_G) (cI : ClassId) (a : Nat → Nat) (pt pd ab nw kp wy : Nat → Int32) (th : Int32) (cN rN : Nat) (tn : Int32) (co : Int32) (hI : mInv cN rN pt pd ab) (hco : ∃ j, j < cN ∧ co = nI j) (sz : Nat) : Met l yX2_asBefore wsX2_asBefore ({ frames := 3, cells := 0, slots := 0, locals := 67 } : Room) (va_Pc [.ref (a 0), .int co] (wPQ D [(cI, .int)] sz (wN cI a pt pd ab nw kp wy th (nI cN) (nI rN) tn))) (va_Qi (fun (zz : Int32) (u : MJ) => zz = mAsb pt pd cN rN nw co) (wB D [(cI, .int)] (va_A (wN cI a pt pd ab nw kp wy th (nI cN) (nI rN) tn) sz) (fun u : MJ => (wN cI a pt pd ab nw u.1 u.2.1 th (nI cN) (nI rN) u.2.2))) (va_A (wN cI a pt pd ab nw kp wy th (nI cN) (nI rN) tn) sz)) 0 0 (va_A (wN cI a pt pd ab nw kp wy th (nI cN) (nI rN) tn) sz) := by
  refine mQ_of (by decide) rfl (Nat.le_of_ble_eq_true rfl) ?_
  intro p e s m below meth c hx hb hr hml hown hin hts hlocks hsz hP hK hN hD hA hS ls hl
  have hown : s.vm.findClass RX2 = some m.cls := hown
  have hl : lv_has ls 4 [(0, .ref (a 0)), (1, .int co)] := hl
  have hP : va_P D vwCl (wN cI a pt pd ab nw kp wy th (nI cN) (nI rN) tn) s.heap := hP
  refine lv_aload_n hx hb dX2_asBefore_0 rfl (lv_at hl 0 rfl) ?_
  refine kQVv (As := []) (rest := []) (wr := []) (W2 := (fun _ => (wN cI a pt pd ab nw nw wy th (nI cN) (nI rN) tn))) ⟨hx, hb, hml, hown, hts⟩ (mX2_keep l D cI a pt pd ab nw kp wy th cN rN tn _) (cwV 0 hts gX2_asBefore_X2_keep rfl rfl rfl (by decide +kernel) ⟨Nat.le_of_ble_eq_true rfl, Nat.le_of_ble_eq_true rfl⟩) hP hD hK hN hS hA [0, 1, 2, 3, 4, 5, 6] (by decide) rfl [] (by decide) rfl (by decide) [0, 1, 2, 3, 4, 5, 6] (by decide) (fun _ => rfl) [0] rfl rfl rfl rfl hl.1 rfl (Nat.le_of_ble_eq_true rfl) dX2_asBefore_1 ⟨Nat.le_of_ble_eq_true rfl, Nat.le_of_ble_eq_true rfl⟩ (fun u_1 H locs hr_1 hP hD hS => ?_)
  have hP : va_P D vwCl (wN cI a pt pd ab nw nw wy th (nI cN) (nI rN) tn) H := hP
  have hD : va_D (va_A (wN cI a pt pd ab nw kp wy th (nI cN) (nI rN) tn) sz) (wN cI a pt pd ab nw nw wy th (nI cN) (nI rN) tn) := hD
  refine lv_iconst (v := (-1)) hx hb dX2_asBefore_4 (by decide) ?_
  refine lv_istore_n (lv' := [(2, .int (-1)), (0, .ref (a 0)), (1, .int co)]) hx hb dX2_asBefore_5 rfl hl (by decide) rfl (fun ls hl => ?_)
  refine lv_iconst (v := 1) hx hb dX2_asBefore_6 (by decide) ?_
  refine lv_istore_n (lv' := [(3, .int 1), (2, .int (-1)), (0, .ref (a 0)), (1, .int co)]) hx hb dX2_asBefore_7 rfl hl (by decide) rfl (fun ls hl => ?_)
  have L8 : ∀ (n k : Nat) (told : Int32) (nv : Nat → Int32) (tv : Int32) (wv : Nat → Int32), k + n = 61 → mAsb pt pd cN rN nw co = mAsbL pt pd cN rN nw co n k told nv → ∀ (H : Heap) (locs : List Loc), va_P D vwCl (wN cI a pt pd ab nv nw wv th (nI cN) (nI rN) tv) H → va_D (va_A (wN cI a pt pd ab nw kp wy th (nI cN) (nI rN) tn) sz) (wN cI a pt pd ab nv nw wv th (nI cN) (nI rN) tv) → va_S (va_A (wN cI a pt pd ab nw kp wy th (nI cN) (nI rN) tn) sz) s.heap H locs → ∀ ls : Array Slot, lv_has ls 4 [(3, .int (nI k)), (2, .int told), (0, .ref (a 0)), (1, .int co)] → W p l e ({ frames := 3, cells := 0, slots := 0, locals := 67 } : Room) s m [.ref (a 0), .int co].toArray below meth c H locs 0 0 (MQ below (va_Qi (fun (zz : Int32) (u : MJ) => zz = mAsb pt pd cN rN nw co) (wB D [(cI, .int)] (va_A (wN cI a pt pd ab nw kp wy th (nI cN) (nI rN) tn) sz) (fun u : MJ => (wN cI a pt pd ab nw u.1 u.2.1 th (nI cN) (nI rN) u.2.2))) (va_A (wN cI a pt pd ab nw kp wy th (nI cN) (nI rN) tn) sz)) [.ref (a 0), .int co].toArray s 0 0 (va_A (wN cI a pt pd ab nw kp wy th (nI cN) (nI rN) tn) sz)) (F0 m 8 ls []) := by
    intro n
    induction n with
    | zero =>
      intro k told nv tv wv hkn8 hf H locs hP hD hS ls hl
      refine lv_iload_n hx hb dX2_asBefore_8 rfl (lv_at hl 0 rfl) ?_
      refine lv_bipush (v := 60) hx hb dX2_asBefore_9 (by decide) ?_
      refine lv_icmp_gt (tgt := 39) hx hb dX2_asBefore_11 (by decide) (fun c_2 => ?_) (fun c9 => absurd (nI_lt (a := 60) (by omega) (by omega)) c9)
      refine lv_aload_n hx hb dX2_asBefore_39 rfl (lv_at hl 2 rfl) ?_
      refine kQVv (As := []) (rest := []) (wr := []) (W2 := (fun _ => (wN cI a pt pd ab nw nw wv th (nI cN) (nI rN) tv))) ⟨hx, hb, hml, hown, hts⟩ (mX2_bringBack l D cI a pt pd ab nv nw wv th cN rN tv _) (cwV 0 hts gX2_asBefore_X2_bringBack rfl rfl rfl (by decide +kernel) ⟨Nat.le_of_ble_eq_true rfl, Nat.le_of_ble_eq_true rfl⟩) hP hD hK hN hS hA [0, 1, 2, 3, 4, 5, 6] (by decide) rfl [] (by decide) rfl (by decide) [0, 1, 2, 3, 4, 5, 6] (by decide) (fun _ => rfl) [0] rfl rfl rfl rfl hl.1 rfl (Nat.le_of_ble_eq_true rfl) dX2_asBefore_40 ⟨Nat.le_of_ble_eq_true rfl, Nat.le_of_ble_eq_true rfl⟩ (fun u_3 H locs hr_3 hP hD hS => ?_)
      have hP : va_P D vwCl (wN cI a pt pd ab nw nw wv th (nI cN) (nI rN) tv) H := hP
      have hD : va_D (va_A (wN cI a pt pd ab nw kp wy th (nI cN) (nI rN) tn) sz) (wN cI a pt pd ab nw nw wv th (nI cN) (nI rN) tv) := hD
      refine lv_iload_n hx hb dX2_asBefore_43 rfl (lv_at hl 1 rfl) ?_
      exact eQi (nw, wv, tv) hx hb hr hlocks hP hD hK hS dX2_asBefore_44 (by rw [hf]; rfl)
    | succ n ih8 =>
      intro k told nv tv wv hkn8 hf H locs hP hD hS ls hl
      refine lv_iload_n hx hb dX2_asBefore_8 rfl (lv_at hl 0 rfl) ?_
      refine lv_bipush (v := 60) hx hb dX2_asBefore_9 (by decide) ?_
      refine lv_icmp_gt (tgt := 39) hx hb dX2_asBefore_11 (by decide) (fun c9 => absurd c9 (nI_nlt (a := 60) (by omega) (by decide))) (fun c_4 => ?_)
      refine lv_iload_n hx hb dX2_asBefore_14 rfl (lv_at hl 1 rfl) ?_
      refine lv_if_ge (tgt := 39) hx hb dX2_asBefore_15 (by decide) (fun c_5 => ?_) (fun c_5 => ?_)
      · refine lv_aload_n hx hb dX2_asBefore_39 rfl (lv_at hl 2 rfl) ?_
        refine kQVv (As := []) (rest := []) (wr := []) (W2 := (fun _ => (wN cI a pt pd ab nw nw wv th (nI cN) (nI rN) tv))) ⟨hx, hb, hml, hown, hts⟩ (mX2_bringBack l D cI a pt pd ab nv nw wv th cN rN tv _) (cwV 0 hts gX2_asBefore_X2_bringBack rfl rfl rfl (by decide +kernel) ⟨Nat.le_of_ble_eq_true rfl, Nat.le_of_ble_eq_true rfl⟩) hP hD hK hN hS hA [0, 1, 2, 3, 4, 5, 6] (by decide) rfl [] (by decide) rfl (by decide) [0, 1, 2, 3, 4, 5, 6] (by decide) (fun _ => rfl) [0] rfl rfl rfl rfl hl.1 rfl (Nat.le_of_ble_eq_true rfl) dX2_asBefore_40 ⟨Nat.le_of_ble_eq_true rfl, Nat.le_of_ble_eq_true rfl⟩ (fun u_6 H locs hr_6 hP hD hS => ?_)
        have hP : va_P D vwCl (wN cI a pt pd ab nw nw wv th (nI cN) (nI rN) tv) H := hP
        have hD : va_D (va_A (wN cI a pt pd ab nw kp wy th (nI cN) (nI rN) tn) sz) (wN cI a pt pd ab nw nw wv th (nI cN) (nI rN) tv) := hD
        refine lv_iload_n hx hb dX2_asBefore_43 rfl (lv_at hl 1 rfl) ?_
        exact eQi (nw, wv, tv) hx hb hr hlocks hP hD hK hS dX2_asBefore_44 (by rw [hf]; simp [mAsbL, c_5])
      · refine lv_aload_n hx hb dX2_asBefore_18 rfl (lv_at hl 2 rfl) ?_
        refine lv_iload_n hx hb dX2_asBefore_19 rfl (lv_at hl 3 rfl) ?_
        refine kQVi (As := [.int co]) (rest := []) (wr := []) (W2 := (fun _ => (wN cI a pt pd ab ((mFall pt pd cN rN nv co).2.1) nw ((mFall pt pd cN rN nv co).2.2.2) th (nI cN) (nI rN) ((mFall pt pd cN rN nv co).2.2.1)))) ⟨hx, hb, hml, hown, hts⟩ (mX2_fall l D cI a pt pd ab nv nw wv th cN rN tv co hI hco _) (cwV 1 hts gX2_asBefore_X2_fall rfl rfl rfl (by decide +kernel) ⟨Nat.le_of_ble_eq_true rfl, Nat.le_of_ble_eq_true rfl⟩) hP hD hK hN hS hA [0, 1, 2, 3, 4, 5, 6] (by decide) rfl [] (by decide) rfl (by decide) [0, 1, 2, 3, 4, 5, 6] (by decide) (fun _ => rfl) [0] rfl rfl rfl rfl hl.1 rfl (Nat.le_of_ble_eq_true rfl) dX2_asBefore_20 ⟨Nat.le_of_ble_eq_true rfl, Nat.le_of_ble_eq_true rfl⟩ (fun r_7 u_7 H locs hr_7 hP hD hS => ?_)
        subst r_7
        have hP : va_P D vwCl (wN cI a pt pd ab ((mFall pt pd cN rN nv co).2.1) nw ((mFall pt pd cN rN nv co).2.2.2) th (nI cN) (nI rN) ((mFall pt pd cN rN nv co).2.2.1)) H := hP
        have hD : va_D (va_A (wN cI a pt pd ab nw kp wy th (nI cN) (nI rN) tn) sz) (wN cI a pt pd ab ((mFall pt pd cN rN nv co).2.1) nw ((mFall pt pd cN rN nv co).2.2.2) th (nI cN) (nI rN) ((mFall pt pd cN rN nv co).2.2.1)) := hD
        refine lv_pop hx hb dX2_asBefore_23 rfl ?_
        refine lv_aload_n hx hb dX2_asBefore_24 rfl (lv_at hl 2 rfl) ?_
        refine kRVi (As := []) (rest := []) ⟨hx, hb, hml, hown, hts⟩ (mX2_isAsKept l D cI a pt pd ab ((mFall pt pd cN rN nv co).2.1) nw ((mFall pt pd cN rN nv co).2.2.2) th cN rN ((mFall pt pd cN rN nv co).2.2.1)) (cwV 0 hts gX2_asBefore_X2_isAsKept rfl rfl rfl (by decide +kernel) ⟨Nat.le_of_ble_eq_true rfl, Nat.le_of_ble_eq_true rfl⟩) hP hK hN [0, 1, 2, 3, 4, 5, 6] rfl [0] rfl rfl rfl rfl hl.1 rfl (Nat.le_of_ble_eq_true rfl) dX2_asBefore_25 ⟨Nat.zero_le _, Nat.zero_le _⟩ (fun r_8 hr_8 => ?_)
        subst r_8
        refine lv_if_eq (tgt := 33) hx hb dX2_asBefore_28 (by decide) (fun c_9 => ?_) (fun c_9 => ?_)
        · simp only [ne_eq, bi_e0, Bool.not_eq_false] at c_9
          refine lv_iinc (v := (nI (k + 1))) (lv' := [(3, .int (nI (k + 1))), (2, .int told), (0, .ref (a 0)), (1, .int co)]) hx hb dX2_asBefore_33 hl (k := 0) rfl (nI_1 k) (by decide) rfl (fun ls hl => ?_)
          refine lv_goto (tgt := 8) hx hb dX2_asBefore_36 (by decide) ?_
          exact ih8 (k + 1) told ((mFall pt pd cN rN nv co).2.1) ((mFall pt pd cN rN nv co).2.2.1) ((mFall pt pd cN rN nv co).2.2.2) (by omega) (by rw [hf]; simp [mAsbL, c_5, c_9]) _ _ hP hD hS ls (lv_sub hl [0, 1, 2, 3] rfl)
        · simp only [ne_eq, bi_e0, Bool.not_eq_false] at c_9
          refine lv_iload_n hx hb dX2_asBefore_31 rfl (lv_at hl 0 rfl) ?_
          refine lv_istore_n (lv' := [(2, .int (nI k)), (3, .int (nI k)), (0, .ref (a 0)), (1, .int co)]) hx hb dX2_asBefore_32 rfl hl (by decide) rfl (fun ls hl => ?_)
          refine lv_iinc (v := (nI (k + 1))) (lv' := [(3, .int (nI (k + 1))), (2, .int (nI k)), (0, .ref (a 0)), (1, .int co)]) hx hb dX2_asBefore_33 hl (k := 1) rfl (nI_1 k) (by decide) rfl (fun ls hl => ?_)
          refine lv_goto (tgt := 8) hx hb dX2_asBefore_36 (by decide) ?_
          exact ih8 (k + 1) (nI k) ((mFall pt pd cN rN nv co).2.1) ((mFall pt pd cN rN nv co).2.2.1) ((mFall pt pd cN rN nv co).2.2.2) (by omega) (by rw [hf]; simp [mAsbL, c_5, c_9]) _ _ hP hD hS ls (lv_sub hl [0, 1, 2, 3] rfl)
  exact L8 60 1 (-1) nw tn wy (by omega) rfl _ _ hP hD hS ls (lv_sub hl [0, 1, 2, 3] rfl)
set_option maxHeartbeats 4000000 in
set_option maxRecDepth 100000 in
theorem mX2_runs (l : Launch) (D : va_G) (cI : ClassId) (a : Nat → Nat) (pt pd ab nw kp wy : Nat → Int32) (th : Int32) (cN rN : Nat) (tn : Int32) (hv : Int32) (hI : mInv cN rN pt pd ab) (hh : hv = -1 ∨ hv = 0 ∨ hv = 1) (sz : Nat) : Met l yX2_runs wsX2_runs ({ frames := 4, cells := 0, slots := 0, locals := 93 } : Room) (va_Pc [.ref (a 0), .int hv] (wPQ D [(cI, .int)] sz (wN cI a pt pd ab nw kp wy th (nI cN) (nI rN) tn))) (va_Qi (fun (zz : Int32) (_ : Unit) => zz = mRuns pt pd ab cN rN nw hv) (wB D [(cI, .int)] (va_A (wN cI a pt pd ab nw kp wy th (nI cN) (nI rN) tn) sz) (fun _ : Unit => (wN cI a pt pd ab nw nw ((mRun pt pd ab cN rN nw tn wy hv 99).2.2.2) th (nI cN) (nI rN) ((mRun pt pd ab cN rN nw tn wy hv 99).2.2.1)))) (va_A (wN cI a pt pd ab nw kp wy th (nI cN) (nI rN) tn) sz)) 0 0 (va_A (wN cI a pt pd ab nw kp wy th (nI cN) (nI rN) tn) sz) := by
  refine mQ_of (by decide) rfl (Nat.le_of_ble_eq_true rfl) ?_
  intro p e s m below meth c hx hb hr hml hown hin hts hlocks hsz hP hK hN hD hA hS ls hl
  have hown : s.vm.findClass RX2 = some m.cls := hown
  have hl : lv_has ls 3 [(0, .ref (a 0)), (1, .int hv)] := hl
  have hP : va_P D vwCl (wN cI a pt pd ab nw kp wy th (nI cN) (nI rN) tn) s.heap := hP
  refine lv_aload_n hx hb dX2_runs_0 rfl (lv_at hl 0 rfl) ?_
  refine kQVv (As := []) (rest := []) (wr := []) (W2 := (fun _ => (wN cI a pt pd ab nw nw wy th (nI cN) (nI rN) tn))) ⟨hx, hb, hml, hown, hts⟩ (mX2_keep l D cI a pt pd ab nw kp wy th cN rN tn _) (cwV 0 hts gX2_runs_X2_keep rfl rfl rfl (by decide +kernel) ⟨Nat.le_of_ble_eq_true rfl, Nat.le_of_ble_eq_true rfl⟩) hP hD hK hN hS hA [0, 1, 2, 3, 4, 5, 6] (by decide) rfl [] (by decide) rfl (by decide) [0, 1, 2, 3, 4, 5, 6] (by decide) (fun _ => rfl) [0] rfl rfl rfl rfl hl.1 rfl (Nat.le_of_ble_eq_true rfl) dX2_runs_1 ⟨Nat.le_of_ble_eq_true rfl, Nat.le_of_ble_eq_true rfl⟩ (fun u_1 H locs hr_1 hP hD hS => ?_)
  have hP : va_P D vwCl (wN cI a pt pd ab nw nw wy th (nI cN) (nI rN) tn) H := hP
  have hD : va_D (va_A (wN cI a pt pd ab nw kp wy th (nI cN) (nI rN) tn) sz) (wN cI a pt pd ab nw nw wy th (nI cN) (nI rN) tn) := hD
  refine lv_aload_n hx hb dX2_runs_4 rfl (lv_at hl 0 rfl) ?_
  refine lv_iload_n hx hb dX2_runs_5 rfl (lv_at hl 1 rfl) ?_
  refine lv_bipush (v := 99) hx hb dX2_runs_6 (by decide) ?_
  refine kQVi (As := [.int hv, .int 99]) (rest := []) (wr := []) (W2 := (fun _ => (wN cI a pt pd ab ((mRun pt pd ab cN rN nw tn wy hv 99).2.1) nw ((mRun pt pd ab cN rN nw tn wy hv 99).2.2.2) th (nI cN) (nI rN) ((mRun pt pd ab cN rN nw tn wy hv 99).2.2.1)))) ⟨hx, hb, hml, hown, hts⟩ (mX2_runFrom l D cI a pt pd ab nw nw wy th cN rN tn hv 99 hI hh _) (cwV 2 hts gX2_runs_X2_runFrom rfl rfl rfl (by decide +kernel) ⟨Nat.le_of_ble_eq_true rfl, Nat.le_of_ble_eq_true rfl⟩) hP hD hK hN hS hA [0, 1, 2, 3, 4, 5, 6] (by decide) rfl [] (by decide) rfl (by decide) [0, 1, 2, 3, 4, 5, 6] (by decide) (fun _ => rfl) [0] rfl rfl rfl rfl hl.1 rfl (Nat.le_of_ble_eq_true rfl) dX2_runs_8 ⟨Nat.le_of_ble_eq_true rfl, Nat.le_of_ble_eq_true rfl⟩ (fun r_2 u_2 H locs hr_2 hP hD hS => ?_)
  subst r_2
  have hP : va_P D vwCl (wN cI a pt pd ab ((mRun pt pd ab cN rN nw tn wy hv 99).2.1) nw ((mRun pt pd ab cN rN nw tn wy hv 99).2.2.2) th (nI cN) (nI rN) ((mRun pt pd ab cN rN nw tn wy hv 99).2.2.1)) H := hP
  have hD : va_D (va_A (wN cI a pt pd ab nw kp wy th (nI cN) (nI rN) tn) sz) (wN cI a pt pd ab ((mRun pt pd ab cN rN nw tn wy hv 99).2.1) nw ((mRun pt pd ab cN rN nw tn wy hv 99).2.2.2) th (nI cN) (nI rN) ((mRun pt pd ab cN rN nw tn wy hv 99).2.2.1)) := hD
  refine lv_istore_n (lv' := [(2, .int ((mRun pt pd ab cN rN nw tn wy hv 99).1)), (0, .ref (a 0)), (1, .int hv)]) hx hb dX2_runs_11 rfl hl (by decide) rfl (fun ls hl => ?_)
  refine lv_aload_n hx hb dX2_runs_12 rfl (lv_at hl 1 rfl) ?_
  refine kQVv (As := []) (rest := []) (wr := []) (W2 := (fun _ => (wN cI a pt pd ab nw nw ((mRun pt pd ab cN rN nw tn wy hv 99).2.2.2) th (nI cN) (nI rN) ((mRun pt pd ab cN rN nw tn wy hv 99).2.2.1)))) ⟨hx, hb, hml, hown, hts⟩ (mX2_bringBack l D cI a pt pd ab ((mRun pt pd ab cN rN nw tn wy hv 99).2.1) nw ((mRun pt pd ab cN rN nw tn wy hv 99).2.2.2) th cN rN ((mRun pt pd ab cN rN nw tn wy hv 99).2.2.1) _) (cwV 0 hts gX2_runs_X2_bringBack rfl rfl rfl (by decide +kernel) ⟨Nat.le_of_ble_eq_true rfl, Nat.le_of_ble_eq_true rfl⟩) hP hD hK hN hS hA [0, 1, 2, 3, 4, 5, 6] (by decide) rfl [] (by decide) rfl (by decide) [0, 1, 2, 3, 4, 5, 6] (by decide) (fun _ => rfl) [0] rfl rfl rfl rfl hl.1 rfl (Nat.le_of_ble_eq_true rfl) dX2_runs_13 ⟨Nat.le_of_ble_eq_true rfl, Nat.le_of_ble_eq_true rfl⟩ (fun u_3 H locs hr_3 hP hD hS => ?_)
  have hP : va_P D vwCl (wN cI a pt pd ab nw nw ((mRun pt pd ab cN rN nw tn wy hv 99).2.2.2) th (nI cN) (nI rN) ((mRun pt pd ab cN rN nw tn wy hv 99).2.2.1)) H := hP
  have hD : va_D (va_A (wN cI a pt pd ab nw kp wy th (nI cN) (nI rN) tn) sz) (wN cI a pt pd ab nw nw ((mRun pt pd ab cN rN nw tn wy hv 99).2.2.2) th (nI cN) (nI rN) ((mRun pt pd ab cN rN nw tn wy hv 99).2.2.1)) := hD
  refine lv_iload_n hx hb dX2_runs_16 rfl (lv_at hl 0 rfl) ?_
  exact eQi () hx hb hr hlocks hP hD hK hS dX2_runs_17 (by rw [mRuns_e])
theorem iw_X2_best_X2 : ∀ w ∈ wsX20, w ∈ wsX2_best := mem_pos [45, 46, 47, 48, 49, 50, 51, 52, 53, 54] (by decide +kernel)
set_option maxHeartbeats 4000000 in
set_option maxRecDepth 100000 in
theorem mX2_best (l : Launch) (D : va_G) (cI : ClassId) (a : Nat → Nat) (pt pd ab nw kp wy : Nat → Int32) (th : Int32) (cN rN : Nat) (tn : Int32) (hI : mInv cN rN pt pd ab) (sz : Nat) : Met l yX2_best wsX2_best ({ frames := 5, cells := 0, slots := 0, locals := 112 } : Room) (va_Pc [.ref (a 0)] (wPQ D [(cI, .int)] sz (wN cI a pt pd ab nw kp wy th (nI cN) (nI rN) tn))) (va_Qi (fun (zz : Int32) (u : MJ) => zz = mBest pt pd cN rN nw) (wB D [(cI, .int)] (va_A (wN cI a pt pd ab nw kp wy th (nI cN) (nI rN) tn) sz) (fun u : MJ => (wN cI a pt pd ab nw u.1 u.2.1 th (nI cN) (nI rN) u.2.2))) (va_A (wN cI a pt pd ab nw kp wy th (nI cN) (nI rN) tn) sz)) 0 0 (va_A (wN cI a pt pd ab nw kp wy th (nI cN) (nI rN) tn) sz) := by
  refine mQ_of (by decide) rfl (Nat.le_of_ble_eq_true rfl) ?_
  intro p e s m below meth c hx hb hr hml hown hin hts hlocks hsz hP hK hN hD hA hS ls hl
  have hown : s.vm.findClass RX2 = some m.cls := hown
  have hl : lv_has ls 5 [(0, .ref (a 0))] := hl
  obtain ⟨⟨hc1, hc9⟩, hr8, hz, hab⟩ := id hI
  have hP : va_P D vwCl (wN cI a pt pd ab nw kp wy th (nI cN) (nI rN) tn) s.heap := hP
  refine lv_iconst (v := 0) hx hb dX2_best_0 (by decide) ?_
  refine lv_istore_n (lv' := [(1, .int 0), (0, .ref (a 0))]) hx hb dX2_best_1 rfl hl (by decide) rfl (fun ls hl => ?_)
  refine lv_iconst (v := (-1)) hx hb dX2_best_2 (by decide) ?_
  refine lv_istore_n (lv' := [(2, .int (-1)), (1, .int 0), (0, .ref (a 0))]) hx hb dX2_best_3 rfl hl (by decide) rfl (fun ls hl => ?_)
  refine lv_iconst (v := 0) hx hb dX2_best_4 (by decide) ?_
  refine lv_istore_n (lv' := [(3, .int 0), (2, .int (-1)), (1, .int 0), (0, .ref (a 0))]) hx hb dX2_best_5 rfl hl (by decide) rfl (fun ls hl => ?_)
  have L6 : ∀ (n k : Nat) (be : Int32) (mo : Int32) (kv : Nat → Int32) (wv : Nat → Int32) (tv : Int32), k + n = cN → mBest pt pd cN rN nw = mBestL pt pd cN rN nw n k be mo → ∀ (H : Heap) (locs : List Loc), va_P D vwCl (wN cI a pt pd ab nw kv wv th (nI cN) (nI rN) tv) H → va_D (va_A (wN cI a pt pd ab nw kp wy th (nI cN) (nI rN) tn) sz) (wN cI a pt pd ab nw kv wv th (nI cN) (nI rN) tv) → va_S (va_A (wN cI a pt pd ab nw kp wy th (nI cN) (nI rN) tn) sz) s.heap H locs → ∀ ls : Array Slot, lv_has ls 5 [(3, .int (nI k)), (2, .int mo), (1, .int be), (0, .ref (a 0))] → W p l e ({ frames := 5, cells := 0, slots := 0, locals := 112 } : Room) s m [.ref (a 0)].toArray below meth c H locs 0 0 (MQ below (va_Qi (fun (zz : Int32) (u : MJ) => zz = mBest pt pd cN rN nw) (wB D [(cI, .int)] (va_A (wN cI a pt pd ab nw kp wy th (nI cN) (nI rN) tn) sz) (fun u : MJ => (wN cI a pt pd ab nw u.1 u.2.1 th (nI cN) (nI rN) u.2.2))) (va_A (wN cI a pt pd ab nw kp wy th (nI cN) (nI rN) tn) sz)) [.ref (a 0)].toArray s 0 0 (va_A (wN cI a pt pd ab nw kp wy th (nI cN) (nI rN) tn) sz)) (F0 m 6 ls []) := by
    intro n
    induction n with
    | zero =>
      intro k be mo kv wv tv hkn6 hf H locs hP hD hS ls hl
      refine lv_iload_n hx hb dX2_best_6 rfl (lv_at hl 0 rfl) ?_
      refine lv_aload_n hx hb dX2_best_7 rfl (lv_at hl 3 rfl) ?_
      refine va_get (D := D) (ci := 2) (v := .int (nI cN)) (C := RX2) (T := TX2) (N := 10) hx hb hts iw_X2_best_X2 hown hK hP 0 rfl rfl 1 (by decide) (hts (.fieldLink RX2 9 "MarbleRampsModel" "columns" "I") (mg 1 rfl)) (fun _ h9 => h9) rfl dX2_best_8 ?_
      refine lv_icmp_ge (tgt := 41) hx hb dX2_best_11 (by decide) (fun c_1 => ?_) (fun c9 => absurd (nI_le (by omega) (by omega)) c9)
      refine lv_iload_n hx hb dX2_best_41 rfl (lv_at hl 2 rfl) ?_
      exact eQi (kv, wv, tv) hx hb hr hlocks hP hD hK hS dX2_best_42 (by rw [hf]; rfl)
    | succ n ih6 =>
      intro k be mo kv wv tv hkn6 hf H locs hP hD hS ls hl
      refine lv_iload_n hx hb dX2_best_6 rfl (lv_at hl 0 rfl) ?_
      refine lv_aload_n hx hb dX2_best_7 rfl (lv_at hl 3 rfl) ?_
      refine va_get (D := D) (ci := 2) (v := .int (nI cN)) (C := RX2) (T := TX2) (N := 10) hx hb hts iw_X2_best_X2 hown hK hP 0 rfl rfl 1 (by decide) (hts (.fieldLink RX2 9 "MarbleRampsModel" "columns" "I") (mg 1 rfl)) (fun _ h9 => h9) rfl dX2_best_8 ?_
      refine lv_icmp_ge (tgt := 41) hx hb dX2_best_11 (by decide) (fun c9 => absurd c9 (nI_ge (by omega) (by omega))) (fun c_2 => ?_)
      refine lv_aload_n hx hb dX2_best_14 rfl (lv_at hl 3 rfl) ?_
      refine lv_iload_n hx hb dX2_best_15 rfl (lv_at hl 0 rfl) ?_
      refine kQVi (As := [.int (nI k)]) (rest := []) (wr := []) (W2 := (fun _ => (wN cI a pt pd ab nw nw ((mFall pt pd cN rN nw (nI k)).2.2.2) th (nI cN) (nI rN) ((mFall pt pd cN rN nw (nI k)).2.2.1)))) ⟨hx, hb, hml, hown, hts⟩ (mX2_turnedBy l D cI a pt pd ab nw kv wv th cN rN tv (nI k) hI ⟨k, by omega, rfl⟩ _) (cwV 1 hts gX2_best_X2_turnedBy rfl rfl rfl (by decide +kernel) ⟨Nat.le_of_ble_eq_true rfl, Nat.le_of_ble_eq_true rfl⟩) hP hD hK hN hS hA [0, 1, 2, 3, 4, 5, 6] (by decide) rfl [] (by decide) rfl (by decide) [0, 1, 2, 3, 4, 5, 6] (by decide) (fun _ => rfl) [0] rfl rfl rfl rfl hl.1 rfl (Nat.le_of_ble_eq_true rfl) dX2_best_16 ⟨Nat.le_of_ble_eq_true rfl, Nat.le_of_ble_eq_true rfl⟩ (fun r_3 u_3 H locs hr_3 hP hD hS => ?_)
      subst r_3
      have hP : va_P D vwCl (wN cI a pt pd ab nw nw ((mFall pt pd cN rN nw (nI k)).2.2.2) th (nI cN) (nI rN) ((mFall pt pd cN rN nw (nI k)).2.2.1)) H := hP
      have hD : va_D (va_A (wN cI a pt pd ab nw kp wy th (nI cN) (nI rN) tn) sz) (wN cI a pt pd ab nw nw ((mFall pt pd cN rN nw (nI k)).2.2.2) th (nI cN) (nI rN) ((mFall pt pd cN rN nw (nI k)).2.2.1)) := hD
      refine lv_istore (lv' := [(4, .int ((mFall pt pd cN rN nw (nI k)).2.2.1)), (3, .int (nI k)), (2, .int mo), (1, .int be), (0, .ref (a 0))]) hx hb dX2_best_19 hl (by decide) rfl (fun ls hl => ?_)
      refine lv_iload hx hb dX2_best_21 (lv_at hl 0 rfl) ?_
      refine lv_iload_n hx hb dX2_best_23 rfl (lv_at hl 2 rfl) ?_
      refine lv_icmp_gt (tgt := 30) hx hb dX2_best_24 (by decide) (fun c_4 => ?_) (fun c_4 => ?_)
      · refine lv_iload_n hx hb dX2_best_30 rfl (lv_at hl 1 rfl) ?_
        refine lv_istore_n (lv' := [(1, .int (nI k)), (4, .int ((mFall pt pd cN rN nw (nI k)).2.2.1)), (3, .int (nI k)), (2, .int mo), (0, .ref (a 0))]) hx hb dX2_best_31 rfl hl (by decide) rfl (fun ls hl => ?_)
        refine lv_iload hx hb dX2_best_32 (lv_at hl 1 rfl) ?_
        refine lv_istore_n (lv' := [(2, .int ((mFall pt pd cN rN nw (nI k)).2.2.1)), (1, .int (nI k)), (4, .int ((mFall pt pd cN rN nw (nI k)).2.2.1)), (3, .int (nI k)), (0, .ref (a 0))]) hx hb dX2_best_34 rfl hl (by decide) rfl (fun ls hl => ?_)
        refine lv_iinc (v := (nI (k + 1))) (lv' := [(3, .int (nI (k + 1))), (2, .int ((mFall pt pd cN rN nw (nI k)).2.2.1)), (1, .int (nI k)), (4, .int ((mFall pt pd cN rN nw (nI k)).2.2.1)), (0, .ref (a 0))]) hx hb dX2_best_35 hl (k := 3) rfl (nI_1 k) (by decide) rfl (fun ls hl => ?_)
        refine lv_goto (tgt := 6) hx hb dX2_best_38 (by decide) ?_
        exact ih6 (k + 1) (nI k) ((mFall pt pd cN rN nw (nI k)).2.2.1) nw ((mFall pt pd cN rN nw (nI k)).2.2.2) ((mFall pt pd cN rN nw (nI k)).2.2.1) (by omega) (by rw [hf]; simp [mBestL, c_4]) _ _ hP hD hS ls (lv_sub hl [0, 1, 2, 4] rfl)
      · refine lv_goto (tgt := 35) hx hb dX2_best_27 (by decide) ?_
        refine lv_iinc (v := (nI (k + 1))) (lv' := [(3, .int (nI (k + 1))), (4, .int ((mFall pt pd cN rN nw (nI k)).2.2.1)), (2, .int mo), (1, .int be), (0, .ref (a 0))]) hx hb dX2_best_35 hl (k := 1) rfl (nI_1 k) (by decide) rfl (fun ls hl => ?_)
        refine lv_goto (tgt := 6) hx hb dX2_best_38 (by decide) ?_
        exact ih6 (k + 1) be mo nw ((mFall pt pd cN rN nw (nI k)).2.2.2) ((mFall pt pd cN rN nw (nI k)).2.2.1) (by omega) (by rw [hf]; simp [mBestL, c_4]) _ _ hP hD hS ls (lv_sub hl [0, 2, 3, 4] rfl)
  exact L6 cN 0 0 (-1) kp wy tn (by omega) rfl _ _ hP hD hS ls (lv_sub hl [0, 1, 2, 3] rfl)
