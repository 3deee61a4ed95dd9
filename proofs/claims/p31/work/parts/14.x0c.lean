set_option maxHeartbeats 4000000 in
set_option maxRecDepth 100000 in
theorem mX1_copyCells (l : Launch) (D : va_G) (cI : ClassId) (q : Nat) (f : Nat → Int32)(nn : Nat) (hnn : nn < 2 ^ 31) (q2 : Nat) (g : Nat → Int32) (sz : Nat) : Met l yX1_copyCells wsX1_copyCells ({ frames := 1, cells := 0, slots := 0, locals := 22 } : Room) (va_Pc [.ref q, .ref q2] (wPQ D [(cI, .int)] sz (wA cI q nn f ++ wA cI q2 nn g))) (va_Qv (fun _ : Unit => True) (wB D [(cI, .int)] (va_A (wA cI q nn f ++ wA cI q2 nn g) sz) (fun _ : Unit => (wA cI q nn f ++ wA cI q2 nn f))) (va_A (wA cI q nn f ++ wA cI q2 nn g) sz)) 0 0 (va_A (wA cI q nn f ++ wA cI q2 nn g) sz) := by
  refine mQ_of (by decide) rfl (Nat.le_of_ble_eq_true rfl) ?_
  intro p e s m below meth c hx hb hr hml hown hin hts hlocks hsz hP hK hN hD hA hS ls hl
  have hown : s.vm.findClass RX1 = some m.cls := hown
  have hl : lv_has ls 3 [(0, .ref q), (1, .ref q2)] := hl
  have hP : va_P D vwCl (wA cI q nn f ++ wA cI q2 nn g) s.heap := hP
  refine lv_iconst (v := 0) hx hb dX1_copyCells_0 (by decide) ?_
  refine lv_istore_n (lv' := [(2, .int 0), (0, .ref q), (1, .ref q2)]) hx hb dX1_copyCells_1 rfl hl (by decide) rfl (fun ls hl => ?_)
  have L2 : ∀ (n k : Nat) (gv : Nat → Int32), k + n = nn → (∀ j, j < k → gv j = f j) → ∀ (H : Heap) (locs : List Loc), va_P D vwCl (wA cI q nn f ++ wA cI q2 nn gv) H → va_D (va_A (wA cI q nn f ++ wA cI q2 nn g) sz) (wA cI q nn f ++ wA cI q2 nn gv) → va_S (va_A (wA cI q nn f ++ wA cI q2 nn g) sz) s.heap H locs → ∀ ls : Array Slot, lv_has ls 3 [(2, .int (nI k)), (0, .ref q), (1, .ref q2)] → W p l e ({ frames := 1, cells := 0, slots := 0, locals := 22 } : Room) s m [.ref q, .ref q2].toArray below meth c H locs 0 0 (MQ below (va_Qv (fun _ : Unit => True) (wB D [(cI, .int)] (va_A (wA cI q nn f ++ wA cI q2 nn g) sz) (fun _ : Unit => (wA cI q nn f ++ wA cI q2 nn f))) (va_A (wA cI q nn f ++ wA cI q2 nn g) sz)) [.ref q, .ref q2].toArray s 0 0 (va_A (wA cI q nn f ++ wA cI q2 nn g) sz)) (F0 m 2 ls []) := by
    intro n
    induction n with
    | zero =>
      intro k gv hkn2 hg H locs hP hD hS ls hl
      refine lv_iload_n hx hb dX1_copyCells_2 rfl (lv_at hl 0 rfl) ?_
      refine lv_aload_n hx hb dX1_copyCells_3 rfl (lv_at hl 1 rfl) ?_
      refine va_alen hx hb hK hP 0 0 rfl rfl (v := (nI nn)) rfl dX1_copyCells_4 ?_
      refine lv_icmp_ge (tgt := 22) hx hb dX1_copyCells_5 (by decide) (fun c_1 => ?_) (fun c9 => absurd (nI_le (by omega) (by omega)) c9)
      have hP : va_P D vwCl (wA cI q nn f ++ wA cI q2 nn f) H := hP.ext 1 rfl (fun j hj => hg j (by omega)) rfl
      have hD : va_D (va_A (wA cI q nn f ++ wA cI q2 nn g) sz) (wA cI q nn f ++ wA cI q2 nn f) := hD.set (p := 1) rfl
      exact eQv () hx hb hr hlocks hP hD hK hS dX1_copyCells_22 (trivial)
    | succ n ih2 =>
      intro k gv hkn2 hg H locs hP hD hS ls hl
      refine lv_iload_n hx hb dX1_copyCells_2 rfl (lv_at hl 0 rfl) ?_
      refine lv_aload_n hx hb dX1_copyCells_3 rfl (lv_at hl 1 rfl) ?_
      refine va_alen hx hb hK hP 0 0 rfl rfl (v := (nI nn)) rfl dX1_copyCells_4 ?_
      refine lv_icmp_ge (tgt := 22) hx hb dX1_copyCells_5 (by decide) (fun c9 => absurd c9 (nI_ge (by omega) hnn)) (fun c_2 => ?_)
      refine lv_aload_n hx hb dX1_copyCells_8 rfl (lv_at hl 2 rfl) ?_
      refine lv_iload_n hx hb dX1_copyCells_9 rfl (lv_at hl 0 rfl) ?_
      refine lv_aload_n hx hb dX1_copyCells_10 rfl (lv_at hl 1 rfl) ?_
      refine lv_iload_n hx hb dX1_copyCells_11 rfl (lv_at hl 0 rfl) ?_
      refine va_iald hx hb hK hP 0 0 rfl rfl (vp_in_nI (by omega) hnn) dX1_copyCells_12 ?_
      rw [nI_clamp (show k < 2 ^ 31 by omega)]
      refine kQSv (As := [.ref q2, .int (nI k), .int (f k)]) (rest := []) (wr := [(q, .inl (cI, nn, .inl f))]) (W2 := (fun _ => (wA cI q nn f ++ wA cI q2 nn ((xsc nn gv (nI k) (f k)))))) ⟨hx, hb, hml, hown, hts⟩ (mX1_setCell l D cI q2 gv nn hnn (nI k) (f k) _) (va_cwS 3 hts gX1_copyCells_X1_setCell rfl rfl rfl (by decide +kernel) ⟨Nat.le_of_ble_eq_true rfl, Nat.le_of_ble_eq_true rfl⟩) hP hD hK hN hS hA [1] (by decide) rfl [0] (by decide) rfl (by decide) [0, 1] (by decide) (fun _ => rfl) [0] rfl rfl hl.1 rfl (Nat.le_of_ble_eq_true rfl) dX1_copyCells_13 ⟨Nat.le_of_ble_eq_true rfl, Nat.le_of_ble_eq_true rfl⟩ (fun u_3 H locs hr_3 hP hD hS => ?_)
      have hP : va_P D vwCl (wA cI q nn f ++ wA cI q2 nn ((xsc nn gv (nI k) (f k)))) H := hP
      have hD : va_D (va_A (wA cI q nn f ++ wA cI q2 nn g) sz) (wA cI q nn f ++ wA cI q2 nn ((xsc nn gv (nI k) (f k)))) := hD
      refine lv_iinc (v := (nI (k + 1))) (lv' := [(2, .int (nI (k + 1))), (0, .ref q), (1, .ref q2)]) hx hb dX1_copyCells_16 hl (k := 0) rfl (nI_1 k) (by decide) rfl (fun ls hl => ?_)
      refine lv_goto (tgt := 2) hx hb dX1_copyCells_19 (by decide) ?_
      exact ih2 (k + 1) (xsc nn gv (nI k) (f k)) (by omega) (xsc_fill hnn (by omega) hg) _ _ hP hD hS ls (lv_sub hl [0, 1, 2] rfl)
  exact L2 nn 0 g (by omega) (fun j hj => absurd hj (Nat.not_lt_zero j)) _ _ hP hD hS ls (lv_sub hl [0, 1, 2] rfl)
set_option maxHeartbeats 4000000 in
set_option maxRecDepth 100000 in
theorem mJ7_fill_53178 (l : Launch) (D : va_G) (cI : ClassId) (q : Nat) (f : Nat → Int32)(nn : Nat) (hnn : nn < 2 ^ 31) (v : Int32) (sz : Nat) : Met l yJ7_fill_53178 wsJ7_fill_53178 ({ frames := 0, cells := 0, slots := 0, locals := 0 } : Room) (va_Pc [.ref q, .int v] (wPQ D [(cI, .int)] sz (wA cI q nn f))) (va_Qv (fun _ : Unit => True) (wB D [(cI, .int)] (va_A (wA cI q nn f) sz) (fun _ : Unit => (wA cI q nn ((fun _ => v))))) (va_A (wA cI q nn f) sz)) 0 0 (va_A (wA cI q nn f) sz) := by
  refine mQ_of (by decide) rfl (Nat.le_of_ble_eq_true rfl) ?_
  intro p e s m below meth c hx hb hr hml hown hin hts hlocks hsz hP hK hN hD hA hS ls hl
  have hown : s.vm.findClass RJ7 = some m.cls := hown
  have hl : lv_has ls 4 [(0, .ref q), (1, .int v)] := hl
  have hP : va_P D vwCl (wA cI q nn f) s.heap := hP
  refine lv_iconst (v := 0) hx hb dJ7_fill_53178_0 (by decide) ?_
  refine lv_istore_n (lv' := [(2, .int 0), (0, .ref q), (1, .int v)]) hx hb dJ7_fill_53178_1 rfl hl (by decide) rfl (fun ls hl => ?_)
  refine lv_aload_n hx hb dJ7_fill_53178_2 rfl (lv_at hl 1 rfl) ?_
  refine va_alen hx hb hK hP 0 0 rfl rfl (v := (nI nn)) rfl dJ7_fill_53178_3 ?_
  refine lv_istore_n (lv' := [(3, .int (nI nn)), (2, .int 0), (0, .ref q), (1, .int v)]) hx hb dJ7_fill_53178_4 rfl hl (by decide) rfl (fun ls hl => ?_)
  have L5 : ∀ (n k : Nat) (gv : Nat → Int32), k + n = nn → (∀ j, j < k → gv j = v) → ∀ (H : Heap) (locs : List Loc), va_P D vwCl (wA cI q nn gv) H → va_D (va_A (wA cI q nn f) sz) (wA cI q nn gv) → va_S (va_A (wA cI q nn f) sz) s.heap H locs → ∀ ls : Array Slot, lv_has ls 4 [(3, .int (nI nn)), (2, .int (nI k)), (0, .ref q), (1, .int v)] → W p l e ({ frames := 0, cells := 0, slots := 0, locals := 0 } : Room) s m [.ref q, .int v].toArray below meth c H locs 0 0 (MQ below (va_Qv (fun _ : Unit => True) (wB D [(cI, .int)] (va_A (wA cI q nn f) sz) (fun _ : Unit => (wA cI q nn ((fun _ => v))))) (va_A (wA cI q nn f) sz)) [.ref q, .int v].toArray s 0 0 (va_A (wA cI q nn f) sz)) (F0 m 5 ls []) := by
    intro n
    induction n with
    | zero =>
      intro k gv hkn5 hg H locs hP hD hS ls hl
      refine lv_iload_n hx hb dJ7_fill_53178_5 rfl (lv_at hl 1 rfl) ?_
      refine lv_iload_n hx hb dJ7_fill_53178_6 rfl (lv_at hl 0 rfl) ?_
      refine lv_icmp_ge (tgt := 20) hx hb dJ7_fill_53178_7 (by decide) (fun c_1 => ?_) (fun c9 => absurd (nI_le (by omega) (by omega)) c9)
      have hP : va_P D vwCl (wA cI q nn ((fun _ => v))) H := hP.ext 0 rfl (fun j hj => hg j (by omega)) rfl
      have hD : va_D (va_A (wA cI q nn f) sz) (wA cI q nn ((fun _ => v))) := hD.set (p := 0) rfl
      exact eQv () hx hb hr hlocks hP hD hK hS dJ7_fill_53178_20 (trivial)
    | succ n ih5 =>
      intro k gv hkn5 hg H locs hP hD hS ls hl
      refine lv_iload_n hx hb dJ7_fill_53178_5 rfl (lv_at hl 1 rfl) ?_
      refine lv_iload_n hx hb dJ7_fill_53178_6 rfl (lv_at hl 0 rfl) ?_
      refine lv_icmp_ge (tgt := 20) hx hb dJ7_fill_53178_7 (by decide) (fun c9 => absurd c9 (nI_ge (by omega) hnn)) (fun c_2 => ?_)
      refine lv_aload_n hx hb dJ7_fill_53178_10 rfl (lv_at hl 2 rfl) ?_
      refine lv_iload_n hx hb dJ7_fill_53178_11 rfl (lv_at hl 1 rfl) ?_
      refine lv_iload_n hx hb dJ7_fill_53178_12 rfl (lv_at hl 3 rfl) ?_
      refine va_iast hx hb hK hP hD hS 0 0 rfl rfl (vp_in_nI (by omega) hnn) dJ7_fill_53178_13 (fun H locs hP hD hS => ?_)
      rw [nI_clamp (show k < 2 ^ 31 by omega)] at hP hD
      have hP : va_P D vwCl (wA cI q nn ((upd gv k v))) H := hP
      have hD : va_D (va_A (wA cI q nn f) sz) (wA cI q nn ((upd gv k v))) := hD
      refine lv_iinc (v := (nI (k + 1))) (lv' := [(2, .int (nI (k + 1))), (3, .int (nI nn)), (0, .ref q), (1, .int v)]) hx hb dJ7_fill_53178_14 hl (k := 1) rfl (nI_1 k) (by decide) rfl (fun ls hl => ?_)
      refine lv_goto (tgt := 5) hx hb dJ7_fill_53178_17 (by decide) ?_
      exact ih5 (k + 1) (upd gv k v) (by omega) (upd_fill hg) _ _ hP hD hS ls (lv_sub hl [1, 0, 2, 3] rfl)
  exact L5 nn 0 f (by omega) (fun j hj => absurd hj (Nat.not_lt_zero j)) _ _ hP hD hS ls (lv_sub hl [0, 1, 2, 3] rfl)
theorem iw_X0_becomeLike_X0 : ∀ w ∈ wsX00, w ∈ wsX0_becomeLike := mem_pos [16, 17, 18, 19, 20, 21, 22, 23, 24] (by decide +kernel)
set_option maxHeartbeats 4000000 in
set_option maxRecDepth 100000 in
theorem mX0_becomeLike (l : Launch) (D : va_G) (cI : ClassId) (a : Nat → Nat) (pa pe st bn hc hm : Nat → Int32) (C R lo : Int32) (b : Nat → Nat) (pa2 pe2 st2 bn2 hc2 hm2 : Nat → Int32) (C2 R2 lo2 : Int32) (sz : Nat) : Met l yX0_becomeLike wsX0_becomeLike ({ frames := 2, cells := 0, slots := 0, locals := 44 } : Room) (va_Pc [.ref (a 0), .ref (b 0)] (wPQ D [(cI, .int)] sz (wM cI a pa pe st bn hc hm C R lo ++ wM cI b pa2 pe2 st2 bn2 hc2 hm2 C2 R2 lo2))) (va_Qv (fun _ : Unit => True) (wB D [(cI, .int)] (va_A (wM cI a pa pe st bn hc hm C R lo ++ wM cI b pa2 pe2 st2 bn2 hc2 hm2 C2 R2 lo2) sz) (fun _ : Unit => (wM cI a pa2 pe2 st2 bn2 hc2 hm2 C2 R2 lo2 ++ wM cI b pa2 pe2 st2 bn2 hc2 hm2 C2 R2 lo2))) (va_A (wM cI a pa pe st bn hc hm C R lo ++ wM cI b pa2 pe2 st2 bn2 hc2 hm2 C2 R2 lo2) sz)) 0 0 (va_A (wM cI a pa pe st bn hc hm C R lo ++ wM cI b pa2 pe2 st2 bn2 hc2 hm2 C2 R2 lo2) sz) := by
  refine mQ_of (by decide) rfl (Nat.le_of_ble_eq_true rfl) ?_
  intro p e s m below meth c hx hb hr hml hown hin hts hlocks hsz hP hK hN hD hA hS ls hl
  have hown : s.vm.findClass RX0 = some m.cls := hown
  have hl : lv_has ls 2 [(0, .ref (a 0)), (1, .ref (b 0))] := hl
  have hP : va_P D vwCl (wM cI a pa pe st bn hc hm C R lo ++ wM cI b pa2 pe2 st2 bn2 hc2 hm2 C2 R2 lo2) s.heap := hP
  refine lv_aload_n hx hb dX0_becomeLike_0 rfl (lv_at hl 0 rfl) ?_
  refine lv_aload_n hx hb dX0_becomeLike_1 rfl (lv_at hl 1 rfl) ?_
  refine va_get (D := D) (ci := 0) (v := .int C2) (C := RX0) (T := TX0) (N := 9) hx hb hts iw_X0_becomeLike_X0 hown hK hP 7 rfl rfl 6 (by decide) (hts (.fieldLink RX0 34 "MarbleRamps$Machine" "columnCount" "I") (mg 1 rfl)) (fun _ h9 => h9) rfl dX0_becomeLike_2 ?_
  refine va_put (D := D) (ci := 0) (v := .int C2) (ty := .int) (C := RX0) (T := TX0) (N := 9) hx hb hts iw_X0_becomeLike_X0 tyX0 tyX0_ok nmX0 hown hK hP hD hS 0 rfl rfl 6 (by decide) (hts (.fieldLink RX0 34 "MarbleRamps$Machine" "columnCount" "I") (mg 1 rfl)) (fun _ h9 => h9) rfl (by decide +kernel) rfl rfl (Nat.le_of_ble_eq_true rfl) dX0_becomeLike_5 (fun H locs hP hD hS => ?_)
  have hP : va_P D vwCl (wM cI a pa pe st bn hc hm C2 R lo ++ wM cI b pa2 pe2 st2 bn2 hc2 hm2 C2 R2 lo2) H := hP
  have hD : va_D (va_A (wM cI a pa pe st bn hc hm C R lo ++ wM cI b pa2 pe2 st2 bn2 hc2 hm2 C2 R2 lo2) sz) (wM cI a pa pe st bn hc hm C2 R lo ++ wM cI b pa2 pe2 st2 bn2 hc2 hm2 C2 R2 lo2) := hD
  refine lv_aload_n hx hb dX0_becomeLike_8 rfl (lv_at hl 0 rfl) ?_
  refine lv_aload_n hx hb dX0_becomeLike_9 rfl (lv_at hl 1 rfl) ?_
  refine va_get (D := D) (ci := 0) (v := .int R2) (C := RX0) (T := TX0) (N := 9) hx hb hts iw_X0_becomeLike_X0 hown hK hP 7 rfl rfl 7 (by decide) (hts (.fieldLink RX0 38 "MarbleRamps$Machine" "rowCount" "I") (mg 2 rfl)) (fun _ h9 => h9) rfl dX0_becomeLike_10 ?_
  refine va_put (D := D) (ci := 0) (v := .int R2) (ty := .int) (C := RX0) (T := TX0) (N := 9) hx hb hts iw_X0_becomeLike_X0 tyX0 tyX0_ok nmX0 hown hK hP hD hS 0 rfl rfl 7 (by decide) (hts (.fieldLink RX0 38 "MarbleRamps$Machine" "rowCount" "I") (mg 2 rfl)) (fun _ h9 => h9) rfl (by decide +kernel) rfl rfl (Nat.le_of_ble_eq_true rfl) dX0_becomeLike_13 (fun H locs hP hD hS => ?_)
  have hP : va_P D vwCl (wM cI a pa pe st bn hc hm C2 R2 lo ++ wM cI b pa2 pe2 st2 bn2 hc2 hm2 C2 R2 lo2) H := hP
  have hD : va_D (va_A (wM cI a pa pe st bn hc hm C R lo ++ wM cI b pa2 pe2 st2 bn2 hc2 hm2 C2 R2 lo2) sz) (wM cI a pa pe st bn hc hm C2 R2 lo ++ wM cI b pa2 pe2 st2 bn2 hc2 hm2 C2 R2 lo2) := hD
  refine lv_aload_n hx hb dX0_becomeLike_16 rfl (lv_at hl 0 rfl) ?_
  refine lv_aload_n hx hb dX0_becomeLike_17 rfl (lv_at hl 1 rfl) ?_
  refine va_get (D := D) (ci := 0) (v := .int lo2) (C := RX0) (T := TX0) (N := 9) hx hb hts iw_X0_becomeLike_X0 hown hK hP 7 rfl rfl 8 (by decide) (hts (.fieldLink RX0 41 "MarbleRamps$Machine" "lostCount" "I") (mg 3 rfl)) (fun _ h9 => h9) rfl dX0_becomeLike_18 ?_
  refine va_put (D := D) (ci := 0) (v := .int lo2) (ty := .int) (C := RX0) (T := TX0) (N := 9) hx hb hts iw_X0_becomeLike_X0 tyX0 tyX0_ok nmX0 hown hK hP hD hS 0 rfl rfl 8 (by decide) (hts (.fieldLink RX0 41 "MarbleRamps$Machine" "lostCount" "I") (mg 3 rfl)) (fun _ h9 => h9) rfl (by decide +kernel) rfl rfl (Nat.le_of_ble_eq_true rfl) dX0_becomeLike_21 (fun H locs hP hD hS => ?_)
  have hP : va_P D vwCl (wM cI a pa pe st bn hc hm C2 R2 lo2 ++ wM cI b pa2 pe2 st2 bn2 hc2 hm2 C2 R2 lo2) H := hP
  have hD : va_D (va_A (wM cI a pa pe st bn hc hm C R lo ++ wM cI b pa2 pe2 st2 bn2 hc2 hm2 C2 R2 lo2) sz) (wM cI a pa pe st bn hc hm C2 R2 lo2 ++ wM cI b pa2 pe2 st2 bn2 hc2 hm2 C2 R2 lo2) := hD
  refine lv_aload_n hx hb dX0_becomeLike_24 rfl (lv_at hl 1 rfl) ?_
  refine va_get (D := D) (ci := 0) (v := .ref (b 1)) (C := RX0) (T := TX0) (N := 9) hx hb hts iw_X0_becomeLike_X0 hown hK hP 7 rfl rfl 0 (by decide) (hts (.fieldLink RX0 9 "MarbleRamps$Machine" "parts" "[I") (mg 4 rfl)) (fun _ h9 => h9) rfl dX0_becomeLike_25 ?_
  refine lv_aload_n hx hb dX0_becomeLike_28 rfl (lv_at hl 0 rfl) ?_
  refine va_get (D := D) (ci := 0) (v := .ref (a 1)) (C := RX0) (T := TX0) (N := 9) hx hb hts iw_X0_becomeLike_X0 hown hK hP 0 rfl rfl 0 (by decide) (hts (.fieldLink RX0 9 "MarbleRamps$Machine" "parts" "[I") (mg 4 rfl)) (fun _ h9 => h9) rfl dX0_becomeLike_29 ?_
  refine kQNv (As := [.ref (b 1), .ref (a 1)]) (rest := []) (wr := [(a 0, .inr (0, [.ref (a 1), .ref (a 2), .ref (a 3), .ref (a 4), .ref (a 5), .ref (a 6), .int C2, .int R2, .int lo2])), (a 2, .inl (cI, 72, .inl pe)), (a 3, .inl (cI, 72, .inl st)), (a 4, .inl (cI, 9, .inl bn)), (a 5, .inl (cI, 2, .inl hc)), (a 6, .inl (cI, 2, .inl hm)), (b 0, .inr (0, [.ref (b 1), .ref (b 2), .ref (b 3), .ref (b 4), .ref (b 5), .ref (b 6), .int C2, .int R2, .int lo2])), (b 2, .inl (cI, 72, .inl pe2)), (b 3, .inl (cI, 72, .inl st2)), (b 4, .inl (cI, 9, .inl bn2)), (b 5, .inl (cI, 2, .inl hc2)), (b 6, .inl (cI, 2, .inl hm2))]) (W2 := (fun _ => (wM cI a pa2 pe st bn hc hm C2 R2 lo2 ++ wM cI b pa2 pe2 st2 bn2 hc2 hm2 C2 R2 lo2))) ⟨hx, hb, hml, hown, hts⟩ (mX1_copyCells l D cI (b 1) pa2 72 (by decide) (a 1) pa _) ⟨va_cnB (host := RX1) 2 hts gX0_becomeLike_X1_copyCells_n57 rfl rfl rfl hN.2.1 (hts (.initialized RX1) (mg 11 rfl)) (by decide +kernel) ⟨Nat.le_of_ble_eq_true rfl, Nat.le_of_ble_eq_true rfl⟩, hts (.static yX1_copyCells) (mg 10 rfl), trivial⟩ hP hD hK hN hS hA [8, 1] (by decide) rfl [0, 2, 3, 4, 5, 6, 7, 9, 10, 11, 12, 13] (by decide) rfl (by decide) [0, 13, 1, 2, 3, 4, 5, 6, 12, 7, 8, 9, 10, 11] (by decide) (fun _ => rfl) [0] rfl rfl hl.1 rfl (Nat.le_of_ble_eq_true rfl) dX0_becomeLike_32 ⟨Nat.le_of_ble_eq_true rfl, Nat.le_of_ble_eq_true rfl⟩ (fun u_1 H locs hr_1 hP hD hS => ?_)
  have hP : va_P D vwCl (wM cI a pa2 pe st bn hc hm C2 R2 lo2 ++ wM cI b pa2 pe2 st2 bn2 hc2 hm2 C2 R2 lo2) H := hP
  have hD : va_D (va_A (wM cI a pa pe st bn hc hm C R lo ++ wM cI b pa2 pe2 st2 bn2 hc2 hm2 C2 R2 lo2) sz) (wM cI a pa2 pe st bn hc hm C2 R2 lo2 ++ wM cI b pa2 pe2 st2 bn2 hc2 hm2 C2 R2 lo2) := hD
  refine lv_aload_n hx hb dX0_becomeLike_35 rfl (lv_at hl 1 rfl) ?_
  refine va_get (D := D) (ci := 0) (v := .ref (b 2)) (C := RX0) (T := TX0) (N := 9) hx hb hts iw_X0_becomeLike_X0 hown hK hP 7 rfl rfl 1 (by decide) (hts (.fieldLink RX0 15 "MarbleRamps$Machine" "periods" "[I") (mg 5 rfl)) (fun _ h9 => h9) rfl dX0_becomeLike_36 ?_
  refine lv_aload_n hx hb dX0_becomeLike_39 rfl (lv_at hl 0 rfl) ?_
  refine va_get (D := D) (ci := 0) (v := .ref (a 2)) (C := RX0) (T := TX0) (N := 9) hx hb hts iw_X0_becomeLike_X0 hown hK hP 0 rfl rfl 1 (by decide) (hts (.fieldLink RX0 15 "MarbleRamps$Machine" "periods" "[I") (mg 5 rfl)) (fun _ h9 => h9) rfl dX0_becomeLike_40 ?_
  refine kQNv (As := [.ref (b 2), .ref (a 2)]) (rest := []) (wr := [(a 0, .inr (0, [.ref (a 1), .ref (a 2), .ref (a 3), .ref (a 4), .ref (a 5), .ref (a 6), .int C2, .int R2, .int lo2])), (a 1, .inl (cI, 72, .inl pa2)), (a 3, .inl (cI, 72, .inl st)), (a 4, .inl (cI, 9, .inl bn)), (a 5, .inl (cI, 2, .inl hc)), (a 6, .inl (cI, 2, .inl hm)), (b 0, .inr (0, [.ref (b 1), .ref (b 2), .ref (b 3), .ref (b 4), .ref (b 5), .ref (b 6), .int C2, .int R2, .int lo2])), (b 1, .inl (cI, 72, .inl pa2)), (b 3, .inl (cI, 72, .inl st2)), (b 4, .inl (cI, 9, .inl bn2)), (b 5, .inl (cI, 2, .inl hc2)), (b 6, .inl (cI, 2, .inl hm2))]) (W2 := (fun _ => (wM cI a pa2 pe2 st bn hc hm C2 R2 lo2 ++ wM cI b pa2 pe2 st2 bn2 hc2 hm2 C2 R2 lo2))) ⟨hx, hb, hml, hown, hts⟩ (mX1_copyCells l D cI (b 2) pe2 72 (by decide) (a 2) pe _) ⟨va_cnB (host := RX1) 2 hts gX0_becomeLike_X1_copyCells_n57 rfl rfl rfl hN.2.1 (hts (.initialized RX1) (mg 11 rfl)) (by decide +kernel) ⟨Nat.le_of_ble_eq_true rfl, Nat.le_of_ble_eq_true rfl⟩, hts (.static yX1_copyCells) (mg 10 rfl), trivial⟩ hP hD hK hN hS hA [9, 2] (by decide) rfl [0, 1, 3, 4, 5, 6, 7, 8, 10, 11, 12, 13] (by decide) rfl (by decide) [0, 1, 13, 2, 3, 4, 5, 6, 7, 12, 8, 9, 10, 11] (by decide) (fun _ => rfl) [0] rfl rfl hl.1 rfl (Nat.le_of_ble_eq_true rfl) dX0_becomeLike_43 ⟨Nat.le_of_ble_eq_true rfl, Nat.le_of_ble_eq_true rfl⟩ (fun u_2 H locs hr_2 hP hD hS => ?_)
  have hP : va_P D vwCl (wM cI a pa2 pe2 st bn hc hm C2 R2 lo2 ++ wM cI b pa2 pe2 st2 bn2 hc2 hm2 C2 R2 lo2) H := hP
  have hD : va_D (va_A (wM cI a pa pe st bn hc hm C R lo ++ wM cI b pa2 pe2 st2 bn2 hc2 hm2 C2 R2 lo2) sz) (wM cI a pa2 pe2 st bn hc hm C2 R2 lo2 ++ wM cI b pa2 pe2 st2 bn2 hc2 hm2 C2 R2 lo2) := hD
  refine lv_aload_n hx hb dX0_becomeLike_46 rfl (lv_at hl 1 rfl) ?_
  refine va_get (D := D) (ci := 0) (v := .ref (b 3)) (C := RX0) (T := TX0) (N := 9) hx hb hts iw_X0_becomeLike_X0 hown hK hP 7 rfl rfl 2 (by decide) (hts (.fieldLink RX0 18 "MarbleRamps$Machine" "states" "[I") (mg 6 rfl)) (fun _ h9 => h9) rfl dX0_becomeLike_47 ?_
  refine lv_aload_n hx hb dX0_becomeLike_50 rfl (lv_at hl 0 rfl) ?_
  refine va_get (D := D) (ci := 0) (v := .ref (a 3)) (C := RX0) (T := TX0) (N := 9) hx hb hts iw_X0_becomeLike_X0 hown hK hP 0 rfl rfl 2 (by decide) (hts (.fieldLink RX0 18 "MarbleRamps$Machine" "states" "[I") (mg 6 rfl)) (fun _ h9 => h9) rfl dX0_becomeLike_51 ?_
  refine kQNv (As := [.ref (b 3), .ref (a 3)]) (rest := []) (wr := [(a 0, .inr (0, [.ref (a 1), .ref (a 2), .ref (a 3), .ref (a 4), .ref (a 5), .ref (a 6), .int C2, .int R2, .int lo2])), (a 1, .inl (cI, 72, .inl pa2)), (a 2, .inl (cI, 72, .inl pe2)), (a 4, .inl (cI, 9, .inl bn)), (a 5, .inl (cI, 2, .inl hc)), (a 6, .inl (cI, 2, .inl hm)), (b 0, .inr (0, [.ref (b 1), .ref (b 2), .ref (b 3), .ref (b 4), .ref (b 5), .ref (b 6), .int C2, .int R2, .int lo2])), (b 1, .inl (cI, 72, .inl pa2)), (b 2, .inl (cI, 72, .inl pe2)), (b 4, .inl (cI, 9, .inl bn2)), (b 5, .inl (cI, 2, .inl hc2)), (b 6, .inl (cI, 2, .inl hm2))]) (W2 := (fun _ => (wM cI a pa2 pe2 st2 bn hc hm C2 R2 lo2 ++ wM cI b pa2 pe2 st2 bn2 hc2 hm2 C2 R2 lo2))) ⟨hx, hb, hml, hown, hts⟩ (mX1_copyCells l D cI (b 3) st2 72 (by decide) (a 3) st _) ⟨va_cnB (host := RX1) 2 hts gX0_becomeLike_X1_copyCells_n57 rfl rfl rfl hN.2.1 (hts (.initialized RX1) (mg 11 rfl)) (by decide +kernel) ⟨Nat.le_of_ble_eq_true rfl, Nat.le_of_ble_eq_true rfl⟩, hts (.static yX1_copyCells) (mg 10 rfl), trivial⟩ hP hD hK hN hS hA [10, 3] (by decide) rfl [0, 1, 2, 4, 5, 6, 7, 8, 9, 11, 12, 13] (by decide) rfl (by decide) [0, 1, 2, 13, 3, 4, 5, 6, 7, 8, 12, 9, 10, 11] (by decide) (fun _ => rfl) [0] rfl rfl hl.1 rfl (Nat.le_of_ble_eq_true rfl) dX0_becomeLike_54 ⟨Nat.le_of_ble_eq_true rfl, Nat.le_of_ble_eq_true rfl⟩ (fun u_3 H locs hr_3 hP hD hS => ?_)
  have hP : va_P D vwCl (wM cI a pa2 pe2 st2 bn hc hm C2 R2 lo2 ++ wM cI b pa2 pe2 st2 bn2 hc2 hm2 C2 R2 lo2) H := hP
  have hD : va_D (va_A (wM cI a pa pe st bn hc hm C R lo ++ wM cI b pa2 pe2 st2 bn2 hc2 hm2 C2 R2 lo2) sz) (wM cI a pa2 pe2 st2 bn hc hm C2 R2 lo2 ++ wM cI b pa2 pe2 st2 bn2 hc2 hm2 C2 R2 lo2) := hD
  refine lv_aload_n hx hb dX0_becomeLike_57 rfl (lv_at hl 1 rfl) ?_
  refine va_get (D := D) (ci := 0) (v := .ref (b 4)) (C := RX0) (T := TX0) (N := 9) hx hb hts iw_X0_becomeLike_X0 hown hK hP 7 rfl rfl 3 (by decide) (hts (.fieldLink RX0 21 "MarbleRamps$Machine" "bins" "[I") (mg 7 rfl)) (fun _ h9 => h9) rfl dX0_becomeLike_58 ?_
  refine lv_aload_n hx hb dX0_becomeLike_61 rfl (lv_at hl 0 rfl) ?_
  refine va_get (D := D) (ci := 0) (v := .ref (a 4)) (C := RX0) (T := TX0) (N := 9) hx hb hts iw_X0_becomeLike_X0 hown hK hP 0 rfl rfl 3 (by decide) (hts (.fieldLink RX0 21 "MarbleRamps$Machine" "bins" "[I") (mg 7 rfl)) (fun _ h9 => h9) rfl dX0_becomeLike_62 ?_
  refine kQNv (As := [.ref (b 4), .ref (a 4)]) (rest := []) (wr := [(a 0, .inr (0, [.ref (a 1), .ref (a 2), .ref (a 3), .ref (a 4), .ref (a 5), .ref (a 6), .int C2, .int R2, .int lo2])), (a 1, .inl (cI, 72, .inl pa2)), (a 2, .inl (cI, 72, .inl pe2)), (a 3, .inl (cI, 72, .inl st2)), (a 5, .inl (cI, 2, .inl hc)), (a 6, .inl (cI, 2, .inl hm)), (b 0, .inr (0, [.ref (b 1), .ref (b 2), .ref (b 3), .ref (b 4), .ref (b 5), .ref (b 6), .int C2, .int R2, .int lo2])), (b 1, .inl (cI, 72, .inl pa2)), (b 2, .inl (cI, 72, .inl pe2)), (b 3, .inl (cI, 72, .inl st2)), (b 5, .inl (cI, 2, .inl hc2)), (b 6, .inl (cI, 2, .inl hm2))]) (W2 := (fun _ => (wM cI a pa2 pe2 st2 bn2 hc hm C2 R2 lo2 ++ wM cI b pa2 pe2 st2 bn2 hc2 hm2 C2 R2 lo2))) ⟨hx, hb, hml, hown, hts⟩ (mX1_copyCells l D cI (b 4) bn2 9 (by decide) (a 4) bn _) ⟨va_cnB (host := RX1) 2 hts gX0_becomeLike_X1_copyCells_n57 rfl rfl rfl hN.2.1 (hts (.initialized RX1) (mg 11 rfl)) (by decide +kernel) ⟨Nat.le_of_ble_eq_true rfl, Nat.le_of_ble_eq_true rfl⟩, hts (.static yX1_copyCells) (mg 10 rfl), trivial⟩ hP hD hK hN hS hA [11, 4] (by decide) rfl [0, 1, 2, 3, 5, 6, 7, 8, 9, 10, 12, 13] (by decide) rfl (by decide) [0, 1, 2, 3, 13, 4, 5, 6, 7, 8, 9, 12, 10, 11] (by decide) (fun _ => rfl) [0] rfl rfl hl.1 rfl (Nat.le_of_ble_eq_true rfl) dX0_becomeLike_65 ⟨Nat.le_of_ble_eq_true rfl, Nat.le_of_ble_eq_true rfl⟩ (fun u_4 H locs hr_4 hP hD hS => ?_)
  have hP : va_P D vwCl (wM cI a pa2 pe2 st2 bn2 hc hm C2 R2 lo2 ++ wM cI b pa2 pe2 st2 bn2 hc2 hm2 C2 R2 lo2) H := hP
  have hD : va_D (va_A (wM cI a pa pe st bn hc hm C R lo ++ wM cI b pa2 pe2 st2 bn2 hc2 hm2 C2 R2 lo2) sz) (wM cI a pa2 pe2 st2 bn2 hc hm C2 R2 lo2 ++ wM cI b pa2 pe2 st2 bn2 hc2 hm2 C2 R2 lo2) := hD
  refine lv_aload_n hx hb dX0_becomeLike_68 rfl (lv_at hl 1 rfl) ?_
  refine va_get (D := D) (ci := 0) (v := .ref (b 5)) (C := RX0) (T := TX0) (N := 9) hx hb hts iw_X0_becomeLike_X0 hown hK hP 7 rfl rfl 4 (by decide) (hts (.fieldLink RX0 24 "MarbleRamps$Machine" "hopperColumns" "[I") (mg 8 rfl)) (fun _ h9 => h9) rfl dX0_becomeLike_69 ?_
  refine lv_aload_n hx hb dX0_becomeLike_72 rfl (lv_at hl 0 rfl) ?_
  refine va_get (D := D) (ci := 0) (v := .ref (a 5)) (C := RX0) (T := TX0) (N := 9) hx hb hts iw_X0_becomeLike_X0 hown hK hP 0 rfl rfl 4 (by decide) (hts (.fieldLink RX0 24 "MarbleRamps$Machine" "hopperColumns" "[I") (mg 8 rfl)) (fun _ h9 => h9) rfl dX0_becomeLike_73 ?_
  refine kQNv (As := [.ref (b 5), .ref (a 5)]) (rest := []) (wr := [(a 0, .inr (0, [.ref (a 1), .ref (a 2), .ref (a 3), .ref (a 4), .ref (a 5), .ref (a 6), .int C2, .int R2, .int lo2])), (a 1, .inl (cI, 72, .inl pa2)), (a 2, .inl (cI, 72, .inl pe2)), (a 3, .inl (cI, 72, .inl st2)), (a 4, .inl (cI, 9, .inl bn2)), (a 6, .inl (cI, 2, .inl hm)), (b 0, .inr (0, [.ref (b 1), .ref (b 2), .ref (b 3), .ref (b 4), .ref (b 5), .ref (b 6), .int C2, .int R2, .int lo2])), (b 1, .inl (cI, 72, .inl pa2)), (b 2, .inl (cI, 72, .inl pe2)), (b 3, .inl (cI, 72, .inl st2)), (b 4, .inl (cI, 9, .inl bn2)), (b 6, .inl (cI, 2, .inl hm2))]) (W2 := (fun _ => (wM cI a pa2 pe2 st2 bn2 hc2 hm C2 R2 lo2 ++ wM cI b pa2 pe2 st2 bn2 hc2 hm2 C2 R2 lo2))) ⟨hx, hb, hml, hown, hts⟩ (mX1_copyCells l D cI (b 5) hc2 2 (by decide) (a 5) hc _) ⟨va_cnB (host := RX1) 2 hts gX0_becomeLike_X1_copyCells_n57 rfl rfl rfl hN.2.1 (hts (.initialized RX1) (mg 11 rfl)) (by decide +kernel) ⟨Nat.le_of_ble_eq_true rfl, Nat.le_of_ble_eq_true rfl⟩, hts (.static yX1_copyCells) (mg 10 rfl), trivial⟩ hP hD hK hN hS hA [12, 5] (by decide) rfl [0, 1, 2, 3, 4, 6, 7, 8, 9, 10, 11, 13] (by decide) rfl (by decide) [0, 1, 2, 3, 4, 13, 5, 6, 7, 8, 9, 10, 12, 11] (by decide) (fun _ => rfl) [0] rfl rfl hl.1 rfl (Nat.le_of_ble_eq_true rfl) dX0_becomeLike_76 ⟨Nat.le_of_ble_eq_true rfl, Nat.le_of_ble_eq_true rfl⟩ (fun u_5 H locs hr_5 hP hD hS => ?_)
  have hP : va_P D vwCl (wM cI a pa2 pe2 st2 bn2 hc2 hm C2 R2 lo2 ++ wM cI b pa2 pe2 st2 bn2 hc2 hm2 C2 R2 lo2) H := hP
  have hD : va_D (va_A (wM cI a pa pe st bn hc hm C R lo ++ wM cI b pa2 pe2 st2 bn2 hc2 hm2 C2 R2 lo2) sz) (wM cI a pa2 pe2 st2 bn2 hc2 hm C2 R2 lo2 ++ wM cI b pa2 pe2 st2 bn2 hc2 hm2 C2 R2 lo2) := hD
  refine lv_aload_n hx hb dX0_becomeLike_79 rfl (lv_at hl 1 rfl) ?_
  refine va_get (D := D) (ci := 0) (v := .ref (b 6)) (C := RX0) (T := TX0) (N := 9) hx hb hts iw_X0_becomeLike_X0 hown hK hP 7 rfl rfl 5 (by decide) (hts (.fieldLink RX0 27 "MarbleRamps$Machine" "hopperMarbles" "[I") (mg 9 rfl)) (fun _ h9 => h9) rfl dX0_becomeLike_80 ?_
  refine lv_aload_n hx hb dX0_becomeLike_83 rfl (lv_at hl 0 rfl) ?_
  refine va_get (D := D) (ci := 0) (v := .ref (a 6)) (C := RX0) (T := TX0) (N := 9) hx hb hts iw_X0_becomeLike_X0 hown hK hP 0 rfl rfl 5 (by decide) (hts (.fieldLink RX0 27 "MarbleRamps$Machine" "hopperMarbles" "[I") (mg 9 rfl)) (fun _ h9 => h9) rfl dX0_becomeLike_84 ?_
  refine kQNv (As := [.ref (b 6), .ref (a 6)]) (rest := []) (wr := [(a 0, .inr (0, [.ref (a 1), .ref (a 2), .ref (a 3), .ref (a 4), .ref (a 5), .ref (a 6), .int C2, .int R2, .int lo2])), (a 1, .inl (cI, 72, .inl pa2)), (a 2, .inl (cI, 72, .inl pe2)), (a 3, .inl (cI, 72, .inl st2)), (a 4, .inl (cI, 9, .inl bn2)), (a 5, .inl (cI, 2, .inl hc2)), (b 0, .inr (0, [.ref (b 1), .ref (b 2), .ref (b 3), .ref (b 4), .ref (b 5), .ref (b 6), .int C2, .int R2, .int lo2])), (b 1, .inl (cI, 72, .inl pa2)), (b 2, .inl (cI, 72, .inl pe2)), (b 3, .inl (cI, 72, .inl st2)), (b 4, .inl (cI, 9, .inl bn2)), (b 5, .inl (cI, 2, .inl hc2))]) (W2 := (fun _ => (wM cI a pa2 pe2 st2 bn2 hc2 hm2 C2 R2 lo2 ++ wM cI b pa2 pe2 st2 bn2 hc2 hm2 C2 R2 lo2))) ⟨hx, hb, hml, hown, hts⟩ (mX1_copyCells l D cI (b 6) hm2 2 (by decide) (a 6) hm _) ⟨va_cnB (host := RX1) 2 hts gX0_becomeLike_X1_copyCells_n57 rfl rfl rfl hN.2.1 (hts (.initialized RX1) (mg 11 rfl)) (by decide +kernel) ⟨Nat.le_of_ble_eq_true rfl, Nat.le_of_ble_eq_true rfl⟩, hts (.static yX1_copyCells) (mg 10 rfl), trivial⟩ hP hD hK hN hS hA [13, 6] (by decide) rfl [0, 1, 2, 3, 4, 5, 7, 8, 9, 10, 11, 12] (by decide) rfl (by decide) [0, 1, 2, 3, 4, 5, 13, 6, 7, 8, 9, 10, 11, 12] (by decide) (fun _ => rfl) [0] rfl rfl hl.1 rfl (Nat.le_of_ble_eq_true rfl) dX0_becomeLike_87 ⟨Nat.le_of_ble_eq_true rfl, Nat.le_of_ble_eq_true rfl⟩ (fun u_6 H locs hr_6 hP hD hS => ?_)
  have hP : va_P D vwCl (wM cI a pa2 pe2 st2 bn2 hc2 hm2 C2 R2 lo2 ++ wM cI b pa2 pe2 st2 bn2 hc2 hm2 C2 R2 lo2) H := hP
  have hD : va_D (va_A (wM cI a pa pe st bn hc hm C R lo ++ wM cI b pa2 pe2 st2 bn2 hc2 hm2 C2 R2 lo2) sz) (wM cI a pa2 pe2 st2 bn2 hc2 hm2 C2 R2 lo2 ++ wM cI b pa2 pe2 st2 bn2 hc2 hm2 C2 R2 lo2) := hD
  exact eQv () hx hb hr hlocks hP hD hK hS dX0_becomeLike_90 (trivial)
theorem iw_X0_clearBins_X0 : ∀ w ∈ wsX00, w ∈ wsX0_clearBins := mem_pos [6, 7, 8, 9, 10, 11, 12, 13, 14] (by decide +kernel)
set_option maxHeartbeats 4000000 in
set_option maxRecDepth 100000 in
theorem mX0_clearBins (l : Launch) (D : va_G) (cI : ClassId) (a : Nat → Nat) (pa pe st bn hc hm : Nat → Int32) (C R lo : Int32) (sz : Nat) : Met l yX0_clearBins wsX0_clearBins ({ frames := 1, cells := 0, slots := 0, locals := 23 } : Room) (va_Pc [.ref (a 0)] (wPQ D [(cI, .int)] sz (wM cI a pa pe st bn hc hm C R lo))) (va_Qv (fun _ : Unit => True) (wB D [(cI, .int)] (va_A (wM cI a pa pe st bn hc hm C R lo) sz) (fun _ : Unit => (wM cI a pa pe st ((fun _ => 0)) hc hm C R lo))) (va_A (wM cI a pa pe st bn hc hm C R lo) sz)) 0 0 (va_A (wM cI a pa pe st bn hc hm C R lo) sz) := by
  refine mQ_of (by decide) rfl (Nat.le_of_ble_eq_true rfl) ?_
  intro p e s m below meth c hx hb hr hml hown hin hts hlocks hsz hP hK hN hD hA hS ls hl
  have hown : s.vm.findClass RX0 = some m.cls := hown
  have hl : lv_has ls 1 [(0, .ref (a 0))] := hl
  have hP : va_P D vwCl (wM cI a pa pe st bn hc hm C R lo) s.heap := hP
  refine lv_aload_n hx hb dX0_clearBins_0 rfl (lv_at hl 0 rfl) ?_
  refine va_get (D := D) (ci := 0) (v := .ref (a 4)) (C := RX0) (T := TX0) (N := 9) hx hb hts iw_X0_clearBins_X0 hown hK hP 0 rfl rfl 3 (by decide) (hts (.fieldLink RX0 21 "MarbleRamps$Machine" "bins" "[I") (mg 1 rfl)) (fun _ h9 => h9) rfl dX0_clearBins_1 ?_
  refine lv_iconst (v := 0) hx hb dX0_clearBins_4 (by decide) ?_
  refine kQSv (As := [.ref (a 4), .int 0]) (rest := []) (wr := [(a 0, .inr (0, [.ref (a 1), .ref (a 2), .ref (a 3), .ref (a 4), .ref (a 5), .ref (a 6), .int C, .int R, .int lo])), (a 1, .inl (cI, 72, .inl pa)), (a 2, .inl (cI, 72, .inl pe)), (a 3, .inl (cI, 72, .inl st)), (a 5, .inl (cI, 2, .inl hc)), (a 6, .inl (cI, 2, .inl hm))]) (W2 := (fun _ => (wM cI a pa pe st ((fun _ => 0)) hc hm C R lo))) ⟨hx, hb, hml, hown, hts⟩ (mJ7_fill_53178 l D cI (a 4) bn 9 (by decide) 0 _) (va_cwS 2 hts gX0_clearBins_J7_fill_53178 rfl rfl rfl (by decide +kernel) ⟨Nat.le_of_ble_eq_true rfl, Nat.le_of_ble_eq_true rfl⟩) hP hD hK hN hS hA [4] (by decide) rfl [0, 1, 2, 3, 5, 6] (by decide) rfl (by decide) [0, 1, 2, 3, 6, 4, 5] (by decide) (fun _ => rfl) [0] rfl rfl hl.1 rfl (Nat.le_of_ble_eq_true rfl) dX0_clearBins_5 ⟨Nat.le_of_ble_eq_true rfl, Nat.le_of_ble_eq_true rfl⟩ (fun u_1 H locs hr_1 hP hD hS => ?_)
  have hP : va_P D vwCl (wM cI a pa pe st ((fun _ => 0)) hc hm C R lo) H := hP
  have hD : va_D (va_A (wM cI a pa pe st bn hc hm C R lo) sz) (wM cI a pa pe st ((fun _ => 0)) hc hm C R lo) := hD
  exact eQv () hx hb hr hlocks hP hD hK hS dX0_clearBins_8 (trivial)
theorem iw_X0_layBoard_X0 : ∀ w ∈ wsX00, w ∈ wsX0_layBoard := mem_pos [21, 22, 23, 24, 25, 26, 27, 28, 29] (by decide +kernel)
set_option maxHeartbeats 4000000 in
set_option maxRecDepth 100000 in
theorem mX0_layBoard (l : Launch) (D : va_G) (cI : ClassId) (a : Nat → Nat) (pa pe st bn hc hm : Nat → Int32) (C R lo : Int32) (cc rr : Int32) (sz : Nat) : Met l yX0_layBoard wsX0_layBoard ({ frames := 2, cells := 0, slots := 0, locals := 43 } : Room) (va_Pc [.ref (a 0), .int cc, .int rr] (wPQ D [(cI, .int)] sz (wM cI a pa pe st bn hc hm C R lo))) (va_Qv (fun _ : Unit => True) (wB D [(cI, .int)] (va_A (wM cI a pa pe st bn hc hm C R lo) sz) (fun _ : Unit => (wM cI a ((fun _ => 0)) ((fun _ => 0)) ((fun _ => 0)) ((fun _ => 0)) ((xsc 2 (xsc 2 hc 0 0) 1 (cc - 1))) hm cc rr 0))) (va_A (wM cI a pa pe st bn hc hm C R lo) sz)) 0 0 (va_A (wM cI a pa pe st bn hc hm C R lo) sz) := by
  refine mQ_of (by decide) rfl (Nat.le_of_ble_eq_true rfl) ?_
  intro p e s m below meth c hx hb hr hml hown hin hts hlocks hsz hP hK hN hD hA hS ls hl
  have hown : s.vm.findClass RX0 = some m.cls := hown
  have hl : lv_has ls 3 [(0, .ref (a 0)), (1, .int cc), (2, .int rr)] := hl
  have hP : va_P D vwCl (wM cI a pa pe st bn hc hm C R lo) s.heap := hP
  refine lv_aload_n hx hb dX0_layBoard_0 rfl (lv_at hl 0 rfl) ?_
  refine lv_iload_n hx hb dX0_layBoard_1 rfl (lv_at hl 1 rfl) ?_
  refine va_put (D := D) (ci := 0) (v := .int cc) (ty := .int) (C := RX0) (T := TX0) (N := 9) hx hb hts iw_X0_layBoard_X0 tyX0 tyX0_ok nmX0 hown hK hP hD hS 0 rfl rfl 6 (by decide) (hts (.fieldLink RX0 34 "MarbleRamps$Machine" "columnCount" "I") (mg 1 rfl)) (fun _ h9 => h9) rfl (by decide +kernel) rfl rfl (Nat.le_of_ble_eq_true rfl) dX0_layBoard_2 (fun H locs hP hD hS => ?_)
  have hP : va_P D vwCl (wM cI a pa pe st bn hc hm cc R lo) H := hP
  have hD : va_D (va_A (wM cI a pa pe st bn hc hm C R lo) sz) (wM cI a pa pe st bn hc hm cc R lo) := hD
  refine lv_aload_n hx hb dX0_layBoard_5 rfl (lv_at hl 0 rfl) ?_
  refine lv_iload_n hx hb dX0_layBoard_6 rfl (lv_at hl 2 rfl) ?_
  refine va_put (D := D) (ci := 0) (v := .int rr) (ty := .int) (C := RX0) (T := TX0) (N := 9) hx hb hts iw_X0_layBoard_X0 tyX0 tyX0_ok nmX0 hown hK hP hD hS 0 rfl rfl 7 (by decide) (hts (.fieldLink RX0 38 "MarbleRamps$Machine" "rowCount" "I") (mg 2 rfl)) (fun _ h9 => h9) rfl (by decide +kernel) rfl rfl (Nat.le_of_ble_eq_true rfl) dX0_layBoard_7 (fun H locs hP hD hS => ?_)
  have hP : va_P D vwCl (wM cI a pa pe st bn hc hm cc rr lo) H := hP
  have hD : va_D (va_A (wM cI a pa pe st bn hc hm C R lo) sz) (wM cI a pa pe st bn hc hm cc rr lo) := hD
  refine lv_aload_n hx hb dX0_layBoard_10 rfl (lv_at hl 0 rfl) ?_
  refine lv_iconst (v := 0) hx hb dX0_layBoard_11 (by decide) ?_
  refine va_put (D := D) (ci := 0) (v := .int 0) (ty := .int) (C := RX0) (T := TX0) (N := 9) hx hb hts iw_X0_layBoard_X0 tyX0 tyX0_ok nmX0 hown hK hP hD hS 0 rfl rfl 8 (by decide) (hts (.fieldLink RX0 41 "MarbleRamps$Machine" "lostCount" "I") (mg 3 rfl)) (fun _ h9 => h9) rfl (by decide +kernel) rfl rfl (Nat.le_of_ble_eq_true rfl) dX0_layBoard_12 (fun H locs hP hD hS => ?_)
  have hP : va_P D vwCl (wM cI a pa pe st bn hc hm cc rr 0) H := hP
  have hD : va_D (va_A (wM cI a pa pe st bn hc hm C R lo) sz) (wM cI a pa pe st bn hc hm cc rr 0) := hD
  refine lv_aload_n hx hb dX0_layBoard_15 rfl (lv_at hl 0 rfl) ?_
  refine va_get (D := D) (ci := 0) (v := .ref (a 1)) (C := RX0) (T := TX0) (N := 9) hx hb hts iw_X0_layBoard_X0 hown hK hP 0 rfl rfl 0 (by decide) (hts (.fieldLink RX0 9 "MarbleRamps$Machine" "parts" "[I") (mg 4 rfl)) (fun _ h9 => h9) rfl dX0_layBoard_16 ?_
  refine lv_iconst (v := 0) hx hb dX0_layBoard_19 (by decide) ?_
  refine kQSv (As := [.ref (a 1), .int 0]) (rest := []) (wr := [(a 0, .inr (0, [.ref (a 1), .ref (a 2), .ref (a 3), .ref (a 4), .ref (a 5), .ref (a 6), .int cc, .int rr, .int 0])), (a 2, .inl (cI, 72, .inl pe)), (a 3, .inl (cI, 72, .inl st)), (a 4, .inl (cI, 9, .inl bn)), (a 5, .inl (cI, 2, .inl hc)), (a 6, .inl (cI, 2, .inl hm))]) (W2 := (fun _ => (wM cI a ((fun _ => 0)) pe st bn hc hm cc rr 0))) ⟨hx, hb, hml, hown, hts⟩ (mJ7_fill_53178 l D cI (a 1) pa 72 (by decide) 0 _) (va_cwS 2 hts gX0_layBoard_J7_fill_53178 rfl rfl rfl (by decide +kernel) ⟨Nat.le_of_ble_eq_true rfl, Nat.le_of_ble_eq_true rfl⟩) hP hD hK hN hS hA [1] (by decide) rfl [0, 2, 3, 4, 5, 6] (by decide) rfl (by decide) [0, 6, 1, 2, 3, 4, 5] (by decide) (fun _ => rfl) [0] rfl rfl hl.1 rfl (Nat.le_of_ble_eq_true rfl) dX0_layBoard_20 ⟨Nat.le_of_ble_eq_true rfl, Nat.le_of_ble_eq_true rfl⟩ (fun u_1 H locs hr_1 hP hD hS => ?_)
  have hP : va_P D vwCl (wM cI a ((fun _ => 0)) pe st bn hc hm cc rr 0) H := hP
  have hD : va_D (va_A (wM cI a pa pe st bn hc hm C R lo) sz) (wM cI a ((fun _ => 0)) pe st bn hc hm cc rr 0) := hD
  refine lv_aload_n hx hb dX0_layBoard_23 rfl (lv_at hl 0 rfl) ?_
  refine va_get (D := D) (ci := 0) (v := .ref (a 2)) (C := RX0) (T := TX0) (N := 9) hx hb hts iw_X0_layBoard_X0 hown hK hP 0 rfl rfl 1 (by decide) (hts (.fieldLink RX0 15 "MarbleRamps$Machine" "periods" "[I") (mg 5 rfl)) (fun _ h9 => h9) rfl dX0_layBoard_24 ?_
  refine lv_iconst (v := 0) hx hb dX0_layBoard_27 (by decide) ?_
  refine kQSv (As := [.ref (a 2), .int 0]) (rest := []) (wr := [(a 0, .inr (0, [.ref (a 1), .ref (a 2), .ref (a 3), .ref (a 4), .ref (a 5), .ref (a 6), .int cc, .int rr, .int 0])), (a 1, .inl (cI, 72, .inl (fun _ => 0))), (a 3, .inl (cI, 72, .inl st)), (a 4, .inl (cI, 9, .inl bn)), (a 5, .inl (cI, 2, .inl hc)), (a 6, .inl (cI, 2, .inl hm))]) (W2 := (fun _ => (wM cI a ((fun _ => 0)) ((fun _ => 0)) st bn hc hm cc rr 0))) ⟨hx, hb, hml, hown, hts⟩ (mJ7_fill_53178 l D cI (a 2) pe 72 (by decide) 0 _) (va_cwS 2 hts gX0_layBoard_J7_fill_53178 rfl rfl rfl (by decide +kernel) ⟨Nat.le_of_ble_eq_true rfl, Nat.le_of_ble_eq_true rfl⟩) hP hD hK hN hS hA [2] (by decide) rfl [0, 1, 3, 4, 5, 6] (by decide) rfl (by decide) [0, 1, 6, 2, 3, 4, 5] (by decide) (fun _ => rfl) [0] rfl rfl hl.1 rfl (Nat.le_of_ble_eq_true rfl) dX0_layBoard_28 ⟨Nat.le_of_ble_eq_true rfl, Nat.le_of_ble_eq_true rfl⟩ (fun u_2 H locs hr_2 hP hD hS => ?_)
  have hP : va_P D vwCl (wM cI a ((fun _ => 0)) ((fun _ => 0)) st bn hc hm cc rr 0) H := hP
  have hD : va_D (va_A (wM cI a pa pe st bn hc hm C R lo) sz) (wM cI a ((fun _ => 0)) ((fun _ => 0)) st bn hc hm cc rr 0) := hD
  refine lv_aload_n hx hb dX0_layBoard_31 rfl (lv_at hl 0 rfl) ?_
  refine va_get (D := D) (ci := 0) (v := .ref (a 3)) (C := RX0) (T := TX0) (N := 9) hx hb hts iw_X0_layBoard_X0 hown hK hP 0 rfl rfl 2 (by decide) (hts (.fieldLink RX0 18 "MarbleRamps$Machine" "states" "[I") (mg 6 rfl)) (fun _ h9 => h9) rfl dX0_layBoard_32 ?_
  refine lv_iconst (v := 0) hx hb dX0_layBoard_35 (by decide) ?_
  refine kQSv (As := [.ref (a 3), .int 0]) (rest := []) (wr := [(a 0, .inr (0, [.ref (a 1), .ref (a 2), .ref (a 3), .ref (a 4), .ref (a 5), .ref (a 6), .int cc, .int rr, .int 0])), (a 1, .inl (cI, 72, .inl (fun _ => 0))), (a 2, .inl (cI, 72, .inl (fun _ => 0))), (a 4, .inl (cI, 9, .inl bn)), (a 5, .inl (cI, 2, .inl hc)), (a 6, .inl (cI, 2, .inl hm))]) (W2 := (fun _ => (wM cI a ((fun _ => 0)) ((fun _ => 0)) ((fun _ => 0)) bn hc hm cc rr 0))) ⟨hx, hb, hml, hown, hts⟩ (mJ7_fill_53178 l D cI (a 3) st 72 (by decide) 0 _) (va_cwS 2 hts gX0_layBoard_J7_fill_53178 rfl rfl rfl (by decide +kernel) ⟨Nat.le_of_ble_eq_true rfl, Nat.le_of_ble_eq_true rfl⟩) hP hD hK hN hS hA [3] (by decide) rfl [0, 1, 2, 4, 5, 6] (by decide) rfl (by decide) [0, 1, 2, 6, 3, 4, 5] (by decide) (fun _ => rfl) [0] rfl rfl hl.1 rfl (Nat.le_of_ble_eq_true rfl) dX0_layBoard_36 ⟨Nat.le_of_ble_eq_true rfl, Nat.le_of_ble_eq_true rfl⟩ (fun u_3 H locs hr_3 hP hD hS => ?_)
  have hP : va_P D vwCl (wM cI a ((fun _ => 0)) ((fun _ => 0)) ((fun _ => 0)) bn hc hm cc rr 0) H := hP
  have hD : va_D (va_A (wM cI a pa pe st bn hc hm C R lo) sz) (wM cI a ((fun _ => 0)) ((fun _ => 0)) ((fun _ => 0)) bn hc hm cc rr 0) := hD
  refine lv_aload_n hx hb dX0_layBoard_39 rfl (lv_at hl 0 rfl) ?_
  refine kQVv (As := []) (rest := []) (wr := []) (W2 := (fun _ => (wM cI a ((fun _ => 0)) ((fun _ => 0)) ((fun _ => 0)) ((fun _ => 0)) hc hm cc rr 0))) ⟨hx, hb, hml, hown, hts⟩ (mX0_clearBins l D cI a (fun _ => 0) (fun _ => 0) (fun _ => 0) bn hc hm cc rr 0 _) (cwV 0 hts gX0_layBoard_X0_clearBins rfl rfl rfl (by decide +kernel) ⟨Nat.le_of_ble_eq_true rfl, Nat.le_of_ble_eq_true rfl⟩) hP hD hK hN hS hA [0, 1, 2, 3, 4, 5, 6] (by decide) rfl [] (by decide) rfl (by decide) [0, 1, 2, 3, 4, 5, 6] (by decide) (fun _ => rfl) [0] rfl rfl rfl rfl hl.1 rfl (Nat.le_of_ble_eq_true rfl) dX0_layBoard_40 ⟨Nat.le_of_ble_eq_true rfl, Nat.le_of_ble_eq_true rfl⟩ (fun u_4 H locs hr_4 hP hD hS => ?_)
  have hP : va_P D vwCl (wM cI a ((fun _ => 0)) ((fun _ => 0)) ((fun _ => 0)) ((fun _ => 0)) hc hm cc rr 0) H := hP
  have hD : va_D (va_A (wM cI a pa pe st bn hc hm C R lo) sz) (wM cI a ((fun _ => 0)) ((fun _ => 0)) ((fun _ => 0)) ((fun _ => 0)) hc hm cc rr 0) := hD
  refine lv_aload_n hx hb dX0_layBoard_43 rfl (lv_at hl 0 rfl) ?_
  refine va_get (D := D) (ci := 0) (v := .ref (a 5)) (C := RX0) (T := TX0) (N := 9) hx hb hts iw_X0_layBoard_X0 hown hK hP 0 rfl rfl 4 (by decide) (hts (.fieldLink RX0 24 "MarbleRamps$Machine" "hopperColumns" "[I") (mg 7 rfl)) (fun _ h9 => h9) rfl dX0_layBoard_44 ?_
  refine lv_iconst (v := 0) hx hb dX0_layBoard_47 (by decide) ?_
  refine lv_iconst (v := 0) hx hb dX0_layBoard_48 (by decide) ?_
  refine kQNv (As := [.ref (a 5), .int 0, .int 0]) (rest := []) (wr := [(a 0, .inr (0, [.ref (a 1), .ref (a 2), .ref (a 3), .ref (a 4), .ref (a 5), .ref (a 6), .int cc, .int rr, .int 0])), (a 1, .inl (cI, 72, .inl (fun _ => 0))), (a 2, .inl (cI, 72, .inl (fun _ => 0))), (a 3, .inl (cI, 72, .inl (fun _ => 0))), (a 4, .inl (cI, 9, .inl (fun _ => 0))), (a 6, .inl (cI, 2, .inl hm))]) (W2 := (fun _ => (wM cI a ((fun _ => 0)) ((fun _ => 0)) ((fun _ => 0)) ((fun _ => 0)) ((xsc 2 hc 0 0)) hm cc rr 0))) ⟨hx, hb, hml, hown, hts⟩ (mX1_setCell l D cI (a 5) hc 2 (by decide) 0 0 _) ⟨va_cnB (host := RX1) 3 hts gX0_layBoard_X1_setCell_n53 rfl rfl rfl hN.1 (hts (.initialized RX1) (mg 19 rfl)) (by decide +kernel) ⟨Nat.le_of_ble_eq_true rfl, Nat.le_of_ble_eq_true rfl⟩, hts (.static yX1_setCell) (mg 18 rfl), trivial⟩ hP hD hK hN hS hA [5] (by decide) rfl [0, 1, 2, 3, 4, 6] (by decide) rfl (by decide) [0, 1, 2, 3, 4, 6, 5] (by decide) (fun _ => rfl) [0] rfl rfl hl.1 rfl (Nat.le_of_ble_eq_true rfl) dX0_layBoard_49 ⟨Nat.le_of_ble_eq_true rfl, Nat.le_of_ble_eq_true rfl⟩ (fun u_5 H locs hr_5 hP hD hS => ?_)
  have hP : va_P D vwCl (wM cI a ((fun _ => 0)) ((fun _ => 0)) ((fun _ => 0)) ((fun _ => 0)) ((xsc 2 hc 0 0)) hm cc rr 0) H := hP
  have hD : va_D (va_A (wM cI a pa pe st bn hc hm C R lo) sz) (wM cI a ((fun _ => 0)) ((fun _ => 0)) ((fun _ => 0)) ((fun _ => 0)) ((xsc 2 hc 0 0)) hm cc rr 0) := hD
  refine lv_aload_n hx hb dX0_layBoard_52 rfl (lv_at hl 0 rfl) ?_
  refine va_get (D := D) (ci := 0) (v := .ref (a 5)) (C := RX0) (T := TX0) (N := 9) hx hb hts iw_X0_layBoard_X0 hown hK hP 0 rfl rfl 4 (by decide) (hts (.fieldLink RX0 24 "MarbleRamps$Machine" "hopperColumns" "[I") (mg 7 rfl)) (fun _ h9 => h9) rfl dX0_layBoard_53 ?_
  refine lv_iconst (v := 1) hx hb dX0_layBoard_56 (by decide) ?_
  refine lv_iload_n hx hb dX0_layBoard_57 rfl (lv_at hl 1 rfl) ?_
  refine lv_iconst (v := 1) hx hb dX0_layBoard_58 (by decide) ?_
  refine lv_isub hx hb dX0_layBoard_59 ?_
  refine kQNv (As := [.ref (a 5), .int 1, .int (cc - 1)]) (rest := []) (wr := [(a 0, .inr (0, [.ref (a 1), .ref (a 2), .ref (a 3), .ref (a 4), .ref (a 5), .ref (a 6), .int cc, .int rr, .int 0])), (a 1, .inl (cI, 72, .inl (fun _ => 0))), (a 2, .inl (cI, 72, .inl (fun _ => 0))), (a 3, .inl (cI, 72, .inl (fun _ => 0))), (a 4, .inl (cI, 9, .inl (fun _ => 0))), (a 6, .inl (cI, 2, .inl hm))]) (W2 := (fun _ => (wM cI a ((fun _ => 0)) ((fun _ => 0)) ((fun _ => 0)) ((fun _ => 0)) ((xsc 2 (xsc 2 hc 0 0) 1 (cc - 1))) hm cc rr 0))) ⟨hx, hb, hml, hown, hts⟩ (mX1_setCell l D cI (a 5) (xsc 2 hc 0 0) 2 (by decide) 1 (cc - 1) _) ⟨va_cnB (host := RX1) 3 hts gX0_layBoard_X1_setCell_n53 rfl rfl rfl hN.1 (hts (.initialized RX1) (mg 19 rfl)) (by decide +kernel) ⟨Nat.le_of_ble_eq_true rfl, Nat.le_of_ble_eq_true rfl⟩, hts (.static yX1_setCell) (mg 18 rfl), trivial⟩ hP hD hK hN hS hA [5] (by decide) rfl [0, 1, 2, 3, 4, 6] (by decide) rfl (by decide) [0, 1, 2, 3, 4, 6, 5] (by decide) (fun _ => rfl) [0] rfl rfl hl.1 rfl (Nat.le_of_ble_eq_true rfl) dX0_layBoard_60 ⟨Nat.le_of_ble_eq_true rfl, Nat.le_of_ble_eq_true rfl⟩ (fun u_6 H locs hr_6 hP hD hS => ?_)
  have hP : va_P D vwCl (wM cI a ((fun _ => 0)) ((fun _ => 0)) ((fun _ => 0)) ((fun _ => 0)) ((xsc 2 (xsc 2 hc 0 0) 1 (cc - 1))) hm cc rr 0) H := hP
  have hD : va_D (va_A (wM cI a pa pe st bn hc hm C R lo) sz) (wM cI a ((fun _ => 0)) ((fun _ => 0)) ((fun _ => 0)) ((fun _ => 0)) ((xsc 2 (xsc 2 hc 0 0) 1 (cc - 1))) hm cc rr 0) := hD
  exact eQv () hx hb hr hlocks hP hD hK hS dX0_layBoard_63 (trivial)
set_option maxHeartbeats 4000000 in
set_option maxRecDepth 100000 in
theorem mX0_fallTo (l : Launch) (D : va_G) (cI : ClassId) (a : Nat → Nat) (pa pe st bn hc hm : Nat → Int32) (C R lo : Int32) (col row : Int32) (sz : Nat) : Met l yX0_fallTo wsX0_fallTo ({ frames := 2, cells := 0, slots := 0, locals := 46 } : Room) (va_Pc [.ref (a 0), .int col, .int row] (wPQ D [(cI, .int)] sz (wM cI a pa pe st bn hc hm C R lo))) (va_Qi (fun (zz : Int32) (_ : Unit) => zz = (xFall pa pe st C col row).1) (wB D [(cI, .int)] (va_A (wM cI a pa pe st bn hc hm C R lo) sz) (fun _ : Unit => (wM cI a pa pe ((xFall pa pe st C col row).2) bn hc hm C R lo))) (va_A (wM cI a pa pe st bn hc hm C R lo) sz)) 0 0 (va_A (wM cI a pa pe st bn hc hm C R lo) sz) := by
  refine mQ_of (by decide) rfl (Nat.le_of_ble_eq_true rfl) ?_
  intro p e s m below meth c hx hb hr hml hown hin hts hlocks hsz hP hK hN hD hA hS ls hl
  have hown : s.vm.findClass RX0 = some m.cls := hown
  have hl : lv_has ls 6 [(0, .ref (a 0)), (1, .int col), (2, .int row)] := hl
  have hP : va_P D vwCl (wM cI a pa pe st bn hc hm C R lo) s.heap := hP
  refine lv_iload_n hx hb dX0_fallTo_0 rfl (lv_at hl 1 rfl) ?_
  refine lv_istore_n (lv' := [(3, .int col), (0, .ref (a 0)), (1, .int col), (2, .int row)]) hx hb dX0_fallTo_1 rfl hl (by decide) rfl (fun ls hl => ?_)
  refine lv_iconst (v := 0) hx hb dX0_fallTo_2 (by decide) ?_
  refine lv_istore (lv' := [(4, .int 0), (3, .int col), (0, .ref (a 0)), (1, .int col), (2, .int row)]) hx hb dX0_fallTo_3 hl (by decide) rfl (fun ls hl => ?_)
  refine lv_iconst (v := 0) hx hb dX0_fallTo_5 (by decide) ?_
  refine lv_istore (lv' := [(5, .int 0), (4, .int 0), (3, .int col), (0, .ref (a 0)), (1, .int col), (2, .int row)]) hx hb dX0_fallTo_6 hl (by decide) rfl (fun ls hl => ?_)
  have L8 : ∀ (n k : Nat) (ca : Int32) (way : Int32) (sv : Nat → Int32), k + n = row.toNatClampNeg → xFall pa pe st C col row = xFallL pa pe C n k ca way sv → ∀ (H : Heap) (locs : List Loc), va_P D vwCl (wM cI a pa pe sv bn hc hm C R lo) H → va_D (va_A (wM cI a pa pe st bn hc hm C R lo) sz) (wM cI a pa pe sv bn hc hm C R lo) → va_S (va_A (wM cI a pa pe st bn hc hm C R lo) sz) s.heap H locs → ∀ ls : Array Slot, lv_has ls 6 [(5, .int (nI k)), (4, .int way), (3, .int ca), (0, .ref (a 0)), (1, .int col), (2, .int row)] → W p l e ({ frames := 2, cells := 0, slots := 0, locals := 46 } : Room) s m [.ref (a 0), .int col, .int row].toArray below meth c H locs 0 0 (MQ below (va_Qi (fun (zz : Int32) (_ : Unit) => zz = (xFall pa pe st C col row).1) (wB D [(cI, .int)] (va_A (wM cI a pa pe st bn hc hm C R lo) sz) (fun _ : Unit => (wM cI a pa pe ((xFall pa pe st C col row).2) bn hc hm C R lo))) (va_A (wM cI a pa pe st bn hc hm C R lo) sz)) [.ref (a 0), .int col, .int row].toArray s 0 0 (va_A (wM cI a pa pe st bn hc hm C R lo) sz)) (F0 m 8 ls []) := by
    intro n
    induction n with
    | zero =>
      intro k ca way sv hkn8 hf H locs hP hD hS ls hl
      refine lv_iload hx hb dX0_fallTo_8 (lv_at hl 0 rfl) ?_
      refine lv_iload_n hx hb dX0_fallTo_10 rfl (lv_at hl 5 rfl) ?_
      refine lv_icmp_ge (tgt := 50) hx hb dX0_fallTo_11 (by decide) (fun c_1 => ?_) (fun c9 => absurd (by rw [lc_le (by have := clampLt row; omega)]; omega) c9)
      refine lv_iload_n hx hb dX0_fallTo_50 rfl (lv_at hl 2 rfl) ?_
      have hP : va_P D vwCl (wM cI a pa pe ((xFall pa pe st C col row).2) bn hc hm C R lo) H := by rw [hf]; simp only [xFallL]; exact hP
      have hD : va_D (va_A (wM cI a pa pe st bn hc hm C R lo) sz) (wM cI a pa pe ((xFall pa pe st C col row).2) bn hc hm C R lo) := by rw [hf]; simp only [xFallL]; exact hD
      exact eQi () hx hb hr hlocks hP hD hK hS dX0_fallTo_51 (by rw [hf]; rfl)
    | succ n ih8 =>
      intro k ca way sv hkn8 hf H locs hP hD hS ls hl
      refine lv_iload hx hb dX0_fallTo_8 (lv_at hl 0 rfl) ?_
      refine lv_iload_n hx hb dX0_fallTo_10 rfl (lv_at hl 5 rfl) ?_
      refine lv_icmp_ge (tgt := 50) hx hb dX0_fallTo_11 (by decide) (fun c9 => absurd c9 (by rw [lc_le (by have := clampLt row; omega)]; omega)) (fun c_2 => ?_)
      refine lv_aload_n hx hb dX0_fallTo_14 rfl (lv_at hl 3 rfl) ?_
      refine lv_aload_n hx hb dX0_fallTo_15 rfl (lv_at hl 3 rfl) ?_
      refine lv_iload hx hb dX0_fallTo_16 (lv_at hl 0 rfl) ?_
      refine lv_iload_n hx hb dX0_fallTo_18 rfl (lv_at hl 2 rfl) ?_
      refine kRVi (As := [.int (nI k), .int ca]) (rest := [.ref (a 0)]) ⟨hx, hb, hml, hown, hts⟩ (mX0_placeOf l D cI a pa pe sv bn hc hm C R lo (nI k) ca) (cwV 2 hts gX0_fallTo_X0_placeOf rfl rfl rfl (by decide +kernel) ⟨Nat.le_of_ble_eq_true rfl, Nat.le_of_ble_eq_true rfl⟩) hP hK hN [0, 1, 2, 3, 4, 5, 6] rfl [0] rfl rfl rfl rfl hl.1 rfl (Nat.le_of_ble_eq_true rfl) dX0_fallTo_19 ⟨Nat.zero_le _, Nat.zero_le _⟩ (fun r_3 hr_3 => ?_)
      subst r_3
      refine lv_iload hx hb dX0_fallTo_22 (lv_at hl 1 rfl) ?_
      refine kQVi (As := [.int ((nI k) * C + ca), .int way]) (rest := []) (wr := []) (W2 := (fun _ => (wM cI a pa pe ((xWay pa pe sv ((nI k) * C + ca) way).2) bn hc hm C R lo))) ⟨hx, hb, hml, hown, hts⟩ (mX0_wayOut l D cI a pa pe sv bn hc hm C R lo ((nI k) * C + ca) way _) (cwV 2 hts gX0_fallTo_X0_wayOut rfl rfl rfl (by decide +kernel) ⟨Nat.le_of_ble_eq_true rfl, Nat.le_of_ble_eq_true rfl⟩) hP hD hK hN hS hA [0, 1, 2, 3, 4, 5, 6] (by decide) rfl [] (by decide) rfl (by decide) [0, 1, 2, 3, 4, 5, 6] (by decide) (fun _ => rfl) [0] rfl rfl rfl rfl hl.1 rfl (Nat.le_of_ble_eq_true rfl) dX0_fallTo_24 ⟨Nat.le_of_ble_eq_true rfl, Nat.le_of_ble_eq_true rfl⟩ (fun r_4 u_4 H locs hr_4 hP hD hS => ?_)
      subst r_4
      have hP : va_P D vwCl (wM cI a pa pe ((xWay pa pe sv ((nI k) * C + ca) way).2) bn hc hm C R lo) H := hP
      have hD : va_D (va_A (wM cI a pa pe st bn hc hm C R lo) sz) (wM cI a pa pe ((xWay pa pe sv ((nI k) * C + ca) way).2) bn hc hm C R lo) := hD
      refine lv_istore (lv' := [(4, .int ((xWay pa pe sv ((nI k) * C + ca) way).1)), (5, .int (nI k)), (3, .int ca), (0, .ref (a 0)), (1, .int col), (2, .int row)]) hx hb dX0_fallTo_27 hl (by decide) rfl (fun ls hl => ?_)
      refine lv_iload_n hx hb dX0_fallTo_29 rfl (lv_at hl 2 rfl) ?_
      refine lv_iload hx hb dX0_fallTo_30 (lv_at hl 0 rfl) ?_
      refine lv_iadd hx hb dX0_fallTo_32 ?_
      refine lv_istore_n (lv' := [(3, .int (ca + (xWay pa pe sv ((nI k) * C + ca) way).1)), (4, .int ((xWay pa pe sv ((nI k) * C + ca) way).1)), (5, .int (nI k)), (0, .ref (a 0)), (1, .int col), (2, .int row)]) hx hb dX0_fallTo_33 rfl hl (by decide) rfl (fun ls hl => ?_)
      refine lv_aload_n hx hb dX0_fallTo_34 rfl (lv_at hl 3 rfl) ?_
      refine lv_iload_n hx hb dX0_fallTo_35 rfl (lv_at hl 0 rfl) ?_
      refine kRVi (As := [.int (ca + (xWay pa pe sv ((nI k) * C + ca) way).1)]) (rest := []) ⟨hx, hb, hml, hown, hts⟩ (mX0_hasColumn l D cI a pa pe ((xWay pa pe sv ((nI k) * C + ca) way).2) bn hc hm C R lo (ca + (xWay pa pe sv ((nI k) * C + ca) way).1)) (cwV 1 hts gX0_fallTo_X0_hasColumn rfl rfl rfl (by decide +kernel) ⟨Nat.le_of_ble_eq_true rfl, Nat.le_of_ble_eq_true rfl⟩) hP hK hN [0, 1, 2, 3, 4, 5, 6] rfl [0] rfl rfl rfl rfl hl.1 rfl (Nat.le_of_ble_eq_true rfl) dX0_fallTo_36 ⟨Nat.zero_le _, Nat.zero_le _⟩ (fun r_5 hr_5 => ?_)
      subst r_5
      refine lv_if_ne (tgt := 44) hx hb dX0_fallTo_39 (by decide) (fun c_6 => ?_) (fun c_6 => ?_)
      · simp only [ne_eq, bi_e0] at c_6
        refine lv_iinc (v := (nI (k + 1))) (lv' := [(5, .int (nI (k + 1))), (3, .int (ca + (xWay pa pe sv ((nI k) * C + ca) way).1)), (4, .int ((xWay pa pe sv ((nI k) * C + ca) way).1)), (0, .ref (a 0)), (1, .int col), (2, .int row)]) hx hb dX0_fallTo_44 hl (k := 2) rfl (nI_1 k) (by decide) rfl (fun ls hl => ?_)
        refine lv_goto (tgt := 8) hx hb dX0_fallTo_47 (by decide) ?_
        exact ih8 (k + 1) (ca + (xWay pa pe sv ((nI k) * C + ca) way).1) ((xWay pa pe sv ((nI k) * C + ca) way).1) ((xWay pa pe sv ((nI k) * C + ca) way).2) (by omega) (by rw [hf]; simp [xFallL, c_6]) _ _ hP hD hS ls (lv_sub hl [0, 2, 1, 3, 4, 5] rfl)
      · simp only [ne_eq, bi_e0] at c_6
        refine lv_iconst (v := (-1)) hx hb dX0_fallTo_42 (by decide) ?_
        have hP : va_P D vwCl (wM cI a pa pe ((xFall pa pe st C col row).2) bn hc hm C R lo) H := by rw [hf]; simp only [xFallL, c_6]; simp only [Bool.false_eq_true, if_false]; exact hP
        have hD : va_D (va_A (wM cI a pa pe st bn hc hm C R lo) sz) (wM cI a pa pe ((xFall pa pe st C col row).2) bn hc hm C R lo) := by rw [hf]; simp only [xFallL, c_6]; simp only [Bool.false_eq_true, if_false]; exact hD
        exact eQi () hx hb hr hlocks hP hD hK hS dX0_fallTo_43 (by rw [hf]; simp [xFallL, c_6])
  exact L8 row.toNatClampNeg 0 col 0 st (by omega) rfl _ _ hP hD hS ls (lv_sub hl [0, 1, 2, 3, 4, 5] rfl)
theorem iw_X0_letFall_X0 : ∀ w ∈ wsX00, w ∈ wsX0_letFall := mem_pos [30, 31, 32, 33, 34, 35, 36, 37, 38] (by decide +kernel)
set_option maxHeartbeats 4000000 in
set_option maxRecDepth 100000 in
theorem mX0_letFall (l : Launch) (D : va_G) (cI : ClassId) (a : Nat → Nat) (pa pe st bn hc hm : Nat → Int32) (C R lo : Int32) (col : Int32) (sz : Nat) : Met l yX0_letFall wsX0_letFall ({ frames := 3, cells := 0, slots := 0, locals := 71 } : Room) (va_Pc [.ref (a 0), .int col] (wPQ D [(cI, .int)] sz (wM cI a pa pe st bn hc hm C R lo))) (va_Qi (fun (zz : Int32) (_ : Unit) => zz = (xFall pa pe st C col R).1) (wB D [(cI, .int)] (va_A (wM cI a pa pe st bn hc hm C R lo) sz) (fun _ : Unit => (wM cI a pa pe ((xFall pa pe st C col R).2) ((xLandBn bn (xFall pa pe st C col R).1)) hc hm C R ((xLandLo lo (xFall pa pe st C col R).1))))) (va_A (wM cI a pa pe st bn hc hm C R lo) sz)) 0 0 (va_A (wM cI a pa pe st bn hc hm C R lo) sz) := by
  refine mQ_of (by decide) rfl (Nat.le_of_ble_eq_true rfl) ?_
  intro p e s m below meth c hx hb hr hml hown hin hts hlocks hsz hP hK hN hD hA hS ls hl
  have hown : s.vm.findClass RX0 = some m.cls := hown
  have hl : lv_has ls 3 [(0, .ref (a 0)), (1, .int col)] := hl
  have hP : va_P D vwCl (wM cI a pa pe st bn hc hm C R lo) s.heap := hP
  refine lv_aload_n hx hb dX0_letFall_0 rfl (lv_at hl 0 rfl) ?_
  refine lv_iload_n hx hb dX0_letFall_1 rfl (lv_at hl 1 rfl) ?_
  refine lv_aload_n hx hb dX0_letFall_2 rfl (lv_at hl 0 rfl) ?_
  refine va_get (D := D) (ci := 0) (v := .int R) (C := RX0) (T := TX0) (N := 9) hx hb hts iw_X0_letFall_X0 hown hK hP 0 rfl rfl 7 (by decide) (hts (.fieldLink RX0 38 "MarbleRamps$Machine" "rowCount" "I") (mg 1 rfl)) (fun _ h9 => h9) rfl dX0_letFall_3 ?_
  refine kQVi (As := [.int col, .int R]) (rest := []) (wr := []) (W2 := (fun _ => (wM cI a pa pe ((xFall pa pe st C col R).2) bn hc hm C R lo))) ⟨hx, hb, hml, hown, hts⟩ (mX0_fallTo l D cI a pa pe st bn hc hm C R lo col R _) (cwV 2 hts gX0_letFall_X0_fallTo rfl rfl rfl (by decide +kernel) ⟨Nat.le_of_ble_eq_true rfl, Nat.le_of_ble_eq_true rfl⟩) hP hD hK hN hS hA [0, 1, 2, 3, 4, 5, 6] (by decide) rfl [] (by decide) rfl (by decide) [0, 1, 2, 3, 4, 5, 6] (by decide) (fun _ => rfl) [0] rfl rfl rfl rfl hl.1 rfl (Nat.le_of_ble_eq_true rfl) dX0_letFall_6 ⟨Nat.le_of_ble_eq_true rfl, Nat.le_of_ble_eq_true rfl⟩ (fun r_1 u_1 H locs hr_1 hP hD hS => ?_)
  subst r_1
  have hP : va_P D vwCl (wM cI a pa pe ((xFall pa pe st C col R).2) bn hc hm C R lo) H := hP
  have hD : va_D (va_A (wM cI a pa pe st bn hc hm C R lo) sz) (wM cI a pa pe ((xFall pa pe st C col R).2) bn hc hm C R lo) := hD
  refine lv_istore_n (lv' := [(2, .int ((xFall pa pe st C col R).1)), (0, .ref (a 0)), (1, .int col)]) hx hb dX0_letFall_9 rfl hl (by decide) rfl (fun ls hl => ?_)
  refine lv_iload_n hx hb dX0_letFall_10 rfl (lv_at hl 0 rfl) ?_
  refine lv_iconst (v := (-1)) hx hb dX0_letFall_11 (by decide) ?_
  refine lv_icmp_ne (tgt := 28) hx hb dX0_letFall_12 (by decide) (fun c_2 => ?_) (fun c_2 => ?_)
  · refine lv_aload_n hx hb dX0_letFall_28 rfl (lv_at hl 1 rfl) ?_
    refine va_get (D := D) (ci := 0) (v := .ref (a 4)) (C := RX0) (T := TX0) (N := 9) hx hb hts iw_X0_letFall_X0 hown hK hP 0 rfl rfl 3 (by decide) (hts (.fieldLink RX0 21 "MarbleRamps$Machine" "bins" "[I") (mg 3 rfl)) (fun _ h9 => h9) rfl dX0_letFall_29 ?_
    refine lv_iload_n hx hb dX0_letFall_32 rfl (lv_at hl 0 rfl) ?_
    refine lv_aload_n hx hb dX0_letFall_33 rfl (lv_at hl 1 rfl) ?_
    refine va_get (D := D) (ci := 0) (v := .ref (a 4)) (C := RX0) (T := TX0) (N := 9) hx hb hts iw_X0_letFall_X0 hown hK hP 0 rfl rfl 3 (by decide) (hts (.fieldLink RX0 21 "MarbleRamps$Machine" "bins" "[I") (mg 3 rfl)) (fun _ h9 => h9) rfl dX0_letFall_34 ?_
    refine lv_iload_n hx hb dX0_letFall_37 rfl (lv_at hl 0 rfl) ?_
    refine kRNi (As := [.ref (a 4), .int ((xFall pa pe st C col R).1)]) (rest := [.int ((xFall pa pe st C col R).1), .ref (a 4)]) ⟨hx, hb, hml, hown, hts⟩ (mX1_cell l D cI (a 4) bn 9 (by decide) ((xFall pa pe st C col R).1)) ⟨va_cnB (host := RX1) 2 hts gX0_letFall_X1_cell_n61 rfl rfl rfl hN.2.2 (hts (.initialized RX1) (mg 22 rfl)) (by decide +kernel) ⟨Nat.le_of_ble_eq_true rfl, Nat.le_of_ble_eq_true rfl⟩, hts (.static yX1_cell) (mg 21 rfl), trivial⟩ hP hK hN [4] rfl [0] rfl rfl hl.1 rfl (Nat.le_of_ble_eq_true rfl) dX0_letFall_38 ⟨Nat.zero_le _, Nat.zero_le _⟩ (fun r_3 hr_3 => ?_)
    subst r_3
    refine lv_iconst (v := 1) hx hb dX0_letFall_41 (by decide) ?_
    refine lv_iadd hx hb dX0_letFall_42 ?_
    refine kQNv (As := [.ref (a 4), .int ((xFall pa pe st C col R).1), .int (xcl 9 bn ((xFall pa pe st C col R).1) + 1)]) (rest := []) (wr := [(a 0, .inr (0, [.ref (a 1), .ref (a 2), .ref (a 3), .ref (a 4), .ref (a 5), .ref (a 6), .int C, .int R, .int lo])), (a 1, .inl (cI, 72, .inl pa)), (a 2, .inl (cI, 72, .inl pe)), (a 3, .inl (cI, 72, .inl ((xFall pa pe st C col R).2))), (a 5, .inl (cI, 2, .inl hc)), (a 6, .inl (cI, 2, .inl hm))]) (W2 := (fun _ => (wM cI a pa pe ((xFall pa pe st C col R).2) ((xsc 9 bn ((xFall pa pe st C col R).1) (xcl 9 bn ((xFall pa pe st C col R).1) + 1))) hc hm C R lo))) ⟨hx, hb, hml, hown, hts⟩ (mX1_setCell l D cI (a 4) bn 9 (by decide) ((xFall pa pe st C col R).1) (xcl 9 bn ((xFall pa pe st C col R).1) + 1) _) ⟨va_cnB (host := RX1) 3 hts gX0_letFall_X1_setCell_n53 rfl rfl rfl hN.1 (hts (.initialized RX1) (mg 22 rfl)) (by decide +kernel) ⟨Nat.le_of_ble_eq_true rfl, Nat.le_of_ble_eq_true rfl⟩, hts (.static yX1_setCell) (mg 24 rfl), trivial⟩ hP hD hK hN hS hA [4] (by decide) rfl [0, 1, 2, 3, 5, 6] (by decide) rfl (by decide) [0, 1, 2, 3, 6, 4, 5] (by decide) (fun _ => rfl) [0] rfl rfl hl.1 rfl (Nat.le_of_ble_eq_true rfl) dX0_letFall_43 ⟨Nat.le_of_ble_eq_true rfl, Nat.le_of_ble_eq_true rfl⟩ (fun u_4 H locs hr_4 hP hD hS => ?_)
    have hP : va_P D vwCl (wM cI a pa pe ((xFall pa pe st C col R).2) ((xsc 9 bn ((xFall pa pe st C col R).1) (xcl 9 bn ((xFall pa pe st C col R).1) + 1))) hc hm C R lo) H := hP
    have hD : va_D (va_A (wM cI a pa pe st bn hc hm C R lo) sz) (wM cI a pa pe ((xFall pa pe st C col R).2) ((xsc 9 bn ((xFall pa pe st C col R).1) (xcl 9 bn ((xFall pa pe st C col R).1) + 1))) hc hm C R lo) := hD
    refine lv_iload_n hx hb dX0_letFall_46 rfl (lv_at hl 0 rfl) ?_
    have hP : va_P D vwCl (wM cI a pa pe ((xFall pa pe st C col R).2) ((xLandBn bn (xFall pa pe st C col R).1)) hc hm C R ((xLandLo lo (xFall pa pe st C col R).1))) H := by simp only [xLandBn, xLandLo, if_neg c_2]; exact hP
    have hD : va_D (va_A (wM cI a pa pe st bn hc hm C R lo) sz) (wM cI a pa pe ((xFall pa pe st C col R).2) ((xLandBn bn (xFall pa pe st C col R).1)) hc hm C R ((xLandLo lo (xFall pa pe st C col R).1))) := by simp only [xLandBn, xLandLo, if_neg c_2]; exact hD
    exact eQi () hx hb hr hlocks hP hD hK hS dX0_letFall_47 (rfl)
  · refine lv_aload_n hx hb dX0_letFall_15 rfl (lv_at hl 1 rfl) ?_
    refine lv_dup hx hb dX0_letFall_16 rfl ?_
    refine va_get (D := D) (ci := 0) (v := .int lo) (C := RX0) (T := TX0) (N := 9) hx hb hts iw_X0_letFall_X0 hown hK hP 0 rfl rfl 8 (by decide) (hts (.fieldLink RX0 41 "MarbleRamps$Machine" "lostCount" "I") (mg 2 rfl)) (fun _ h9 => h9) rfl dX0_letFall_17 ?_
    refine lv_iconst (v := 1) hx hb dX0_letFall_20 (by decide) ?_
    refine lv_iadd hx hb dX0_letFall_21 ?_
    refine va_put (D := D) (ci := 0) (v := .int (lo + 1)) (ty := .int) (C := RX0) (T := TX0) (N := 9) hx hb hts iw_X0_letFall_X0 tyX0 tyX0_ok nmX0 hown hK hP hD hS 0 rfl rfl 8 (by decide) (hts (.fieldLink RX0 41 "MarbleRamps$Machine" "lostCount" "I") (mg 2 rfl)) (fun _ h9 => h9) rfl (by decide +kernel) rfl rfl (Nat.le_of_ble_eq_true rfl) dX0_letFall_22 (fun H locs hP hD hS => ?_)
    have hP : va_P D vwCl (wM cI a pa pe ((xFall pa pe st C col R).2) bn hc hm C R ((lo + 1))) H := hP
    have hD : va_D (va_A (wM cI a pa pe st bn hc hm C R lo) sz) (wM cI a pa pe ((xFall pa pe st C col R).2) bn hc hm C R ((lo + 1))) := hD
    refine lv_goto (tgt := 46) hx hb dX0_letFall_25 (by decide) ?_
    refine lv_iload_n hx hb dX0_letFall_46 rfl (lv_at hl 0 rfl) ?_
    have hP : va_P D vwCl (wM cI a pa pe ((xFall pa pe st C col R).2) ((xLandBn bn (xFall pa pe st C col R).1)) hc hm C R ((xLandLo lo (xFall pa pe st C col R).1))) H := by simp only [xLandBn, xLandLo, if_pos c_2]; exact hP
    have hD : va_D (va_A (wM cI a pa pe st bn hc hm C R lo) sz) (wM cI a pa pe ((xFall pa pe st C col R).2) ((xLandBn bn (xFall pa pe st C col R).1)) hc hm C R ((xLandLo lo (xFall pa pe st C col R).1))) := by simp only [xLandBn, xLandLo, if_pos c_2]; exact hD
    exact eQi () hx hb hr hlocks hP hD hK hS dX0_letFall_47 (rfl)
theorem iw_X0_runFrom_X0 : ∀ w ∈ wsX00, w ∈ wsX0_runFrom := mem_pos [40, 41, 42, 43, 44, 45, 46, 47, 48] (by decide +kernel)
set_option maxHeartbeats 4000000 in
set_option maxRecDepth 100000 in
theorem mX0_runFrom (l : Launch) (D : va_G) (cI : ClassId) (a : Nat → Nat) (pa pe st bn hc hm : Nat → Int32) (C R lo : Int32) (hop most : Int32) (sz : Nat) : Met l yX0_runFrom wsX0_runFrom ({ frames := 4, cells := 0, slots := 0, locals := 93 } : Room) (va_Pc [.ref (a 0), .int hop, .int most] (wPQ D [(cI, .int)] sz (wM cI a pa pe st bn hc hm C R lo))) (va_Qi (fun (zz : Int32) (_ : Unit) => zz = (xRun pa pe st bn hc hm C R lo hop most).1) (wB D [(cI, .int)] (va_A (wM cI a pa pe st bn hc hm C R lo) sz) (fun _ : Unit => (wM cI a pa pe ((xRun pa pe st bn hc hm C R lo hop most).2.1) ((xRun pa pe st bn hc hm C R lo hop most).2.2.1) hc ((xRun pa pe st bn hc hm C R lo hop most).2.2.2.2) C R ((xRun pa pe st bn hc hm C R lo hop most).2.2.2.1)))) (va_A (wM cI a pa pe st bn hc hm C R lo) sz)) 0 0 (va_A (wM cI a pa pe st bn hc hm C R lo) sz) := by
  refine mQ_of (by decide) rfl (Nat.le_of_ble_eq_true rfl) ?_
  intro p e s m below meth c hx hb hr hml hown hin hts hlocks hsz hP hK hN hD hA hS ls hl
  have hown : s.vm.findClass RX0 = some m.cls := hown
  have hl : lv_has ls 5 [(0, .ref (a 0)), (1, .int hop), (2, .int most)] := hl
  have hP : va_P D vwCl (wM cI a pa pe st bn hc hm C R lo) s.heap := hP
  refine lv_iconst (v := 0) hx hb dX0_runFrom_0 (by decide) ?_
  refine lv_istore_n (lv' := [(3, .int 0), (0, .ref (a 0)), (1, .int hop), (2, .int most)]) hx hb dX0_runFrom_1 rfl hl (by decide) rfl (fun ls hl => ?_)
  refine lv_iload_n hx hb dX0_runFrom_2 rfl (lv_at hl 2 rfl) ?_
  refine lv_istore (lv' := [(4, .int hop), (3, .int 0), (0, .ref (a 0)), (1, .int hop), (2, .int most)]) hx hb dX0_runFrom_3 hl (by decide) rfl (fun ls hl => ?_)
  have L5 : ∀ (n k : Nat) (fr : Int32) (sv : Nat → Int32) (bv : Nat → Int32) (lv : Int32) (hv : Nat → Int32), k + n = most.toNatClampNeg → xRun pa pe st bn hc hm C R lo hop most = xRunL pa pe hc C R n k fr sv bv lv hv → ∀ (H : Heap) (locs : List Loc), va_P D vwCl (wM cI a pa pe sv bv hc hv C R lv) H → va_D (va_A (wM cI a pa pe st bn hc hm C R lo) sz) (wM cI a pa pe sv bv hc hv C R lv) → va_S (va_A (wM cI a pa pe st bn hc hm C R lo) sz) s.heap H locs → ∀ ls : Array Slot, lv_has ls 5 [(4, .int fr), (3, .int (nI k)), (0, .ref (a 0)), (1, .int hop), (2, .int most)] → W p l e ({ frames := 4, cells := 0, slots := 0, locals := 93 } : Room) s m [.ref (a 0), .int hop, .int most].toArray below meth c H locs 0 0 (MQ below (va_Qi (fun (zz : Int32) (_ : Unit) => zz = (xRun pa pe st bn hc hm C R lo hop most).1) (wB D [(cI, .int)] (va_A (wM cI a pa pe st bn hc hm C R lo) sz) (fun _ : Unit => (wM cI a pa pe ((xRun pa pe st bn hc hm C R lo hop most).2.1) ((xRun pa pe st bn hc hm C R lo hop most).2.2.1) hc ((xRun pa pe st bn hc hm C R lo hop most).2.2.2.2) C R ((xRun pa pe st bn hc hm C R lo hop most).2.2.2.1)))) (va_A (wM cI a pa pe st bn hc hm C R lo) sz)) [.ref (a 0), .int hop, .int most].toArray s 0 0 (va_A (wM cI a pa pe st bn hc hm C R lo) sz)) (F0 m 5 ls []) := by
    intro n
    induction n with
    | zero =>
      intro k fr sv bv lv hv hkn5 hf H locs hP hD hS ls hl
      refine lv_iload_n hx hb dX0_runFrom_5 rfl (lv_at hl 1 rfl) ?_
      refine lv_iload_n hx hb dX0_runFrom_6 rfl (lv_at hl 4 rfl) ?_
      refine lv_icmp_ge (tgt := 73) hx hb dX0_runFrom_7 (by decide) (fun c_1 => ?_) (fun c9 => absurd (by rw [lc_le (by have := clampLt most; omega)]; omega) c9)
      refine lv_iload_n hx hb dX0_runFrom_73 rfl (lv_at hl 1 rfl) ?_
      have hP : va_P D vwCl (wM cI a pa pe ((xRun pa pe st bn hc hm C R lo hop most).2.1) ((xRun pa pe st bn hc hm C R lo hop most).2.2.1) hc ((xRun pa pe st bn hc hm C R lo hop most).2.2.2.2) C R ((xRun pa pe st bn hc hm C R lo hop most).2.2.2.1)) H := by rw [hf]; simp only [xRunL]; exact hP
      have hD : va_D (va_A (wM cI a pa pe st bn hc hm C R lo) sz) (wM cI a pa pe ((xRun pa pe st bn hc hm C R lo hop most).2.1) ((xRun pa pe st bn hc hm C R lo hop most).2.2.1) hc ((xRun pa pe st bn hc hm C R lo hop most).2.2.2.2) C R ((xRun pa pe st bn hc hm C R lo hop most).2.2.2.1)) := by rw [hf]; simp only [xRunL]; exact hD
      exact eQi () hx hb hr hlocks hP hD hK hS dX0_runFrom_74 (by rw [hf]; rfl)
    | succ n ih5 =>
      intro k fr sv bv lv hv hkn5 hf H locs hP hD hS ls hl
      refine lv_iload_n hx hb dX0_runFrom_5 rfl (lv_at hl 1 rfl) ?_
      refine lv_iload_n hx hb dX0_runFrom_6 rfl (lv_at hl 4 rfl) ?_
      refine lv_icmp_ge (tgt := 73) hx hb dX0_runFrom_7 (by decide) (fun c9 => absurd c9 (by rw [lc_le (by have := clampLt most; omega)]; omega)) (fun c_2 => ?_)
      refine lv_iload hx hb dX0_runFrom_10 (lv_at hl 0 rfl) ?_
      refine lv_iconst (v := (-1)) hx hb dX0_runFrom_12 (by decide) ?_
      refine lv_icmp_eq (tgt := 73) hx hb dX0_runFrom_13 (by decide) (fun c_3 => ?_) (fun c_3 => ?_)
      · refine lv_iload_n hx hb dX0_runFrom_73 rfl (lv_at hl 1 rfl) ?_
        have hP : va_P D vwCl (wM cI a pa pe ((xRun pa pe st bn hc hm C R lo hop most).2.1) ((xRun pa pe st bn hc hm C R lo hop most).2.2.1) hc ((xRun pa pe st bn hc hm C R lo hop most).2.2.2.2) C R ((xRun pa pe st bn hc hm C R lo hop most).2.2.2.1)) H := by rw [hf]; simp only [xRunL, if_pos c_3]; exact hP
        have hD : va_D (va_A (wM cI a pa pe st bn hc hm C R lo) sz) (wM cI a pa pe ((xRun pa pe st bn hc hm C R lo hop most).2.1) ((xRun pa pe st bn hc hm C R lo hop most).2.2.1) hc ((xRun pa pe st bn hc hm C R lo hop most).2.2.2.2) C R ((xRun pa pe st bn hc hm C R lo hop most).2.2.2.1)) := by rw [hf]; simp only [xRunL, if_pos c_3]; exact hD
        exact eQi () hx hb hr hlocks hP hD hK hS dX0_runFrom_74 (by rw [hf]; simp [xRunL, c_3])
      · refine lv_aload_n hx hb dX0_runFrom_16 rfl (lv_at hl 2 rfl) ?_
        refine va_get (D := D) (ci := 0) (v := .ref (a 6)) (C := RX0) (T := TX0) (N := 9) hx hb hts iw_X0_runFrom_X0 hown hK hP 0 rfl rfl 5 (by decide) (hts (.fieldLink RX0 27 "MarbleRamps$Machine" "hopperMarbles" "[I") (mg 1 rfl)) (fun _ h9 => h9) rfl dX0_runFrom_17 ?_
        refine lv_iload hx hb dX0_runFrom_20 (lv_at hl 0 rfl) ?_
        refine kRNi (As := [.ref (a 6), .int fr]) (rest := []) ⟨hx, hb, hml, hown, hts⟩ (mX1_cell l D cI (a 6) hv 2 (by decide) fr) ⟨va_cnB (host := RX1) 2 hts gX0_runFrom_X1_cell_n61 rfl rfl rfl hN.2.2 (hts (.initialized RX1) (mg 4 rfl)) (by decide +kernel) ⟨Nat.le_of_ble_eq_true rfl, Nat.le_of_ble_eq_true rfl⟩, hts (.static yX1_cell) (mg 3 rfl), trivial⟩ hP hK hN [6] rfl [0] rfl rfl hl.1 rfl (Nat.le_of_ble_eq_true rfl) dX0_runFrom_22 ⟨Nat.zero_le _, Nat.zero_le _⟩ (fun r_4 hr_4 => ?_)
        subst r_4
        refine lv_if_le (tgt := 73) hx hb dX0_runFrom_25 (by decide) (fun c_5 => ?_) (fun c_5 => ?_)
        · refine lv_iload_n hx hb dX0_runFrom_73 rfl (lv_at hl 1 rfl) ?_
          have hP : va_P D vwCl (wM cI a pa pe ((xRun pa pe st bn hc hm C R lo hop most).2.1) ((xRun pa pe st bn hc hm C R lo hop most).2.2.1) hc ((xRun pa pe st bn hc hm C R lo hop most).2.2.2.2) C R ((xRun pa pe st bn hc hm C R lo hop most).2.2.2.1)) H := by rw [hf]; simp only [xRunL, if_neg c_3, if_pos c_5]; exact hP
          have hD : va_D (va_A (wM cI a pa pe st bn hc hm C R lo) sz) (wM cI a pa pe ((xRun pa pe st bn hc hm C R lo hop most).2.1) ((xRun pa pe st bn hc hm C R lo hop most).2.2.1) hc ((xRun pa pe st bn hc hm C R lo hop most).2.2.2.2) C R ((xRun pa pe st bn hc hm C R lo hop most).2.2.2.1)) := by rw [hf]; simp only [xRunL, if_neg c_3, if_pos c_5]; exact hD
          exact eQi () hx hb hr hlocks hP hD hK hS dX0_runFrom_74 (by rw [hf]; simp [xRunL, c_3, c_5])
        · refine lv_iinc (v := (nI (k + 1))) (lv' := [(3, .int (nI (k + 1))), (4, .int fr), (0, .ref (a 0)), (1, .int hop), (2, .int most)]) hx hb dX0_runFrom_28 hl (k := 1) rfl (nI_1 k) (by decide) rfl (fun ls hl => ?_)
          refine lv_aload_n hx hb dX0_runFrom_31 rfl (lv_at hl 2 rfl) ?_
          refine va_get (D := D) (ci := 0) (v := .ref (a 6)) (C := RX0) (T := TX0) (N := 9) hx hb hts iw_X0_runFrom_X0 hown hK hP 0 rfl rfl 5 (by decide) (hts (.fieldLink RX0 27 "MarbleRamps$Machine" "hopperMarbles" "[I") (mg 1 rfl)) (fun _ h9 => h9) rfl dX0_runFrom_32 ?_
          refine lv_iload hx hb dX0_runFrom_35 (lv_at hl 1 rfl) ?_
          refine lv_aload_n hx hb dX0_runFrom_37 rfl (lv_at hl 2 rfl) ?_
          refine va_get (D := D) (ci := 0) (v := .ref (a 6)) (C := RX0) (T := TX0) (N := 9) hx hb hts iw_X0_runFrom_X0 hown hK hP 0 rfl rfl 5 (by decide) (hts (.fieldLink RX0 27 "MarbleRamps$Machine" "hopperMarbles" "[I") (mg 1 rfl)) (fun _ h9 => h9) rfl dX0_runFrom_38 ?_
          refine lv_iload hx hb dX0_runFrom_41 (lv_at hl 1 rfl) ?_
          refine kRNi (As := [.ref (a 6), .int fr]) (rest := [.int fr, .ref (a 6)]) ⟨hx, hb, hml, hown, hts⟩ (mX1_cell l D cI (a 6) hv 2 (by decide) fr) ⟨va_cnB (host := RX1) 2 hts gX0_runFrom_X1_cell_n61 rfl rfl rfl hN.2.2 (hts (.initialized RX1) (mg 4 rfl)) (by decide +kernel) ⟨Nat.le_of_ble_eq_true rfl, Nat.le_of_ble_eq_true rfl⟩, hts (.static yX1_cell) (mg 3 rfl), trivial⟩ hP hK hN [6] rfl [0] rfl rfl hl.1 rfl (Nat.le_of_ble_eq_true rfl) dX0_runFrom_43 ⟨Nat.zero_le _, Nat.zero_le _⟩ (fun r_6 hr_6 => ?_)
          subst r_6
          refine lv_iconst (v := 1) hx hb dX0_runFrom_46 (by decide) ?_
          refine lv_isub hx hb dX0_runFrom_47 ?_
          refine kQNv (As := [.ref (a 6), .int fr, .int (xcl 2 hv fr - 1)]) (rest := []) (wr := [(a 0, .inr (0, [.ref (a 1), .ref (a 2), .ref (a 3), .ref (a 4), .ref (a 5), .ref (a 6), .int C, .int R, .int lv])), (a 1, .inl (cI, 72, .inl pa)), (a 2, .inl (cI, 72, .inl pe)), (a 3, .inl (cI, 72, .inl sv)), (a 4, .inl (cI, 9, .inl bv)), (a 5, .inl (cI, 2, .inl hc))]) (W2 := (fun _ => (wM cI a pa pe sv bv hc ((xsc 2 hv fr (xcl 2 hv fr - 1))) C R lv))) ⟨hx, hb, hml, hown, hts⟩ (mX1_setCell l D cI (a 6) hv 2 (by decide) fr (xcl 2 hv fr - 1) _) ⟨va_cnB (host := RX1) 3 hts gX0_runFrom_X1_setCell_n53 rfl rfl rfl hN.1 (hts (.initialized RX1) (mg 4 rfl)) (by decide +kernel) ⟨Nat.le_of_ble_eq_true rfl, Nat.le_of_ble_eq_true rfl⟩, hts (.static yX1_setCell) (mg 6 rfl), trivial⟩ hP hD hK hN hS hA [6] (by decide) rfl [0, 1, 2, 3, 4, 5] (by decide) rfl (by decide) [0, 1, 2, 3, 4, 5, 6] (by decide) (fun _ => rfl) [0] rfl rfl hl.1 rfl (Nat.le_of_ble_eq_true rfl) dX0_runFrom_48 ⟨Nat.le_of_ble_eq_true rfl, Nat.le_of_ble_eq_true rfl⟩ (fun u_7 H locs hr_7 hP hD hS => ?_)
          have hP : va_P D vwCl (wM cI a pa pe sv bv hc ((xsc 2 hv fr (xcl 2 hv fr - 1))) C R lv) H := hP
          have hD : va_D (va_A (wM cI a pa pe st bn hc hm C R lo) sz) (wM cI a pa pe sv bv hc ((xsc 2 hv fr (xcl 2 hv fr - 1))) C R lv) := hD
          refine lv_aload_n hx hb dX0_runFrom_51 rfl (lv_at hl 2 rfl) ?_
          refine lv_aload_n hx hb dX0_runFrom_52 rfl (lv_at hl 2 rfl) ?_
          refine lv_aload_n hx hb dX0_runFrom_53 rfl (lv_at hl 2 rfl) ?_
          refine va_get (D := D) (ci := 0) (v := .ref (a 5)) (C := RX0) (T := TX0) (N := 9) hx hb hts iw_X0_runFrom_X0 hown hK hP 0 rfl rfl 4 (by decide) (hts (.fieldLink RX0 24 "MarbleRamps$Machine" "hopperColumns" "[I") (mg 2 rfl)) (fun _ h9 => h9) rfl dX0_runFrom_54 ?_
          refine lv_iload hx hb dX0_runFrom_57 (lv_at hl 1 rfl) ?_
          refine kRNi (As := [.ref (a 5), .int fr]) (rest := [.ref (a 0), .ref (a 0)]) ⟨hx, hb, hml, hown, hts⟩ (mX1_cell l D cI (a 5) hc 2 (by decide) fr) ⟨va_cnB (host := RX1) 2 hts gX0_runFrom_X1_cell_n61 rfl rfl rfl hN.2.2 (hts (.initialized RX1) (mg 4 rfl)) (by decide +kernel) ⟨Nat.le_of_ble_eq_true rfl, Nat.le_of_ble_eq_true rfl⟩, hts (.static yX1_cell) (mg 3 rfl), trivial⟩ hP hK hN [5] rfl [0] rfl rfl hl.1 rfl (Nat.le_of_ble_eq_true rfl) dX0_runFrom_59 ⟨Nat.zero_le _, Nat.zero_le _⟩ (fun r_8 hr_8 => ?_)
          subst r_8
          refine kQVi (As := [.int (xcl 2 hc fr)]) (rest := [.ref (a 0)]) (wr := []) (W2 := (fun _ => (wM cI a pa pe ((xFall pa pe sv C (xcl 2 hc fr) R).2) ((xLandBn bv (xFall pa pe sv C (xcl 2 hc fr) R).1)) hc ((xsc 2 hv fr (xcl 2 hv fr - 1))) C R ((xLandLo lv (xFall pa pe sv C (xcl 2 hc fr) R).1))))) ⟨hx, hb, hml, hown, hts⟩ (mX0_letFall l D cI a pa pe sv bv hc (xsc 2 hv fr (xcl 2 hv fr - 1)) C R lv (xcl 2 hc fr) _) (cwV 1 hts gX0_runFrom_X0_letFall rfl rfl rfl (by decide +kernel) ⟨Nat.le_of_ble_eq_true rfl, Nat.le_of_ble_eq_true rfl⟩) hP hD hK hN hS hA [0, 1, 2, 3, 4, 5, 6] (by decide) rfl [] (by decide) rfl (by decide) [0, 1, 2, 3, 4, 5, 6] (by decide) (fun _ => rfl) [0] rfl rfl rfl rfl hl.1 rfl (Nat.le_of_ble_eq_true rfl) dX0_runFrom_62 ⟨Nat.le_of_ble_eq_true rfl, Nat.le_of_ble_eq_true rfl⟩ (fun r_9 u_9 H locs hr_9 hP hD hS => ?_)
          subst r_9
          have hP : va_P D vwCl (wM cI a pa pe ((xFall pa pe sv C (xcl 2 hc fr) R).2) ((xLandBn bv (xFall pa pe sv C (xcl 2 hc fr) R).1)) hc ((xsc 2 hv fr (xcl 2 hv fr - 1))) C R ((xLandLo lv (xFall pa pe sv C (xcl 2 hc fr) R).1))) H := hP
          have hD : va_D (va_A (wM cI a pa pe st bn hc hm C R lo) sz) (wM cI a pa pe ((xFall pa pe sv C (xcl 2 hc fr) R).2) ((xLandBn bv (xFall pa pe sv C (xcl 2 hc fr) R).1)) hc ((xsc 2 hv fr (xcl 2 hv fr - 1))) C R ((xLandLo lv (xFall pa pe sv C (xcl 2 hc fr) R).1))) := hD
          refine kRVi (As := [.int ((xFall pa pe sv C (xcl 2 hc fr) R).1)]) (rest := []) ⟨hx, hb, hml, hown, hts⟩ (mX0_hopperBehind l D cI a pa pe ((xFall pa pe sv C (xcl 2 hc fr) R).2) (xLandBn bv (xFall pa pe sv C (xcl 2 hc fr) R).1) hc (xsc 2 hv fr (xcl 2 hv fr - 1)) C R (xLandLo lv (xFall pa pe sv C (xcl 2 hc fr) R).1) ((xFall pa pe sv C (xcl 2 hc fr) R).1)) (cwV 1 hts gX0_runFrom_X0_hopperBehind rfl rfl rfl (by decide +kernel) ⟨Nat.le_of_ble_eq_true rfl, Nat.le_of_ble_eq_true rfl⟩) hP hK hN [0, 1, 2, 3, 4, 5, 6] rfl [0] rfl rfl rfl rfl hl.1 rfl (Nat.le_of_ble_eq_true rfl) dX0_runFrom_65 ⟨Nat.zero_le _, Nat.zero_le _⟩ (fun r_10 hr_10 => ?_)
          subst r_10
          refine lv_istore (lv' := [(4, .int (xBehind C ((xFall pa pe sv C (xcl 2 hc fr) R).1))), (3, .int (nI (k + 1))), (0, .ref (a 0)), (1, .int hop), (2, .int most)]) hx hb dX0_runFrom_68 hl (by decide) rfl (fun ls hl => ?_)
          refine lv_goto (tgt := 5) hx hb dX0_runFrom_70 (by decide) ?_
          exact ih5 (k + 1) (xBehind C ((xFall pa pe sv C (xcl 2 hc fr) R).1)) ((xFall pa pe sv C (xcl 2 hc fr) R).2) (xLandBn bv (xFall pa pe sv C (xcl 2 hc fr) R).1) (xLandLo lv (xFall pa pe sv C (xcl 2 hc fr) R).1) (xsc 2 hv fr (xcl 2 hv fr - 1)) (by omega) (by rw [hf]; simp only [xRunL, if_neg c_3, if_neg c_5]) _ _ hP hD hS ls (lv_sub hl [0, 1, 2, 3, 4] rfl)
  exact L5 most.toNatClampNeg 0 hop st bn lo hm (by omega) rfl _ _ hP hD hS ls (lv_sub hl [0, 1, 2, 3, 4] rfl)
theorem iw_X0_init_X0 : ∀ w ∈ wsX00, w ∈ wsX0_init := mem_pos [30, 31, 32, 33, 34, 35, 36, 37, 38] (by decide +kernel)
set_option maxHeartbeats 4000000 in
set_option maxRecDepth 100000 in
theorem mX0_init (l : Launch) (D : va_G) (cI : ClassId) (h : Nat) (sz : Nat) : Met l yX0_init wsX0_init ({ frames := 3, cells := 6, slots := 229, locals := 65 } : Room) (va_Pc [.ref h] (wPQ D [(cI, .int)] sz ([(h, .inr (0, [.null, .null, .null, .null, .null, .null, .int 0, .int 0, .int 0]))]))) (va_Qv (fun u : (Nat → Nat) => u 0 = h) (wB D [(cI, .int)] (va_A ([(h, .inr (0, [.null, .null, .null, .null, .null, .null, .int 0, .int 0, .int 0]))]) sz) (fun u : (Nat → Nat) => (wM cI u ((fun _ => 0)) ((fun _ => 0)) ((fun _ => 0)) ((fun _ => 0)) ((xsc 2 (xsc 2 (fun _ => 0) 0 0) 1 (5 - 1))) ((fun _ => 0)) 5 4 0))) (va_A ([(h, .inr (0, [.null, .null, .null, .null, .null, .null, .int 0, .int 0, .int 0]))]) sz)) 6 229 (va_A ([(h, .inr (0, [.null, .null, .null, .null, .null, .null, .int 0, .int 0, .int 0]))]) sz) := by
  refine mQ_of (by decide) rfl (Nat.le_of_ble_eq_true rfl) ?_
  intro p e s m below meth c hx hb hr hml hown hin hts hlocks hsz hP hK hN hD hA hS ls hl
  have hown : s.vm.findClass RX0 = some m.cls := hown
  have hl : lv_has ls 1 [(0, .ref h)] := hl
  have hP : va_P D vwCl ([(h, .inr (0, [.null, .null, .null, .null, .null, .null, .int 0, .int 0, .int 0]))]) s.heap := hP
  refine lv_aload_n hx hb dX0_init_0 rfl (lv_at hl 0 rfl) ?_
  refine W.objInit hx hb hown (hts (.methodLink RX0 3 objectInit) (mg 1 rfl)) (hts (.instanceMethod objectInit) (mg 2 rfl)) (hts (.code objectInit ⟨#[0xb1]⟩ 1 none) (mg 3 rfl)) rfl (by rw [hml]; exact hl.1) rfl dX0_init_1 (Nat.le_of_ble_eq_true rfl) (Nat.le_of_ble_eq_true rfl) ?_
  refine W.eq (g2 := F0 m 4 ls []) rfl ?_
  refine lv_aload_n hx hb dX0_init_4 rfl (lv_at hl 0 rfl) ?_
  refine lv_bipush (v := 72) hx hb dX0_init_5 (by decide) ?_
  refine newI hx hb (hts (.arrayClass .int) (mg 4 rfl)) hK hP hD hS hA 0 rfl (by decide) (N' := 72) (by decide) (by decide) (Nat.le_of_ble_eq_true rfl) (Nat.le_of_ble_eq_true rfl) dX0_init_7 (fun q_1 H hP hD hS => ?_)
  have hP : va_P D vwCl ([(h, .inr (0, [.null, .null, .null, .null, .null, .null, .int 0, .int 0, .int 0]))] ++ wA cI q_1 72 ((fun _ => 0))) H := hP
  have hD : va_D (va_A ([(h, .inr (0, [.null, .null, .null, .null, .null, .null, .int 0, .int 0, .int 0]))]) sz) ([(h, .inr (0, [.null, .null, .null, .null, .null, .null, .int 0, .int 0, .int 0]))] ++ wA cI q_1 72 ((fun _ => 0))) := hD
  refine va_putF (D := D) (ci := 0) (v := .ref q_1) (ty := (.array .int)) (C := RX0) (T := TX0) (N := 9) hx hb hts iw_X0_init_X0 tyX0 tyX0_ok nmX0 hown hK hP hD hS 0 rfl rfl 0 (by decide) (hts (.fieldLink RX0 9 "MarbleRamps$Machine" "parts" "[I") (mg 5 rfl)) (fun _ h9 => h9) rfl hin rfl (by decide +kernel) rfl rfl (Nat.le_of_ble_eq_true rfl) dX0_init_9 (fun H locs hP hD hS => ?_)
  have hP : va_P D vwCl ([(h, .inr (0, [.ref q_1, .null, .null, .null, .null, .null, .int 0, .int 0, .int 0]))] ++ wA cI q_1 72 ((fun _ => 0))) H := hP
  have hD : va_D (va_A ([(h, .inr (0, [.null, .null, .null, .null, .null, .null, .int 0, .int 0, .int 0]))]) sz) ([(h, .inr (0, [.ref q_1, .null, .null, .null, .null, .null, .int 0, .int 0, .int 0]))] ++ wA cI q_1 72 ((fun _ => 0))) := hD
  refine lv_aload_n hx hb dX0_init_12 rfl (lv_at hl 0 rfl) ?_
  refine lv_bipush (v := 72) hx hb dX0_init_13 (by decide) ?_
  refine newI hx hb (hts (.arrayClass .int) (mg 4 rfl)) hK hP hD hS hA 0 rfl (by decide) (N' := 72) (by decide) (by decide) (Nat.le_of_ble_eq_true rfl) (Nat.le_of_ble_eq_true rfl) dX0_init_15 (fun q_2 H hP hD hS => ?_)
  have hP : va_P D vwCl ([(h, .inr (0, [.ref q_1, .null, .null, .null, .null, .null, .int 0, .int 0, .int 0]))] ++ wA cI q_1 72 ((fun _ => 0)) ++ wA cI q_2 72 ((fun _ => 0))) H := hP
  have hD : va_D (va_A ([(h, .inr (0, [.null, .null, .null, .null, .null, .null, .int 0, .int 0, .int 0]))]) sz) ([(h, .inr (0, [.ref q_1, .null, .null, .null, .null, .null, .int 0, .int 0, .int 0]))] ++ wA cI q_1 72 ((fun _ => 0)) ++ wA cI q_2 72 ((fun _ => 0))) := hD
  refine va_putF (D := D) (ci := 0) (v := .ref q_2) (ty := (.array .int)) (C := RX0) (T := TX0) (N := 9) hx hb hts iw_X0_init_X0 tyX0 tyX0_ok nmX0 hown hK hP hD hS 0 rfl rfl 1 (by decide) (hts (.fieldLink RX0 15 "MarbleRamps$Machine" "periods" "[I") (mg 6 rfl)) (fun _ h9 => h9) rfl hin rfl (by decide +kernel) rfl rfl (Nat.le_of_ble_eq_true rfl) dX0_init_17 (fun H locs hP hD hS => ?_)
  have hP : va_P D vwCl ([(h, .inr (0, [.ref q_1, .ref q_2, .null, .null, .null, .null, .int 0, .int 0, .int 0]))] ++ wA cI q_1 72 ((fun _ => 0)) ++ wA cI q_2 72 ((fun _ => 0))) H := hP
  have hD : va_D (va_A ([(h, .inr (0, [.null, .null, .null, .null, .null, .null, .int 0, .int 0, .int 0]))]) sz) ([(h, .inr (0, [.ref q_1, .ref q_2, .null, .null, .null, .null, .int 0, .int 0, .int 0]))] ++ wA cI q_1 72 ((fun _ => 0)) ++ wA cI q_2 72 ((fun _ => 0))) := hD
  refine lv_aload_n hx hb dX0_init_20 rfl (lv_at hl 0 rfl) ?_
  refine lv_bipush (v := 72) hx hb dX0_init_21 (by decide) ?_
  refine newI hx hb (hts (.arrayClass .int) (mg 4 rfl)) hK hP hD hS hA 0 rfl (by decide) (N' := 72) (by decide) (by decide) (Nat.le_of_ble_eq_true rfl) (Nat.le_of_ble_eq_true rfl) dX0_init_23 (fun q_3 H hP hD hS => ?_)
  have hP : va_P D vwCl ([(h, .inr (0, [.ref q_1, .ref q_2, .null, .null, .null, .null, .int 0, .int 0, .int 0]))] ++ wA cI q_1 72 ((fun _ => 0)) ++ wA cI q_2 72 ((fun _ => 0)) ++ wA cI q_3 72 ((fun _ => 0))) H := hP
  have hD : va_D (va_A ([(h, .inr (0, [.null, .null, .null, .null, .null, .null, .int 0, .int 0, .int 0]))]) sz) ([(h, .inr (0, [.ref q_1, .ref q_2, .null, .null, .null, .null, .int 0, .int 0, .int 0]))] ++ wA cI q_1 72 ((fun _ => 0)) ++ wA cI q_2 72 ((fun _ => 0)) ++ wA cI q_3 72 ((fun _ => 0))) := hD
  refine va_putF (D := D) (ci := 0) (v := .ref q_3) (ty := (.array .int)) (C := RX0) (T := TX0) (N := 9) hx hb hts iw_X0_init_X0 tyX0 tyX0_ok nmX0 hown hK hP hD hS 0 rfl rfl 2 (by decide) (hts (.fieldLink RX0 18 "MarbleRamps$Machine" "states" "[I") (mg 7 rfl)) (fun _ h9 => h9) rfl hin rfl (by decide +kernel) rfl rfl (Nat.le_of_ble_eq_true rfl) dX0_init_25 (fun H locs hP hD hS => ?_)
  have hP : va_P D vwCl ([(h, .inr (0, [.ref q_1, .ref q_2, .ref q_3, .null, .null, .null, .int 0, .int 0, .int 0]))] ++ wA cI q_1 72 ((fun _ => 0)) ++ wA cI q_2 72 ((fun _ => 0)) ++ wA cI q_3 72 ((fun _ => 0))) H := hP
  have hD : va_D (va_A ([(h, .inr (0, [.null, .null, .null, .null, .null, .null, .int 0, .int 0, .int 0]))]) sz) ([(h, .inr (0, [.ref q_1, .ref q_2, .ref q_3, .null, .null, .null, .int 0, .int 0, .int 0]))] ++ wA cI q_1 72 ((fun _ => 0)) ++ wA cI q_2 72 ((fun _ => 0)) ++ wA cI q_3 72 ((fun _ => 0))) := hD
  refine lv_aload_n hx hb dX0_init_28 rfl (lv_at hl 0 rfl) ?_
  refine lv_bipush (v := 9) hx hb dX0_init_29 (by decide) ?_
  refine newI hx hb (hts (.arrayClass .int) (mg 4 rfl)) hK hP hD hS hA 0 rfl (by decide) (N' := 9) (by decide) (by decide) (Nat.le_of_ble_eq_true rfl) (Nat.le_of_ble_eq_true rfl) dX0_init_31 (fun q_4 H hP hD hS => ?_)
  have hP : va_P D vwCl ([(h, .inr (0, [.ref q_1, .ref q_2, .ref q_3, .null, .null, .null, .int 0, .int 0, .int 0]))] ++ wA cI q_1 72 ((fun _ => 0)) ++ wA cI q_2 72 ((fun _ => 0)) ++ wA cI q_3 72 ((fun _ => 0)) ++ wA cI q_4 9 ((fun _ => 0))) H := hP
  have hD : va_D (va_A ([(h, .inr (0, [.null, .null, .null, .null, .null, .null, .int 0, .int 0, .int 0]))]) sz) ([(h, .inr (0, [.ref q_1, .ref q_2, .ref q_3, .null, .null, .null, .int 0, .int 0, .int 0]))] ++ wA cI q_1 72 ((fun _ => 0)) ++ wA cI q_2 72 ((fun _ => 0)) ++ wA cI q_3 72 ((fun _ => 0)) ++ wA cI q_4 9 ((fun _ => 0))) := hD
  refine va_putF (D := D) (ci := 0) (v := .ref q_4) (ty := (.array .int)) (C := RX0) (T := TX0) (N := 9) hx hb hts iw_X0_init_X0 tyX0 tyX0_ok nmX0 hown hK hP hD hS 0 rfl rfl 3 (by decide) (hts (.fieldLink RX0 21 "MarbleRamps$Machine" "bins" "[I") (mg 8 rfl)) (fun _ h9 => h9) rfl hin rfl (by decide +kernel) rfl rfl (Nat.le_of_ble_eq_true rfl) dX0_init_33 (fun H locs hP hD hS => ?_)
  have hP : va_P D vwCl ([(h, .inr (0, [.ref q_1, .ref q_2, .ref q_3, .ref q_4, .null, .null, .int 0, .int 0, .int 0]))] ++ wA cI q_1 72 ((fun _ => 0)) ++ wA cI q_2 72 ((fun _ => 0)) ++ wA cI q_3 72 ((fun _ => 0)) ++ wA cI q_4 9 ((fun _ => 0))) H := hP
  have hD : va_D (va_A ([(h, .inr (0, [.null, .null, .null, .null, .null, .null, .int 0, .int 0, .int 0]))]) sz) ([(h, .inr (0, [.ref q_1, .ref q_2, .ref q_3, .ref q_4, .null, .null, .int 0, .int 0, .int 0]))] ++ wA cI q_1 72 ((fun _ => 0)) ++ wA cI q_2 72 ((fun _ => 0)) ++ wA cI q_3 72 ((fun _ => 0)) ++ wA cI q_4 9 ((fun _ => 0))) := hD
  refine lv_aload_n hx hb dX0_init_36 rfl (lv_at hl 0 rfl) ?_
  refine lv_iconst (v := 2) hx hb dX0_init_37 (by decide) ?_
  refine newI hx hb (hts (.arrayClass .int) (mg 4 rfl)) hK hP hD hS hA 0 rfl (by decide) (N' := 2) (by decide) (by decide) (Nat.le_of_ble_eq_true rfl) (Nat.le_of_ble_eq_true rfl) dX0_init_38 (fun q_5 H hP hD hS => ?_)
  have hP : va_P D vwCl ([(h, .inr (0, [.ref q_1, .ref q_2, .ref q_3, .ref q_4, .null, .null, .int 0, .int 0, .int 0]))] ++ wA cI q_1 72 ((fun _ => 0)) ++ wA cI q_2 72 ((fun _ => 0)) ++ wA cI q_3 72 ((fun _ => 0)) ++ wA cI q_4 9 ((fun _ => 0)) ++ wA cI q_5 2 ((fun _ => 0))) H := hP
  have hD : va_D (va_A ([(h, .inr (0, [.null, .null, .null, .null, .null, .null, .int 0, .int 0, .int 0]))]) sz) ([(h, .inr (0, [.ref q_1, .ref q_2, .ref q_3, .ref q_4, .null, .null, .int 0, .int 0, .int 0]))] ++ wA cI q_1 72 ((fun _ => 0)) ++ wA cI q_2 72 ((fun _ => 0)) ++ wA cI q_3 72 ((fun _ => 0)) ++ wA cI q_4 9 ((fun _ => 0)) ++ wA cI q_5 2 ((fun _ => 0))) := hD
  refine va_putF (D := D) (ci := 0) (v := .ref q_5) (ty := (.array .int)) (C := RX0) (T := TX0) (N := 9) hx hb hts iw_X0_init_X0 tyX0 tyX0_ok nmX0 hown hK hP hD hS 0 rfl rfl 4 (by decide) (hts (.fieldLink RX0 24 "MarbleRamps$Machine" "hopperColumns" "[I") (mg 9 rfl)) (fun _ h9 => h9) rfl hin rfl (by decide +kernel) rfl rfl (Nat.le_of_ble_eq_true rfl) dX0_init_40 (fun H locs hP hD hS => ?_)
  have hP : va_P D vwCl ([(h, .inr (0, [.ref q_1, .ref q_2, .ref q_3, .ref q_4, .ref q_5, .null, .int 0, .int 0, .int 0]))] ++ wA cI q_1 72 ((fun _ => 0)) ++ wA cI q_2 72 ((fun _ => 0)) ++ wA cI q_3 72 ((fun _ => 0)) ++ wA cI q_4 9 ((fun _ => 0)) ++ wA cI q_5 2 ((fun _ => 0))) H := hP
  have hD : va_D (va_A ([(h, .inr (0, [.null, .null, .null, .null, .null, .null, .int 0, .int 0, .int 0]))]) sz) ([(h, .inr (0, [.ref q_1, .ref q_2, .ref q_3, .ref q_4, .ref q_5, .null, .int 0, .int 0, .int 0]))] ++ wA cI q_1 72 ((fun _ => 0)) ++ wA cI q_2 72 ((fun _ => 0)) ++ wA cI q_3 72 ((fun _ => 0)) ++ wA cI q_4 9 ((fun _ => 0)) ++ wA cI q_5 2 ((fun _ => 0))) := hD
  refine lv_aload_n hx hb dX0_init_43 rfl (lv_at hl 0 rfl) ?_
  refine lv_iconst (v := 2) hx hb dX0_init_44 (by decide) ?_
  refine newI hx hb (hts (.arrayClass .int) (mg 4 rfl)) hK hP hD hS hA 0 rfl (by decide) (N' := 2) (by decide) (by decide) (Nat.le_of_ble_eq_true rfl) (Nat.le_of_ble_eq_true rfl) dX0_init_45 (fun q_6 H hP hD hS => ?_)
  have hP : va_P D vwCl ([(h, .inr (0, [.ref q_1, .ref q_2, .ref q_3, .ref q_4, .ref q_5, .null, .int 0, .int 0, .int 0]))] ++ wA cI q_1 72 ((fun _ => 0)) ++ wA cI q_2 72 ((fun _ => 0)) ++ wA cI q_3 72 ((fun _ => 0)) ++ wA cI q_4 9 ((fun _ => 0)) ++ wA cI q_5 2 ((fun _ => 0)) ++ wA cI q_6 2 ((fun _ => 0))) H := hP
  have hD : va_D (va_A ([(h, .inr (0, [.null, .null, .null, .null, .null, .null, .int 0, .int 0, .int 0]))]) sz) ([(h, .inr (0, [.ref q_1, .ref q_2, .ref q_3, .ref q_4, .ref q_5, .null, .int 0, .int 0, .int 0]))] ++ wA cI q_1 72 ((fun _ => 0)) ++ wA cI q_2 72 ((fun _ => 0)) ++ wA cI q_3 72 ((fun _ => 0)) ++ wA cI q_4 9 ((fun _ => 0)) ++ wA cI q_5 2 ((fun _ => 0)) ++ wA cI q_6 2 ((fun _ => 0))) := hD
  refine va_putF (D := D) (ci := 0) (v := .ref q_6) (ty := (.array .int)) (C := RX0) (T := TX0) (N := 9) hx hb hts iw_X0_init_X0 tyX0 tyX0_ok nmX0 hown hK hP hD hS 0 rfl rfl 5 (by decide) (hts (.fieldLink RX0 27 "MarbleRamps$Machine" "hopperMarbles" "[I") (mg 10 rfl)) (fun _ h9 => h9) rfl hin rfl (by decide +kernel) rfl rfl (Nat.le_of_ble_eq_true rfl) dX0_init_47 (fun H locs hP hD hS => ?_)
  have hP : va_P D vwCl ([(h, .inr (0, [.ref q_1, .ref q_2, .ref q_3, .ref q_4, .ref q_5, .ref q_6, .int 0, .int 0, .int 0]))] ++ wA cI q_1 72 ((fun _ => 0)) ++ wA cI q_2 72 ((fun _ => 0)) ++ wA cI q_3 72 ((fun _ => 0)) ++ wA cI q_4 9 ((fun _ => 0)) ++ wA cI q_5 2 ((fun _ => 0)) ++ wA cI q_6 2 ((fun _ => 0))) H := hP
  have hD : va_D (va_A ([(h, .inr (0, [.null, .null, .null, .null, .null, .null, .int 0, .int 0, .int 0]))]) sz) ([(h, .inr (0, [.ref q_1, .ref q_2, .ref q_3, .ref q_4, .ref q_5, .ref q_6, .int 0, .int 0, .int 0]))] ++ wA cI q_1 72 ((fun _ => 0)) ++ wA cI q_2 72 ((fun _ => 0)) ++ wA cI q_3 72 ((fun _ => 0)) ++ wA cI q_4 9 ((fun _ => 0)) ++ wA cI q_5 2 ((fun _ => 0)) ++ wA cI q_6 2 ((fun _ => 0))) := hD
  obtain ⟨a, ha⟩ : ∃ a : Nat → Nat, a = adr7 h q_1 q_2 q_3 q_4 q_5 q_6 := ⟨_, rfl⟩
  have hP : va_P D vwCl (wM cI a ((fun _ => 0)) ((fun _ => 0)) ((fun _ => 0)) ((fun _ => 0)) ((fun _ => 0)) ((fun _ => 0)) 0 0 0) H := by rw [ha]; exact hP
  have hD : va_D (va_A ([(h, .inr (0, [.null, .null, .null, .null, .null, .null, .int 0, .int 0, .int 0]))]) sz) (wM cI a ((fun _ => 0)) ((fun _ => 0)) ((fun _ => 0)) ((fun _ => 0)) ((fun _ => 0)) ((fun _ => 0)) 0 0 0) := by rw [ha]; exact hD
  have hl : lv_has ls 1 [(0, .ref (a 0))] := by rw [ha]; exact hl
  refine lv_aload_n hx hb dX0_init_50 rfl (lv_at hl 0 rfl) ?_
  refine lv_iconst (v := 5) hx hb dX0_init_51 (by decide) ?_
  refine lv_iconst (v := 4) hx hb dX0_init_52 (by decide) ?_
  refine kQVv (As := [.int 5, .int 4]) (rest := []) (wr := []) (W2 := (fun _ => (wM cI a ((fun _ => 0)) ((fun _ => 0)) ((fun _ => 0)) ((fun _ => 0)) ((xsc 2 (xsc 2 (fun _ => 0) 0 0) 1 (5 - 1))) ((fun _ => 0)) 5 4 0))) ⟨hx, hb, hml, hown, hts⟩ (mX0_layBoard l D cI a (fun _ => 0) (fun _ => 0) (fun _ => 0) (fun _ => 0) (fun _ => 0) (fun _ => 0) 0 0 0 5 4 _) (cwV 2 hts gX0_init_X0_layBoard rfl rfl rfl (by decide +kernel) ⟨Nat.le_of_ble_eq_true rfl, Nat.le_of_ble_eq_true rfl⟩) hP hD hK hN hS hA [0, 1, 2, 3, 4, 5, 6] (by decide) rfl [] (by decide) rfl (by decide) [0, 1, 2, 3, 4, 5, 6] (by decide) (fun _ => rfl) [0] rfl rfl rfl rfl hl.1 rfl (Nat.le_of_ble_eq_true rfl) dX0_init_53 ⟨Nat.le_of_ble_eq_true rfl, Nat.le_of_ble_eq_true rfl⟩ (fun u_7 H locs hr_7 hP hD hS => ?_)
  have hP : va_P D vwCl (wM cI a ((fun _ => 0)) ((fun _ => 0)) ((fun _ => 0)) ((fun _ => 0)) ((xsc 2 (xsc 2 (fun _ => 0) 0 0) 1 (5 - 1))) ((fun _ => 0)) 5 4 0) H := hP
  have hD : va_D (va_A ([(h, .inr (0, [.null, .null, .null, .null, .null, .null, .int 0, .int 0, .int 0]))]) sz) (wM cI a ((fun _ => 0)) ((fun _ => 0)) ((fun _ => 0)) ((fun _ => 0)) ((xsc 2 (xsc 2 (fun _ => 0) 0 0) 1 (5 - 1))) ((fun _ => 0)) 5 4 0) := hD
  refine W.widen (k := 6) (n := 229) (by omega) (by omega) ?_
  exact eQv a hx hb hr hlocks hP hD hK hS dX0_init_56 (by rw [ha]; rfl)
theorem iw_X1_init_X0 : ∀ w ∈ wsX00, w ∈ wsX1_init := mem_pos [38, 39, 40, 41, 42, 43, 44, 45, 46] (by decide +kernel)
theorem iw_X1_init_X1 : ∀ w ∈ wsX10, w ∈ wsX1_init := mem_pos [47, 48] (by decide +kernel)
set_option maxHeartbeats 4000000 in
set_option maxRecDepth 100000 in
theorem mX1_init (l : Launch) (D : va_G) (cI : ClassId) (x : Nat) (sz : Nat) : Met l yX1_init wsX1_init ({ frames := 4, cells := 14, slots := 476, locals := 85 } : Room) (va_Pc [.ref x] (wPQ D [(cI, .int)] sz ([(x, .inr (1, [.null, .null]))]))) (va_Qv (fun u : ((Nat → Nat) × (Nat → Nat)) => True) (wB D [(cI, .int)] (va_A ([(x, .inr (1, [.null, .null]))]) sz) (fun u : ((Nat → Nat) × (Nat → Nat)) => (wX x u.1 u.2 ++ wM cI u.1 ((fun _ => 0)) ((fun _ => 0)) ((fun _ => 0)) ((fun _ => 0)) ((xsc 2 (xsc 2 (fun _ => 0) 0 0) 1 (5 - 1))) ((fun _ => 0)) 5 4 0 ++ wM cI u.2 ((fun _ => 0)) ((fun _ => 0)) ((fun _ => 0)) ((fun _ => 0)) ((xsc 2 (xsc 2 (fun _ => 0) 0 0) 1 (5 - 1))) ((fun _ => 0)) 5 4 0))) (va_A ([(x, .inr (1, [.null, .null]))]) sz)) 14 476 (va_A ([(x, .inr (1, [.null, .null]))]) sz) := by
  refine mQ_of (by decide) rfl (Nat.le_of_ble_eq_true rfl) ?_
  intro p e s m below meth c hx hb hr hml hown hin hts hlocks hsz hP hK hN hD hA hS ls hl
  have hown : s.vm.findClass RX1 = some m.cls := hown
  have hl : lv_has ls 1 [(0, .ref x)] := hl
  have hP : va_P D vwCl ([(x, .inr (1, [.null, .null]))]) s.heap := hP
  refine lv_aload_n hx hb dX1_init_0 rfl (lv_at hl 0 rfl) ?_
  refine W.objInit hx hb hown (hts (.methodLink RX1 1 objectInit) (mg 1 rfl)) (hts (.instanceMethod objectInit) (mg 2 rfl)) (hts (.code objectInit ⟨#[0xb1]⟩ 1 none) (mg 3 rfl)) rfl (by rw [hml]; exact hl.1) rfl dX1_init_1 (Nat.le_of_ble_eq_true rfl) (Nat.le_of_ble_eq_true rfl) ?_
  refine W.eq (g2 := F0 m 4 ls []) rfl ?_
  refine lv_aload_n hx hb dX1_init_4 rfl (lv_at hl 0 rfl) ?_
  refine va_new (D := D) (ci := 0) (fs := [.null, .null, .null, .null, .null, .null, .int 0, .int 0, .int 0]) (C := RX0) (T := TX0) (N := 9) hx hb hts iw_X1_init_X0 tyX0 tyX0_ok hown (hts (.classLink RX1 7 RX0) (mg 4 rfl)) (hts (.instantiable RX0 9) (mg 5 rfl)) (hts (.initialized RX0) (mg 6 rfl)) hK hP hD hS hA rfl (fun j hj => by rcases (show j = 0 ∨ j = 1 ∨ j = 2 ∨ j = 3 ∨ j = 4 ∨ j = 5 ∨ j = 6 ∨ j = 7 ∨ j = 8 by omega) with rfl | rfl | rfl | rfl | rfl | rfl | rfl | rfl | rfl <;> rfl) (Nat.le_of_ble_eq_true rfl) (Nat.le_of_ble_eq_true rfl) dX1_init_5 (fun q_1 H hP hD hS => ?_)
  have hP : va_P D vwCl ([(x, .inr (1, [.null, .null]))] ++ [(q_1, .inr (0, [.null, .null, .null, .null, .null, .null, .int 0, .int 0, .int 0]))]) H := hP
  have hD : va_D (va_A ([(x, .inr (1, [.null, .null]))]) sz) ([(x, .inr (1, [.null, .null]))] ++ [(q_1, .inr (0, [.null, .null, .null, .null, .null, .null, .int 0, .int 0, .int 0]))]) := hD
  refine lv_dup hx hb dX1_init_8 rfl ?_
  refine kQIv (As := []) (rest := [.ref q_1, .ref x]) (wr := [(x, .inr (1, [.null, .null]))]) (W2 := (fun u : (Nat → Nat) => ([(x, .inr (1, [.null, .null]))] ++ wM cI u ((fun _ => 0)) ((fun _ => 0)) ((fun _ => 0)) ((fun _ => 0)) ((xsc 2 (xsc 2 (fun _ => 0) 0 0) 1 (5 - 1))) ((fun _ => 0)) 5 4 0))) ⟨hx, hb, hml, hown, hts⟩ (mX0_init l D cI q_1 _) (cwI 0 hts gX1_init_X0_init rfl rfl rfl (hts (.initialized RX0) (mg 6 rfl)) (hts (.methodLink RX1 9 yX0_init) (mg 9 rfl)) (hts (.instanceMethod yX0_init) (mg 10 rfl)) rfl (by decide +kernel) ⟨Nat.le_of_ble_eq_true rfl, Nat.le_of_ble_eq_true rfl⟩) hP hD hK hN hS hA [1] (by decide) rfl [0] (by decide) rfl (by decide) [0, 1, 2, 3, 4, 5, 6, 7] (by decide) (fun _ => rfl) [0] rfl rfl hl.1 rfl (Nat.le_of_ble_eq_true rfl) dX1_init_9 ⟨Nat.le_of_ble_eq_true rfl, Nat.le_of_ble_eq_true rfl⟩ (fun u_2 H locs hr_2 hP hD hS => ?_)
  rw [← hr_2]
  have hP : va_P D vwCl ([(x, .inr (1, [.null, .null]))] ++ wM cI u_2 ((fun _ => 0)) ((fun _ => 0)) ((fun _ => 0)) ((fun _ => 0)) ((xsc 2 (xsc 2 (fun _ => 0) 0 0) 1 (5 - 1))) ((fun _ => 0)) 5 4 0) H := hP
  have hD : va_D (va_A ([(x, .inr (1, [.null, .null]))]) sz) ([(x, .inr (1, [.null, .null]))] ++ wM cI u_2 ((fun _ => 0)) ((fun _ => 0)) ((fun _ => 0)) ((fun _ => 0)) ((xsc 2 (xsc 2 (fun _ => 0) 0 0) 1 (5 - 1))) ((fun _ => 0)) 5 4 0) := hD
  refine va_putF (D := D) (ci := 1) (v := .ref (u_2 0)) (ty := (.object "MarbleRamps$Machine")) (C := RX1) (T := TX1) (N := 2) hx hb hts iw_X1_init_X1 tyX1 tyX1_ok nmX1 hown hK hP hD hS 0 rfl rfl 0 (by decide) (hts (.fieldLink RX1 10 "MarbleRamps" "now" "LMarbleRamps$Machine;") (mg 7 rfl)) (fun _ h9 => h9) rfl hin rfl (by decide +kernel) rfl rfl (Nat.le_of_ble_eq_true rfl) dX1_init_12 (fun H locs hP hD hS => ?_)
  have hP : va_P D vwCl ([(x, .inr (1, [.ref (u_2 0), .null]))] ++ wM cI u_2 ((fun _ => 0)) ((fun _ => 0)) ((fun _ => 0)) ((fun _ => 0)) ((xsc 2 (xsc 2 (fun _ => 0) 0 0) 1 (5 - 1))) ((fun _ => 0)) 5 4 0) H := hP
  have hD : va_D (va_A ([(x, .inr (1, [.null, .null]))]) sz) ([(x, .inr (1, [.ref (u_2 0), .null]))] ++ wM cI u_2 ((fun _ => 0)) ((fun _ => 0)) ((fun _ => 0)) ((fun _ => 0)) ((xsc 2 (xsc 2 (fun _ => 0) 0 0) 1 (5 - 1))) ((fun _ => 0)) 5 4 0) := hD
  refine lv_aload_n hx hb dX1_init_15 rfl (lv_at hl 0 rfl) ?_
  refine va_new (D := D) (ci := 0) (fs := [.null, .null, .null, .null, .null, .null, .int 0, .int 0, .int 0]) (C := RX0) (T := TX0) (N := 9) hx hb hts iw_X1_init_X0 tyX0 tyX0_ok hown (hts (.classLink RX1 7 RX0) (mg 4 rfl)) (hts (.instantiable RX0 9) (mg 5 rfl)) (hts (.initialized RX0) (mg 6 rfl)) hK hP hD hS hA rfl (fun j hj => by rcases (show j = 0 ∨ j = 1 ∨ j = 2 ∨ j = 3 ∨ j = 4 ∨ j = 5 ∨ j = 6 ∨ j = 7 ∨ j = 8 by omega) with rfl | rfl | rfl | rfl | rfl | rfl | rfl | rfl | rfl <;> rfl) (Nat.le_of_ble_eq_true rfl) (Nat.le_of_ble_eq_true rfl) dX1_init_16 (fun q_3 H hP hD hS => ?_)
  have hP : va_P D vwCl ([(x, .inr (1, [.ref (u_2 0), .null]))] ++ wM cI u_2 ((fun _ => 0)) ((fun _ => 0)) ((fun _ => 0)) ((fun _ => 0)) ((xsc 2 (xsc 2 (fun _ => 0) 0 0) 1 (5 - 1))) ((fun _ => 0)) 5 4 0 ++ [(q_3, .inr (0, [.null, .null, .null, .null, .null, .null, .int 0, .int 0, .int 0]))]) H := hP
  have hD : va_D (va_A ([(x, .inr (1, [.null, .null]))]) sz) ([(x, .inr (1, [.ref (u_2 0), .null]))] ++ wM cI u_2 ((fun _ => 0)) ((fun _ => 0)) ((fun _ => 0)) ((fun _ => 0)) ((xsc 2 (xsc 2 (fun _ => 0) 0 0) 1 (5 - 1))) ((fun _ => 0)) 5 4 0 ++ [(q_3, .inr (0, [.null, .null, .null, .null, .null, .null, .int 0, .int 0, .int 0]))]) := hD
  refine lv_dup hx hb dX1_init_19 rfl ?_
  refine kQIv (As := []) (rest := [.ref q_3, .ref x]) (wr := [(x, .inr (1, [.ref (u_2 0), .null])), (u_2 0, .inr (0, [.ref (u_2 1), .ref (u_2 2), .ref (u_2 3), .ref (u_2 4), .ref (u_2 5), .ref (u_2 6), .int 5, .int 4, .int 0])), (u_2 1, .inl (cI, 72, .inl (fun _ => 0))), (u_2 2, .inl (cI, 72, .inl (fun _ => 0))), (u_2 3, .inl (cI, 72, .inl (fun _ => 0))), (u_2 4, .inl (cI, 9, .inl (fun _ => 0))), (u_2 5, .inl (cI, 2, .inl (xsc 2 (xsc 2 (fun _ => 0) 0 0) 1 (5 - 1)))), (u_2 6, .inl (cI, 2, .inl (fun _ => 0)))]) (W2 := (fun u : (Nat → Nat) => ([(x, .inr (1, [.ref (u_2 0), .null]))] ++ wM cI u_2 ((fun _ => 0)) ((fun _ => 0)) ((fun _ => 0)) ((fun _ => 0)) ((xsc 2 (xsc 2 (fun _ => 0) 0 0) 1 (5 - 1))) ((fun _ => 0)) 5 4 0 ++ wM cI u ((fun _ => 0)) ((fun _ => 0)) ((fun _ => 0)) ((fun _ => 0)) ((xsc 2 (xsc 2 (fun _ => 0) 0 0) 1 (5 - 1))) ((fun _ => 0)) 5 4 0))) ⟨hx, hb, hml, hown, hts⟩ (mX0_init l D cI q_3 _) (cwI 0 hts gX1_init_X0_init rfl rfl rfl (hts (.initialized RX0) (mg 6 rfl)) (hts (.methodLink RX1 9 yX0_init) (mg 9 rfl)) (hts (.instanceMethod yX0_init) (mg 10 rfl)) rfl (by decide +kernel) ⟨Nat.le_of_ble_eq_true rfl, Nat.le_of_ble_eq_true rfl⟩) hP hD hK hN hS hA [8] (by decide) rfl [0, 1, 2, 3, 4, 5, 6, 7] (by decide) rfl (by decide) [0, 1, 2, 3, 4, 5, 6, 7, 8, 9, 10, 11, 12, 13, 14] (by decide) (fun _ => rfl) [0] rfl rfl hl.1 rfl (Nat.le_of_ble_eq_true rfl) dX1_init_20 ⟨Nat.le_of_ble_eq_true rfl, Nat.le_of_ble_eq_true rfl⟩ (fun u_4 H locs hr_4 hP hD hS => ?_)
  rw [← hr_4]
  have hP : va_P D vwCl ([(x, .inr (1, [.ref (u_2 0), .null]))] ++ wM cI u_2 ((fun _ => 0)) ((fun _ => 0)) ((fun _ => 0)) ((fun _ => 0)) ((xsc 2 (xsc 2 (fun _ => 0) 0 0) 1 (5 - 1))) ((fun _ => 0)) 5 4 0 ++ wM cI u_4 ((fun _ => 0)) ((fun _ => 0)) ((fun _ => 0)) ((fun _ => 0)) ((xsc 2 (xsc 2 (fun _ => 0) 0 0) 1 (5 - 1))) ((fun _ => 0)) 5 4 0) H := hP
  have hD : va_D (va_A ([(x, .inr (1, [.null, .null]))]) sz) ([(x, .inr (1, [.ref (u_2 0), .null]))] ++ wM cI u_2 ((fun _ => 0)) ((fun _ => 0)) ((fun _ => 0)) ((fun _ => 0)) ((xsc 2 (xsc 2 (fun _ => 0) 0 0) 1 (5 - 1))) ((fun _ => 0)) 5 4 0 ++ wM cI u_4 ((fun _ => 0)) ((fun _ => 0)) ((fun _ => 0)) ((fun _ => 0)) ((xsc 2 (xsc 2 (fun _ => 0) 0 0) 1 (5 - 1))) ((fun _ => 0)) 5 4 0) := hD
  refine va_putF (D := D) (ci := 1) (v := .ref (u_4 0)) (ty := (.object "MarbleRamps$Machine")) (C := RX1) (T := TX1) (N := 2) hx hb hts iw_X1_init_X1 tyX1 tyX1_ok nmX1 hown hK hP hD hS 0 rfl rfl 1 (by decide) (hts (.fieldLink RX1 16 "MarbleRamps" "trial" "LMarbleRamps$Machine;") (mg 8 rfl)) (fun _ h9 => h9) rfl hin rfl (by decide +kernel) rfl rfl (Nat.le_of_ble_eq_true rfl) dX1_init_23 (fun H locs hP hD hS => ?_)
  have hP : va_P D vwCl ([(x, .inr (1, [.ref (u_2 0), .ref (u_4 0)]))] ++ wM cI u_2 ((fun _ => 0)) ((fun _ => 0)) ((fun _ => 0)) ((fun _ => 0)) ((xsc 2 (xsc 2 (fun _ => 0) 0 0) 1 (5 - 1))) ((fun _ => 0)) 5 4 0 ++ wM cI u_4 ((fun _ => 0)) ((fun _ => 0)) ((fun _ => 0)) ((fun _ => 0)) ((xsc 2 (xsc 2 (fun _ => 0) 0 0) 1 (5 - 1))) ((fun _ => 0)) 5 4 0) H := hP
  have hD : va_D (va_A ([(x, .inr (1, [.null, .null]))]) sz) ([(x, .inr (1, [.ref (u_2 0), .ref (u_4 0)]))] ++ wM cI u_2 ((fun _ => 0)) ((fun _ => 0)) ((fun _ => 0)) ((fun _ => 0)) ((xsc 2 (xsc 2 (fun _ => 0) 0 0) 1 (5 - 1))) ((fun _ => 0)) 5 4 0 ++ wM cI u_4 ((fun _ => 0)) ((fun _ => 0)) ((fun _ => 0)) ((fun _ => 0)) ((xsc 2 (xsc 2 (fun _ => 0) 0 0) 1 (5 - 1))) ((fun _ => 0)) 5 4 0) := hD
  refine W.widen (k := 14) (n := 476) (by omega) (by omega) ?_
  exact eQv (u_2, u_4) hx hb hr hlocks hP hD hK hS dX1_init_26 (trivial)
