theorem iw_X1_lay_X1 : ∀ w ∈ wsX10, w ∈ wsX1_lay := mem_pos [31, 32] (by decide +kernel)
set_option maxHeartbeats 4000000 in
set_option maxRecDepth 100000 in
theorem mX1_lay (l : Launch) (D : va_G) (cI : ClassId) (x : Nat) (b : Nat → Nat) (a : Nat → Nat) (pa pe st bn hc hm : Nat → Int32) (C R lo : Int32) (cc rr : Int32) (hp : xin cc 2 9 = true) (hq : xin rr 1 8 = true) (sz : Nat) : Met l yX1_lay wsX1_lay ({ frames := 7, cells := 0, slots := 0, locals := 112 } : Room) (va_Pc [.ref x, .int cc, .int rr] (wPQ D [(cI, .int)] sz (wX x a b ++ wM cI a pa pe st bn hc hm C R lo))) (va_Qi (fun (zz : Int32) (_ : Unit) => zz = cc * rr) (wB D [(cI, .int)] (va_A (wX x a b ++ wM cI a pa pe st bn hc hm C R lo) sz) (fun _ : Unit => (wX x a b ++ wM cI a ((fun _ => 0)) ((fun _ => 0)) ((fun _ => 0)) ((fun _ => 0)) ((xsc 2 (xsc 2 hc 0 0) 1 (cc - 1))) hm cc rr 0))) (va_A (wX x a b ++ wM cI a pa pe st bn hc hm C R lo) sz)) 0 0 (va_A (wX x a b ++ wM cI a pa pe st bn hc hm C R lo) sz) := by
  refine mQ_of (by decide) rfl (Nat.le_of_ble_eq_true rfl) ?_
  intro p e s m below meth c hx hb hr hml hown hin hts hlocks hsz hP hK hN hD hA hS ls hl
  have hown : s.vm.findClass RX1 = some m.cls := hown
  have hl : lv_has ls 3 [(0, .ref x), (1, .int cc), (2, .int rr)] := hl
  have hP : va_P D vwCl (wX x a b ++ wM cI a pa pe st bn hc hm C R lo) s.heap := hP
  refine lv_iload_n hx hb dX1_lay_0 rfl (lv_at hl 1 rfl) ?_
  refine lv_iconst (v := 2) hx hb dX1_lay_1 (by decide) ?_
  refine lv_bipush (v := 9) hx hb dX1_lay_2 (by decide) ?_
  refine kRSv (As := [.int cc, .int 2, .int 9]) (rest := []) ⟨hx, hb, hml, hown, hts⟩ (mX1_needWithin l D cI cc 2 9 hp) (va_cwS 3 hts gX1_lay_X1_needWithin rfl rfl rfl (by decide +kernel) ⟨Nat.le_of_ble_eq_true rfl, Nat.le_of_ble_eq_true rfl⟩) hP hK hN [] rfl [0] rfl rfl hl.1 rfl (Nat.le_of_ble_eq_true rfl) dX1_lay_4 ⟨Nat.zero_le _, Nat.zero_le _⟩ ?_
  refine lv_iload_n hx hb dX1_lay_7 rfl (lv_at hl 2 rfl) ?_
  refine lv_iconst (v := 1) hx hb dX1_lay_8 (by decide) ?_
  refine lv_bipush (v := 8) hx hb dX1_lay_9 (by decide) ?_
  refine kRSv (As := [.int rr, .int 1, .int 8]) (rest := []) ⟨hx, hb, hml, hown, hts⟩ (mX1_needWithin l D cI rr 1 8 hq) (va_cwS 3 hts gX1_lay_X1_needWithin rfl rfl rfl (by decide +kernel) ⟨Nat.le_of_ble_eq_true rfl, Nat.le_of_ble_eq_true rfl⟩) hP hK hN [] rfl [0] rfl rfl hl.1 rfl (Nat.le_of_ble_eq_true rfl) dX1_lay_11 ⟨Nat.zero_le _, Nat.zero_le _⟩ ?_
  refine lv_aload_n hx hb dX1_lay_14 rfl (lv_at hl 0 rfl) ?_
  refine va_get (D := D) (ci := 1) (v := .ref (a 0)) (C := RX1) (T := TX1) (N := 2) hx hb hts iw_X1_lay_X1 hown hK hP 0 rfl rfl 0 (by decide) (hts (.fieldLink RX1 10 "MarbleRamps" "now" "LMarbleRamps$Machine;") (mg 1 rfl)) (fun _ h9 => h9) rfl dX1_lay_15 ?_
  refine lv_iload_n hx hb dX1_lay_18 rfl (lv_at hl 1 rfl) ?_
  refine lv_iload_n hx hb dX1_lay_19 rfl (lv_at hl 2 rfl) ?_
  refine kQVv (As := [.int cc, .int rr]) (rest := []) (wr := [(x, .inr (1, [.ref (a 0), .ref (b 0)]))]) (W2 := (fun _ => (wX x a b ++ wM cI a ((fun _ => 0)) ((fun _ => 0)) ((fun _ => 0)) ((fun _ => 0)) ((xsc 2 (xsc 2 hc 0 0) 1 (cc - 1))) hm cc rr 0))) ⟨hx, hb, hml, hown, hts⟩ (mX0_layBoard l D cI a pa pe st bn hc hm C R lo cc rr _) (cwV 2 hts gX1_lay_X0_layBoard rfl rfl rfl (by decide +kernel) ⟨Nat.le_of_ble_eq_true rfl, Nat.le_of_ble_eq_true rfl⟩) hP hD hK hN hS hA [1, 2, 3, 4, 5, 6, 7] (by decide) rfl [0] (by decide) rfl (by decide) [0, 1, 2, 3, 4, 5, 6, 7] (by decide) (fun _ => rfl) [0] rfl rfl rfl rfl hl.1 rfl (Nat.le_of_ble_eq_true rfl) dX1_lay_20 ⟨Nat.le_of_ble_eq_true rfl, Nat.le_of_ble_eq_true rfl⟩ (fun u_1 H locs hr_1 hP hD hS => ?_)
  have hP : va_P D vwCl (wX x a b ++ wM cI a ((fun _ => 0)) ((fun _ => 0)) ((fun _ => 0)) ((fun _ => 0)) ((xsc 2 (xsc 2 hc 0 0) 1 (cc - 1))) hm cc rr 0) H := hP
  have hD : va_D (va_A (wX x a b ++ wM cI a pa pe st bn hc hm C R lo) sz) (wX x a b ++ wM cI a ((fun _ => 0)) ((fun _ => 0)) ((fun _ => 0)) ((fun _ => 0)) ((xsc 2 (xsc 2 hc 0 0) 1 (cc - 1))) hm cc rr 0) := hD
  refine lv_iload_n hx hb dX1_lay_23 rfl (lv_at hl 1 rfl) ?_
  refine lv_iload_n hx hb dX1_lay_24 rfl (lv_at hl 2 rfl) ?_
  refine lv_imul hx hb dX1_lay_25 ?_
  exact eQi () hx hb hr hlocks hP hD hK hS dX1_lay_26 (rfl)
theorem iw_X1_put_X1 : ∀ w ∈ wsX10, w ∈ wsX1_put := mem_pos [52, 53] (by decide +kernel)
set_option maxHeartbeats 4000000 in
set_option maxRecDepth 100000 in
theorem mX1_put (l : Launch) (D : va_G) (cI : ClassId) (x : Nat) (b : Nat → Nat) (a : Nat → Nat) (pa pe st bn hc hm : Nat → Int32) (C R lo : Int32) (rr kk np : Int32) (hp : xhas R rr = true) (hq : xhas C kk = true) (hr3 : xin np 0 4 = true) (sz : Nat) : Met l yX1_put wsX1_put ({ frames := 8, cells := 0, slots := 0, locals := 133 } : Room) (va_Pc [.ref x, .int rr, .int kk, .int np] (wPQ D [(cI, .int)] sz (wX x a b ++ wM cI a pa pe st bn hc hm C R lo))) (va_Qi (fun (zz : Int32) (_ : Unit) => zz = xcl 72 pa (rr * C + kk)) (wB D [(cI, .int)] (va_A (wX x a b ++ wM cI a pa pe st bn hc hm C R lo) sz) (fun _ : Unit => (wX x a b ++ wM cI a ((xsc 72 pa (rr * C + kk) np)) ((xsc 72 pe (rr * C + kk) (if np = 3 then 2 else 0))) ((xsc 72 st (rr * C + kk) 0)) bn hc hm C R lo))) (va_A (wX x a b ++ wM cI a pa pe st bn hc hm C R lo) sz)) 0 0 (va_A (wX x a b ++ wM cI a pa pe st bn hc hm C R lo) sz) := by
  refine mQ_of (by decide) rfl (Nat.le_of_ble_eq_true rfl) ?_
  intro p e s m below meth c hx hb hr hml hown hin hts hlocks hsz hP hK hN hD hA hS ls hl
  have hown : s.vm.findClass RX1 = some m.cls := hown
  have hl : lv_has ls 4 [(0, .ref x), (1, .int rr), (2, .int kk), (3, .int np)] := hl
  have hP : va_P D vwCl (wX x a b ++ wM cI a pa pe st bn hc hm C R lo) s.heap := hP
  refine lv_aload_n hx hb dX1_put_0 rfl (lv_at hl 0 rfl) ?_
  refine lv_iload_n hx hb dX1_put_1 rfl (lv_at hl 1 rfl) ?_
  refine lv_iload_n hx hb dX1_put_2 rfl (lv_at hl 2 rfl) ?_
  refine kRVv (As := [.int rr, .int kk]) (rest := []) ⟨hx, hb, hml, hown, hts⟩ (mX1_needPlace l D cI x b a pa pe st bn hc hm C R lo rr kk hp hq) (cwV 2 hts gX1_put_X1_needPlace rfl rfl rfl (by decide +kernel) ⟨Nat.le_of_ble_eq_true rfl, Nat.le_of_ble_eq_true rfl⟩) hP hK hN [0, 1, 2, 3, 4, 5, 6, 7] rfl [0] rfl rfl rfl rfl hl.1 rfl (Nat.le_of_ble_eq_true rfl) dX1_put_3 ⟨Nat.zero_le _, Nat.zero_le _⟩ ?_
  refine lv_iload_n hx hb dX1_put_6 rfl (lv_at hl 3 rfl) ?_
  refine lv_iconst (v := 0) hx hb dX1_put_7 (by decide) ?_
  refine lv_iconst (v := 4) hx hb dX1_put_8 (by decide) ?_
  refine kRSv (As := [.int np, .int 0, .int 4]) (rest := []) ⟨hx, hb, hml, hown, hts⟩ (mX1_needWithin l D cI np 0 4 hr3) (va_cwS 3 hts gX1_put_X1_needWithin rfl rfl rfl (by decide +kernel) ⟨Nat.le_of_ble_eq_true rfl, Nat.le_of_ble_eq_true rfl⟩) hP hK hN [] rfl [0] rfl rfl hl.1 rfl (Nat.le_of_ble_eq_true rfl) dX1_put_9 ⟨Nat.zero_le _, Nat.zero_le _⟩ ?_
  refine lv_aload_n hx hb dX1_put_12 rfl (lv_at hl 0 rfl) ?_
  refine va_get (D := D) (ci := 1) (v := .ref (a 0)) (C := RX1) (T := TX1) (N := 2) hx hb hts iw_X1_put_X1 hown hK hP 0 rfl rfl 0 (by decide) (hts (.fieldLink RX1 10 "MarbleRamps" "now" "LMarbleRamps$Machine;") (mg 1 rfl)) (fun _ h9 => h9) rfl dX1_put_13 ?_
  refine lv_iload_n hx hb dX1_put_16 rfl (lv_at hl 1 rfl) ?_
  refine lv_iload_n hx hb dX1_put_17 rfl (lv_at hl 2 rfl) ?_
  refine lv_iload_n hx hb dX1_put_18 rfl (lv_at hl 3 rfl) ?_
  refine lv_iload_n hx hb dX1_put_19 rfl (lv_at hl 3 rfl) ?_
  refine lv_iconst (v := 3) hx hb dX1_put_20 (by decide) ?_
  refine lv_icmp_ne (tgt := 28) hx hb dX1_put_21 (by decide) (fun c_1 => ?_) (fun c_1 => ?_)
  · refine lv_iconst (v := 0) hx hb dX1_put_28 (by decide) ?_
    refine kQVi (As := [.int rr, .int kk, .int np, .int 0]) (rest := []) (wr := [(x, .inr (1, [.ref (a 0), .ref (b 0)]))]) (W2 := (fun _ => (wX x a b ++ wM cI a ((xsc 72 pa (rr * C + kk) np)) ((xsc 72 pe (rr * C + kk) 0)) ((xsc 72 st (rr * C + kk) 0)) bn hc hm C R lo))) ⟨hx, hb, hml, hown, hts⟩ (mX0_replacePart l D cI a pa pe st bn hc hm C R lo rr kk np 0 _) (cwV 4 hts gX1_put_X0_replacePart rfl rfl rfl (by decide +kernel) ⟨Nat.le_of_ble_eq_true rfl, Nat.le_of_ble_eq_true rfl⟩) hP hD hK hN hS hA [1, 2, 3, 4, 5, 6, 7] (by decide) rfl [0] (by decide) rfl (by decide) [0, 1, 2, 3, 4, 5, 6, 7] (by decide) (fun _ => rfl) [0] rfl rfl rfl rfl hl.1 rfl (Nat.le_of_ble_eq_true rfl) dX1_put_29 ⟨Nat.le_of_ble_eq_true rfl, Nat.le_of_ble_eq_true rfl⟩ (fun r_2 u_2 H locs hr_2 hP hD hS => ?_)
    subst r_2
    have hP : va_P D vwCl (wX x a b ++ wM cI a ((xsc 72 pa (rr * C + kk) np)) ((xsc 72 pe (rr * C + kk) 0)) ((xsc 72 st (rr * C + kk) 0)) bn hc hm C R lo) H := hP
    have hD : va_D (va_A (wX x a b ++ wM cI a pa pe st bn hc hm C R lo) sz) (wX x a b ++ wM cI a ((xsc 72 pa (rr * C + kk) np)) ((xsc 72 pe (rr * C + kk) 0)) ((xsc 72 st (rr * C + kk) 0)) bn hc hm C R lo) := hD
    have hP : va_P D vwCl (wX x a b ++ wM cI a ((xsc 72 pa (rr * C + kk) np)) ((xsc 72 pe (rr * C + kk) (if np = 3 then 2 else 0))) ((xsc 72 st (rr * C + kk) 0)) bn hc hm C R lo) H := by simp only [if_neg c_1]; exact hP
    have hD : va_D (va_A (wX x a b ++ wM cI a pa pe st bn hc hm C R lo) sz) (wX x a b ++ wM cI a ((xsc 72 pa (rr * C + kk) np)) ((xsc 72 pe (rr * C + kk) (if np = 3 then 2 else 0))) ((xsc 72 st (rr * C + kk) 0)) bn hc hm C R lo) := by simp only [if_neg c_1]; exact hD
    exact eQi () hx hb hr hlocks hP hD hK hS dX1_put_32 (rfl)
  · refine lv_iconst (v := 2) hx hb dX1_put_24 (by decide) ?_
    refine lv_goto (tgt := 29) hx hb dX1_put_25 (by decide) ?_
    refine kQVi (As := [.int rr, .int kk, .int np, .int 2]) (rest := []) (wr := [(x, .inr (1, [.ref (a 0), .ref (b 0)]))]) (W2 := (fun _ => (wX x a b ++ wM cI a ((xsc 72 pa (rr * C + kk) np)) ((xsc 72 pe (rr * C + kk) 2)) ((xsc 72 st (rr * C + kk) 0)) bn hc hm C R lo))) ⟨hx, hb, hml, hown, hts⟩ (mX0_replacePart l D cI a pa pe st bn hc hm C R lo rr kk np 2 _) (cwV 4 hts gX1_put_X0_replacePart rfl rfl rfl (by decide +kernel) ⟨Nat.le_of_ble_eq_true rfl, Nat.le_of_ble_eq_true rfl⟩) hP hD hK hN hS hA [1, 2, 3, 4, 5, 6, 7] (by decide) rfl [0] (by decide) rfl (by decide) [0, 1, 2, 3, 4, 5, 6, 7] (by decide) (fun _ => rfl) [0] rfl rfl rfl rfl hl.1 rfl (Nat.le_of_ble_eq_true rfl) dX1_put_29 ⟨Nat.le_of_ble_eq_true rfl, Nat.le_of_ble_eq_true rfl⟩ (fun r_3 u_3 H locs hr_3 hP hD hS => ?_)
    subst r_3
    have hP : va_P D vwCl (wX x a b ++ wM cI a ((xsc 72 pa (rr * C + kk) np)) ((xsc 72 pe (rr * C + kk) 2)) ((xsc 72 st (rr * C + kk) 0)) bn hc hm C R lo) H := hP
    have hD : va_D (va_A (wX x a b ++ wM cI a pa pe st bn hc hm C R lo) sz) (wX x a b ++ wM cI a ((xsc 72 pa (rr * C + kk) np)) ((xsc 72 pe (rr * C + kk) 2)) ((xsc 72 st (rr * C + kk) 0)) bn hc hm C R lo) := hD
    have hP : va_P D vwCl (wX x a b ++ wM cI a ((xsc 72 pa (rr * C + kk) np)) ((xsc 72 pe (rr * C + kk) (if np = 3 then 2 else 0))) ((xsc 72 st (rr * C + kk) 0)) bn hc hm C R lo) H := by simp only [if_pos c_1]; exact hP
    have hD : va_D (va_A (wX x a b ++ wM cI a pa pe st bn hc hm C R lo) sz) (wX x a b ++ wM cI a ((xsc 72 pa (rr * C + kk) np)) ((xsc 72 pe (rr * C + kk) (if np = 3 then 2 else 0))) ((xsc 72 st (rr * C + kk) 0)) bn hc hm C R lo) := by simp only [if_pos c_1]; exact hD
    exact eQi () hx hb hr hlocks hP hD hK hS dX1_put_32 (rfl)
theorem iw_X1_putCounter_X1 : ∀ w ∈ wsX10, w ∈ wsX1_putCounter := mem_pos [52, 53] (by decide +kernel)
set_option maxHeartbeats 4000000 in
set_option maxRecDepth 100000 in
theorem mX1_putCounter (l : Launch) (D : va_G) (cI : ClassId) (x : Nat) (b : Nat → Nat) (a : Nat → Nat) (pa pe st bn hc hm : Nat → Int32) (C R lo : Int32) (rr kk nq : Int32) (hp : xhas R rr = true) (hq : xhas C kk = true) (hr3 : xin nq 2 9 = true) (sz : Nat) : Met l yX1_putCounter wsX1_putCounter ({ frames := 8, cells := 0, slots := 0, locals := 133 } : Room) (va_Pc [.ref x, .int rr, .int kk, .int nq] (wPQ D [(cI, .int)] sz (wX x a b ++ wM cI a pa pe st bn hc hm C R lo))) (va_Qi (fun (zz : Int32) (_ : Unit) => zz = xcl 72 pa (rr * C + kk)) (wB D [(cI, .int)] (va_A (wX x a b ++ wM cI a pa pe st bn hc hm C R lo) sz) (fun _ : Unit => (wX x a b ++ wM cI a ((xsc 72 pa (rr * C + kk) 5)) ((xsc 72 pe (rr * C + kk) nq)) ((xsc 72 st (rr * C + kk) 0)) bn hc hm C R lo))) (va_A (wX x a b ++ wM cI a pa pe st bn hc hm C R lo) sz)) 0 0 (va_A (wX x a b ++ wM cI a pa pe st bn hc hm C R lo) sz) := by
  refine mQ_of (by decide) rfl (Nat.le_of_ble_eq_true rfl) ?_
  intro p e s m below meth c hx hb hr hml hown hin hts hlocks hsz hP hK hN hD hA hS ls hl
  have hown : s.vm.findClass RX1 = some m.cls := hown
  have hl : lv_has ls 4 [(0, .ref x), (1, .int rr), (2, .int kk), (3, .int nq)] := hl
  have hP : va_P D vwCl (wX x a b ++ wM cI a pa pe st bn hc hm C R lo) s.heap := hP
  refine lv_aload_n hx hb dX1_putCounter_0 rfl (lv_at hl 0 rfl) ?_
  refine lv_iload_n hx hb dX1_putCounter_1 rfl (lv_at hl 1 rfl) ?_
  refine lv_iload_n hx hb dX1_putCounter_2 rfl (lv_at hl 2 rfl) ?_
  refine kRVv (As := [.int rr, .int kk]) (rest := []) ⟨hx, hb, hml, hown, hts⟩ (mX1_needPlace l D cI x b a pa pe st bn hc hm C R lo rr kk hp hq) (cwV 2 hts gX1_putCounter_X1_needPlace rfl rfl rfl (by decide +kernel) ⟨Nat.le_of_ble_eq_true rfl, Nat.le_of_ble_eq_true rfl⟩) hP hK hN [0, 1, 2, 3, 4, 5, 6, 7] rfl [0] rfl rfl rfl rfl hl.1 rfl (Nat.le_of_ble_eq_true rfl) dX1_putCounter_3 ⟨Nat.zero_le _, Nat.zero_le _⟩ ?_
  refine lv_iload_n hx hb dX1_putCounter_6 rfl (lv_at hl 3 rfl) ?_
  refine lv_iconst (v := 2) hx hb dX1_putCounter_7 (by decide) ?_
  refine lv_bipush (v := 9) hx hb dX1_putCounter_8 (by decide) ?_
  refine kRSv (As := [.int nq, .int 2, .int 9]) (rest := []) ⟨hx, hb, hml, hown, hts⟩ (mX1_needWithin l D cI nq 2 9 hr3) (va_cwS 3 hts gX1_putCounter_X1_needWithin rfl rfl rfl (by decide +kernel) ⟨Nat.le_of_ble_eq_true rfl, Nat.le_of_ble_eq_true rfl⟩) hP hK hN [] rfl [0] rfl rfl hl.1 rfl (Nat.le_of_ble_eq_true rfl) dX1_putCounter_10 ⟨Nat.zero_le _, Nat.zero_le _⟩ ?_
  refine lv_aload_n hx hb dX1_putCounter_13 rfl (lv_at hl 0 rfl) ?_
  refine va_get (D := D) (ci := 1) (v := .ref (a 0)) (C := RX1) (T := TX1) (N := 2) hx hb hts iw_X1_putCounter_X1 hown hK hP 0 rfl rfl 0 (by decide) (hts (.fieldLink RX1 10 "MarbleRamps" "now" "LMarbleRamps$Machine;") (mg 1 rfl)) (fun _ h9 => h9) rfl dX1_putCounter_14 ?_
  refine lv_iload_n hx hb dX1_putCounter_17 rfl (lv_at hl 1 rfl) ?_
  refine lv_iload_n hx hb dX1_putCounter_18 rfl (lv_at hl 2 rfl) ?_
  refine lv_iconst (v := 5) hx hb dX1_putCounter_19 (by decide) ?_
  refine lv_iload_n hx hb dX1_putCounter_20 rfl (lv_at hl 3 rfl) ?_
  refine kQVi (As := [.int rr, .int kk, .int 5, .int nq]) (rest := []) (wr := [(x, .inr (1, [.ref (a 0), .ref (b 0)]))]) (W2 := (fun _ => (wX x a b ++ wM cI a ((xsc 72 pa (rr * C + kk) 5)) ((xsc 72 pe (rr * C + kk) nq)) ((xsc 72 st (rr * C + kk) 0)) bn hc hm C R lo))) ⟨hx, hb, hml, hown, hts⟩ (mX0_replacePart l D cI a pa pe st bn hc hm C R lo rr kk 5 nq _) (cwV 4 hts gX1_putCounter_X0_replacePart rfl rfl rfl (by decide +kernel) ⟨Nat.le_of_ble_eq_true rfl, Nat.le_of_ble_eq_true rfl⟩) hP hD hK hN hS hA [1, 2, 3, 4, 5, 6, 7] (by decide) rfl [0] (by decide) rfl (by decide) [0, 1, 2, 3, 4, 5, 6, 7] (by decide) (fun _ => rfl) [0] rfl rfl rfl rfl hl.1 rfl (Nat.le_of_ble_eq_true rfl) dX1_putCounter_21 ⟨Nat.le_of_ble_eq_true rfl, Nat.le_of_ble_eq_true rfl⟩ (fun r_1 u_1 H locs hr_1 hP hD hS => ?_)
  subst r_1
  have hP : va_P D vwCl (wX x a b ++ wM cI a ((xsc 72 pa (rr * C + kk) 5)) ((xsc 72 pe (rr * C + kk) nq)) ((xsc 72 st (rr * C + kk) 0)) bn hc hm C R lo) H := hP
  have hD : va_D (va_A (wX x a b ++ wM cI a pa pe st bn hc hm C R lo) sz) (wX x a b ++ wM cI a ((xsc 72 pa (rr * C + kk) 5)) ((xsc 72 pe (rr * C + kk) nq)) ((xsc 72 st (rr * C + kk) 0)) bn hc hm C R lo) := hD
  exact eQi () hx hb hr hlocks hP hD hK hS dX1_putCounter_24 (rfl)
theorem iw_X1_turn_X1 : ∀ w ∈ wsX10, w ∈ wsX1_turn := mem_pos [54, 55] (by decide +kernel)
set_option maxHeartbeats 4000000 in
set_option maxRecDepth 100000 in
theorem mX1_turn (l : Launch) (D : va_G) (cI : ClassId) (x : Nat) (b : Nat → Nat) (a : Nat → Nat) (pa pe st bn hc hm : Nat → Int32) (C R lo : Int32) (rr kk : Int32) (hp : xhas R rr = true) (hq : xhas C kk = true) (hr3 : xcl 72 pa (rr * C + kk) = 3) (sz : Nat) : Met l yX1_turn wsX1_turn ({ frames := 8, cells := 0, slots := 0, locals := 133 } : Room) (va_Pc [.ref x, .int rr, .int kk] (wPQ D [(cI, .int)] sz (wX x a b ++ wM cI a pa pe st bn hc hm C R lo))) (va_Qi (fun (zz : Int32) (_ : Unit) => zz = bi (xRight pa (xsc 72 st (rr * C + kk) (if xRight pa st (rr * C + kk) = true then 0 else 1)) (rr * C + kk))) (wB D [(cI, .int)] (va_A (wX x a b ++ wM cI a pa pe st bn hc hm C R lo) sz) (fun _ : Unit => (wX x a b ++ wM cI a pa pe ((xsc 72 st (rr * C + kk) (if xRight pa st (rr * C + kk) = true then 0 else 1))) bn hc hm C R lo))) (va_A (wX x a b ++ wM cI a pa pe st bn hc hm C R lo) sz)) 0 0 (va_A (wX x a b ++ wM cI a pa pe st bn hc hm C R lo) sz) := by
  refine mQ_of (by decide) rfl (Nat.le_of_ble_eq_true rfl) ?_
  intro p e s m below meth c hx hb hr hml hown hin hts hlocks hsz hP hK hN hD hA hS ls hl
  have hown : s.vm.findClass RX1 = some m.cls := hown
  have hl : lv_has ls 4 [(0, .ref x), (1, .int rr), (2, .int kk)] := hl
  have hP : va_P D vwCl (wX x a b ++ wM cI a pa pe st bn hc hm C R lo) s.heap := hP
  refine lv_aload_n hx hb dX1_turn_0 rfl (lv_at hl 0 rfl) ?_
  refine lv_iload_n hx hb dX1_turn_1 rfl (lv_at hl 1 rfl) ?_
  refine lv_iload_n hx hb dX1_turn_2 rfl (lv_at hl 2 rfl) ?_
  refine kRVv (As := [.int rr, .int kk]) (rest := []) ⟨hx, hb, hml, hown, hts⟩ (mX1_needPlace l D cI x b a pa pe st bn hc hm C R lo rr kk hp hq) (cwV 2 hts gX1_turn_X1_needPlace rfl rfl rfl (by decide +kernel) ⟨Nat.le_of_ble_eq_true rfl, Nat.le_of_ble_eq_true rfl⟩) hP hK hN [0, 1, 2, 3, 4, 5, 6, 7] rfl [0] rfl rfl rfl rfl hl.1 rfl (Nat.le_of_ble_eq_true rfl) dX1_turn_3 ⟨Nat.zero_le _, Nat.zero_le _⟩ ?_
  refine lv_aload_n hx hb dX1_turn_6 rfl (lv_at hl 0 rfl) ?_
  refine va_get (D := D) (ci := 1) (v := .ref (a 0)) (C := RX1) (T := TX1) (N := 2) hx hb hts iw_X1_turn_X1 hown hK hP 0 rfl rfl 0 (by decide) (hts (.fieldLink RX1 10 "MarbleRamps" "now" "LMarbleRamps$Machine;") (mg 3 rfl)) (fun _ h9 => h9) rfl dX1_turn_7 ?_
  refine lv_iload_n hx hb dX1_turn_10 rfl (lv_at hl 1 rfl) ?_
  refine lv_iload_n hx hb dX1_turn_11 rfl (lv_at hl 2 rfl) ?_
  refine kRVi (As := [.int rr, .int kk]) (rest := []) ⟨hx, hb, hml, hown, hts⟩ (mX0_placeOf l D cI a pa pe st bn hc hm C R lo rr kk) (cwV 2 hts gX1_turn_X0_placeOf rfl rfl rfl (by decide +kernel) ⟨Nat.le_of_ble_eq_true rfl, Nat.le_of_ble_eq_true rfl⟩) hP hK hN [1, 2, 3, 4, 5, 6, 7] rfl [0] rfl rfl rfl rfl hl.1 rfl (Nat.le_of_ble_eq_true rfl) dX1_turn_12 ⟨Nat.zero_le _, Nat.zero_le _⟩ (fun r_1 hr_1 => ?_)
  subst r_1
  refine lv_istore_n (lv' := [(3, .int (rr * C + kk)), (0, .ref x), (1, .int rr), (2, .int kk)]) hx hb dX1_turn_15 rfl hl (by decide) rfl (fun ls hl => ?_)
  refine lv_aload_n hx hb dX1_turn_16 rfl (lv_at hl 1 rfl) ?_
  refine va_get (D := D) (ci := 1) (v := .ref (a 0)) (C := RX1) (T := TX1) (N := 2) hx hb hts iw_X1_turn_X1 hown hK hP 0 rfl rfl 0 (by decide) (hts (.fieldLink RX1 10 "MarbleRamps" "now" "LMarbleRamps$Machine;") (mg 3 rfl)) (fun _ h9 => h9) rfl dX1_turn_17 ?_
  refine lv_iload_n hx hb dX1_turn_20 rfl (lv_at hl 0 rfl) ?_
  refine kRVi (As := [.int (rr * C + kk)]) (rest := []) ⟨hx, hb, hml, hown, hts⟩ (mX0_partIn l D cI a pa pe st bn hc hm C R lo (rr * C + kk)) (cwV 1 hts gX1_turn_X0_partIn rfl rfl rfl (by decide +kernel) ⟨Nat.le_of_ble_eq_true rfl, Nat.le_of_ble_eq_true rfl⟩) hP hK hN [1, 2, 3, 4, 5, 6, 7] rfl [0] rfl rfl rfl rfl hl.1 rfl (Nat.le_of_ble_eq_true rfl) dX1_turn_21 ⟨Nat.zero_le _, Nat.zero_le _⟩ (fun r_2 hr_2 => ?_)
  subst r_2
  refine lv_iconst (v := 3) hx hb dX1_turn_24 (by decide) ?_
  refine lv_icmp_eq (tgt := 38) hx hb dX1_turn_25 (by decide) (fun c_3 => ?_) (fun c9 => absurd hr3 c9)
  refine lv_aload_n hx hb dX1_turn_38 rfl (lv_at hl 1 rfl) ?_
  refine va_get (D := D) (ci := 1) (v := .ref (a 0)) (C := RX1) (T := TX1) (N := 2) hx hb hts iw_X1_turn_X1 hown hK hP 0 rfl rfl 0 (by decide) (hts (.fieldLink RX1 10 "MarbleRamps" "now" "LMarbleRamps$Machine;") (mg 3 rfl)) (fun _ h9 => h9) rfl dX1_turn_39 ?_
  refine lv_iload_n hx hb dX1_turn_42 rfl (lv_at hl 0 rfl) ?_
  refine kQVv (As := [.int (rr * C + kk)]) (rest := []) (wr := [(x, .inr (1, [.ref (a 0), .ref (b 0)]))]) (W2 := (fun _ => (wX x a b ++ wM cI a pa pe ((xsc 72 st (rr * C + kk) (if xRight pa st (rr * C + kk) = true then 0 else 1))) bn hc hm C R lo))) ⟨hx, hb, hml, hown, hts⟩ (mX0_turnOver l D cI a pa pe st bn hc hm C R lo (rr * C + kk) _) (cwV 1 hts gX1_turn_X0_turnOver rfl rfl rfl (by decide +kernel) ⟨Nat.le_of_ble_eq_true rfl, Nat.le_of_ble_eq_true rfl⟩) hP hD hK hN hS hA [1, 2, 3, 4, 5, 6, 7] (by decide) rfl [0] (by decide) rfl (by decide) [0, 1, 2, 3, 4, 5, 6, 7] (by decide) (fun _ => rfl) [0] rfl rfl rfl rfl hl.1 rfl (Nat.le_of_ble_eq_true rfl) dX1_turn_43 ⟨Nat.le_of_ble_eq_true rfl, Nat.le_of_ble_eq_true rfl⟩ (fun u_4 H locs hr_4 hP hD hS => ?_)
  have hP : va_P D vwCl (wX x a b ++ wM cI a pa pe ((xsc 72 st (rr * C + kk) (if xRight pa st (rr * C + kk) = true then 0 else 1))) bn hc hm C R lo) H := hP
  have hD : va_D (va_A (wX x a b ++ wM cI a pa pe st bn hc hm C R lo) sz) (wX x a b ++ wM cI a pa pe ((xsc 72 st (rr * C + kk) (if xRight pa st (rr * C + kk) = true then 0 else 1))) bn hc hm C R lo) := hD
  refine lv_aload_n hx hb dX1_turn_46 rfl (lv_at hl 1 rfl) ?_
  refine va_get (D := D) (ci := 1) (v := .ref (a 0)) (C := RX1) (T := TX1) (N := 2) hx hb hts iw_X1_turn_X1 hown hK hP 0 rfl rfl 0 (by decide) (hts (.fieldLink RX1 10 "MarbleRamps" "now" "LMarbleRamps$Machine;") (mg 3 rfl)) (fun _ h9 => h9) rfl dX1_turn_47 ?_
  refine lv_iload_n hx hb dX1_turn_50 rfl (lv_at hl 0 rfl) ?_
  refine kRVi (As := [.int (rr * C + kk)]) (rest := []) ⟨hx, hb, hml, hown, hts⟩ (mX0_isRightToggle l D cI a pa pe (xsc 72 st (rr * C + kk) (if xRight pa st (rr * C + kk) = true then 0 else 1)) bn hc hm C R lo (rr * C + kk)) (cwV 1 hts gX1_turn_X0_isRightToggle rfl rfl rfl (by decide +kernel) ⟨Nat.le_of_ble_eq_true rfl, Nat.le_of_ble_eq_true rfl⟩) hP hK hN [1, 2, 3, 4, 5, 6, 7] rfl [0] rfl rfl rfl rfl hl.1 rfl (Nat.le_of_ble_eq_true rfl) dX1_turn_51 ⟨Nat.zero_le _, Nat.zero_le _⟩ (fun r_5 hr_5 => ?_)
  subst r_5
  exact eQz () hx hb hr hlocks hP hD hK hS dX1_turn_54 (bi01 _) (rfl)
theorem iw_X1_setHopper_X1 : ∀ w ∈ wsX10, w ∈ wsX1_setHopper := mem_pos [33, 34] (by decide +kernel)
set_option maxHeartbeats 4000000 in
set_option maxRecDepth 100000 in
theorem mX1_setHopper (l : Launch) (D : va_G) (cI : ClassId) (x : Nat) (b : Nat → Nat) (a : Nat → Nat) (pa pe st bn hc hm : Nat → Int32) (C R lo : Int32) (hh kk mm : Int32) (hp : xhas 2 hh = true) (hq : xhas C kk = true) (hr3 : xin mm 0 99 = true) (sz : Nat) : Met l yX1_setHopper wsX1_setHopper ({ frames := 7, cells := 0, slots := 0, locals := 112 } : Room) (va_Pc [.ref x, .int hh, .int kk, .int mm] (wPQ D [(cI, .int)] sz (wX x a b ++ wM cI a pa pe st bn hc hm C R lo))) (va_Qi (fun (zz : Int32) (_ : Unit) => zz = xcl 2 hm hh) (wB D [(cI, .int)] (va_A (wX x a b ++ wM cI a pa pe st bn hc hm C R lo) sz) (fun _ : Unit => (wX x a b ++ wM cI a pa pe st bn ((xsc 2 hc hh kk)) ((xsc 2 hm hh mm)) C R lo))) (va_A (wX x a b ++ wM cI a pa pe st bn hc hm C R lo) sz)) 0 0 (va_A (wX x a b ++ wM cI a pa pe st bn hc hm C R lo) sz) := by
  refine mQ_of (by decide) rfl (Nat.le_of_ble_eq_true rfl) ?_
  intro p e s m below meth c hx hb hr hml hown hin hts hlocks hsz hP hK hN hD hA hS ls hl
  have hown : s.vm.findClass RX1 = some m.cls := hown
  have hl : lv_has ls 4 [(0, .ref x), (1, .int hh), (2, .int kk), (3, .int mm)] := hl
  have hP : va_P D vwCl (wX x a b ++ wM cI a pa pe st bn hc hm C R lo) s.heap := hP
  refine lv_iload_n hx hb dX1_setHopper_0 rfl (lv_at hl 1 rfl) ?_
  refine kRSv (As := [.int hh]) (rest := []) ⟨hx, hb, hml, hown, hts⟩ (mX1_needHopper l D cI hh hp) (va_cwS 1 hts gX1_setHopper_X1_needHopper rfl rfl rfl (by decide +kernel) ⟨Nat.le_of_ble_eq_true rfl, Nat.le_of_ble_eq_true rfl⟩) hP hK hN [] rfl [0] rfl rfl hl.1 rfl (Nat.le_of_ble_eq_true rfl) dX1_setHopper_1 ⟨Nat.zero_le _, Nat.zero_le _⟩ ?_
  refine lv_aload_n hx hb dX1_setHopper_4 rfl (lv_at hl 0 rfl) ?_
  refine lv_iload_n hx hb dX1_setHopper_5 rfl (lv_at hl 2 rfl) ?_
  refine kRVv (As := [.int kk]) (rest := []) ⟨hx, hb, hml, hown, hts⟩ (mX1_needColumn l D cI x b a pa pe st bn hc hm C R lo kk hq) (cwV 1 hts gX1_setHopper_X1_needColumn rfl rfl rfl (by decide +kernel) ⟨Nat.le_of_ble_eq_true rfl, Nat.le_of_ble_eq_true rfl⟩) hP hK hN [0, 1, 2, 3, 4, 5, 6, 7] rfl [0] rfl rfl rfl rfl hl.1 rfl (Nat.le_of_ble_eq_true rfl) dX1_setHopper_6 ⟨Nat.zero_le _, Nat.zero_le _⟩ ?_
  refine lv_iload_n hx hb dX1_setHopper_9 rfl (lv_at hl 3 rfl) ?_
  refine lv_iconst (v := 0) hx hb dX1_setHopper_10 (by decide) ?_
  refine lv_bipush (v := 99) hx hb dX1_setHopper_11 (by decide) ?_
  refine kRSv (As := [.int mm, .int 0, .int 99]) (rest := []) ⟨hx, hb, hml, hown, hts⟩ (mX1_needWithin l D cI mm 0 99 hr3) (va_cwS 3 hts gX1_setHopper_X1_needWithin rfl rfl rfl (by decide +kernel) ⟨Nat.le_of_ble_eq_true rfl, Nat.le_of_ble_eq_true rfl⟩) hP hK hN [] rfl [0] rfl rfl hl.1 rfl (Nat.le_of_ble_eq_true rfl) dX1_setHopper_13 ⟨Nat.zero_le _, Nat.zero_le _⟩ ?_
  refine lv_aload_n hx hb dX1_setHopper_16 rfl (lv_at hl 0 rfl) ?_
  refine va_get (D := D) (ci := 1) (v := .ref (a 0)) (C := RX1) (T := TX1) (N := 2) hx hb hts iw_X1_setHopper_X1 hown hK hP 0 rfl rfl 0 (by decide) (hts (.fieldLink RX1 10 "MarbleRamps" "now" "LMarbleRamps$Machine;") (mg 1 rfl)) (fun _ h9 => h9) rfl dX1_setHopper_17 ?_
  refine lv_iload_n hx hb dX1_setHopper_20 rfl (lv_at hl 1 rfl) ?_
  refine lv_iload_n hx hb dX1_setHopper_21 rfl (lv_at hl 2 rfl) ?_
  refine lv_iload_n hx hb dX1_setHopper_22 rfl (lv_at hl 3 rfl) ?_
  refine kQVi (As := [.int hh, .int kk, .int mm]) (rest := []) (wr := [(x, .inr (1, [.ref (a 0), .ref (b 0)]))]) (W2 := (fun _ => (wX x a b ++ wM cI a pa pe st bn ((xsc 2 hc hh kk)) ((xsc 2 hm hh mm)) C R lo))) ⟨hx, hb, hml, hown, hts⟩ (mX0_fillHopper l D cI a pa pe st bn hc hm C R lo hh kk mm _) (cwV 3 hts gX1_setHopper_X0_fillHopper rfl rfl rfl (by decide +kernel) ⟨Nat.le_of_ble_eq_true rfl, Nat.le_of_ble_eq_true rfl⟩) hP hD hK hN hS hA [1, 2, 3, 4, 5, 6, 7] (by decide) rfl [0] (by decide) rfl (by decide) [0, 1, 2, 3, 4, 5, 6, 7] (by decide) (fun _ => rfl) [0] rfl rfl rfl rfl hl.1 rfl (Nat.le_of_ble_eq_true rfl) dX1_setHopper_23 ⟨Nat.le_of_ble_eq_true rfl, Nat.le_of_ble_eq_true rfl⟩ (fun r_1 u_1 H locs hr_1 hP hD hS => ?_)
  subst r_1
  have hP : va_P D vwCl (wX x a b ++ wM cI a pa pe st bn ((xsc 2 hc hh kk)) ((xsc 2 hm hh mm)) C R lo) H := hP
  have hD : va_D (va_A (wX x a b ++ wM cI a pa pe st bn hc hm C R lo) sz) (wX x a b ++ wM cI a pa pe st bn ((xsc 2 hc hh kk)) ((xsc 2 hm hh mm)) C R lo) := hD
  exact eQi () hx hb hr hlocks hP hD hK hS dX1_setHopper_26 (rfl)
theorem iw_X1_drop_X1 : ∀ w ∈ wsX10, w ∈ wsX1_drop := mem_pos [42, 43] (by decide +kernel)
set_option maxHeartbeats 4000000 in
set_option maxRecDepth 100000 in
theorem mX1_drop (l : Launch) (D : va_G) (cI : ClassId) (x : Nat) (b : Nat → Nat) (a : Nat → Nat) (pa pe st bn hc hm : Nat → Int32) (C R lo : Int32) (kk : Int32) (hq : xhas C kk = true) (sz : Nat) : Met l yX1_drop wsX1_drop ({ frames := 7, cells := 0, slots := 0, locals := 111 } : Room) (va_Pc [.ref x, .int kk] (wPQ D [(cI, .int)] sz (wX x a b ++ wM cI a pa pe st bn hc hm C R lo))) (va_Qi (fun (zz : Int32) (_ : Unit) => zz = (xFall pa pe st C kk R).1) (wB D [(cI, .int)] (va_A (wX x a b ++ wM cI a pa pe st bn hc hm C R lo) sz) (fun _ : Unit => (wX x a b ++ wM cI a pa pe ((xFall pa pe st C kk R).2) ((xLandBn bn (xFall pa pe st C kk R).1)) hc hm C R ((xLandLo lo (xFall pa pe st C kk R).1))))) (va_A (wX x a b ++ wM cI a pa pe st bn hc hm C R lo) sz)) 0 0 (va_A (wX x a b ++ wM cI a pa pe st bn hc hm C R lo) sz) := by
  refine mQ_of (by decide) rfl (Nat.le_of_ble_eq_true rfl) ?_
  intro p e s m below meth c hx hb hr hml hown hin hts hlocks hsz hP hK hN hD hA hS ls hl
  have hown : s.vm.findClass RX1 = some m.cls := hown
  have hl : lv_has ls 2 [(0, .ref x), (1, .int kk)] := hl
  have hP : va_P D vwCl (wX x a b ++ wM cI a pa pe st bn hc hm C R lo) s.heap := hP
  refine lv_aload_n hx hb dX1_drop_0 rfl (lv_at hl 0 rfl) ?_
  refine lv_iload_n hx hb dX1_drop_1 rfl (lv_at hl 1 rfl) ?_
  refine kRVv (As := [.int kk]) (rest := []) ⟨hx, hb, hml, hown, hts⟩ (mX1_needColumn l D cI x b a pa pe st bn hc hm C R lo kk hq) (cwV 1 hts gX1_drop_X1_needColumn rfl rfl rfl (by decide +kernel) ⟨Nat.le_of_ble_eq_true rfl, Nat.le_of_ble_eq_true rfl⟩) hP hK hN [0, 1, 2, 3, 4, 5, 6, 7] rfl [0] rfl rfl rfl rfl hl.1 rfl (Nat.le_of_ble_eq_true rfl) dX1_drop_2 ⟨Nat.zero_le _, Nat.zero_le _⟩ ?_
  refine lv_aload_n hx hb dX1_drop_5 rfl (lv_at hl 0 rfl) ?_
  refine va_get (D := D) (ci := 1) (v := .ref (a 0)) (C := RX1) (T := TX1) (N := 2) hx hb hts iw_X1_drop_X1 hown hK hP 0 rfl rfl 0 (by decide) (hts (.fieldLink RX1 10 "MarbleRamps" "now" "LMarbleRamps$Machine;") (mg 1 rfl)) (fun _ h9 => h9) rfl dX1_drop_6 ?_
  refine lv_iload_n hx hb dX1_drop_9 rfl (lv_at hl 1 rfl) ?_
  refine kQVi (As := [.int kk]) (rest := []) (wr := [(x, .inr (1, [.ref (a 0), .ref (b 0)]))]) (W2 := (fun _ => (wX x a b ++ wM cI a pa pe ((xFall pa pe st C kk R).2) ((xLandBn bn (xFall pa pe st C kk R).1)) hc hm C R ((xLandLo lo (xFall pa pe st C kk R).1))))) ⟨hx, hb, hml, hown, hts⟩ (mX0_letFall l D cI a pa pe st bn hc hm C R lo kk _) (cwV 1 hts gX1_drop_X0_letFall rfl rfl rfl (by decide +kernel) ⟨Nat.le_of_ble_eq_true rfl, Nat.le_of_ble_eq_true rfl⟩) hP hD hK hN hS hA [1, 2, 3, 4, 5, 6, 7] (by decide) rfl [0] (by decide) rfl (by decide) [0, 1, 2, 3, 4, 5, 6, 7] (by decide) (fun _ => rfl) [0] rfl rfl rfl rfl hl.1 rfl (Nat.le_of_ble_eq_true rfl) dX1_drop_10 ⟨Nat.le_of_ble_eq_true rfl, Nat.le_of_ble_eq_true rfl⟩ (fun r_1 u_1 H locs hr_1 hP hD hS => ?_)
  subst r_1
  have hP : va_P D vwCl (wX x a b ++ wM cI a pa pe ((xFall pa pe st C kk R).2) ((xLandBn bn (xFall pa pe st C kk R).1)) hc hm C R ((xLandLo lo (xFall pa pe st C kk R).1))) H := hP
  have hD : va_D (va_A (wX x a b ++ wM cI a pa pe st bn hc hm C R lo) sz) (wX x a b ++ wM cI a pa pe ((xFall pa pe st C kk R).2) ((xLandBn bn (xFall pa pe st C kk R).1)) hc hm C R ((xLandLo lo (xFall pa pe st C kk R).1))) := hD
  exact eQi () hx hb hr hlocks hP hD hK hS dX1_drop_13 (rfl)
theorem iw_X1_run_X1 : ∀ w ∈ wsX10, w ∈ wsX1_run := mem_pos [55, 56] (by decide +kernel)
set_option maxHeartbeats 4000000 in
set_option maxRecDepth 100000 in
theorem mX1_run (l : Launch) (D : va_G) (cI : ClassId) (x : Nat) (b : Nat → Nat) (a : Nat → Nat) (pa pe st bn hc hm : Nat → Int32) (C R lo : Int32) (hh mm : Int32) (hp : xhas 2 hh = true) (hr3 : xin mm 1 99 = true) (sz : Nat) : Met l yX1_run wsX1_run ({ frames := 7, cells := 0, slots := 0, locals := 117 } : Room) (va_Pc [.ref x, .int hh, .int mm] (wPQ D [(cI, .int)] sz (wX x a b ++ wM cI a pa pe st bn hc hm C R lo))) (va_Qi (fun (zz : Int32) (_ : Unit) => zz = (xRun pa pe st bn hc hm C R lo hh mm).1) (wB D [(cI, .int)] (va_A (wX x a b ++ wM cI a pa pe st bn hc hm C R lo) sz) (fun _ : Unit => (wX x a b ++ wM cI a pa pe ((xRun pa pe st bn hc hm C R lo hh mm).2.1) ((xRun pa pe st bn hc hm C R lo hh mm).2.2.1) hc ((xRun pa pe st bn hc hm C R lo hh mm).2.2.2.2) C R ((xRun pa pe st bn hc hm C R lo hh mm).2.2.2.1)))) (va_A (wX x a b ++ wM cI a pa pe st bn hc hm C R lo) sz)) 0 0 (va_A (wX x a b ++ wM cI a pa pe st bn hc hm C R lo) sz) := by
  refine mQ_of (by decide) rfl (Nat.le_of_ble_eq_true rfl) ?_
  intro p e s m below meth c hx hb hr hml hown hin hts hlocks hsz hP hK hN hD hA hS ls hl
  have hown : s.vm.findClass RX1 = some m.cls := hown
  have hl : lv_has ls 3 [(0, .ref x), (1, .int hh), (2, .int mm)] := hl
  have hP : va_P D vwCl (wX x a b ++ wM cI a pa pe st bn hc hm C R lo) s.heap := hP
  refine lv_iload_n hx hb dX1_run_0 rfl (lv_at hl 1 rfl) ?_
  refine kRSv (As := [.int hh]) (rest := []) ⟨hx, hb, hml, hown, hts⟩ (mX1_needHopper l D cI hh hp) (va_cwS 1 hts gX1_run_X1_needHopper rfl rfl rfl (by decide +kernel) ⟨Nat.le_of_ble_eq_true rfl, Nat.le_of_ble_eq_true rfl⟩) hP hK hN [] rfl [0] rfl rfl hl.1 rfl (Nat.le_of_ble_eq_true rfl) dX1_run_1 ⟨Nat.zero_le _, Nat.zero_le _⟩ ?_
  refine lv_iload_n hx hb dX1_run_4 rfl (lv_at hl 2 rfl) ?_
  refine lv_iconst (v := 1) hx hb dX1_run_5 (by decide) ?_
  refine lv_bipush (v := 99) hx hb dX1_run_6 (by decide) ?_
  refine kRSv (As := [.int mm, .int 1, .int 99]) (rest := []) ⟨hx, hb, hml, hown, hts⟩ (mX1_needWithin l D cI mm 1 99 hr3) (va_cwS 3 hts gX1_run_X1_needWithin rfl rfl rfl (by decide +kernel) ⟨Nat.le_of_ble_eq_true rfl, Nat.le_of_ble_eq_true rfl⟩) hP hK hN [] rfl [0] rfl rfl hl.1 rfl (Nat.le_of_ble_eq_true rfl) dX1_run_8 ⟨Nat.zero_le _, Nat.zero_le _⟩ ?_
  refine lv_aload_n hx hb dX1_run_11 rfl (lv_at hl 0 rfl) ?_
  refine va_get (D := D) (ci := 1) (v := .ref (a 0)) (C := RX1) (T := TX1) (N := 2) hx hb hts iw_X1_run_X1 hown hK hP 0 rfl rfl 0 (by decide) (hts (.fieldLink RX1 10 "MarbleRamps" "now" "LMarbleRamps$Machine;") (mg 1 rfl)) (fun _ h9 => h9) rfl dX1_run_12 ?_
  refine lv_iload_n hx hb dX1_run_15 rfl (lv_at hl 1 rfl) ?_
  refine lv_iload_n hx hb dX1_run_16 rfl (lv_at hl 2 rfl) ?_
  refine kQVi (As := [.int hh, .int mm]) (rest := []) (wr := [(x, .inr (1, [.ref (a 0), .ref (b 0)]))]) (W2 := (fun _ => (wX x a b ++ wM cI a pa pe ((xRun pa pe st bn hc hm C R lo hh mm).2.1) ((xRun pa pe st bn hc hm C R lo hh mm).2.2.1) hc ((xRun pa pe st bn hc hm C R lo hh mm).2.2.2.2) C R ((xRun pa pe st bn hc hm C R lo hh mm).2.2.2.1)))) ⟨hx, hb, hml, hown, hts⟩ (mX0_runFrom l D cI a pa pe st bn hc hm C R lo hh mm _) (cwV 2 hts gX1_run_X0_runFrom rfl rfl rfl (by decide +kernel) ⟨Nat.le_of_ble_eq_true rfl, Nat.le_of_ble_eq_true rfl⟩) hP hD hK hN hS hA [1, 2, 3, 4, 5, 6, 7] (by decide) rfl [0] (by decide) rfl (by decide) [0, 1, 2, 3, 4, 5, 6, 7] (by decide) (fun _ => rfl) [0] rfl rfl rfl rfl hl.1 rfl (Nat.le_of_ble_eq_true rfl) dX1_run_17 ⟨Nat.le_of_ble_eq_true rfl, Nat.le_of_ble_eq_true rfl⟩ (fun r_1 u_1 H locs hr_1 hP hD hS => ?_)
  subst r_1
  have hP : va_P D vwCl (wX x a b ++ wM cI a pa pe ((xRun pa pe st bn hc hm C R lo hh mm).2.1) ((xRun pa pe st bn hc hm C R lo hh mm).2.2.1) hc ((xRun pa pe st bn hc hm C R lo hh mm).2.2.2.2) C R ((xRun pa pe st bn hc hm C R lo hh mm).2.2.2.1)) H := hP
  have hD : va_D (va_A (wX x a b ++ wM cI a pa pe st bn hc hm C R lo) sz) (wX x a b ++ wM cI a pa pe ((xRun pa pe st bn hc hm C R lo hh mm).2.1) ((xRun pa pe st bn hc hm C R lo hh mm).2.2.1) hc ((xRun pa pe st bn hc hm C R lo hh mm).2.2.2.2) C R ((xRun pa pe st bn hc hm C R lo hh mm).2.2.2.1)) := hD
  exact eQi () hx hb hr hlocks hP hD hK hS dX1_run_20 (rfl)
theorem iw_X1_emptyBins_X1 : ∀ w ∈ wsX10, w ∈ wsX1_emptyBins := mem_pos [16, 17] (by decide +kernel)
set_option maxHeartbeats 4000000 in
set_option maxRecDepth 100000 in
theorem mX1_emptyBins (l : Launch) (D : va_G) (cI : ClassId) (x : Nat) (b : Nat → Nat) (a : Nat → Nat) (pa pe st bn hc hm : Nat → Int32) (C R lo : Int32) (sz : Nat) : Met l yX1_emptyBins wsX1_emptyBins ({ frames := 2, cells := 0, slots := 0, locals := 43 } : Room) (va_Pc [.ref x] (wPQ D [(cI, .int)] sz (wX x a b ++ wM cI a pa pe st bn hc hm C R lo))) (va_Qi (fun (zz : Int32) (_ : Unit) => zz = xSum bn) (wB D [(cI, .int)] (va_A (wX x a b ++ wM cI a pa pe st bn hc hm C R lo) sz) (fun _ : Unit => (wX x a b ++ wM cI a pa pe st ((fun _ => 0)) hc hm C R lo))) (va_A (wX x a b ++ wM cI a pa pe st bn hc hm C R lo) sz)) 0 0 (va_A (wX x a b ++ wM cI a pa pe st bn hc hm C R lo) sz) := by
  refine mQ_of (by decide) rfl (Nat.le_of_ble_eq_true rfl) ?_
  intro p e s m below meth c hx hb hr hml hown hin hts hlocks hsz hP hK hN hD hA hS ls hl
  have hown : s.vm.findClass RX1 = some m.cls := hown
  have hl : lv_has ls 2 [(0, .ref x)] := hl
  have hP : va_P D vwCl (wX x a b ++ wM cI a pa pe st bn hc hm C R lo) s.heap := hP
  refine lv_aload_n hx hb dX1_emptyBins_0 rfl (lv_at hl 0 rfl) ?_
  refine va_get (D := D) (ci := 1) (v := .ref (a 0)) (C := RX1) (T := TX1) (N := 2) hx hb hts iw_X1_emptyBins_X1 hown hK hP 0 rfl rfl 0 (by decide) (hts (.fieldLink RX1 10 "MarbleRamps" "now" "LMarbleRamps$Machine;") (mg 1 rfl)) (fun _ h9 => h9) rfl dX1_emptyBins_1 ?_
  refine kRVi (As := []) (rest := []) ⟨hx, hb, hml, hown, hts⟩ (mX0_marblesInBins l D cI a pa pe st bn hc hm C R lo) (cwV 0 hts gX1_emptyBins_X0_marblesInBins rfl rfl rfl (by decide +kernel) ⟨Nat.le_of_ble_eq_true rfl, Nat.le_of_ble_eq_true rfl⟩) hP hK hN [1, 2, 3, 4, 5, 6, 7] rfl [0] rfl rfl rfl rfl hl.1 rfl (Nat.le_of_ble_eq_true rfl) dX1_emptyBins_4 ⟨Nat.zero_le _, Nat.zero_le _⟩ (fun r_1 hr_1 => ?_)
  subst r_1
  refine lv_istore_n (lv' := [(1, .int (xSum bn)), (0, .ref x)]) hx hb dX1_emptyBins_7 rfl hl (by decide) rfl (fun ls hl => ?_)
  refine lv_aload_n hx hb dX1_emptyBins_8 rfl (lv_at hl 1 rfl) ?_
  refine va_get (D := D) (ci := 1) (v := .ref (a 0)) (C := RX1) (T := TX1) (N := 2) hx hb hts iw_X1_emptyBins_X1 hown hK hP 0 rfl rfl 0 (by decide) (hts (.fieldLink RX1 10 "MarbleRamps" "now" "LMarbleRamps$Machine;") (mg 1 rfl)) (fun _ h9 => h9) rfl dX1_emptyBins_9 ?_
  refine kQVv (As := []) (rest := []) (wr := [(x, .inr (1, [.ref (a 0), .ref (b 0)]))]) (W2 := (fun _ => (wX x a b ++ wM cI a pa pe st ((fun _ => 0)) hc hm C R lo))) ⟨hx, hb, hml, hown, hts⟩ (mX0_clearBins l D cI a pa pe st bn hc hm C R lo _) (cwV 0 hts gX1_emptyBins_X0_clearBins rfl rfl rfl (by decide +kernel) ⟨Nat.le_of_ble_eq_true rfl, Nat.le_of_ble_eq_true rfl⟩) hP hD hK hN hS hA [1, 2, 3, 4, 5, 6, 7] (by decide) rfl [0] (by decide) rfl (by decide) [0, 1, 2, 3, 4, 5, 6, 7] (by decide) (fun _ => rfl) [0] rfl rfl rfl rfl hl.1 rfl (Nat.le_of_ble_eq_true rfl) dX1_emptyBins_12 ⟨Nat.le_of_ble_eq_true rfl, Nat.le_of_ble_eq_true rfl⟩ (fun u_2 H locs hr_2 hP hD hS => ?_)
  have hP : va_P D vwCl (wX x a b ++ wM cI a pa pe st ((fun _ => 0)) hc hm C R lo) H := hP
  have hD : va_D (va_A (wX x a b ++ wM cI a pa pe st bn hc hm C R lo) sz) (wX x a b ++ wM cI a pa pe st ((fun _ => 0)) hc hm C R lo) := hD
  refine lv_iload_n hx hb dX1_emptyBins_15 rfl (lv_at hl 0 rfl) ?_
  exact eQi () hx hb hr hlocks hP hD hK hS dX1_emptyBins_16 (rfl)
