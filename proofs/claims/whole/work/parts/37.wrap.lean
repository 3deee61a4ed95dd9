set_option maxHeartbeats 4000000 in
set_option maxRecDepth 100000 in
theorem mL_lay_0 (l : Launch) (D : va_G) (cI cL : ClassId) (x : Nat) (a : Nat → Nat) (pa pe st bn hc hm : Nat → Int32) (C R lo : Int32) (b : Nat → Nat) (pa2 pe2 st2 bn2 hc2 hm2 : Nat → Int32) (C2 R2 lo2 : Int32) (o : Nat) (ov : Nat → Int64) (cc rr : Int32) (hp : xin cc 2 9 = true) (hq : xin rr 1 8 = true) (sz : Nat) : Met l yL_lay wsL_lay ({ frames := 8, cells := 0, slots := 0, locals := 134 } : Room) (va_Pc [.ref x, .int cc, .int rr, .ref o] (fun U => wPQ D [(cI, .int), (cL, .long)] sz (wX x a b ++ wM cI a pa pe st bn hc hm C R lo ++ wM cI b pa2 pe2 st2 bn2 hc2 hm2 C2 R2 lo2 ++ wL cL o 1 ov) U ∧ (KX U ∧ ZS U U.heap))) (va_Qi (fun (zz : Int32) (_ : Unit) => zz = 0) (wB D [(cI, .int), (cL, .long)] (va_A (wX x a b ++ wM cI a pa pe st bn hc hm C R lo ++ wM cI b pa2 pe2 st2 bn2 hc2 hm2 C2 R2 lo2 ++ wL cL o 1 ov) sz) (fun _ : Unit => (wX x a b ++ wM cI a ((fun _ => 0)) ((fun _ => 0)) ((fun _ => 0)) ((fun _ => 0)) ((xsc 2 (xsc 2 hc 0 0) 1 (cc - 1))) hm cc rr 0 ++ wM cI b pa2 pe2 st2 bn2 hc2 hm2 C2 R2 lo2 ++ wL cL o 1 ((vp_updL ov 0 ((cc * rr) : Int32).toInt64))))) (va_A (wX x a b ++ wM cI a pa pe st bn hc hm C R lo ++ wM cI b pa2 pe2 st2 bn2 hc2 hm2 C2 R2 lo2 ++ wL cL o 1 ov) sz)) 0 0 (va_A (wX x a b ++ wM cI a pa pe st bn hc hm C R lo ++ wM cI b pa2 pe2 st2 bn2 hc2 hm2 C2 R2 lo2 ++ wL cL o 1 ov) sz) := by
  refine mW_of (K2 := fun U => KX U ∧ ZS U U.heap) (by decide) rfl (Nat.le_of_ble_eq_true rfl) ?_
  intro p e s m below meth c hx hb hr hml hown htb hts hlocks hsz hP hK hN hD hXZ hA hS ls hl
  obtain ⟨hX, hZ⟩ := hXZ
  have hown : s.vm.findClass RL = some m.cls := hown
  have hl : lv_has ls 5 [(0, .ref x), (1, .int cc), (2, .int rr), (3, .ref o)] := hl
  have hP : va_P D vwCl (wX x a b ++ wM cI a pa pe st bn hc hm C R lo ++ wM cI b pa2 pe2 st2 bn2 hc2 hm2 C2 R2 lo2 ++ wL cL o 1 ov) s.heap := hP
  refine lv_aload_n hx hb dL_lay_0 rfl (lv_at hl 3 rfl) ?_
  refine lv_iconst (v := 0) hx hb dL_lay_1 (by decide) ?_
  refine lv_aload_n hx hb dL_lay_2 rfl (lv_at hl 0 rfl) ?_
  refine lv_iload_n hx hb dL_lay_3 rfl (lv_at hl 1 rfl) ?_
  refine lv_iload_n hx hb dL_lay_4 rfl (lv_at hl 2 rfl) ?_
  refine kQVi (As := [.int cc, .int rr]) (rest := [.int 0, .ref o]) (wr := [(b 0, .inr (0, [.ref (b 1), .ref (b 2), .ref (b 3), .ref (b 4), .ref (b 5), .ref (b 6), .int C2, .int R2, .int lo2])), (b 1, .inl (cI, 72, .inl pa2)), (b 2, .inl (cI, 72, .inl pe2)), (b 3, .inl (cI, 72, .inl st2)), (b 4, .inl (cI, 9, .inl bn2)), (b 5, .inl (cI, 2, .inl hc2)), (b 6, .inl (cI, 2, .inl hm2)), (o, .inl (cL, 1, .inr (.inl ov)))]) (W2 := (fun _ => (wX x a b ++ wM cI a ((fun _ => 0)) ((fun _ => 0)) ((fun _ => 0)) ((fun _ => 0)) ((xsc 2 (xsc 2 hc 0 0) 1 (cc - 1))) hm cc rr 0 ++ wM cI b pa2 pe2 st2 bn2 hc2 hm2 C2 R2 lo2 ++ wL cL o 1 ov))) ⟨hx, hb, hml, hown, hts⟩ (mX1_lay l D cI x b a pa pe st bn hc hm C R lo cc rr hp hq _) (cwV 2 hts gL_lay_X1_lay rfl rfl rfl (by decide +kernel) ⟨Nat.le_of_ble_eq_true rfl, Nat.le_of_ble_eq_true rfl⟩) hP hD hK hN hS hA [0, 1, 2, 3, 4, 5, 6, 7] (by decide) rfl [8, 9, 10, 11, 12, 13, 14, 15] (by decide) rfl (by decide) [8, 9, 10, 11, 12, 13, 14, 15, 0, 1, 2, 3, 4, 5, 6, 7] (by decide) (fun _ => rfl) [0] rfl rfl rfl rfl hl.1 rfl (Nat.le_of_ble_eq_true rfl) dL_lay_5 ⟨Nat.le_of_ble_eq_true rfl, Nat.le_of_ble_eq_true rfl⟩ (fun r_1 u_1 H locs hr_1 hP hD hS => ?_)
  subst r_1
  have hP : va_P D vwCl (wX x a b ++ wM cI a ((fun _ => 0)) ((fun _ => 0)) ((fun _ => 0)) ((fun _ => 0)) ((xsc 2 (xsc 2 hc 0 0) 1 (cc - 1))) hm cc rr 0 ++ wM cI b pa2 pe2 st2 bn2 hc2 hm2 C2 R2 lo2 ++ wL cL o 1 ov) H := hP
  have hD : va_D (va_A (wX x a b ++ wM cI a pa pe st bn hc hm C R lo ++ wM cI b pa2 pe2 st2 bn2 hc2 hm2 C2 R2 lo2 ++ wL cL o 1 ov) sz) (wX x a b ++ wM cI a ((fun _ => 0)) ((fun _ => 0)) ((fun _ => 0)) ((fun _ => 0)) ((xsc 2 (xsc 2 hc 0 0) 1 (cc - 1))) hm cc rr 0 ++ wM cI b pa2 pe2 st2 bn2 hc2 hm2 C2 R2 lo2 ++ wL cL o 1 ov) := hD
  refine lv_i2l (v := (cc * rr : Int32).toInt64) hx hb dL_lay_8 rfl ?_
  refine va_last hx hb hK hP hD hS 15 1 rfl rfl (vp_in_nI (n := 0) (by decide) (by decide)) dL_lay_9 (fun H locs hP hD hS => ?_)
  rw [show (0 : Int32).toNatClampNeg = 0 from by decide] at hP hD
  have hP : va_P D vwCl (wX x a b ++ wM cI a ((fun _ => 0)) ((fun _ => 0)) ((fun _ => 0)) ((fun _ => 0)) ((xsc 2 (xsc 2 hc 0 0) 1 (cc - 1))) hm cc rr 0 ++ wM cI b pa2 pe2 st2 bn2 hc2 hm2 C2 R2 lo2 ++ wL cL o 1 ((vp_updL ov 0 ((cc * rr : Int32).toInt64)))) H := hP
  have hD : va_D (va_A (wX x a b ++ wM cI a pa pe st bn hc hm C R lo ++ wM cI b pa2 pe2 st2 bn2 hc2 hm2 C2 R2 lo2 ++ wL cL o 1 ov) sz) (wX x a b ++ wM cI a ((fun _ => 0)) ((fun _ => 0)) ((fun _ => 0)) ((fun _ => 0)) ((xsc 2 (xsc 2 hc 0 0) 1 (cc - 1))) hm cc rr 0 ++ wM cI b pa2 pe2 st2 bn2 hc2 hm2 C2 R2 lo2 ++ wL cL o 1 ((vp_updL ov 0 ((cc * rr : Int32).toInt64)))) := hD
  refine lv_goto (tgt := 17) hx hb dL_lay_10 (by decide) ?_
  refine lv_iconst (v := 0) hx hb dL_lay_17 (by decide) ?_
  exact eQi () hx hb hr hlocks hP hD hK hS dL_lay_18 (rfl)
set_option maxHeartbeats 4000000 in
set_option maxRecDepth 100000 in
theorem mL_lay_c (l : Launch) (hst : l.stackTraces = false) (D : va_G) (cI cL : ClassId) (x : Nat) (a : Nat → Nat) (pa pe st bn hc hm : Nat → Int32) (C R lo : Int32) (b : Nat → Nat) (pa2 pe2 st2 bn2 hc2 hm2 : Nat → Int32) (C2 R2 lo2 : Int32) (o : Nat) (ov : Nat → Int64) (cc rr : Int32) (hp : xin cc 2 9 = false) (sz : Nat) : Met l yL_lay wsL_lay ({ frames := 8, cells := 1, slots := 6, locals := 134 } : Room) (va_Pc [.ref x, .int cc, .int rr, .ref o] (fun U => wPQ D [(cI, .int), (cL, .long)] sz (wX x a b ++ wM cI a pa pe st bn hc hm C R lo ++ wM cI b pa2 pe2 st2 bn2 hc2 hm2 C2 R2 lo2 ++ wL cL o 1 ov) U ∧ (KX U ∧ ZS U U.heap))) (va_Qi (fun (zz : Int32) (_ : Unit) => zz = 1) (wB D [(cI, .int), (cL, .long)] (va_A (wX x a b ++ wM cI a pa pe st bn hc hm C R lo ++ wM cI b pa2 pe2 st2 bn2 hc2 hm2 C2 R2 lo2 ++ wL cL o 1 ov) sz) (fun _ : Unit => (wX x a b ++ wM cI a pa pe st bn hc hm C R lo ++ wM cI b pa2 pe2 st2 bn2 hc2 hm2 C2 R2 lo2 ++ wL cL o 1 ov))) (va_A (wX x a b ++ wM cI a pa pe st bn hc hm C R lo ++ wM cI b pa2 pe2 st2 bn2 hc2 hm2 C2 R2 lo2 ++ wL cL o 1 ov) sz)) 1 6 (va_A (wX x a b ++ wM cI a pa pe st bn hc hm C R lo ++ wM cI b pa2 pe2 st2 bn2 hc2 hm2 C2 R2 lo2 ++ wL cL o 1 ov) sz) := by
  refine mW_of (K2 := fun U => KX U ∧ ZS U U.heap) (by decide) rfl (Nat.le_of_ble_eq_true rfl) ?_
  intro p e s m below meth c hx hb hr hml hown htb hts hlocks hsz hP hK hN hD hXZ hA hS ls hl
  obtain ⟨hX, hZ⟩ := hXZ
  have hown : s.vm.findClass RL = some m.cls := hown
  have hl : lv_has ls 5 [(0, .ref x), (1, .int cc), (2, .int rr), (3, .ref o)] := hl
  have hP : va_P D vwCl (wX x a b ++ wM cI a pa pe st bn hc hm C R lo ++ wM cI b pa2 pe2 st2 bn2 hc2 hm2 C2 R2 lo2 ++ wL cL o 1 ov) s.heap := hP
  refine lv_aload_n hx hb dL_lay_0 rfl (lv_at hl 3 rfl) ?_
  refine lv_iconst (v := 0) hx hb dL_lay_1 (by decide) ?_
  refine lv_aload_n hx hb dL_lay_2 rfl (lv_at hl 0 rfl) ?_
  refine lv_iload_n hx hb dL_lay_3 rfl (lv_at hl 1 rfl) ?_
  refine lv_iload_n hx hb dL_lay_4 rfl (lv_at hl 2 rfl) ?_
  refine kXVc (As := [.int cc, .int rr]) (rest := [.int 0, .ref o]) (name := eIA) ⟨hx, hb, hml, hown, hts⟩ (tX1_lay_c l hst D cI x b a pa pe st bn hc hm C R lo cc rr hp) (cwV 2 hts gL_lay_X1_lay rfl rfl rfl (by decide +kernel) ⟨Nat.le_of_ble_eq_true rfl, Nat.le_of_ble_eq_true rfl⟩) hP hK hN hX hZ hS [0, 1, 2, 3, 4, 5, 6, 7] rfl [0] rfl rfl rfl rfl hl.1 rfl (Nat.le_of_ble_eq_true rfl) dL_lay_5 ⟨Nat.le_of_ble_eq_true rfl, Nat.le_of_ble_eq_true rfl⟩ [] ⟨0, 10, 13, 13⟩ [] htb (fun z hz => absurd hz List.not_mem_nil) (by decide) (by decide) (hts (.classLink RL 13 eIA) (mg 1 rfl)) hX.2.2.2.2.2.2.1 (fun q9 H locs hP hS => ?_)
  have hP : va_P D vwCl (wX x a b ++ wM cI a pa pe st bn hc hm C R lo ++ wM cI b pa2 pe2 st2 bn2 hc2 hm2 C2 R2 lo2 ++ wL cL o 1 ov) H := hP
  refine lv_astore (lv' := [(4, .ref q9), (0, .ref x), (1, .int cc), (2, .int rr), (3, .ref o)]) hx hb dL_lay_13 hl (by decide) rfl (fun ls hl => ?_)
  refine lv_iconst (v := 1) hx hb dL_lay_15 (by decide) ?_
  refine W.widen (k := 1) (n := 6) (by omega) (by omega) ?_
  exact eQi () hx hb hr hlocks hP hD hK hS dL_lay_16 (rfl)
set_option maxHeartbeats 4000000 in
set_option maxRecDepth 100000 in
theorem mL_lay_r (l : Launch) (hst : l.stackTraces = false) (D : va_G) (cI cL : ClassId) (x : Nat) (a : Nat → Nat) (pa pe st bn hc hm : Nat → Int32) (C R lo : Int32) (b : Nat → Nat) (pa2 pe2 st2 bn2 hc2 hm2 : Nat → Int32) (C2 R2 lo2 : Int32) (o : Nat) (ov : Nat → Int64) (cc rr : Int32) (hp : xin cc 2 9 = true) (hq : xin rr 1 8 = false) (sz : Nat) : Met l yL_lay wsL_lay ({ frames := 8, cells := 1, slots := 6, locals := 134 } : Room) (va_Pc [.ref x, .int cc, .int rr, .ref o] (fun U => wPQ D [(cI, .int), (cL, .long)] sz (wX x a b ++ wM cI a pa pe st bn hc hm C R lo ++ wM cI b pa2 pe2 st2 bn2 hc2 hm2 C2 R2 lo2 ++ wL cL o 1 ov) U ∧ (KX U ∧ ZS U U.heap))) (va_Qi (fun (zz : Int32) (_ : Unit) => zz = 1) (wB D [(cI, .int), (cL, .long)] (va_A (wX x a b ++ wM cI a pa pe st bn hc hm C R lo ++ wM cI b pa2 pe2 st2 bn2 hc2 hm2 C2 R2 lo2 ++ wL cL o 1 ov) sz) (fun _ : Unit => (wX x a b ++ wM cI a pa pe st bn hc hm C R lo ++ wM cI b pa2 pe2 st2 bn2 hc2 hm2 C2 R2 lo2 ++ wL cL o 1 ov))) (va_A (wX x a b ++ wM cI a pa pe st bn hc hm C R lo ++ wM cI b pa2 pe2 st2 bn2 hc2 hm2 C2 R2 lo2 ++ wL cL o 1 ov) sz)) 1 6 (va_A (wX x a b ++ wM cI a pa pe st bn hc hm C R lo ++ wM cI b pa2 pe2 st2 bn2 hc2 hm2 C2 R2 lo2 ++ wL cL o 1 ov) sz) := by
  refine mW_of (K2 := fun U => KX U ∧ ZS U U.heap) (by decide) rfl (Nat.le_of_ble_eq_true rfl) ?_
  intro p e s m below meth c hx hb hr hml hown htb hts hlocks hsz hP hK hN hD hXZ hA hS ls hl
  obtain ⟨hX, hZ⟩ := hXZ
  have hown : s.vm.findClass RL = some m.cls := hown
  have hl : lv_has ls 5 [(0, .ref x), (1, .int cc), (2, .int rr), (3, .ref o)] := hl
  have hP : va_P D vwCl (wX x a b ++ wM cI a pa pe st bn hc hm C R lo ++ wM cI b pa2 pe2 st2 bn2 hc2 hm2 C2 R2 lo2 ++ wL cL o 1 ov) s.heap := hP
  refine lv_aload_n hx hb dL_lay_0 rfl (lv_at hl 3 rfl) ?_
  refine lv_iconst (v := 0) hx hb dL_lay_1 (by decide) ?_
  refine lv_aload_n hx hb dL_lay_2 rfl (lv_at hl 0 rfl) ?_
  refine lv_iload_n hx hb dL_lay_3 rfl (lv_at hl 1 rfl) ?_
  refine lv_iload_n hx hb dL_lay_4 rfl (lv_at hl 2 rfl) ?_
  refine kXVc (As := [.int cc, .int rr]) (rest := [.int 0, .ref o]) (name := eIA) ⟨hx, hb, hml, hown, hts⟩ (tX1_lay_r l hst D cI x b a pa pe st bn hc hm C R lo cc rr hp hq) (cwV 2 hts gL_lay_X1_lay rfl rfl rfl (by decide +kernel) ⟨Nat.le_of_ble_eq_true rfl, Nat.le_of_ble_eq_true rfl⟩) hP hK hN hX hZ hS [0, 1, 2, 3, 4, 5, 6, 7] rfl [0] rfl rfl rfl rfl hl.1 rfl (Nat.le_of_ble_eq_true rfl) dL_lay_5 ⟨Nat.le_of_ble_eq_true rfl, Nat.le_of_ble_eq_true rfl⟩ [] ⟨0, 10, 13, 13⟩ [] htb (fun z hz => absurd hz List.not_mem_nil) (by decide) (by decide) (hts (.classLink RL 13 eIA) (mg 1 rfl)) hX.2.2.2.2.2.2.1 (fun q9 H locs hP hS => ?_)
  have hP : va_P D vwCl (wX x a b ++ wM cI a pa pe st bn hc hm C R lo ++ wM cI b pa2 pe2 st2 bn2 hc2 hm2 C2 R2 lo2 ++ wL cL o 1 ov) H := hP
  refine lv_astore (lv' := [(4, .ref q9), (0, .ref x), (1, .int cc), (2, .int rr), (3, .ref o)]) hx hb dL_lay_13 hl (by decide) rfl (fun ls hl => ?_)
  refine lv_iconst (v := 1) hx hb dL_lay_15 (by decide) ?_
  refine W.widen (k := 1) (n := 6) (by omega) (by omega) ?_
  exact eQi () hx hb hr hlocks hP hD hK hS dL_lay_16 (rfl)
set_option maxHeartbeats 4000000 in
set_option maxRecDepth 100000 in
theorem mL_put_0 (l : Launch) (D : va_G) (cI cL : ClassId) (x : Nat) (a : Nat → Nat) (pa pe st bn hc hm : Nat → Int32) (C R lo : Int32) (b : Nat → Nat) (pa2 pe2 st2 bn2 hc2 hm2 : Nat → Int32) (C2 R2 lo2 : Int32) (o : Nat) (ov : Nat → Int64) (rr kk np : Int32) (hp : xhas R rr = true) (hq : xhas C kk = true) (hr3 : xin np 0 4 = true) (sz : Nat) : Met l yL_put wsL_put ({ frames := 9, cells := 0, slots := 0, locals := 156 } : Room) (va_Pc [.ref x, .int rr, .int kk, .int np, .ref o] (fun U => wPQ D [(cI, .int), (cL, .long)] sz (wX x a b ++ wM cI a pa pe st bn hc hm C R lo ++ wM cI b pa2 pe2 st2 bn2 hc2 hm2 C2 R2 lo2 ++ wL cL o 1 ov) U ∧ (KX U ∧ ZS U U.heap))) (va_Qi (fun (zz : Int32) (_ : Unit) => zz = 0) (wB D [(cI, .int), (cL, .long)] (va_A (wX x a b ++ wM cI a pa pe st bn hc hm C R lo ++ wM cI b pa2 pe2 st2 bn2 hc2 hm2 C2 R2 lo2 ++ wL cL o 1 ov) sz) (fun _ : Unit => (wX x a b ++ wM cI a ((xsc 72 pa (rr * C + kk) np)) ((xsc 72 pe (rr * C + kk) (if np = 3 then 2 else 0))) ((xsc 72 st (rr * C + kk) 0)) bn hc hm C R lo ++ wM cI b pa2 pe2 st2 bn2 hc2 hm2 C2 R2 lo2 ++ wL cL o 1 ((vp_updL ov 0 ((xcl 72 pa (rr * C + kk)) : Int32).toInt64))))) (va_A (wX x a b ++ wM cI a pa pe st bn hc hm C R lo ++ wM cI b pa2 pe2 st2 bn2 hc2 hm2 C2 R2 lo2 ++ wL cL o 1 ov) sz)) 0 0 (va_A (wX x a b ++ wM cI a pa pe st bn hc hm C R lo ++ wM cI b pa2 pe2 st2 bn2 hc2 hm2 C2 R2 lo2 ++ wL cL o 1 ov) sz) := by
  refine mW_of (K2 := fun U => KX U ∧ ZS U U.heap) (by decide) rfl (Nat.le_of_ble_eq_true rfl) ?_
  intro p e s m below meth c hx hb hr hml hown htb hts hlocks hsz hP hK hN hD hXZ hA hS ls hl
  obtain ⟨hX, hZ⟩ := hXZ
  have hown : s.vm.findClass RL = some m.cls := hown
  have hl : lv_has ls 6 [(0, .ref x), (1, .int rr), (2, .int kk), (3, .int np), (4, .ref o)] := hl
  have hP : va_P D vwCl (wX x a b ++ wM cI a pa pe st bn hc hm C R lo ++ wM cI b pa2 pe2 st2 bn2 hc2 hm2 C2 R2 lo2 ++ wL cL o 1 ov) s.heap := hP
  refine lv_aload hx hb dL_put_0 (lv_at hl 4 rfl) ?_
  refine lv_iconst (v := 0) hx hb dL_put_2 (by decide) ?_
  refine lv_aload_n hx hb dL_put_3 rfl (lv_at hl 0 rfl) ?_
  refine lv_iload_n hx hb dL_put_4 rfl (lv_at hl 1 rfl) ?_
  refine lv_iload_n hx hb dL_put_5 rfl (lv_at hl 2 rfl) ?_
  refine lv_iload_n hx hb dL_put_6 rfl (lv_at hl 3 rfl) ?_
  refine kQVi (As := [.int rr, .int kk, .int np]) (rest := [.int 0, .ref o]) (wr := [(b 0, .inr (0, [.ref (b 1), .ref (b 2), .ref (b 3), .ref (b 4), .ref (b 5), .ref (b 6), .int C2, .int R2, .int lo2])), (b 1, .inl (cI, 72, .inl pa2)), (b 2, .inl (cI, 72, .inl pe2)), (b 3, .inl (cI, 72, .inl st2)), (b 4, .inl (cI, 9, .inl bn2)), (b 5, .inl (cI, 2, .inl hc2)), (b 6, .inl (cI, 2, .inl hm2)), (o, .inl (cL, 1, .inr (.inl ov)))]) (W2 := (fun _ => (wX x a b ++ wM cI a ((xsc 72 pa (rr * C + kk) np)) ((xsc 72 pe (rr * C + kk) (if np = 3 then 2 else 0))) ((xsc 72 st (rr * C + kk) 0)) bn hc hm C R lo ++ wM cI b pa2 pe2 st2 bn2 hc2 hm2 C2 R2 lo2 ++ wL cL o 1 ov))) ⟨hx, hb, hml, hown, hts⟩ (mX1_put l D cI x b a pa pe st bn hc hm C R lo rr kk np hp hq hr3 _) (cwV 3 hts gL_put_X1_put rfl rfl rfl (by decide +kernel) ⟨Nat.le_of_ble_eq_true rfl, Nat.le_of_ble_eq_true rfl⟩) hP hD hK hN hS hA [0, 1, 2, 3, 4, 5, 6, 7] (by decide) rfl [8, 9, 10, 11, 12, 13, 14, 15] (by decide) rfl (by decide) [8, 9, 10, 11, 12, 13, 14, 15, 0, 1, 2, 3, 4, 5, 6, 7] (by decide) (fun _ => rfl) [0] rfl rfl rfl rfl hl.1 rfl (Nat.le_of_ble_eq_true rfl) dL_put_7 ⟨Nat.le_of_ble_eq_true rfl, Nat.le_of_ble_eq_true rfl⟩ (fun r_1 u_1 H locs hr_1 hP hD hS => ?_)
  subst r_1
  have hP : va_P D vwCl (wX x a b ++ wM cI a ((xsc 72 pa (rr * C + kk) np)) ((xsc 72 pe (rr * C + kk) (if np = 3 then 2 else 0))) ((xsc 72 st (rr * C + kk) 0)) bn hc hm C R lo ++ wM cI b pa2 pe2 st2 bn2 hc2 hm2 C2 R2 lo2 ++ wL cL o 1 ov) H := hP
  have hD : va_D (va_A (wX x a b ++ wM cI a pa pe st bn hc hm C R lo ++ wM cI b pa2 pe2 st2 bn2 hc2 hm2 C2 R2 lo2 ++ wL cL o 1 ov) sz) (wX x a b ++ wM cI a ((xsc 72 pa (rr * C + kk) np)) ((xsc 72 pe (rr * C + kk) (if np = 3 then 2 else 0))) ((xsc 72 st (rr * C + kk) 0)) bn hc hm C R lo ++ wM cI b pa2 pe2 st2 bn2 hc2 hm2 C2 R2 lo2 ++ wL cL o 1 ov) := hD
  refine lv_i2l (v := (xcl 72 pa (rr * C + kk) : Int32).toInt64) hx hb dL_put_10 rfl ?_
  refine va_last hx hb hK hP hD hS 15 1 rfl rfl (vp_in_nI (n := 0) (by decide) (by decide)) dL_put_11 (fun H locs hP hD hS => ?_)
  rw [show (0 : Int32).toNatClampNeg = 0 from by decide] at hP hD
  have hP : va_P D vwCl (wX x a b ++ wM cI a ((xsc 72 pa (rr * C + kk) np)) ((xsc 72 pe (rr * C + kk) (if np = 3 then 2 else 0))) ((xsc 72 st (rr * C + kk) 0)) bn hc hm C R lo ++ wM cI b pa2 pe2 st2 bn2 hc2 hm2 C2 R2 lo2 ++ wL cL o 1 ((vp_updL ov 0 ((xcl 72 pa (rr * C + kk) : Int32).toInt64)))) H := hP
  have hD : va_D (va_A (wX x a b ++ wM cI a pa pe st bn hc hm C R lo ++ wM cI b pa2 pe2 st2 bn2 hc2 hm2 C2 R2 lo2 ++ wL cL o 1 ov) sz) (wX x a b ++ wM cI a ((xsc 72 pa (rr * C + kk) np)) ((xsc 72 pe (rr * C + kk) (if np = 3 then 2 else 0))) ((xsc 72 st (rr * C + kk) 0)) bn hc hm C R lo ++ wM cI b pa2 pe2 st2 bn2 hc2 hm2 C2 R2 lo2 ++ wL cL o 1 ((vp_updL ov 0 ((xcl 72 pa (rr * C + kk) : Int32).toInt64)))) := hD
  refine lv_goto (tgt := 23) hx hb dL_put_12 (by decide) ?_
  refine lv_iconst (v := 0) hx hb dL_put_23 (by decide) ?_
  exact eQi () hx hb hr hlocks hP hD hK hS dL_put_24 (rfl)
set_option maxHeartbeats 4000000 in
set_option maxRecDepth 100000 in
theorem mL_put_r (l : Launch) (hst : l.stackTraces = false) (D : va_G) (cI cL : ClassId) (x : Nat) (a : Nat → Nat) (pa pe st bn hc hm : Nat → Int32) (C R lo : Int32) (b : Nat → Nat) (pa2 pe2 st2 bn2 hc2 hm2 : Nat → Int32) (C2 R2 lo2 : Int32) (o : Nat) (ov : Nat → Int64) (rr kk np : Int32) (hp : xhas R rr = false) (sz : Nat) : Met l yL_put wsL_put ({ frames := 9, cells := 1, slots := 6, locals := 156 } : Room) (va_Pc [.ref x, .int rr, .int kk, .int np, .ref o] (fun U => wPQ D [(cI, .int), (cL, .long)] sz (wX x a b ++ wM cI a pa pe st bn hc hm C R lo ++ wM cI b pa2 pe2 st2 bn2 hc2 hm2 C2 R2 lo2 ++ wL cL o 1 ov) U ∧ (KX U ∧ ZS U U.heap))) (va_Qi (fun (zz : Int32) (_ : Unit) => zz = 1) (wB D [(cI, .int), (cL, .long)] (va_A (wX x a b ++ wM cI a pa pe st bn hc hm C R lo ++ wM cI b pa2 pe2 st2 bn2 hc2 hm2 C2 R2 lo2 ++ wL cL o 1 ov) sz) (fun _ : Unit => (wX x a b ++ wM cI a pa pe st bn hc hm C R lo ++ wM cI b pa2 pe2 st2 bn2 hc2 hm2 C2 R2 lo2 ++ wL cL o 1 ov))) (va_A (wX x a b ++ wM cI a pa pe st bn hc hm C R lo ++ wM cI b pa2 pe2 st2 bn2 hc2 hm2 C2 R2 lo2 ++ wL cL o 1 ov) sz)) 1 6 (va_A (wX x a b ++ wM cI a pa pe st bn hc hm C R lo ++ wM cI b pa2 pe2 st2 bn2 hc2 hm2 C2 R2 lo2 ++ wL cL o 1 ov) sz) := by
  refine mW_of (K2 := fun U => KX U ∧ ZS U U.heap) (by decide) rfl (Nat.le_of_ble_eq_true rfl) ?_
  intro p e s m below meth c hx hb hr hml hown htb hts hlocks hsz hP hK hN hD hXZ hA hS ls hl
  obtain ⟨hX, hZ⟩ := hXZ
  have hown : s.vm.findClass RL = some m.cls := hown
  have hl : lv_has ls 6 [(0, .ref x), (1, .int rr), (2, .int kk), (3, .int np), (4, .ref o)] := hl
  have hP : va_P D vwCl (wX x a b ++ wM cI a pa pe st bn hc hm C R lo ++ wM cI b pa2 pe2 st2 bn2 hc2 hm2 C2 R2 lo2 ++ wL cL o 1 ov) s.heap := hP
  refine lv_aload hx hb dL_put_0 (lv_at hl 4 rfl) ?_
  refine lv_iconst (v := 0) hx hb dL_put_2 (by decide) ?_
  refine lv_aload_n hx hb dL_put_3 rfl (lv_at hl 0 rfl) ?_
  refine lv_iload_n hx hb dL_put_4 rfl (lv_at hl 1 rfl) ?_
  refine lv_iload_n hx hb dL_put_5 rfl (lv_at hl 2 rfl) ?_
  refine lv_iload_n hx hb dL_put_6 rfl (lv_at hl 3 rfl) ?_
  refine kXVc (As := [.int rr, .int kk, .int np]) (rest := [.int 0, .ref o]) (name := eIO) ⟨hx, hb, hml, hown, hts⟩ (tX1_put_r l hst D cI x b a pa pe st bn hc hm C R lo rr kk np hp) (cwV 3 hts gL_put_X1_put rfl rfl rfl (by decide +kernel) ⟨Nat.le_of_ble_eq_true rfl, Nat.le_of_ble_eq_true rfl⟩) hP hK hN hX hZ hS [0, 1, 2, 3, 4, 5, 6, 7] rfl [0] rfl rfl rfl rfl hl.1 rfl (Nat.le_of_ble_eq_true rfl) dL_put_7 ⟨Nat.le_of_ble_eq_true rfl, Nat.le_of_ble_eq_true rfl⟩ [] ⟨0, 12, 15, 19⟩ [⟨0, 12, 19, 13⟩] htb (fun z hz => absurd hz List.not_mem_nil) (by decide) (by decide) (hts (.classLink RL 19 eIO) (mg 1 rfl)) hX.2.2.2.2.2.1 (fun q9 H locs hP hS => ?_)
  have hP : va_P D vwCl (wX x a b ++ wM cI a pa pe st bn hc hm C R lo ++ wM cI b pa2 pe2 st2 bn2 hc2 hm2 C2 R2 lo2 ++ wL cL o 1 ov) H := hP
  refine lv_astore (lv' := [(5, .ref q9), (0, .ref x), (1, .int rr), (2, .int kk), (3, .int np), (4, .ref o)]) hx hb dL_put_15 hl (by decide) rfl (fun ls hl => ?_)
  refine lv_iconst (v := 1) hx hb dL_put_17 (by decide) ?_
  refine W.widen (k := 1) (n := 6) (by omega) (by omega) ?_
  exact eQi () hx hb hr hlocks hP hD hK hS dL_put_18 (rfl)
set_option maxHeartbeats 4000000 in
set_option maxRecDepth 100000 in
theorem mL_put_c (l : Launch) (hst : l.stackTraces = false) (D : va_G) (cI cL : ClassId) (x : Nat) (a : Nat → Nat) (pa pe st bn hc hm : Nat → Int32) (C R lo : Int32) (b : Nat → Nat) (pa2 pe2 st2 bn2 hc2 hm2 : Nat → Int32) (C2 R2 lo2 : Int32) (o : Nat) (ov : Nat → Int64) (rr kk np : Int32) (hp : xhas R rr = true) (hq : xhas C kk = false) (sz : Nat) : Met l yL_put wsL_put ({ frames := 9, cells := 1, slots := 6, locals := 156 } : Room) (va_Pc [.ref x, .int rr, .int kk, .int np, .ref o] (fun U => wPQ D [(cI, .int), (cL, .long)] sz (wX x a b ++ wM cI a pa pe st bn hc hm C R lo ++ wM cI b pa2 pe2 st2 bn2 hc2 hm2 C2 R2 lo2 ++ wL cL o 1 ov) U ∧ (KX U ∧ ZS U U.heap))) (va_Qi (fun (zz : Int32) (_ : Unit) => zz = 1) (wB D [(cI, .int), (cL, .long)] (va_A (wX x a b ++ wM cI a pa pe st bn hc hm C R lo ++ wM cI b pa2 pe2 st2 bn2 hc2 hm2 C2 R2 lo2 ++ wL cL o 1 ov) sz) (fun _ : Unit => (wX x a b ++ wM cI a pa pe st bn hc hm C R lo ++ wM cI b pa2 pe2 st2 bn2 hc2 hm2 C2 R2 lo2 ++ wL cL o 1 ov))) (va_A (wX x a b ++ wM cI a pa pe st bn hc hm C R lo ++ wM cI b pa2 pe2 st2 bn2 hc2 hm2 C2 R2 lo2 ++ wL cL o 1 ov) sz)) 1 6 (va_A (wX x a b ++ wM cI a pa pe st bn hc hm C R lo ++ wM cI b pa2 pe2 st2 bn2 hc2 hm2 C2 R2 lo2 ++ wL cL o 1 ov) sz) := by
  refine mW_of (K2 := fun U => KX U ∧ ZS U U.heap) (by decide) rfl (Nat.le_of_ble_eq_true rfl) ?_
  intro p e s m below meth c hx hb hr hml hown htb hts hlocks hsz hP hK hN hD hXZ hA hS ls hl
  obtain ⟨hX, hZ⟩ := hXZ
  have hown : s.vm.findClass RL = some m.cls := hown
  have hl : lv_has ls 6 [(0, .ref x), (1, .int rr), (2, .int kk), (3, .int np), (4, .ref o)] := hl
  have hP : va_P D vwCl (wX x a b ++ wM cI a pa pe st bn hc hm C R lo ++ wM cI b pa2 pe2 st2 bn2 hc2 hm2 C2 R2 lo2 ++ wL cL o 1 ov) s.heap := hP
  refine lv_aload hx hb dL_put_0 (lv_at hl 4 rfl) ?_
  refine lv_iconst (v := 0) hx hb dL_put_2 (by decide) ?_
  refine lv_aload_n hx hb dL_put_3 rfl (lv_at hl 0 rfl) ?_
  refine lv_iload_n hx hb dL_put_4 rfl (lv_at hl 1 rfl) ?_
  refine lv_iload_n hx hb dL_put_5 rfl (lv_at hl 2 rfl) ?_
  refine lv_iload_n hx hb dL_put_6 rfl (lv_at hl 3 rfl) ?_
  refine kXVc (As := [.int rr, .int kk, .int np]) (rest := [.int 0, .ref o]) (name := eIO) ⟨hx, hb, hml, hown, hts⟩ (tX1_put_c l hst D cI x b a pa pe st bn hc hm C R lo rr kk np hp hq) (cwV 3 hts gL_put_X1_put rfl rfl rfl (by decide +kernel) ⟨Nat.le_of_ble_eq_true rfl, Nat.le_of_ble_eq_true rfl⟩) hP hK hN hX hZ hS [0, 1, 2, 3, 4, 5, 6, 7] rfl [0] rfl rfl rfl rfl hl.1 rfl (Nat.le_of_ble_eq_true rfl) dL_put_7 ⟨Nat.le_of_ble_eq_true rfl, Nat.le_of_ble_eq_true rfl⟩ [] ⟨0, 12, 15, 19⟩ [⟨0, 12, 19, 13⟩] htb (fun z hz => absurd hz List.not_mem_nil) (by decide) (by decide) (hts (.classLink RL 19 eIO) (mg 1 rfl)) hX.2.2.2.2.2.1 (fun q9 H locs hP hS => ?_)
  have hP : va_P D vwCl (wX x a b ++ wM cI a pa pe st bn hc hm C R lo ++ wM cI b pa2 pe2 st2 bn2 hc2 hm2 C2 R2 lo2 ++ wL cL o 1 ov) H := hP
  refine lv_astore (lv' := [(5, .ref q9), (0, .ref x), (1, .int rr), (2, .int kk), (3, .int np), (4, .ref o)]) hx hb dL_put_15 hl (by decide) rfl (fun ls hl => ?_)
  refine lv_iconst (v := 1) hx hb dL_put_17 (by decide) ?_
  refine W.widen (k := 1) (n := 6) (by omega) (by omega) ?_
  exact eQi () hx hb hr hlocks hP hD hK hS dL_put_18 (rfl)
set_option maxHeartbeats 4000000 in
set_option maxRecDepth 100000 in
theorem mL_put_a (l : Launch) (hst : l.stackTraces = false) (D : va_G) (cI cL : ClassId) (x : Nat) (a : Nat → Nat) (pa pe st bn hc hm : Nat → Int32) (C R lo : Int32) (b : Nat → Nat) (pa2 pe2 st2 bn2 hc2 hm2 : Nat → Int32) (C2 R2 lo2 : Int32) (o : Nat) (ov : Nat → Int64) (rr kk np : Int32) (hp : xhas R rr = true) (hq : xhas C kk = true) (hr3 : xin np 0 4 = false) (sz : Nat) : Met l yL_put wsL_put ({ frames := 9, cells := 1, slots := 6, locals := 156 } : Room) (va_Pc [.ref x, .int rr, .int kk, .int np, .ref o] (fun U => wPQ D [(cI, .int), (cL, .long)] sz (wX x a b ++ wM cI a pa pe st bn hc hm C R lo ++ wM cI b pa2 pe2 st2 bn2 hc2 hm2 C2 R2 lo2 ++ wL cL o 1 ov) U ∧ (KX U ∧ ZS U U.heap))) (va_Qi (fun (zz : Int32) (_ : Unit) => zz = 2) (wB D [(cI, .int), (cL, .long)] (va_A (wX x a b ++ wM cI a pa pe st bn hc hm C R lo ++ wM cI b pa2 pe2 st2 bn2 hc2 hm2 C2 R2 lo2 ++ wL cL o 1 ov) sz) (fun _ : Unit => (wX x a b ++ wM cI a pa pe st bn hc hm C R lo ++ wM cI b pa2 pe2 st2 bn2 hc2 hm2 C2 R2 lo2 ++ wL cL o 1 ov))) (va_A (wX x a b ++ wM cI a pa pe st bn hc hm C R lo ++ wM cI b pa2 pe2 st2 bn2 hc2 hm2 C2 R2 lo2 ++ wL cL o 1 ov) sz)) 1 6 (va_A (wX x a b ++ wM cI a pa pe st bn hc hm C R lo ++ wM cI b pa2 pe2 st2 bn2 hc2 hm2 C2 R2 lo2 ++ wL cL o 1 ov) sz) := by
  refine mW_of (K2 := fun U => KX U ∧ ZS U U.heap) (by decide) rfl (Nat.le_of_ble_eq_true rfl) ?_
  intro p e s m below meth c hx hb hr hml hown htb hts hlocks hsz hP hK hN hD hXZ hA hS ls hl
  obtain ⟨hX, hZ⟩ := hXZ
  have hown : s.vm.findClass RL = some m.cls := hown
  have hl : lv_has ls 6 [(0, .ref x), (1, .int rr), (2, .int kk), (3, .int np), (4, .ref o)] := hl
  have hP : va_P D vwCl (wX x a b ++ wM cI a pa pe st bn hc hm C R lo ++ wM cI b pa2 pe2 st2 bn2 hc2 hm2 C2 R2 lo2 ++ wL cL o 1 ov) s.heap := hP
  refine lv_aload hx hb dL_put_0 (lv_at hl 4 rfl) ?_
  refine lv_iconst (v := 0) hx hb dL_put_2 (by decide) ?_
  refine lv_aload_n hx hb dL_put_3 rfl (lv_at hl 0 rfl) ?_
  refine lv_iload_n hx hb dL_put_4 rfl (lv_at hl 1 rfl) ?_
  refine lv_iload_n hx hb dL_put_5 rfl (lv_at hl 2 rfl) ?_
  refine lv_iload_n hx hb dL_put_6 rfl (lv_at hl 3 rfl) ?_
  refine kXVc (As := [.int rr, .int kk, .int np]) (rest := [.int 0, .ref o]) (name := eIA) ⟨hx, hb, hml, hown, hts⟩ (tX1_put_a l hst D cI x b a pa pe st bn hc hm C R lo rr kk np hp hq hr3) (cwV 3 hts gL_put_X1_put rfl rfl rfl (by decide +kernel) ⟨Nat.le_of_ble_eq_true rfl, Nat.le_of_ble_eq_true rfl⟩) hP hK hN hX hZ hS [0, 1, 2, 3, 4, 5, 6, 7] rfl [0] rfl rfl rfl rfl hl.1 rfl (Nat.le_of_ble_eq_true rfl) dL_put_7 ⟨Nat.le_of_ble_eq_true rfl, Nat.le_of_ble_eq_true rfl⟩ [⟨0, 12, 15, 19⟩] ⟨0, 12, 19, 13⟩ [] htb (fun z hz => by obtain rfl := List.mem_singleton.mp hz; exact Or.inr ⟨by decide, eIO, hts (.classLink RL 19 eIO) (mg 1 rfl), hX.2.2.2.2.2.2.2.2.1⟩) (by decide) (by decide) (hts (.classLink RL 13 eIA) (mg 2 rfl)) hX.2.2.2.2.2.2.1 (fun q9 H locs hP hS => ?_)
  have hP : va_P D vwCl (wX x a b ++ wM cI a pa pe st bn hc hm C R lo ++ wM cI b pa2 pe2 st2 bn2 hc2 hm2 C2 R2 lo2 ++ wL cL o 1 ov) H := hP
  refine lv_astore (lv' := [(5, .ref q9), (0, .ref x), (1, .int rr), (2, .int kk), (3, .int np), (4, .ref o)]) hx hb dL_put_19 hl (by decide) rfl (fun ls hl => ?_)
  refine lv_iconst (v := 2) hx hb dL_put_21 (by decide) ?_
  refine W.widen (k := 1) (n := 6) (by omega) (by omega) ?_
  exact eQi () hx hb hr hlocks hP hD hK hS dL_put_22 (rfl)
set_option maxHeartbeats 4000000 in
set_option maxRecDepth 100000 in
theorem mL_putCounter_0 (l : Launch) (D : va_G) (cI cL : ClassId) (x : Nat) (a : Nat → Nat) (pa pe st bn hc hm : Nat → Int32) (C R lo : Int32) (b : Nat → Nat) (pa2 pe2 st2 bn2 hc2 hm2 : Nat → Int32) (C2 R2 lo2 : Int32) (o : Nat) (ov : Nat → Int64) (rr kk nq : Int32) (hp : xhas R rr = true) (hq : xhas C kk = true) (hr3 : xin nq 2 9 = true) (sz : Nat) : Met l yL_putCounter wsL_putCounter ({ frames := 9, cells := 0, slots := 0, locals := 156 } : Room) (va_Pc [.ref x, .int rr, .int kk, .int nq, .ref o] (fun U => wPQ D [(cI, .int), (cL, .long)] sz (wX x a b ++ wM cI a pa pe st bn hc hm C R lo ++ wM cI b pa2 pe2 st2 bn2 hc2 hm2 C2 R2 lo2 ++ wL cL o 1 ov) U ∧ (KX U ∧ ZS U U.heap))) (va_Qi (fun (zz : Int32) (_ : Unit) => zz = 0) (wB D [(cI, .int), (cL, .long)] (va_A (wX x a b ++ wM cI a pa pe st bn hc hm C R lo ++ wM cI b pa2 pe2 st2 bn2 hc2 hm2 C2 R2 lo2 ++ wL cL o 1 ov) sz) (fun _ : Unit => (wX x a b ++ wM cI a ((xsc 72 pa (rr * C + kk) 5)) ((xsc 72 pe (rr * C + kk) nq)) ((xsc 72 st (rr * C + kk) 0)) bn hc hm C R lo ++ wM cI b pa2 pe2 st2 bn2 hc2 hm2 C2 R2 lo2 ++ wL cL o 1 ((vp_updL ov 0 ((xcl 72 pa (rr * C + kk)) : Int32).toInt64))))) (va_A (wX x a b ++ wM cI a pa pe st bn hc hm C R lo ++ wM cI b pa2 pe2 st2 bn2 hc2 hm2 C2 R2 lo2 ++ wL cL o 1 ov) sz)) 0 0 (va_A (wX x a b ++ wM cI a pa pe st bn hc hm C R lo ++ wM cI b pa2 pe2 st2 bn2 hc2 hm2 C2 R2 lo2 ++ wL cL o 1 ov) sz) := by
  refine mW_of (K2 := fun U => KX U ∧ ZS U U.heap) (by decide) rfl (Nat.le_of_ble_eq_true rfl) ?_
  intro p e s m below meth c hx hb hr hml hown htb hts hlocks hsz hP hK hN hD hXZ hA hS ls hl
  obtain ⟨hX, hZ⟩ := hXZ
  have hown : s.vm.findClass RL = some m.cls := hown
  have hl : lv_has ls 6 [(0, .ref x), (1, .int rr), (2, .int kk), (3, .int nq), (4, .ref o)] := hl
  have hP : va_P D vwCl (wX x a b ++ wM cI a pa pe st bn hc hm C R lo ++ wM cI b pa2 pe2 st2 bn2 hc2 hm2 C2 R2 lo2 ++ wL cL o 1 ov) s.heap := hP
  refine lv_aload hx hb dL_putCounter_0 (lv_at hl 4 rfl) ?_
  refine lv_iconst (v := 0) hx hb dL_putCounter_2 (by decide) ?_
  refine lv_aload_n hx hb dL_putCounter_3 rfl (lv_at hl 0 rfl) ?_
  refine lv_iload_n hx hb dL_putCounter_4 rfl (lv_at hl 1 rfl) ?_
  refine lv_iload_n hx hb dL_putCounter_5 rfl (lv_at hl 2 rfl) ?_
  refine lv_iload_n hx hb dL_putCounter_6 rfl (lv_at hl 3 rfl) ?_
  refine kQVi (As := [.int rr, .int kk, .int nq]) (rest := [.int 0, .ref o]) (wr := [(b 0, .inr (0, [.ref (b 1), .ref (b 2), .ref (b 3), .ref (b 4), .ref (b 5), .ref (b 6), .int C2, .int R2, .int lo2])), (b 1, .inl (cI, 72, .inl pa2)), (b 2, .inl (cI, 72, .inl pe2)), (b 3, .inl (cI, 72, .inl st2)), (b 4, .inl (cI, 9, .inl bn2)), (b 5, .inl (cI, 2, .inl hc2)), (b 6, .inl (cI, 2, .inl hm2)), (o, .inl (cL, 1, .inr (.inl ov)))]) (W2 := (fun _ => (wX x a b ++ wM cI a ((xsc 72 pa (rr * C + kk) 5)) ((xsc 72 pe (rr * C + kk) nq)) ((xsc 72 st (rr * C + kk) 0)) bn hc hm C R lo ++ wM cI b pa2 pe2 st2 bn2 hc2 hm2 C2 R2 lo2 ++ wL cL o 1 ov))) ⟨hx, hb, hml, hown, hts⟩ (mX1_putCounter l D cI x b a pa pe st bn hc hm C R lo rr kk nq hp hq hr3 _) (cwV 3 hts gL_putCounter_X1_putCounter rfl rfl rfl (by decide +kernel) ⟨Nat.le_of_ble_eq_true rfl, Nat.le_of_ble_eq_true rfl⟩) hP hD hK hN hS hA [0, 1, 2, 3, 4, 5, 6, 7] (by decide) rfl [8, 9, 10, 11, 12, 13, 14, 15] (by decide) rfl (by decide) [8, 9, 10, 11, 12, 13, 14, 15, 0, 1, 2, 3, 4, 5, 6, 7] (by decide) (fun _ => rfl) [0] rfl rfl rfl rfl hl.1 rfl (Nat.le_of_ble_eq_true rfl) dL_putCounter_7 ⟨Nat.le_of_ble_eq_true rfl, Nat.le_of_ble_eq_true rfl⟩ (fun r_1 u_1 H locs hr_1 hP hD hS => ?_)
  subst r_1
  have hP : va_P D vwCl (wX x a b ++ wM cI a ((xsc 72 pa (rr * C + kk) 5)) ((xsc 72 pe (rr * C + kk) nq)) ((xsc 72 st (rr * C + kk) 0)) bn hc hm C R lo ++ wM cI b pa2 pe2 st2 bn2 hc2 hm2 C2 R2 lo2 ++ wL cL o 1 ov) H := hP
  have hD : va_D (va_A (wX x a b ++ wM cI a pa pe st bn hc hm C R lo ++ wM cI b pa2 pe2 st2 bn2 hc2 hm2 C2 R2 lo2 ++ wL cL o 1 ov) sz) (wX x a b ++ wM cI a ((xsc 72 pa (rr * C + kk) 5)) ((xsc 72 pe (rr * C + kk) nq)) ((xsc 72 st (rr * C + kk) 0)) bn hc hm C R lo ++ wM cI b pa2 pe2 st2 bn2 hc2 hm2 C2 R2 lo2 ++ wL cL o 1 ov) := hD
  refine lv_i2l (v := (xcl 72 pa (rr * C + kk) : Int32).toInt64) hx hb dL_putCounter_10 rfl ?_
  refine va_last hx hb hK hP hD hS 15 1 rfl rfl (vp_in_nI (n := 0) (by decide) (by decide)) dL_putCounter_11 (fun H locs hP hD hS => ?_)
  rw [show (0 : Int32).toNatClampNeg = 0 from by decide] at hP hD
  have hP : va_P D vwCl (wX x a b ++ wM cI a ((xsc 72 pa (rr * C + kk) 5)) ((xsc 72 pe (rr * C + kk) nq)) ((xsc 72 st (rr * C + kk) 0)) bn hc hm C R lo ++ wM cI b pa2 pe2 st2 bn2 hc2 hm2 C2 R2 lo2 ++ wL cL o 1 ((vp_updL ov 0 ((xcl 72 pa (rr * C + kk) : Int32).toInt64)))) H := hP
  have hD : va_D (va_A (wX x a b ++ wM cI a pa pe st bn hc hm C R lo ++ wM cI b pa2 pe2 st2 bn2 hc2 hm2 C2 R2 lo2 ++ wL cL o 1 ov) sz) (wX x a b ++ wM cI a ((xsc 72 pa (rr * C + kk) 5)) ((xsc 72 pe (rr * C + kk) nq)) ((xsc 72 st (rr * C + kk) 0)) bn hc hm C R lo ++ wM cI b pa2 pe2 st2 bn2 hc2 hm2 C2 R2 lo2 ++ wL cL o 1 ((vp_updL ov 0 ((xcl 72 pa (rr * C + kk) : Int32).toInt64)))) := hD
  refine lv_goto (tgt := 23) hx hb dL_putCounter_12 (by decide) ?_
  refine lv_iconst (v := 0) hx hb dL_putCounter_23 (by decide) ?_
  exact eQi () hx hb hr hlocks hP hD hK hS dL_putCounter_24 (rfl)
set_option maxHeartbeats 4000000 in
set_option maxRecDepth 100000 in
theorem mL_putCounter_r (l : Launch) (hst : l.stackTraces = false) (D : va_G) (cI cL : ClassId) (x : Nat) (a : Nat → Nat) (pa pe st bn hc hm : Nat → Int32) (C R lo : Int32) (b : Nat → Nat) (pa2 pe2 st2 bn2 hc2 hm2 : Nat → Int32) (C2 R2 lo2 : Int32) (o : Nat) (ov : Nat → Int64) (rr kk nq : Int32) (hp : xhas R rr = false) (sz : Nat) : Met l yL_putCounter wsL_putCounter ({ frames := 9, cells := 1, slots := 6, locals := 156 } : Room) (va_Pc [.ref x, .int rr, .int kk, .int nq, .ref o] (fun U => wPQ D [(cI, .int), (cL, .long)] sz (wX x a b ++ wM cI a pa pe st bn hc hm C R lo ++ wM cI b pa2 pe2 st2 bn2 hc2 hm2 C2 R2 lo2 ++ wL cL o 1 ov) U ∧ (KX U ∧ ZS U U.heap))) (va_Qi (fun (zz : Int32) (_ : Unit) => zz = 1) (wB D [(cI, .int), (cL, .long)] (va_A (wX x a b ++ wM cI a pa pe st bn hc hm C R lo ++ wM cI b pa2 pe2 st2 bn2 hc2 hm2 C2 R2 lo2 ++ wL cL o 1 ov) sz) (fun _ : Unit => (wX x a b ++ wM cI a pa pe st bn hc hm C R lo ++ wM cI b pa2 pe2 st2 bn2 hc2 hm2 C2 R2 lo2 ++ wL cL o 1 ov))) (va_A (wX x a b ++ wM cI a pa pe st bn hc hm C R lo ++ wM cI b pa2 pe2 st2 bn2 hc2 hm2 C2 R2 lo2 ++ wL cL o 1 ov) sz)) 1 6 (va_A (wX x a b ++ wM cI a pa pe st bn hc hm C R lo ++ wM cI b pa2 pe2 st2 bn2 hc2 hm2 C2 R2 lo2 ++ wL cL o 1 ov) sz) := by
  refine mW_of (K2 := fun U => KX U ∧ ZS U U.heap) (by decide) rfl (Nat.le_of_ble_eq_true rfl) ?_
  intro p e s m below meth c hx hb hr hml hown htb hts hlocks hsz hP hK hN hD hXZ hA hS ls hl
  obtain ⟨hX, hZ⟩ := hXZ
  have hown : s.vm.findClass RL = some m.cls := hown
  have hl : lv_has ls 6 [(0, .ref x), (1, .int rr), (2, .int kk), (3, .int nq), (4, .ref o)] := hl
  have hP : va_P D vwCl (wX x a b ++ wM cI a pa pe st bn hc hm C R lo ++ wM cI b pa2 pe2 st2 bn2 hc2 hm2 C2 R2 lo2 ++ wL cL o 1 ov) s.heap := hP
  refine lv_aload hx hb dL_putCounter_0 (lv_at hl 4 rfl) ?_
  refine lv_iconst (v := 0) hx hb dL_putCounter_2 (by decide) ?_
  refine lv_aload_n hx hb dL_putCounter_3 rfl (lv_at hl 0 rfl) ?_
  refine lv_iload_n hx hb dL_putCounter_4 rfl (lv_at hl 1 rfl) ?_
  refine lv_iload_n hx hb dL_putCounter_5 rfl (lv_at hl 2 rfl) ?_
  refine lv_iload_n hx hb dL_putCounter_6 rfl (lv_at hl 3 rfl) ?_
  refine kXVc (As := [.int rr, .int kk, .int nq]) (rest := [.int 0, .ref o]) (name := eIO) ⟨hx, hb, hml, hown, hts⟩ (tX1_putCounter_r l hst D cI x b a pa pe st bn hc hm C R lo rr kk nq hp) (cwV 3 hts gL_putCounter_X1_putCounter rfl rfl rfl (by decide +kernel) ⟨Nat.le_of_ble_eq_true rfl, Nat.le_of_ble_eq_true rfl⟩) hP hK hN hX hZ hS [0, 1, 2, 3, 4, 5, 6, 7] rfl [0] rfl rfl rfl rfl hl.1 rfl (Nat.le_of_ble_eq_true rfl) dL_putCounter_7 ⟨Nat.le_of_ble_eq_true rfl, Nat.le_of_ble_eq_true rfl⟩ [] ⟨0, 12, 15, 19⟩ [⟨0, 12, 19, 13⟩] htb (fun z hz => absurd hz List.not_mem_nil) (by decide) (by decide) (hts (.classLink RL 19 eIO) (mg 1 rfl)) hX.2.2.2.2.2.1 (fun q9 H locs hP hS => ?_)
  have hP : va_P D vwCl (wX x a b ++ wM cI a pa pe st bn hc hm C R lo ++ wM cI b pa2 pe2 st2 bn2 hc2 hm2 C2 R2 lo2 ++ wL cL o 1 ov) H := hP
  refine lv_astore (lv' := [(5, .ref q9), (0, .ref x), (1, .int rr), (2, .int kk), (3, .int nq), (4, .ref o)]) hx hb dL_putCounter_15 hl (by decide) rfl (fun ls hl => ?_)
  refine lv_iconst (v := 1) hx hb dL_putCounter_17 (by decide) ?_
  refine W.widen (k := 1) (n := 6) (by omega) (by omega) ?_
  exact eQi () hx hb hr hlocks hP hD hK hS dL_putCounter_18 (rfl)
set_option maxHeartbeats 4000000 in
set_option maxRecDepth 100000 in
theorem mL_putCounter_c (l : Launch) (hst : l.stackTraces = false) (D : va_G) (cI cL : ClassId) (x : Nat) (a : Nat → Nat) (pa pe st bn hc hm : Nat → Int32) (C R lo : Int32) (b : Nat → Nat) (pa2 pe2 st2 bn2 hc2 hm2 : Nat → Int32) (C2 R2 lo2 : Int32) (o : Nat) (ov : Nat → Int64) (rr kk nq : Int32) (hp : xhas R rr = true) (hq : xhas C kk = false) (sz : Nat) : Met l yL_putCounter wsL_putCounter ({ frames := 9, cells := 1, slots := 6, locals := 156 } : Room) (va_Pc [.ref x, .int rr, .int kk, .int nq, .ref o] (fun U => wPQ D [(cI, .int), (cL, .long)] sz (wX x a b ++ wM cI a pa pe st bn hc hm C R lo ++ wM cI b pa2 pe2 st2 bn2 hc2 hm2 C2 R2 lo2 ++ wL cL o 1 ov) U ∧ (KX U ∧ ZS U U.heap))) (va_Qi (fun (zz : Int32) (_ : Unit) => zz = 1) (wB D [(cI, .int), (cL, .long)] (va_A (wX x a b ++ wM cI a pa pe st bn hc hm C R lo ++ wM cI b pa2 pe2 st2 bn2 hc2 hm2 C2 R2 lo2 ++ wL cL o 1 ov) sz) (fun _ : Unit => (wX x a b ++ wM cI a pa pe st bn hc hm C R lo ++ wM cI b pa2 pe2 st2 bn2 hc2 hm2 C2 R2 lo2 ++ wL cL o 1 ov))) (va_A (wX x a b ++ wM cI a pa pe st bn hc hm C R lo ++ wM cI b pa2 pe2 st2 bn2 hc2 hm2 C2 R2 lo2 ++ wL cL o 1 ov) sz)) 1 6 (va_A (wX x a b ++ wM cI a pa pe st bn hc hm C R lo ++ wM cI b pa2 pe2 st2 bn2 hc2 hm2 C2 R2 lo2 ++ wL cL o 1 ov) sz) := by
  refine mW_of (K2 := fun U => KX U ∧ ZS U U.heap) (by decide) rfl (Nat.le_of_ble_eq_true rfl) ?_
  intro p e s m below meth c hx hb hr hml hown htb hts hlocks hsz hP hK hN hD hXZ hA hS ls hl
  obtain ⟨hX, hZ⟩ := hXZ
  have hown : s.vm.findClass RL = some m.cls := hown
  have hl : lv_has ls 6 [(0, .ref x), (1, .int rr), (2, .int kk), (3, .int nq), (4, .ref o)] := hl
  have hP : va_P D vwCl (wX x a b ++ wM cI a pa pe st bn hc hm C R lo ++ wM cI b pa2 pe2 st2 bn2 hc2 hm2 C2 R2 lo2 ++ wL cL o 1 ov) s.heap := hP
  refine lv_aload hx hb dL_putCounter_0 (lv_at hl 4 rfl) ?_
  refine lv_iconst (v := 0) hx hb dL_putCounter_2 (by decide) ?_
  refine lv_aload_n hx hb dL_putCounter_3 rfl (lv_at hl 0 rfl) ?_
  refine lv_iload_n hx hb dL_putCounter_4 rfl (lv_at hl 1 rfl) ?_
  refine lv_iload_n hx hb dL_putCounter_5 rfl (lv_at hl 2 rfl) ?_
  refine lv_iload_n hx hb dL_putCounter_6 rfl (lv_at hl 3 rfl) ?_
  refine kXVc (As := [.int rr, .int kk, .int nq]) (rest := [.int 0, .ref o]) (name := eIO) ⟨hx, hb, hml, hown, hts⟩ (tX1_putCounter_c l hst D cI x b a pa pe st bn hc hm C R lo rr kk nq hp hq) (cwV 3 hts gL_putCounter_X1_putCounter rfl rfl rfl (by decide +kernel) ⟨Nat.le_of_ble_eq_true rfl, Nat.le_of_ble_eq_true rfl⟩) hP hK hN hX hZ hS [0, 1, 2, 3, 4, 5, 6, 7] rfl [0] rfl rfl rfl rfl hl.1 rfl (Nat.le_of_ble_eq_true rfl) dL_putCounter_7 ⟨Nat.le_of_ble_eq_true rfl, Nat.le_of_ble_eq_true rfl⟩ [] ⟨0, 12, 15, 19⟩ [⟨0, 12, 19, 13⟩] htb (fun z hz => absurd hz List.not_mem_nil) (by decide) (by decide) (hts (.classLink RL 19 eIO) (mg 1 rfl)) hX.2.2.2.2.2.1 (fun q9 H locs hP hS => ?_)
  have hP : va_P D vwCl (wX x a b ++ wM cI a pa pe st bn hc hm C R lo ++ wM cI b pa2 pe2 st2 bn2 hc2 hm2 C2 R2 lo2 ++ wL cL o 1 ov) H := hP
  refine lv_astore (lv' := [(5, .ref q9), (0, .ref x), (1, .int rr), (2, .int kk), (3, .int nq), (4, .ref o)]) hx hb dL_putCounter_15 hl (by decide) rfl (fun ls hl => ?_)
  refine lv_iconst (v := 1) hx hb dL_putCounter_17 (by decide) ?_
  refine W.widen (k := 1) (n := 6) (by omega) (by omega) ?_
  exact eQi () hx hb hr hlocks hP hD hK hS dL_putCounter_18 (rfl)
set_option maxHeartbeats 4000000 in
set_option maxRecDepth 100000 in
theorem mL_putCounter_a (l : Launch) (hst : l.stackTraces = false) (D : va_G) (cI cL : ClassId) (x : Nat) (a : Nat → Nat) (pa pe st bn hc hm : Nat → Int32) (C R lo : Int32) (b : Nat → Nat) (pa2 pe2 st2 bn2 hc2 hm2 : Nat → Int32) (C2 R2 lo2 : Int32) (o : Nat) (ov : Nat → Int64) (rr kk nq : Int32) (hp : xhas R rr = true) (hq : xhas C kk = true) (hr3 : xin nq 2 9 = false) (sz : Nat) : Met l yL_putCounter wsL_putCounter ({ frames := 9, cells := 1, slots := 6, locals := 156 } : Room) (va_Pc [.ref x, .int rr, .int kk, .int nq, .ref o] (fun U => wPQ D [(cI, .int), (cL, .long)] sz (wX x a b ++ wM cI a pa pe st bn hc hm C R lo ++ wM cI b pa2 pe2 st2 bn2 hc2 hm2 C2 R2 lo2 ++ wL cL o 1 ov) U ∧ (KX U ∧ ZS U U.heap))) (va_Qi (fun (zz : Int32) (_ : Unit) => zz = 2) (wB D [(cI, .int), (cL, .long)] (va_A (wX x a b ++ wM cI a pa pe st bn hc hm C R lo ++ wM cI b pa2 pe2 st2 bn2 hc2 hm2 C2 R2 lo2 ++ wL cL o 1 ov) sz) (fun _ : Unit => (wX x a b ++ wM cI a pa pe st bn hc hm C R lo ++ wM cI b pa2 pe2 st2 bn2 hc2 hm2 C2 R2 lo2 ++ wL cL o 1 ov))) (va_A (wX x a b ++ wM cI a pa pe st bn hc hm C R lo ++ wM cI b pa2 pe2 st2 bn2 hc2 hm2 C2 R2 lo2 ++ wL cL o 1 ov) sz)) 1 6 (va_A (wX x a b ++ wM cI a pa pe st bn hc hm C R lo ++ wM cI b pa2 pe2 st2 bn2 hc2 hm2 C2 R2 lo2 ++ wL cL o 1 ov) sz) := by
  refine mW_of (K2 := fun U => KX U ∧ ZS U U.heap) (by decide) rfl (Nat.le_of_ble_eq_true rfl) ?_
  intro p e s m below meth c hx hb hr hml hown htb hts hlocks hsz hP hK hN hD hXZ hA hS ls hl
  obtain ⟨hX, hZ⟩ := hXZ
  have hown : s.vm.findClass RL = some m.cls := hown
  have hl : lv_has ls 6 [(0, .ref x), (1, .int rr), (2, .int kk), (3, .int nq), (4, .ref o)] := hl
  have hP : va_P D vwCl (wX x a b ++ wM cI a pa pe st bn hc hm C R lo ++ wM cI b pa2 pe2 st2 bn2 hc2 hm2 C2 R2 lo2 ++ wL cL o 1 ov) s.heap := hP
  refine lv_aload hx hb dL_putCounter_0 (lv_at hl 4 rfl) ?_
  refine lv_iconst (v := 0) hx hb dL_putCounter_2 (by decide) ?_
  refine lv_aload_n hx hb dL_putCounter_3 rfl (lv_at hl 0 rfl) ?_
  refine lv_iload_n hx hb dL_putCounter_4 rfl (lv_at hl 1 rfl) ?_
  refine lv_iload_n hx hb dL_putCounter_5 rfl (lv_at hl 2 rfl) ?_
  refine lv_iload_n hx hb dL_putCounter_6 rfl (lv_at hl 3 rfl) ?_
  refine kXVc (As := [.int rr, .int kk, .int nq]) (rest := [.int 0, .ref o]) (name := eIA) ⟨hx, hb, hml, hown, hts⟩ (tX1_putCounter_a l hst D cI x b a pa pe st bn hc hm C R lo rr kk nq hp hq hr3) (cwV 3 hts gL_putCounter_X1_putCounter rfl rfl rfl (by decide +kernel) ⟨Nat.le_of_ble_eq_true rfl, Nat.le_of_ble_eq_true rfl⟩) hP hK hN hX hZ hS [0, 1, 2, 3, 4, 5, 6, 7] rfl [0] rfl rfl rfl rfl hl.1 rfl (Nat.le_of_ble_eq_true rfl) dL_putCounter_7 ⟨Nat.le_of_ble_eq_true rfl, Nat.le_of_ble_eq_true rfl⟩ [⟨0, 12, 15, 19⟩] ⟨0, 12, 19, 13⟩ [] htb (fun z hz => by obtain rfl := List.mem_singleton.mp hz; exact Or.inr ⟨by decide, eIO, hts (.classLink RL 19 eIO) (mg 1 rfl), hX.2.2.2.2.2.2.2.2.1⟩) (by decide) (by decide) (hts (.classLink RL 13 eIA) (mg 2 rfl)) hX.2.2.2.2.2.2.1 (fun q9 H locs hP hS => ?_)
  have hP : va_P D vwCl (wX x a b ++ wM cI a pa pe st bn hc hm C R lo ++ wM cI b pa2 pe2 st2 bn2 hc2 hm2 C2 R2 lo2 ++ wL cL o 1 ov) H := hP
  refine lv_astore (lv' := [(5, .ref q9), (0, .ref x), (1, .int rr), (2, .int kk), (3, .int nq), (4, .ref o)]) hx hb dL_putCounter_19 hl (by decide) rfl (fun ls hl => ?_)
  refine lv_iconst (v := 2) hx hb dL_putCounter_21 (by decide) ?_
  refine W.widen (k := 1) (n := 6) (by omega) (by omega) ?_
  exact eQi () hx hb hr hlocks hP hD hK hS dL_putCounter_22 (rfl)
set_option maxHeartbeats 4000000 in
set_option maxRecDepth 100000 in
theorem mL_turn_0 (l : Launch) (D : va_G) (cI cL : ClassId) (x : Nat) (a : Nat → Nat) (pa pe st bn hc hm : Nat → Int32) (C R lo : Int32) (b : Nat → Nat) (pa2 pe2 st2 bn2 hc2 hm2 : Nat → Int32) (C2 R2 lo2 : Int32) (o : Nat) (ov : Nat → Int64) (rr kk : Int32) (hp : xhas R rr = true) (hq : xhas C kk = true) (hr3 : xcl 72 pa (rr * C + kk) = 3) (sz : Nat) : Met l yL_turn wsL_turn ({ frames := 9, cells := 0, slots := 0, locals := 156 } : Room) (va_Pc [.ref x, .int rr, .int kk, .ref o] (fun U => wPQ D [(cI, .int), (cL, .long)] sz (wX x a b ++ wM cI a pa pe st bn hc hm C R lo ++ wM cI b pa2 pe2 st2 bn2 hc2 hm2 C2 R2 lo2 ++ wL cL o 1 ov) U ∧ (KX U ∧ ZS U U.heap))) (va_Qi (fun (zz : Int32) (_ : Unit) => zz = 0) (wB D [(cI, .int), (cL, .long)] (va_A (wX x a b ++ wM cI a pa pe st bn hc hm C R lo ++ wM cI b pa2 pe2 st2 bn2 hc2 hm2 C2 R2 lo2 ++ wL cL o 1 ov) sz) (fun _ : Unit => (wX x a b ++ wM cI a pa pe ((xsc 72 st (rr * C + kk) (if xRight pa st (rr * C + kk) = true then 0 else 1))) bn hc hm C R lo ++ wM cI b pa2 pe2 st2 bn2 hc2 hm2 C2 R2 lo2 ++ wL cL o 1 ((vp_updL ov 0 (if xRight pa (xsc 72 st (rr * C + kk) (if xRight pa st (rr * C + kk) = true then 0 else 1)) (rr * C + kk) = true then (1 : Int64) else 0)))))) (va_A (wX x a b ++ wM cI a pa pe st bn hc hm C R lo ++ wM cI b pa2 pe2 st2 bn2 hc2 hm2 C2 R2 lo2 ++ wL cL o 1 ov) sz)) 0 0 (va_A (wX x a b ++ wM cI a pa pe st bn hc hm C R lo ++ wM cI b pa2 pe2 st2 bn2 hc2 hm2 C2 R2 lo2 ++ wL cL o 1 ov) sz) := by
  refine mW_of (K2 := fun U => KX U ∧ ZS U U.heap) (by decide) rfl (Nat.le_of_ble_eq_true rfl) ?_
  intro p e s m below meth c hx hb hr hml hown htb hts hlocks hsz hP hK hN hD hXZ hA hS ls hl
  obtain ⟨hX, hZ⟩ := hXZ
  have hown : s.vm.findClass RL = some m.cls := hown
  have hl : lv_has ls 5 [(0, .ref x), (1, .int rr), (2, .int kk), (3, .ref o)] := hl
  have hP : va_P D vwCl (wX x a b ++ wM cI a pa pe st bn hc hm C R lo ++ wM cI b pa2 pe2 st2 bn2 hc2 hm2 C2 R2 lo2 ++ wL cL o 1 ov) s.heap := hP
  refine lv_aload_n hx hb dL_turn_0 rfl (lv_at hl 3 rfl) ?_
  refine lv_iconst (v := 0) hx hb dL_turn_1 (by decide) ?_
  refine lv_aload_n hx hb dL_turn_2 rfl (lv_at hl 0 rfl) ?_
  refine lv_iload_n hx hb dL_turn_3 rfl (lv_at hl 1 rfl) ?_
  refine lv_iload_n hx hb dL_turn_4 rfl (lv_at hl 2 rfl) ?_
  refine kQVi (As := [.int rr, .int kk]) (rest := [.int 0, .ref o]) (wr := [(b 0, .inr (0, [.ref (b 1), .ref (b 2), .ref (b 3), .ref (b 4), .ref (b 5), .ref (b 6), .int C2, .int R2, .int lo2])), (b 1, .inl (cI, 72, .inl pa2)), (b 2, .inl (cI, 72, .inl pe2)), (b 3, .inl (cI, 72, .inl st2)), (b 4, .inl (cI, 9, .inl bn2)), (b 5, .inl (cI, 2, .inl hc2)), (b 6, .inl (cI, 2, .inl hm2)), (o, .inl (cL, 1, .inr (.inl ov)))]) (W2 := (fun _ => (wX x a b ++ wM cI a pa pe ((xsc 72 st (rr * C + kk) (if xRight pa st (rr * C + kk) = true then 0 else 1))) bn hc hm C R lo ++ wM cI b pa2 pe2 st2 bn2 hc2 hm2 C2 R2 lo2 ++ wL cL o 1 ov))) ⟨hx, hb, hml, hown, hts⟩ (mX1_turn l D cI x b a pa pe st bn hc hm C R lo rr kk hp hq hr3 _) (cwV 2 hts gL_turn_X1_turn rfl rfl rfl (by decide +kernel) ⟨Nat.le_of_ble_eq_true rfl, Nat.le_of_ble_eq_true rfl⟩) hP hD hK hN hS hA [0, 1, 2, 3, 4, 5, 6, 7] (by decide) rfl [8, 9, 10, 11, 12, 13, 14, 15] (by decide) rfl (by decide) [8, 9, 10, 11, 12, 13, 14, 15, 0, 1, 2, 3, 4, 5, 6, 7] (by decide) (fun _ => rfl) [0] rfl rfl rfl rfl hl.1 rfl (Nat.le_of_ble_eq_true rfl) dL_turn_5 ⟨Nat.le_of_ble_eq_true rfl, Nat.le_of_ble_eq_true rfl⟩ (fun r_1 u_1 H locs hr_1 hP hD hS => ?_)
  subst r_1
  have hP : va_P D vwCl (wX x a b ++ wM cI a pa pe ((xsc 72 st (rr * C + kk) (if xRight pa st (rr * C + kk) = true then 0 else 1))) bn hc hm C R lo ++ wM cI b pa2 pe2 st2 bn2 hc2 hm2 C2 R2 lo2 ++ wL cL o 1 ov) H := hP
  have hD : va_D (va_A (wX x a b ++ wM cI a pa pe st bn hc hm C R lo ++ wM cI b pa2 pe2 st2 bn2 hc2 hm2 C2 R2 lo2 ++ wL cL o 1 ov) sz) (wX x a b ++ wM cI a pa pe ((xsc 72 st (rr * C + kk) (if xRight pa st (rr * C + kk) = true then 0 else 1))) bn hc hm C R lo ++ wM cI b pa2 pe2 st2 bn2 hc2 hm2 C2 R2 lo2 ++ wL cL o 1 ov) := hD
  refine lv_if_eq (tgt := 15) hx hb dL_turn_8 (by decide) (fun c_2 => ?_) (fun c_2 => ?_)
  · simp only [ne_eq, bi_e0, Bool.not_eq_false] at c_2
    refine lv_lconst (v := 0) hx hb dL_turn_15 (by decide) ?_
    refine va_last hx hb hK hP hD hS 15 1 rfl rfl (vp_in_nI (n := 0) (by decide) (by decide)) dL_turn_16 (fun H locs hP hD hS => ?_)
    rw [show (0 : Int32).toNatClampNeg = 0 from by decide] at hP hD
    have hP : va_P D vwCl (wX x a b ++ wM cI a pa pe ((xsc 72 st (rr * C + kk) (if xRight pa st (rr * C + kk) = true then 0 else 1))) bn hc hm C R lo ++ wM cI b pa2 pe2 st2 bn2 hc2 hm2 C2 R2 lo2 ++ wL cL o 1 ((vp_updL ov 0 0))) H := hP
    have hD : va_D (va_A (wX x a b ++ wM cI a pa pe st bn hc hm C R lo ++ wM cI b pa2 pe2 st2 bn2 hc2 hm2 C2 R2 lo2 ++ wL cL o 1 ov) sz) (wX x a b ++ wM cI a pa pe ((xsc 72 st (rr * C + kk) (if xRight pa st (rr * C + kk) = true then 0 else 1))) bn hc hm C R lo ++ wM cI b pa2 pe2 st2 bn2 hc2 hm2 C2 R2 lo2 ++ wL cL o 1 ((vp_updL ov 0 0))) := hD
    refine lv_goto (tgt := 28) hx hb dL_turn_17 (by decide) ?_
    refine lv_iconst (v := 0) hx hb dL_turn_28 (by decide) ?_
    have hP : va_P D vwCl (wX x a b ++ wM cI a pa pe ((xsc 72 st (rr * C + kk) (if xRight pa st (rr * C + kk) = true then 0 else 1))) bn hc hm C R lo ++ wM cI b pa2 pe2 st2 bn2 hc2 hm2 C2 R2 lo2 ++ wL cL o 1 ((vp_updL ov 0 (if xRight pa (xsc 72 st (rr * C + kk) (if xRight pa st (rr * C + kk) = true then 0 else 1)) (rr * C + kk) = true then (1 : Int64) else 0)))) H := by (first | rw [if_pos (show (xRight pa (xsc 72 st (rr * C + kk) (if xRight pa st (rr * C + kk) = true then 0 else 1)) (rr * C + kk)) = true from c_2)] | rw [if_neg (show ¬ (xRight pa (xsc 72 st (rr * C + kk) (if xRight pa st (rr * C + kk) = true then 0 else 1)) (rr * C + kk)) = true by rw [c_2]; decide)]); exact hP
    have hD : va_D (va_A (wX x a b ++ wM cI a pa pe st bn hc hm C R lo ++ wM cI b pa2 pe2 st2 bn2 hc2 hm2 C2 R2 lo2 ++ wL cL o 1 ov) sz) (wX x a b ++ wM cI a pa pe ((xsc 72 st (rr * C + kk) (if xRight pa st (rr * C + kk) = true then 0 else 1))) bn hc hm C R lo ++ wM cI b pa2 pe2 st2 bn2 hc2 hm2 C2 R2 lo2 ++ wL cL o 1 ((vp_updL ov 0 (if xRight pa (xsc 72 st (rr * C + kk) (if xRight pa st (rr * C + kk) = true then 0 else 1)) (rr * C + kk) = true then (1 : Int64) else 0)))) := by (first | rw [if_pos (show (xRight pa (xsc 72 st (rr * C + kk) (if xRight pa st (rr * C + kk) = true then 0 else 1)) (rr * C + kk)) = true from c_2)] | rw [if_neg (show ¬ (xRight pa (xsc 72 st (rr * C + kk) (if xRight pa st (rr * C + kk) = true then 0 else 1)) (rr * C + kk)) = true by rw [c_2]; decide)]); exact hD
    exact eQi () hx hb hr hlocks hP hD hK hS dL_turn_29 (rfl)
  · simp only [ne_eq, bi_e0, Bool.not_eq_false] at c_2
    refine lv_lconst (v := 1) hx hb dL_turn_11 (by decide) ?_
    refine lv_goto (tgt := 16) hx hb dL_turn_12 (by decide) ?_
    refine va_last hx hb hK hP hD hS 15 1 rfl rfl (vp_in_nI (n := 0) (by decide) (by decide)) dL_turn_16 (fun H locs hP hD hS => ?_)
    rw [show (0 : Int32).toNatClampNeg = 0 from by decide] at hP hD
    have hP : va_P D vwCl (wX x a b ++ wM cI a pa pe ((xsc 72 st (rr * C + kk) (if xRight pa st (rr * C + kk) = true then 0 else 1))) bn hc hm C R lo ++ wM cI b pa2 pe2 st2 bn2 hc2 hm2 C2 R2 lo2 ++ wL cL o 1 ((vp_updL ov 0 1))) H := hP
    have hD : va_D (va_A (wX x a b ++ wM cI a pa pe st bn hc hm C R lo ++ wM cI b pa2 pe2 st2 bn2 hc2 hm2 C2 R2 lo2 ++ wL cL o 1 ov) sz) (wX x a b ++ wM cI a pa pe ((xsc 72 st (rr * C + kk) (if xRight pa st (rr * C + kk) = true then 0 else 1))) bn hc hm C R lo ++ wM cI b pa2 pe2 st2 bn2 hc2 hm2 C2 R2 lo2 ++ wL cL o 1 ((vp_updL ov 0 1))) := hD
    refine lv_goto (tgt := 28) hx hb dL_turn_17 (by decide) ?_
    refine lv_iconst (v := 0) hx hb dL_turn_28 (by decide) ?_
    have hP : va_P D vwCl (wX x a b ++ wM cI a pa pe ((xsc 72 st (rr * C + kk) (if xRight pa st (rr * C + kk) = true then 0 else 1))) bn hc hm C R lo ++ wM cI b pa2 pe2 st2 bn2 hc2 hm2 C2 R2 lo2 ++ wL cL o 1 ((vp_updL ov 0 (if xRight pa (xsc 72 st (rr * C + kk) (if xRight pa st (rr * C + kk) = true then 0 else 1)) (rr * C + kk) = true then (1 : Int64) else 0)))) H := by (first | rw [if_pos (show (xRight pa (xsc 72 st (rr * C + kk) (if xRight pa st (rr * C + kk) = true then 0 else 1)) (rr * C + kk)) = true from c_2)] | rw [if_neg (show ¬ (xRight pa (xsc 72 st (rr * C + kk) (if xRight pa st (rr * C + kk) = true then 0 else 1)) (rr * C + kk)) = true by rw [c_2]; decide)]); exact hP
    have hD : va_D (va_A (wX x a b ++ wM cI a pa pe st bn hc hm C R lo ++ wM cI b pa2 pe2 st2 bn2 hc2 hm2 C2 R2 lo2 ++ wL cL o 1 ov) sz) (wX x a b ++ wM cI a pa pe ((xsc 72 st (rr * C + kk) (if xRight pa st (rr * C + kk) = true then 0 else 1))) bn hc hm C R lo ++ wM cI b pa2 pe2 st2 bn2 hc2 hm2 C2 R2 lo2 ++ wL cL o 1 ((vp_updL ov 0 (if xRight pa (xsc 72 st (rr * C + kk) (if xRight pa st (rr * C + kk) = true then 0 else 1)) (rr * C + kk) = true then (1 : Int64) else 0)))) := by (first | rw [if_pos (show (xRight pa (xsc 72 st (rr * C + kk) (if xRight pa st (rr * C + kk) = true then 0 else 1)) (rr * C + kk)) = true from c_2)] | rw [if_neg (show ¬ (xRight pa (xsc 72 st (rr * C + kk) (if xRight pa st (rr * C + kk) = true then 0 else 1)) (rr * C + kk)) = true by rw [c_2]; decide)]); exact hD
    exact eQi () hx hb hr hlocks hP hD hK hS dL_turn_29 (rfl)
set_option maxHeartbeats 4000000 in
set_option maxRecDepth 100000 in
theorem mL_turn_r (l : Launch) (hst : l.stackTraces = false) (D : va_G) (cI cL : ClassId) (x : Nat) (a : Nat → Nat) (pa pe st bn hc hm : Nat → Int32) (C R lo : Int32) (b : Nat → Nat) (pa2 pe2 st2 bn2 hc2 hm2 : Nat → Int32) (C2 R2 lo2 : Int32) (o : Nat) (ov : Nat → Int64) (rr kk : Int32) (hp : xhas R rr = false) (sz : Nat) : Met l yL_turn wsL_turn ({ frames := 9, cells := 1, slots := 6, locals := 156 } : Room) (va_Pc [.ref x, .int rr, .int kk, .ref o] (fun U => wPQ D [(cI, .int), (cL, .long)] sz (wX x a b ++ wM cI a pa pe st bn hc hm C R lo ++ wM cI b pa2 pe2 st2 bn2 hc2 hm2 C2 R2 lo2 ++ wL cL o 1 ov) U ∧ (KX U ∧ ZS U U.heap))) (va_Qi (fun (zz : Int32) (_ : Unit) => zz = 1) (wB D [(cI, .int), (cL, .long)] (va_A (wX x a b ++ wM cI a pa pe st bn hc hm C R lo ++ wM cI b pa2 pe2 st2 bn2 hc2 hm2 C2 R2 lo2 ++ wL cL o 1 ov) sz) (fun _ : Unit => (wX x a b ++ wM cI a pa pe st bn hc hm C R lo ++ wM cI b pa2 pe2 st2 bn2 hc2 hm2 C2 R2 lo2 ++ wL cL o 1 ov))) (va_A (wX x a b ++ wM cI a pa pe st bn hc hm C R lo ++ wM cI b pa2 pe2 st2 bn2 hc2 hm2 C2 R2 lo2 ++ wL cL o 1 ov) sz)) 1 6 (va_A (wX x a b ++ wM cI a pa pe st bn hc hm C R lo ++ wM cI b pa2 pe2 st2 bn2 hc2 hm2 C2 R2 lo2 ++ wL cL o 1 ov) sz) := by
  refine mW_of (K2 := fun U => KX U ∧ ZS U U.heap) (by decide) rfl (Nat.le_of_ble_eq_true rfl) ?_
  intro p e s m below meth c hx hb hr hml hown htb hts hlocks hsz hP hK hN hD hXZ hA hS ls hl
  obtain ⟨hX, hZ⟩ := hXZ
  have hown : s.vm.findClass RL = some m.cls := hown
  have hl : lv_has ls 5 [(0, .ref x), (1, .int rr), (2, .int kk), (3, .ref o)] := hl
  have hP : va_P D vwCl (wX x a b ++ wM cI a pa pe st bn hc hm C R lo ++ wM cI b pa2 pe2 st2 bn2 hc2 hm2 C2 R2 lo2 ++ wL cL o 1 ov) s.heap := hP
  refine lv_aload_n hx hb dL_turn_0 rfl (lv_at hl 3 rfl) ?_
  refine lv_iconst (v := 0) hx hb dL_turn_1 (by decide) ?_
  refine lv_aload_n hx hb dL_turn_2 rfl (lv_at hl 0 rfl) ?_
  refine lv_iload_n hx hb dL_turn_3 rfl (lv_at hl 1 rfl) ?_
  refine lv_iload_n hx hb dL_turn_4 rfl (lv_at hl 2 rfl) ?_
  refine kXVc (As := [.int rr, .int kk]) (rest := [.int 0, .ref o]) (name := eIO) ⟨hx, hb, hml, hown, hts⟩ (tX1_turn_r l hst D cI x b a pa pe st bn hc hm C R lo rr kk hp) (cwV 2 hts gL_turn_X1_turn rfl rfl rfl (by decide +kernel) ⟨Nat.le_of_ble_eq_true rfl, Nat.le_of_ble_eq_true rfl⟩) hP hK hN hX hZ hS [0, 1, 2, 3, 4, 5, 6, 7] rfl [0] rfl rfl rfl rfl hl.1 rfl (Nat.le_of_ble_eq_true rfl) dL_turn_5 ⟨Nat.le_of_ble_eq_true rfl, Nat.le_of_ble_eq_true rfl⟩ [] ⟨0, 17, 20, 19⟩ [⟨0, 17, 24, 28⟩] htb (fun z hz => absurd hz List.not_mem_nil) (by decide) (by decide) (hts (.classLink RL 19 eIO) (mg 1 rfl)) hX.2.2.2.2.2.1 (fun q9 H locs hP hS => ?_)
  have hP : va_P D vwCl (wX x a b ++ wM cI a pa pe st bn hc hm C R lo ++ wM cI b pa2 pe2 st2 bn2 hc2 hm2 C2 R2 lo2 ++ wL cL o 1 ov) H := hP
  refine lv_astore (lv' := [(4, .ref q9), (0, .ref x), (1, .int rr), (2, .int kk), (3, .ref o)]) hx hb dL_turn_20 hl (by decide) rfl (fun ls hl => ?_)
  refine lv_iconst (v := 1) hx hb dL_turn_22 (by decide) ?_
  refine W.widen (k := 1) (n := 6) (by omega) (by omega) ?_
  exact eQi () hx hb hr hlocks hP hD hK hS dL_turn_23 (rfl)
set_option maxHeartbeats 4000000 in
set_option maxRecDepth 100000 in
theorem mL_turn_c (l : Launch) (hst : l.stackTraces = false) (D : va_G) (cI cL : ClassId) (x : Nat) (a : Nat → Nat) (pa pe st bn hc hm : Nat → Int32) (C R lo : Int32) (b : Nat → Nat) (pa2 pe2 st2 bn2 hc2 hm2 : Nat → Int32) (C2 R2 lo2 : Int32) (o : Nat) (ov : Nat → Int64) (rr kk : Int32) (hp : xhas R rr = true) (hq : xhas C kk = false) (sz : Nat) : Met l yL_turn wsL_turn ({ frames := 9, cells := 1, slots := 6, locals := 156 } : Room) (va_Pc [.ref x, .int rr, .int kk, .ref o] (fun U => wPQ D [(cI, .int), (cL, .long)] sz (wX x a b ++ wM cI a pa pe st bn hc hm C R lo ++ wM cI b pa2 pe2 st2 bn2 hc2 hm2 C2 R2 lo2 ++ wL cL o 1 ov) U ∧ (KX U ∧ ZS U U.heap))) (va_Qi (fun (zz : Int32) (_ : Unit) => zz = 1) (wB D [(cI, .int), (cL, .long)] (va_A (wX x a b ++ wM cI a pa pe st bn hc hm C R lo ++ wM cI b pa2 pe2 st2 bn2 hc2 hm2 C2 R2 lo2 ++ wL cL o 1 ov) sz) (fun _ : Unit => (wX x a b ++ wM cI a pa pe st bn hc hm C R lo ++ wM cI b pa2 pe2 st2 bn2 hc2 hm2 C2 R2 lo2 ++ wL cL o 1 ov))) (va_A (wX x a b ++ wM cI a pa pe st bn hc hm C R lo ++ wM cI b pa2 pe2 st2 bn2 hc2 hm2 C2 R2 lo2 ++ wL cL o 1 ov) sz)) 1 6 (va_A (wX x a b ++ wM cI a pa pe st bn hc hm C R lo ++ wM cI b pa2 pe2 st2 bn2 hc2 hm2 C2 R2 lo2 ++ wL cL o 1 ov) sz) := by
  refine mW_of (K2 := fun U => KX U ∧ ZS U U.heap) (by decide) rfl (Nat.le_of_ble_eq_true rfl) ?_
  intro p e s m below meth c hx hb hr hml hown htb hts hlocks hsz hP hK hN hD hXZ hA hS ls hl
  obtain ⟨hX, hZ⟩ := hXZ
  have hown : s.vm.findClass RL = some m.cls := hown
  have hl : lv_has ls 5 [(0, .ref x), (1, .int rr), (2, .int kk), (3, .ref o)] := hl
  have hP : va_P D vwCl (wX x a b ++ wM cI a pa pe st bn hc hm C R lo ++ wM cI b pa2 pe2 st2 bn2 hc2 hm2 C2 R2 lo2 ++ wL cL o 1 ov) s.heap := hP
  refine lv_aload_n hx hb dL_turn_0 rfl (lv_at hl 3 rfl) ?_
  refine lv_iconst (v := 0) hx hb dL_turn_1 (by decide) ?_
  refine lv_aload_n hx hb dL_turn_2 rfl (lv_at hl 0 rfl) ?_
  refine lv_iload_n hx hb dL_turn_3 rfl (lv_at hl 1 rfl) ?_
  refine lv_iload_n hx hb dL_turn_4 rfl (lv_at hl 2 rfl) ?_
  refine kXVc (As := [.int rr, .int kk]) (rest := [.int 0, .ref o]) (name := eIO) ⟨hx, hb, hml, hown, hts⟩ (tX1_turn_c l hst D cI x b a pa pe st bn hc hm C R lo rr kk hp hq) (cwV 2 hts gL_turn_X1_turn rfl rfl rfl (by decide +kernel) ⟨Nat.le_of_ble_eq_true rfl, Nat.le_of_ble_eq_true rfl⟩) hP hK hN hX hZ hS [0, 1, 2, 3, 4, 5, 6, 7] rfl [0] rfl rfl rfl rfl hl.1 rfl (Nat.le_of_ble_eq_true rfl) dL_turn_5 ⟨Nat.le_of_ble_eq_true rfl, Nat.le_of_ble_eq_true rfl⟩ [] ⟨0, 17, 20, 19⟩ [⟨0, 17, 24, 28⟩] htb (fun z hz => absurd hz List.not_mem_nil) (by decide) (by decide) (hts (.classLink RL 19 eIO) (mg 1 rfl)) hX.2.2.2.2.2.1 (fun q9 H locs hP hS => ?_)
  have hP : va_P D vwCl (wX x a b ++ wM cI a pa pe st bn hc hm C R lo ++ wM cI b pa2 pe2 st2 bn2 hc2 hm2 C2 R2 lo2 ++ wL cL o 1 ov) H := hP
  refine lv_astore (lv' := [(4, .ref q9), (0, .ref x), (1, .int rr), (2, .int kk), (3, .ref o)]) hx hb dL_turn_20 hl (by decide) rfl (fun ls hl => ?_)
  refine lv_iconst (v := 1) hx hb dL_turn_22 (by decide) ?_
  refine W.widen (k := 1) (n := 6) (by omega) (by omega) ?_
  exact eQi () hx hb hr hlocks hP hD hK hS dL_turn_23 (rfl)
set_option maxHeartbeats 4000000 in
set_option maxRecDepth 100000 in
theorem mL_turn_s (l : Launch) (hst : l.stackTraces = false) (D : va_G) (cI cL : ClassId) (x : Nat) (a : Nat → Nat) (pa pe st bn hc hm : Nat → Int32) (C R lo : Int32) (b : Nat → Nat) (pa2 pe2 st2 bn2 hc2 hm2 : Nat → Int32) (C2 R2 lo2 : Int32) (o : Nat) (ov : Nat → Int64) (rr kk : Int32) (hp : xhas R rr = true) (hq : xhas C kk = true) (hr3 : ¬ xcl 72 pa (rr * C + kk) = 3) (sz : Nat) : Met l yL_turn wsL_turn ({ frames := 9, cells := 1, slots := 6, locals := 156 } : Room) (va_Pc [.ref x, .int rr, .int kk, .ref o] (fun U => wPQ D [(cI, .int), (cL, .long)] sz (wX x a b ++ wM cI a pa pe st bn hc hm C R lo ++ wM cI b pa2 pe2 st2 bn2 hc2 hm2 C2 R2 lo2 ++ wL cL o 1 ov) U ∧ (KX U ∧ ZS U U.heap))) (va_Qi (fun (zz : Int32) (_ : Unit) => zz = 2) (wB D [(cI, .int), (cL, .long)] (va_A (wX x a b ++ wM cI a pa pe st bn hc hm C R lo ++ wM cI b pa2 pe2 st2 bn2 hc2 hm2 C2 R2 lo2 ++ wL cL o 1 ov) sz) (fun _ : Unit => (wX x a b ++ wM cI a pa pe st bn hc hm C R lo ++ wM cI b pa2 pe2 st2 bn2 hc2 hm2 C2 R2 lo2 ++ wL cL o 1 ov))) (va_A (wX x a b ++ wM cI a pa pe st bn hc hm C R lo ++ wM cI b pa2 pe2 st2 bn2 hc2 hm2 C2 R2 lo2 ++ wL cL o 1 ov) sz)) 1 6 (va_A (wX x a b ++ wM cI a pa pe st bn hc hm C R lo ++ wM cI b pa2 pe2 st2 bn2 hc2 hm2 C2 R2 lo2 ++ wL cL o 1 ov) sz) := by
  refine mW_of (K2 := fun U => KX U ∧ ZS U U.heap) (by decide) rfl (Nat.le_of_ble_eq_true rfl) ?_
  intro p e s m below meth c hx hb hr hml hown htb hts hlocks hsz hP hK hN hD hXZ hA hS ls hl
  obtain ⟨hX, hZ⟩ := hXZ
  have hown : s.vm.findClass RL = some m.cls := hown
  have hl : lv_has ls 5 [(0, .ref x), (1, .int rr), (2, .int kk), (3, .ref o)] := hl
  have hP : va_P D vwCl (wX x a b ++ wM cI a pa pe st bn hc hm C R lo ++ wM cI b pa2 pe2 st2 bn2 hc2 hm2 C2 R2 lo2 ++ wL cL o 1 ov) s.heap := hP
  refine lv_aload_n hx hb dL_turn_0 rfl (lv_at hl 3 rfl) ?_
  refine lv_iconst (v := 0) hx hb dL_turn_1 (by decide) ?_
  refine lv_aload_n hx hb dL_turn_2 rfl (lv_at hl 0 rfl) ?_
  refine lv_iload_n hx hb dL_turn_3 rfl (lv_at hl 1 rfl) ?_
  refine lv_iload_n hx hb dL_turn_4 rfl (lv_at hl 2 rfl) ?_
  refine kXVc (As := [.int rr, .int kk]) (rest := [.int 0, .ref o]) (name := eIS) ⟨hx, hb, hml, hown, hts⟩ (tX1_turn_s l hst D cI x b a pa pe st bn hc hm C R lo rr kk hp hq hr3) (cwV 2 hts gL_turn_X1_turn rfl rfl rfl (by decide +kernel) ⟨Nat.le_of_ble_eq_true rfl, Nat.le_of_ble_eq_true rfl⟩) hP hK hN hX hZ hS [0, 1, 2, 3, 4, 5, 6, 7] rfl [0] rfl rfl rfl rfl hl.1 rfl (Nat.le_of_ble_eq_true rfl) dL_turn_5 ⟨Nat.le_of_ble_eq_true rfl, Nat.le_of_ble_eq_true rfl⟩ [⟨0, 17, 20, 19⟩] ⟨0, 17, 24, 28⟩ [] htb (fun z hz => by obtain rfl := List.mem_singleton.mp hz; exact Or.inr ⟨by decide, eIO, hts (.classLink RL 19 eIO) (mg 1 rfl), hX.2.2.2.2.2.2.2.2.2.1⟩) (by decide) (by decide) (hts (.classLink RL 28 eIS) (mg 2 rfl)) hX.2.2.2.2.2.2.2.1 (fun q9 H locs hP hS => ?_)
  have hP : va_P D vwCl (wX x a b ++ wM cI a pa pe st bn hc hm C R lo ++ wM cI b pa2 pe2 st2 bn2 hc2 hm2 C2 R2 lo2 ++ wL cL o 1 ov) H := hP
  refine lv_astore (lv' := [(4, .ref q9), (0, .ref x), (1, .int rr), (2, .int kk), (3, .ref o)]) hx hb dL_turn_24 hl (by decide) rfl (fun ls hl => ?_)
  refine lv_iconst (v := 2) hx hb dL_turn_26 (by decide) ?_
  refine W.widen (k := 1) (n := 6) (by omega) (by omega) ?_
  exact eQi () hx hb hr hlocks hP hD hK hS dL_turn_27 (rfl)
set_option maxHeartbeats 4000000 in
set_option maxRecDepth 100000 in
theorem mL_setHopper_0 (l : Launch) (D : va_G) (cI cL : ClassId) (x : Nat) (a : Nat → Nat) (pa pe st bn hc hm : Nat → Int32) (C R lo : Int32) (b : Nat → Nat) (pa2 pe2 st2 bn2 hc2 hm2 : Nat → Int32) (C2 R2 lo2 : Int32) (o : Nat) (ov : Nat → Int64) (hh kk mm : Int32) (hp : xhas 2 hh = true) (hq : xhas C kk = true) (hr3 : xin mm 0 99 = true) (sz : Nat) : Met l yL_setHopper wsL_setHopper ({ frames := 8, cells := 0, slots := 0, locals := 135 } : Room) (va_Pc [.ref x, .int hh, .int kk, .int mm, .ref o] (fun U => wPQ D [(cI, .int), (cL, .long)] sz (wX x a b ++ wM cI a pa pe st bn hc hm C R lo ++ wM cI b pa2 pe2 st2 bn2 hc2 hm2 C2 R2 lo2 ++ wL cL o 1 ov) U ∧ (KX U ∧ ZS U U.heap))) (va_Qi (fun (zz : Int32) (_ : Unit) => zz = 0) (wB D [(cI, .int), (cL, .long)] (va_A (wX x a b ++ wM cI a pa pe st bn hc hm C R lo ++ wM cI b pa2 pe2 st2 bn2 hc2 hm2 C2 R2 lo2 ++ wL cL o 1 ov) sz) (fun _ : Unit => (wX x a b ++ wM cI a pa pe st bn ((xsc 2 hc hh kk)) ((xsc 2 hm hh mm)) C R lo ++ wM cI b pa2 pe2 st2 bn2 hc2 hm2 C2 R2 lo2 ++ wL cL o 1 ((vp_updL ov 0 ((xcl 2 hm hh) : Int32).toInt64))))) (va_A (wX x a b ++ wM cI a pa pe st bn hc hm C R lo ++ wM cI b pa2 pe2 st2 bn2 hc2 hm2 C2 R2 lo2 ++ wL cL o 1 ov) sz)) 0 0 (va_A (wX x a b ++ wM cI a pa pe st bn hc hm C R lo ++ wM cI b pa2 pe2 st2 bn2 hc2 hm2 C2 R2 lo2 ++ wL cL o 1 ov) sz) := by
  refine mW_of (K2 := fun U => KX U ∧ ZS U U.heap) (by decide) rfl (Nat.le_of_ble_eq_true rfl) ?_
  intro p e s m below meth c hx hb hr hml hown htb hts hlocks hsz hP hK hN hD hXZ hA hS ls hl
  obtain ⟨hX, hZ⟩ := hXZ
  have hown : s.vm.findClass RL = some m.cls := hown
  have hl : lv_has ls 6 [(0, .ref x), (1, .int hh), (2, .int kk), (3, .int mm), (4, .ref o)] := hl
  have hP : va_P D vwCl (wX x a b ++ wM cI a pa pe st bn hc hm C R lo ++ wM cI b pa2 pe2 st2 bn2 hc2 hm2 C2 R2 lo2 ++ wL cL o 1 ov) s.heap := hP
  refine lv_aload hx hb dL_setHopper_0 (lv_at hl 4 rfl) ?_
  refine lv_iconst (v := 0) hx hb dL_setHopper_2 (by decide) ?_
  refine lv_aload_n hx hb dL_setHopper_3 rfl (lv_at hl 0 rfl) ?_
  refine lv_iload_n hx hb dL_setHopper_4 rfl (lv_at hl 1 rfl) ?_
  refine lv_iload_n hx hb dL_setHopper_5 rfl (lv_at hl 2 rfl) ?_
  refine lv_iload_n hx hb dL_setHopper_6 rfl (lv_at hl 3 rfl) ?_
  refine kQVi (As := [.int hh, .int kk, .int mm]) (rest := [.int 0, .ref o]) (wr := [(b 0, .inr (0, [.ref (b 1), .ref (b 2), .ref (b 3), .ref (b 4), .ref (b 5), .ref (b 6), .int C2, .int R2, .int lo2])), (b 1, .inl (cI, 72, .inl pa2)), (b 2, .inl (cI, 72, .inl pe2)), (b 3, .inl (cI, 72, .inl st2)), (b 4, .inl (cI, 9, .inl bn2)), (b 5, .inl (cI, 2, .inl hc2)), (b 6, .inl (cI, 2, .inl hm2)), (o, .inl (cL, 1, .inr (.inl ov)))]) (W2 := (fun _ => (wX x a b ++ wM cI a pa pe st bn ((xsc 2 hc hh kk)) ((xsc 2 hm hh mm)) C R lo ++ wM cI b pa2 pe2 st2 bn2 hc2 hm2 C2 R2 lo2 ++ wL cL o 1 ov))) ⟨hx, hb, hml, hown, hts⟩ (mX1_setHopper l D cI x b a pa pe st bn hc hm C R lo hh kk mm hp hq hr3 _) (cwV 3 hts gL_setHopper_X1_setHopper rfl rfl rfl (by decide +kernel) ⟨Nat.le_of_ble_eq_true rfl, Nat.le_of_ble_eq_true rfl⟩) hP hD hK hN hS hA [0, 1, 2, 3, 4, 5, 6, 7] (by decide) rfl [8, 9, 10, 11, 12, 13, 14, 15] (by decide) rfl (by decide) [8, 9, 10, 11, 12, 13, 14, 15, 0, 1, 2, 3, 4, 5, 6, 7] (by decide) (fun _ => rfl) [0] rfl rfl rfl rfl hl.1 rfl (Nat.le_of_ble_eq_true rfl) dL_setHopper_7 ⟨Nat.le_of_ble_eq_true rfl, Nat.le_of_ble_eq_true rfl⟩ (fun r_1 u_1 H locs hr_1 hP hD hS => ?_)
  subst r_1
  have hP : va_P D vwCl (wX x a b ++ wM cI a pa pe st bn ((xsc 2 hc hh kk)) ((xsc 2 hm hh mm)) C R lo ++ wM cI b pa2 pe2 st2 bn2 hc2 hm2 C2 R2 lo2 ++ wL cL o 1 ov) H := hP
  have hD : va_D (va_A (wX x a b ++ wM cI a pa pe st bn hc hm C R lo ++ wM cI b pa2 pe2 st2 bn2 hc2 hm2 C2 R2 lo2 ++ wL cL o 1 ov) sz) (wX x a b ++ wM cI a pa pe st bn ((xsc 2 hc hh kk)) ((xsc 2 hm hh mm)) C R lo ++ wM cI b pa2 pe2 st2 bn2 hc2 hm2 C2 R2 lo2 ++ wL cL o 1 ov) := hD
  refine lv_i2l (v := (xcl 2 hm hh : Int32).toInt64) hx hb dL_setHopper_10 rfl ?_
  refine va_last hx hb hK hP hD hS 15 1 rfl rfl (vp_in_nI (n := 0) (by decide) (by decide)) dL_setHopper_11 (fun H locs hP hD hS => ?_)
  rw [show (0 : Int32).toNatClampNeg = 0 from by decide] at hP hD
  have hP : va_P D vwCl (wX x a b ++ wM cI a pa pe st bn ((xsc 2 hc hh kk)) ((xsc 2 hm hh mm)) C R lo ++ wM cI b pa2 pe2 st2 bn2 hc2 hm2 C2 R2 lo2 ++ wL cL o 1 ((vp_updL ov 0 ((xcl 2 hm hh : Int32).toInt64)))) H := hP
  have hD : va_D (va_A (wX x a b ++ wM cI a pa pe st bn hc hm C R lo ++ wM cI b pa2 pe2 st2 bn2 hc2 hm2 C2 R2 lo2 ++ wL cL o 1 ov) sz) (wX x a b ++ wM cI a pa pe st bn ((xsc 2 hc hh kk)) ((xsc 2 hm hh mm)) C R lo ++ wM cI b pa2 pe2 st2 bn2 hc2 hm2 C2 R2 lo2 ++ wL cL o 1 ((vp_updL ov 0 ((xcl 2 hm hh : Int32).toInt64)))) := hD
  refine lv_goto (tgt := 23) hx hb dL_setHopper_12 (by decide) ?_
  refine lv_iconst (v := 0) hx hb dL_setHopper_23 (by decide) ?_
  exact eQi () hx hb hr hlocks hP hD hK hS dL_setHopper_24 (rfl)
set_option maxHeartbeats 4000000 in
set_option maxRecDepth 100000 in
theorem mL_setHopper_h (l : Launch) (hst : l.stackTraces = false) (D : va_G) (cI cL : ClassId) (x : Nat) (a : Nat → Nat) (pa pe st bn hc hm : Nat → Int32) (C R lo : Int32) (b : Nat → Nat) (pa2 pe2 st2 bn2 hc2 hm2 : Nat → Int32) (C2 R2 lo2 : Int32) (o : Nat) (ov : Nat → Int64) (hh kk mm : Int32) (hp : xhas 2 hh = false) (sz : Nat) : Met l yL_setHopper wsL_setHopper ({ frames := 8, cells := 1, slots := 6, locals := 135 } : Room) (va_Pc [.ref x, .int hh, .int kk, .int mm, .ref o] (fun U => wPQ D [(cI, .int), (cL, .long)] sz (wX x a b ++ wM cI a pa pe st bn hc hm C R lo ++ wM cI b pa2 pe2 st2 bn2 hc2 hm2 C2 R2 lo2 ++ wL cL o 1 ov) U ∧ (KX U ∧ ZS U U.heap))) (va_Qi (fun (zz : Int32) (_ : Unit) => zz = 1) (wB D [(cI, .int), (cL, .long)] (va_A (wX x a b ++ wM cI a pa pe st bn hc hm C R lo ++ wM cI b pa2 pe2 st2 bn2 hc2 hm2 C2 R2 lo2 ++ wL cL o 1 ov) sz) (fun _ : Unit => (wX x a b ++ wM cI a pa pe st bn hc hm C R lo ++ wM cI b pa2 pe2 st2 bn2 hc2 hm2 C2 R2 lo2 ++ wL cL o 1 ov))) (va_A (wX x a b ++ wM cI a pa pe st bn hc hm C R lo ++ wM cI b pa2 pe2 st2 bn2 hc2 hm2 C2 R2 lo2 ++ wL cL o 1 ov) sz)) 1 6 (va_A (wX x a b ++ wM cI a pa pe st bn hc hm C R lo ++ wM cI b pa2 pe2 st2 bn2 hc2 hm2 C2 R2 lo2 ++ wL cL o 1 ov) sz) := by
  refine mW_of (K2 := fun U => KX U ∧ ZS U U.heap) (by decide) rfl (Nat.le_of_ble_eq_true rfl) ?_
  intro p e s m below meth c hx hb hr hml hown htb hts hlocks hsz hP hK hN hD hXZ hA hS ls hl
  obtain ⟨hX, hZ⟩ := hXZ
  have hown : s.vm.findClass RL = some m.cls := hown
  have hl : lv_has ls 6 [(0, .ref x), (1, .int hh), (2, .int kk), (3, .int mm), (4, .ref o)] := hl
  have hP : va_P D vwCl (wX x a b ++ wM cI a pa pe st bn hc hm C R lo ++ wM cI b pa2 pe2 st2 bn2 hc2 hm2 C2 R2 lo2 ++ wL cL o 1 ov) s.heap := hP
  refine lv_aload hx hb dL_setHopper_0 (lv_at hl 4 rfl) ?_
  refine lv_iconst (v := 0) hx hb dL_setHopper_2 (by decide) ?_
  refine lv_aload_n hx hb dL_setHopper_3 rfl (lv_at hl 0 rfl) ?_
  refine lv_iload_n hx hb dL_setHopper_4 rfl (lv_at hl 1 rfl) ?_
  refine lv_iload_n hx hb dL_setHopper_5 rfl (lv_at hl 2 rfl) ?_
  refine lv_iload_n hx hb dL_setHopper_6 rfl (lv_at hl 3 rfl) ?_
  refine kXVc (As := [.int hh, .int kk, .int mm]) (rest := [.int 0, .ref o]) (name := eIO) ⟨hx, hb, hml, hown, hts⟩ (tX1_setHopper_h l hst D cI x b a pa pe st bn hc hm C R lo hh kk mm hp) (cwV 3 hts gL_setHopper_X1_setHopper rfl rfl rfl (by decide +kernel) ⟨Nat.le_of_ble_eq_true rfl, Nat.le_of_ble_eq_true rfl⟩) hP hK hN hX hZ hS [0, 1, 2, 3, 4, 5, 6, 7] rfl [0] rfl rfl rfl rfl hl.1 rfl (Nat.le_of_ble_eq_true rfl) dL_setHopper_7 ⟨Nat.le_of_ble_eq_true rfl, Nat.le_of_ble_eq_true rfl⟩ [] ⟨0, 12, 15, 19⟩ [⟨0, 12, 19, 13⟩] htb (fun z hz => absurd hz List.not_mem_nil) (by decide) (by decide) (hts (.classLink RL 19 eIO) (mg 1 rfl)) hX.2.2.2.2.2.1 (fun q9 H locs hP hS => ?_)
  have hP : va_P D vwCl (wX x a b ++ wM cI a pa pe st bn hc hm C R lo ++ wM cI b pa2 pe2 st2 bn2 hc2 hm2 C2 R2 lo2 ++ wL cL o 1 ov) H := hP
  refine lv_astore (lv' := [(5, .ref q9), (0, .ref x), (1, .int hh), (2, .int kk), (3, .int mm), (4, .ref o)]) hx hb dL_setHopper_15 hl (by decide) rfl (fun ls hl => ?_)
  refine lv_iconst (v := 1) hx hb dL_setHopper_17 (by decide) ?_
  refine W.widen (k := 1) (n := 6) (by omega) (by omega) ?_
  exact eQi () hx hb hr hlocks hP hD hK hS dL_setHopper_18 (rfl)
set_option maxHeartbeats 4000000 in
set_option maxRecDepth 100000 in
theorem mL_setHopper_c (l : Launch) (hst : l.stackTraces = false) (D : va_G) (cI cL : ClassId) (x : Nat) (a : Nat → Nat) (pa pe st bn hc hm : Nat → Int32) (C R lo : Int32) (b : Nat → Nat) (pa2 pe2 st2 bn2 hc2 hm2 : Nat → Int32) (C2 R2 lo2 : Int32) (o : Nat) (ov : Nat → Int64) (hh kk mm : Int32) (hp : xhas 2 hh = true) (hq : xhas C kk = false) (sz : Nat) : Met l yL_setHopper wsL_setHopper ({ frames := 8, cells := 1, slots := 6, locals := 135 } : Room) (va_Pc [.ref x, .int hh, .int kk, .int mm, .ref o] (fun U => wPQ D [(cI, .int), (cL, .long)] sz (wX x a b ++ wM cI a pa pe st bn hc hm C R lo ++ wM cI b pa2 pe2 st2 bn2 hc2 hm2 C2 R2 lo2 ++ wL cL o 1 ov) U ∧ (KX U ∧ ZS U U.heap))) (va_Qi (fun (zz : Int32) (_ : Unit) => zz = 1) (wB D [(cI, .int), (cL, .long)] (va_A (wX x a b ++ wM cI a pa pe st bn hc hm C R lo ++ wM cI b pa2 pe2 st2 bn2 hc2 hm2 C2 R2 lo2 ++ wL cL o 1 ov) sz) (fun _ : Unit => (wX x a b ++ wM cI a pa pe st bn hc hm C R lo ++ wM cI b pa2 pe2 st2 bn2 hc2 hm2 C2 R2 lo2 ++ wL cL o 1 ov))) (va_A (wX x a b ++ wM cI a pa pe st bn hc hm C R lo ++ wM cI b pa2 pe2 st2 bn2 hc2 hm2 C2 R2 lo2 ++ wL cL o 1 ov) sz)) 1 6 (va_A (wX x a b ++ wM cI a pa pe st bn hc hm C R lo ++ wM cI b pa2 pe2 st2 bn2 hc2 hm2 C2 R2 lo2 ++ wL cL o 1 ov) sz) := by
  refine mW_of (K2 := fun U => KX U ∧ ZS U U.heap) (by decide) rfl (Nat.le_of_ble_eq_true rfl) ?_
  intro p e s m below meth c hx hb hr hml hown htb hts hlocks hsz hP hK hN hD hXZ hA hS ls hl
  obtain ⟨hX, hZ⟩ := hXZ
  have hown : s.vm.findClass RL = some m.cls := hown
  have hl : lv_has ls 6 [(0, .ref x), (1, .int hh), (2, .int kk), (3, .int mm), (4, .ref o)] := hl
  have hP : va_P D vwCl (wX x a b ++ wM cI a pa pe st bn hc hm C R lo ++ wM cI b pa2 pe2 st2 bn2 hc2 hm2 C2 R2 lo2 ++ wL cL o 1 ov) s.heap := hP
  refine lv_aload hx hb dL_setHopper_0 (lv_at hl 4 rfl) ?_
  refine lv_iconst (v := 0) hx hb dL_setHopper_2 (by decide) ?_
  refine lv_aload_n hx hb dL_setHopper_3 rfl (lv_at hl 0 rfl) ?_
  refine lv_iload_n hx hb dL_setHopper_4 rfl (lv_at hl 1 rfl) ?_
  refine lv_iload_n hx hb dL_setHopper_5 rfl (lv_at hl 2 rfl) ?_
  refine lv_iload_n hx hb dL_setHopper_6 rfl (lv_at hl 3 rfl) ?_
  refine kXVc (As := [.int hh, .int kk, .int mm]) (rest := [.int 0, .ref o]) (name := eIO) ⟨hx, hb, hml, hown, hts⟩ (tX1_setHopper_c l hst D cI x b a pa pe st bn hc hm C R lo hh kk mm hp hq) (cwV 3 hts gL_setHopper_X1_setHopper rfl rfl rfl (by decide +kernel) ⟨Nat.le_of_ble_eq_true rfl, Nat.le_of_ble_eq_true rfl⟩) hP hK hN hX hZ hS [0, 1, 2, 3, 4, 5, 6, 7] rfl [0] rfl rfl rfl rfl hl.1 rfl (Nat.le_of_ble_eq_true rfl) dL_setHopper_7 ⟨Nat.le_of_ble_eq_true rfl, Nat.le_of_ble_eq_true rfl⟩ [] ⟨0, 12, 15, 19⟩ [⟨0, 12, 19, 13⟩] htb (fun z hz => absurd hz List.not_mem_nil) (by decide) (by decide) (hts (.classLink RL 19 eIO) (mg 1 rfl)) hX.2.2.2.2.2.1 (fun q9 H locs hP hS => ?_)
  have hP : va_P D vwCl (wX x a b ++ wM cI a pa pe st bn hc hm C R lo ++ wM cI b pa2 pe2 st2 bn2 hc2 hm2 C2 R2 lo2 ++ wL cL o 1 ov) H := hP
  refine lv_astore (lv' := [(5, .ref q9), (0, .ref x), (1, .int hh), (2, .int kk), (3, .int mm), (4, .ref o)]) hx hb dL_setHopper_15 hl (by decide) rfl (fun ls hl => ?_)
  refine lv_iconst (v := 1) hx hb dL_setHopper_17 (by decide) ?_
  refine W.widen (k := 1) (n := 6) (by omega) (by omega) ?_
  exact eQi () hx hb hr hlocks hP hD hK hS dL_setHopper_18 (rfl)
set_option maxHeartbeats 4000000 in
set_option maxRecDepth 100000 in
theorem mL_setHopper_a (l : Launch) (hst : l.stackTraces = false) (D : va_G) (cI cL : ClassId) (x : Nat) (a : Nat → Nat) (pa pe st bn hc hm : Nat → Int32) (C R lo : Int32) (b : Nat → Nat) (pa2 pe2 st2 bn2 hc2 hm2 : Nat → Int32) (C2 R2 lo2 : Int32) (o : Nat) (ov : Nat → Int64) (hh kk mm : Int32) (hp : xhas 2 hh = true) (hq : xhas C kk = true) (hr3 : xin mm 0 99 = false) (sz : Nat) : Met l yL_setHopper wsL_setHopper ({ frames := 8, cells := 1, slots := 6, locals := 135 } : Room) (va_Pc [.ref x, .int hh, .int kk, .int mm, .ref o] (fun U => wPQ D [(cI, .int), (cL, .long)] sz (wX x a b ++ wM cI a pa pe st bn hc hm C R lo ++ wM cI b pa2 pe2 st2 bn2 hc2 hm2 C2 R2 lo2 ++ wL cL o 1 ov) U ∧ (KX U ∧ ZS U U.heap))) (va_Qi (fun (zz : Int32) (_ : Unit) => zz = 2) (wB D [(cI, .int), (cL, .long)] (va_A (wX x a b ++ wM cI a pa pe st bn hc hm C R lo ++ wM cI b pa2 pe2 st2 bn2 hc2 hm2 C2 R2 lo2 ++ wL cL o 1 ov) sz) (fun _ : Unit => (wX x a b ++ wM cI a pa pe st bn hc hm C R lo ++ wM cI b pa2 pe2 st2 bn2 hc2 hm2 C2 R2 lo2 ++ wL cL o 1 ov))) (va_A (wX x a b ++ wM cI a pa pe st bn hc hm C R lo ++ wM cI b pa2 pe2 st2 bn2 hc2 hm2 C2 R2 lo2 ++ wL cL o 1 ov) sz)) 1 6 (va_A (wX x a b ++ wM cI a pa pe st bn hc hm C R lo ++ wM cI b pa2 pe2 st2 bn2 hc2 hm2 C2 R2 lo2 ++ wL cL o 1 ov) sz) := by
  refine mW_of (K2 := fun U => KX U ∧ ZS U U.heap) (by decide) rfl (Nat.le_of_ble_eq_true rfl) ?_
  intro p e s m below meth c hx hb hr hml hown htb hts hlocks hsz hP hK hN hD hXZ hA hS ls hl
  obtain ⟨hX, hZ⟩ := hXZ
  have hown : s.vm.findClass RL = some m.cls := hown
  have hl : lv_has ls 6 [(0, .ref x), (1, .int hh), (2, .int kk), (3, .int mm), (4, .ref o)] := hl
  have hP : va_P D vwCl (wX x a b ++ wM cI a pa pe st bn hc hm C R lo ++ wM cI b pa2 pe2 st2 bn2 hc2 hm2 C2 R2 lo2 ++ wL cL o 1 ov) s.heap := hP
  refine lv_aload hx hb dL_setHopper_0 (lv_at hl 4 rfl) ?_
  refine lv_iconst (v := 0) hx hb dL_setHopper_2 (by decide) ?_
  refine lv_aload_n hx hb dL_setHopper_3 rfl (lv_at hl 0 rfl) ?_
  refine lv_iload_n hx hb dL_setHopper_4 rfl (lv_at hl 1 rfl) ?_
  refine lv_iload_n hx hb dL_setHopper_5 rfl (lv_at hl 2 rfl) ?_
  refine lv_iload_n hx hb dL_setHopper_6 rfl (lv_at hl 3 rfl) ?_
  refine kXVc (As := [.int hh, .int kk, .int mm]) (rest := [.int 0, .ref o]) (name := eIA) ⟨hx, hb, hml, hown, hts⟩ (tX1_setHopper_a l hst D cI x b a pa pe st bn hc hm C R lo hh kk mm hp hq hr3) (cwV 3 hts gL_setHopper_X1_setHopper rfl rfl rfl (by decide +kernel) ⟨Nat.le_of_ble_eq_true rfl, Nat.le_of_ble_eq_true rfl⟩) hP hK hN hX hZ hS [0, 1, 2, 3, 4, 5, 6, 7] rfl [0] rfl rfl rfl rfl hl.1 rfl (Nat.le_of_ble_eq_true rfl) dL_setHopper_7 ⟨Nat.le_of_ble_eq_true rfl, Nat.le_of_ble_eq_true rfl⟩ [⟨0, 12, 15, 19⟩] ⟨0, 12, 19, 13⟩ [] htb (fun z hz => by obtain rfl := List.mem_singleton.mp hz; exact Or.inr ⟨by decide, eIO, hts (.classLink RL 19 eIO) (mg 1 rfl), hX.2.2.2.2.2.2.2.2.1⟩) (by decide) (by decide) (hts (.classLink RL 13 eIA) (mg 2 rfl)) hX.2.2.2.2.2.2.1 (fun q9 H locs hP hS => ?_)
  have hP : va_P D vwCl (wX x a b ++ wM cI a pa pe st bn hc hm C R lo ++ wM cI b pa2 pe2 st2 bn2 hc2 hm2 C2 R2 lo2 ++ wL cL o 1 ov) H := hP
  refine lv_astore (lv' := [(5, .ref q9), (0, .ref x), (1, .int hh), (2, .int kk), (3, .int mm), (4, .ref o)]) hx hb dL_setHopper_19 hl (by decide) rfl (fun ls hl => ?_)
  refine lv_iconst (v := 2) hx hb dL_setHopper_21 (by decide) ?_
  refine W.widen (k := 1) (n := 6) (by omega) (by omega) ?_
  exact eQi () hx hb hr hlocks hP hD hK hS dL_setHopper_22 (rfl)
set_option maxHeartbeats 4000000 in
set_option maxRecDepth 100000 in
theorem mL_drop_0 (l : Launch) (D : va_G) (cI cL : ClassId) (x : Nat) (a : Nat → Nat) (pa pe st bn hc hm : Nat → Int32) (C R lo : Int32) (b : Nat → Nat) (pa2 pe2 st2 bn2 hc2 hm2 : Nat → Int32) (C2 R2 lo2 : Int32) (o : Nat) (ov : Nat → Int64) (kk : Int32) (hq : xhas C kk = true) (sz : Nat) : Met l yL_drop wsL_drop ({ frames := 8, cells := 0, slots := 0, locals := 132 } : Room) (va_Pc [.ref x, .int kk, .ref o] (fun U => wPQ D [(cI, .int), (cL, .long)] sz (wX x a b ++ wM cI a pa pe st bn hc hm C R lo ++ wM cI b pa2 pe2 st2 bn2 hc2 hm2 C2 R2 lo2 ++ wL cL o 1 ov) U ∧ (KX U ∧ ZS U U.heap))) (va_Qi (fun (zz : Int32) (_ : Unit) => zz = 0) (wB D [(cI, .int), (cL, .long)] (va_A (wX x a b ++ wM cI a pa pe st bn hc hm C R lo ++ wM cI b pa2 pe2 st2 bn2 hc2 hm2 C2 R2 lo2 ++ wL cL o 1 ov) sz) (fun _ : Unit => (wX x a b ++ wM cI a pa pe ((xFall pa pe st C kk R).2) ((xLandBn bn (xFall pa pe st C kk R).1)) hc hm C R ((xLandLo lo (xFall pa pe st C kk R).1)) ++ wM cI b pa2 pe2 st2 bn2 hc2 hm2 C2 R2 lo2 ++ wL cL o 1 ((vp_updL ov 0 ((xFall pa pe st C kk R).1 : Int32).toInt64))))) (va_A (wX x a b ++ wM cI a pa pe st bn hc hm C R lo ++ wM cI b pa2 pe2 st2 bn2 hc2 hm2 C2 R2 lo2 ++ wL cL o 1 ov) sz)) 0 0 (va_A (wX x a b ++ wM cI a pa pe st bn hc hm C R lo ++ wM cI b pa2 pe2 st2 bn2 hc2 hm2 C2 R2 lo2 ++ wL cL o 1 ov) sz) := by
  refine mW_of (K2 := fun U => KX U ∧ ZS U U.heap) (by decide) rfl (Nat.le_of_ble_eq_true rfl) ?_
  intro p e s m below meth c hx hb hr hml hown htb hts hlocks hsz hP hK hN hD hXZ hA hS ls hl
  obtain ⟨hX, hZ⟩ := hXZ
  have hown : s.vm.findClass RL = some m.cls := hown
  have hl : lv_has ls 4 [(0, .ref x), (1, .int kk), (2, .ref o)] := hl
  have hP : va_P D vwCl (wX x a b ++ wM cI a pa pe st bn hc hm C R lo ++ wM cI b pa2 pe2 st2 bn2 hc2 hm2 C2 R2 lo2 ++ wL cL o 1 ov) s.heap := hP
  refine lv_aload_n hx hb dL_drop_0 rfl (lv_at hl 2 rfl) ?_
  refine lv_iconst (v := 0) hx hb dL_drop_1 (by decide) ?_
  refine lv_aload_n hx hb dL_drop_2 rfl (lv_at hl 0 rfl) ?_
  refine lv_iload_n hx hb dL_drop_3 rfl (lv_at hl 1 rfl) ?_
  refine kQVi (As := [.int kk]) (rest := [.int 0, .ref o]) (wr := [(b 0, .inr (0, [.ref (b 1), .ref (b 2), .ref (b 3), .ref (b 4), .ref (b 5), .ref (b 6), .int C2, .int R2, .int lo2])), (b 1, .inl (cI, 72, .inl pa2)), (b 2, .inl (cI, 72, .inl pe2)), (b 3, .inl (cI, 72, .inl st2)), (b 4, .inl (cI, 9, .inl bn2)), (b 5, .inl (cI, 2, .inl hc2)), (b 6, .inl (cI, 2, .inl hm2)), (o, .inl (cL, 1, .inr (.inl ov)))]) (W2 := (fun _ => (wX x a b ++ wM cI a pa pe ((xFall pa pe st C kk R).2) ((xLandBn bn (xFall pa pe st C kk R).1)) hc hm C R ((xLandLo lo (xFall pa pe st C kk R).1)) ++ wM cI b pa2 pe2 st2 bn2 hc2 hm2 C2 R2 lo2 ++ wL cL o 1 ov))) ⟨hx, hb, hml, hown, hts⟩ (mX1_drop l D cI x b a pa pe st bn hc hm C R lo kk hq _) (cwV 1 hts gL_drop_X1_drop rfl rfl rfl (by decide +kernel) ⟨Nat.le_of_ble_eq_true rfl, Nat.le_of_ble_eq_true rfl⟩) hP hD hK hN hS hA [0, 1, 2, 3, 4, 5, 6, 7] (by decide) rfl [8, 9, 10, 11, 12, 13, 14, 15] (by decide) rfl (by decide) [8, 9, 10, 11, 12, 13, 14, 15, 0, 1, 2, 3, 4, 5, 6, 7] (by decide) (fun _ => rfl) [0] rfl rfl rfl rfl hl.1 rfl (Nat.le_of_ble_eq_true rfl) dL_drop_4 ⟨Nat.le_of_ble_eq_true rfl, Nat.le_of_ble_eq_true rfl⟩ (fun r_1 u_1 H locs hr_1 hP hD hS => ?_)
  subst r_1
  have hP : va_P D vwCl (wX x a b ++ wM cI a pa pe ((xFall pa pe st C kk R).2) ((xLandBn bn (xFall pa pe st C kk R).1)) hc hm C R ((xLandLo lo (xFall pa pe st C kk R).1)) ++ wM cI b pa2 pe2 st2 bn2 hc2 hm2 C2 R2 lo2 ++ wL cL o 1 ov) H := hP
  have hD : va_D (va_A (wX x a b ++ wM cI a pa pe st bn hc hm C R lo ++ wM cI b pa2 pe2 st2 bn2 hc2 hm2 C2 R2 lo2 ++ wL cL o 1 ov) sz) (wX x a b ++ wM cI a pa pe ((xFall pa pe st C kk R).2) ((xLandBn bn (xFall pa pe st C kk R).1)) hc hm C R ((xLandLo lo (xFall pa pe st C kk R).1)) ++ wM cI b pa2 pe2 st2 bn2 hc2 hm2 C2 R2 lo2 ++ wL cL o 1 ov) := hD
  refine lv_i2l (v := ((xFall pa pe st C kk R).1 : Int32).toInt64) hx hb dL_drop_7 rfl ?_
  refine va_last hx hb hK hP hD hS 15 1 rfl rfl (vp_in_nI (n := 0) (by decide) (by decide)) dL_drop_8 (fun H locs hP hD hS => ?_)
  rw [show (0 : Int32).toNatClampNeg = 0 from by decide] at hP hD
  have hP : va_P D vwCl (wX x a b ++ wM cI a pa pe ((xFall pa pe st C kk R).2) ((xLandBn bn (xFall pa pe st C kk R).1)) hc hm C R ((xLandLo lo (xFall pa pe st C kk R).1)) ++ wM cI b pa2 pe2 st2 bn2 hc2 hm2 C2 R2 lo2 ++ wL cL o 1 ((vp_updL ov 0 (((xFall pa pe st C kk R).1 : Int32).toInt64)))) H := hP
  have hD : va_D (va_A (wX x a b ++ wM cI a pa pe st bn hc hm C R lo ++ wM cI b pa2 pe2 st2 bn2 hc2 hm2 C2 R2 lo2 ++ wL cL o 1 ov) sz) (wX x a b ++ wM cI a pa pe ((xFall pa pe st C kk R).2) ((xLandBn bn (xFall pa pe st C kk R).1)) hc hm C R ((xLandLo lo (xFall pa pe st C kk R).1)) ++ wM cI b pa2 pe2 st2 bn2 hc2 hm2 C2 R2 lo2 ++ wL cL o 1 ((vp_updL ov 0 (((xFall pa pe st C kk R).1 : Int32).toInt64)))) := hD
  refine lv_goto (tgt := 15) hx hb dL_drop_9 (by decide) ?_
  refine lv_iconst (v := 0) hx hb dL_drop_15 (by decide) ?_
  exact eQi () hx hb hr hlocks hP hD hK hS dL_drop_16 (rfl)
set_option maxHeartbeats 4000000 in
set_option maxRecDepth 100000 in
theorem mL_run_0 (l : Launch) (D : va_G) (cI cL : ClassId) (x : Nat) (a : Nat → Nat) (pa pe st bn hc hm : Nat → Int32) (C R lo : Int32) (b : Nat → Nat) (pa2 pe2 st2 bn2 hc2 hm2 : Nat → Int32) (C2 R2 lo2 : Int32) (o : Nat) (ov : Nat → Int64) (hh mm : Int32) (hp : xhas 2 hh = true) (hr3 : xin mm 1 99 = true) (sz : Nat) : Met l yL_run wsL_run ({ frames := 8, cells := 0, slots := 0, locals := 139 } : Room) (va_Pc [.ref x, .int hh, .int mm, .ref o] (fun U => wPQ D [(cI, .int), (cL, .long)] sz (wX x a b ++ wM cI a pa pe st bn hc hm C R lo ++ wM cI b pa2 pe2 st2 bn2 hc2 hm2 C2 R2 lo2 ++ wL cL o 1 ov) U ∧ (KX U ∧ ZS U U.heap))) (va_Qi (fun (zz : Int32) (_ : Unit) => zz = 0) (wB D [(cI, .int), (cL, .long)] (va_A (wX x a b ++ wM cI a pa pe st bn hc hm C R lo ++ wM cI b pa2 pe2 st2 bn2 hc2 hm2 C2 R2 lo2 ++ wL cL o 1 ov) sz) (fun _ : Unit => (wX x a b ++ wM cI a pa pe ((xRun pa pe st bn hc hm C R lo hh mm).2.1) ((xRun pa pe st bn hc hm C R lo hh mm).2.2.1) hc ((xRun pa pe st bn hc hm C R lo hh mm).2.2.2.2) C R ((xRun pa pe st bn hc hm C R lo hh mm).2.2.2.1) ++ wM cI b pa2 pe2 st2 bn2 hc2 hm2 C2 R2 lo2 ++ wL cL o 1 ((vp_updL ov 0 ((xRun pa pe st bn hc hm C R lo hh mm).1 : Int32).toInt64))))) (va_A (wX x a b ++ wM cI a pa pe st bn hc hm C R lo ++ wM cI b pa2 pe2 st2 bn2 hc2 hm2 C2 R2 lo2 ++ wL cL o 1 ov) sz)) 0 0 (va_A (wX x a b ++ wM cI a pa pe st bn hc hm C R lo ++ wM cI b pa2 pe2 st2 bn2 hc2 hm2 C2 R2 lo2 ++ wL cL o 1 ov) sz) := by
  refine mW_of (K2 := fun U => KX U ∧ ZS U U.heap) (by decide) rfl (Nat.le_of_ble_eq_true rfl) ?_
  intro p e s m below meth c hx hb hr hml hown htb hts hlocks hsz hP hK hN hD hXZ hA hS ls hl
  obtain ⟨hX, hZ⟩ := hXZ
  have hown : s.vm.findClass RL = some m.cls := hown
  have hl : lv_has ls 5 [(0, .ref x), (1, .int hh), (2, .int mm), (3, .ref o)] := hl
  have hP : va_P D vwCl (wX x a b ++ wM cI a pa pe st bn hc hm C R lo ++ wM cI b pa2 pe2 st2 bn2 hc2 hm2 C2 R2 lo2 ++ wL cL o 1 ov) s.heap := hP
  refine lv_aload_n hx hb dL_run_0 rfl (lv_at hl 3 rfl) ?_
  refine lv_iconst (v := 0) hx hb dL_run_1 (by decide) ?_
  refine lv_aload_n hx hb dL_run_2 rfl (lv_at hl 0 rfl) ?_
  refine lv_iload_n hx hb dL_run_3 rfl (lv_at hl 1 rfl) ?_
  refine lv_iload_n hx hb dL_run_4 rfl (lv_at hl 2 rfl) ?_
  refine kQVi (As := [.int hh, .int mm]) (rest := [.int 0, .ref o]) (wr := [(b 0, .inr (0, [.ref (b 1), .ref (b 2), .ref (b 3), .ref (b 4), .ref (b 5), .ref (b 6), .int C2, .int R2, .int lo2])), (b 1, .inl (cI, 72, .inl pa2)), (b 2, .inl (cI, 72, .inl pe2)), (b 3, .inl (cI, 72, .inl st2)), (b 4, .inl (cI, 9, .inl bn2)), (b 5, .inl (cI, 2, .inl hc2)), (b 6, .inl (cI, 2, .inl hm2)), (o, .inl (cL, 1, .inr (.inl ov)))]) (W2 := (fun _ => (wX x a b ++ wM cI a pa pe ((xRun pa pe st bn hc hm C R lo hh mm).2.1) ((xRun pa pe st bn hc hm C R lo hh mm).2.2.1) hc ((xRun pa pe st bn hc hm C R lo hh mm).2.2.2.2) C R ((xRun pa pe st bn hc hm C R lo hh mm).2.2.2.1) ++ wM cI b pa2 pe2 st2 bn2 hc2 hm2 C2 R2 lo2 ++ wL cL o 1 ov))) ⟨hx, hb, hml, hown, hts⟩ (mX1_run l D cI x b a pa pe st bn hc hm C R lo hh mm hp hr3 _) (cwV 2 hts gL_run_X1_run rfl rfl rfl (by decide +kernel) ⟨Nat.le_of_ble_eq_true rfl, Nat.le_of_ble_eq_true rfl⟩) hP hD hK hN hS hA [0, 1, 2, 3, 4, 5, 6, 7] (by decide) rfl [8, 9, 10, 11, 12, 13, 14, 15] (by decide) rfl (by decide) [8, 9, 10, 11, 12, 13, 14, 15, 0, 1, 2, 3, 4, 5, 6, 7] (by decide) (fun _ => rfl) [0] rfl rfl rfl rfl hl.1 rfl (Nat.le_of_ble_eq_true rfl) dL_run_5 ⟨Nat.le_of_ble_eq_true rfl, Nat.le_of_ble_eq_true rfl⟩ (fun r_1 u_1 H locs hr_1 hP hD hS => ?_)
  subst r_1
  have hP : va_P D vwCl (wX x a b ++ wM cI a pa pe ((xRun pa pe st bn hc hm C R lo hh mm).2.1) ((xRun pa pe st bn hc hm C R lo hh mm).2.2.1) hc ((xRun pa pe st bn hc hm C R lo hh mm).2.2.2.2) C R ((xRun pa pe st bn hc hm C R lo hh mm).2.2.2.1) ++ wM cI b pa2 pe2 st2 bn2 hc2 hm2 C2 R2 lo2 ++ wL cL o 1 ov) H := hP
  have hD : va_D (va_A (wX x a b ++ wM cI a pa pe st bn hc hm C R lo ++ wM cI b pa2 pe2 st2 bn2 hc2 hm2 C2 R2 lo2 ++ wL cL o 1 ov) sz) (wX x a b ++ wM cI a pa pe ((xRun pa pe st bn hc hm C R lo hh mm).2.1) ((xRun pa pe st bn hc hm C R lo hh mm).2.2.1) hc ((xRun pa pe st bn hc hm C R lo hh mm).2.2.2.2) C R ((xRun pa pe st bn hc hm C R lo hh mm).2.2.2.1) ++ wM cI b pa2 pe2 st2 bn2 hc2 hm2 C2 R2 lo2 ++ wL cL o 1 ov) := hD
  refine lv_i2l (v := ((xRun pa pe st bn hc hm C R lo hh mm).1 : Int32).toInt64) hx hb dL_run_8 rfl ?_
  refine va_last hx hb hK hP hD hS 15 1 rfl rfl (vp_in_nI (n := 0) (by decide) (by decide)) dL_run_9 (fun H locs hP hD hS => ?_)
  rw [show (0 : Int32).toNatClampNeg = 0 from by decide] at hP hD
  have hP : va_P D vwCl (wX x a b ++ wM cI a pa pe ((xRun pa pe st bn hc hm C R lo hh mm).2.1) ((xRun pa pe st bn hc hm C R lo hh mm).2.2.1) hc ((xRun pa pe st bn hc hm C R lo hh mm).2.2.2.2) C R ((xRun pa pe st bn hc hm C R lo hh mm).2.2.2.1) ++ wM cI b pa2 pe2 st2 bn2 hc2 hm2 C2 R2 lo2 ++ wL cL o 1 ((vp_updL ov 0 (((xRun pa pe st bn hc hm C R lo hh mm).1 : Int32).toInt64)))) H := hP
  have hD : va_D (va_A (wX x a b ++ wM cI a pa pe st bn hc hm C R lo ++ wM cI b pa2 pe2 st2 bn2 hc2 hm2 C2 R2 lo2 ++ wL cL o 1 ov) sz) (wX x a b ++ wM cI a pa pe ((xRun pa pe st bn hc hm C R lo hh mm).2.1) ((xRun pa pe st bn hc hm C R lo hh mm).2.2.1) hc ((xRun pa pe st bn hc hm C R lo hh mm).2.2.2.2) C R ((xRun pa pe st bn hc hm C R lo hh mm).2.2.2.1) ++ wM cI b pa2 pe2 st2 bn2 hc2 hm2 C2 R2 lo2 ++ wL cL o 1 ((vp_updL ov 0 (((xRun pa pe st bn hc hm C R lo hh mm).1 : Int32).toInt64)))) := hD
  refine lv_goto (tgt := 21) hx hb dL_run_10 (by decide) ?_
  refine lv_iconst (v := 0) hx hb dL_run_21 (by decide) ?_
  exact eQi () hx hb hr hlocks hP hD hK hS dL_run_22 (rfl)
set_option maxHeartbeats 4000000 in
set_option maxRecDepth 100000 in
theorem mL_run_h (l : Launch) (hst : l.stackTraces = false) (D : va_G) (cI cL : ClassId) (x : Nat) (a : Nat → Nat) (pa pe st bn hc hm : Nat → Int32) (C R lo : Int32) (b : Nat → Nat) (pa2 pe2 st2 bn2 hc2 hm2 : Nat → Int32) (C2 R2 lo2 : Int32) (o : Nat) (ov : Nat → Int64) (hh mm : Int32) (hp : xhas 2 hh = false) (sz : Nat) : Met l yL_run wsL_run ({ frames := 8, cells := 1, slots := 6, locals := 139 } : Room) (va_Pc [.ref x, .int hh, .int mm, .ref o] (fun U => wPQ D [(cI, .int), (cL, .long)] sz (wX x a b ++ wM cI a pa pe st bn hc hm C R lo ++ wM cI b pa2 pe2 st2 bn2 hc2 hm2 C2 R2 lo2 ++ wL cL o 1 ov) U ∧ (KX U ∧ ZS U U.heap))) (va_Qi (fun (zz : Int32) (_ : Unit) => zz = 1) (wB D [(cI, .int), (cL, .long)] (va_A (wX x a b ++ wM cI a pa pe st bn hc hm C R lo ++ wM cI b pa2 pe2 st2 bn2 hc2 hm2 C2 R2 lo2 ++ wL cL o 1 ov) sz) (fun _ : Unit => (wX x a b ++ wM cI a pa pe st bn hc hm C R lo ++ wM cI b pa2 pe2 st2 bn2 hc2 hm2 C2 R2 lo2 ++ wL cL o 1 ov))) (va_A (wX x a b ++ wM cI a pa pe st bn hc hm C R lo ++ wM cI b pa2 pe2 st2 bn2 hc2 hm2 C2 R2 lo2 ++ wL cL o 1 ov) sz)) 1 6 (va_A (wX x a b ++ wM cI a pa pe st bn hc hm C R lo ++ wM cI b pa2 pe2 st2 bn2 hc2 hm2 C2 R2 lo2 ++ wL cL o 1 ov) sz) := by
  refine mW_of (K2 := fun U => KX U ∧ ZS U U.heap) (by decide) rfl (Nat.le_of_ble_eq_true rfl) ?_
  intro p e s m below meth c hx hb hr hml hown htb hts hlocks hsz hP hK hN hD hXZ hA hS ls hl
  obtain ⟨hX, hZ⟩ := hXZ
  have hown : s.vm.findClass RL = some m.cls := hown
  have hl : lv_has ls 5 [(0, .ref x), (1, .int hh), (2, .int mm), (3, .ref o)] := hl
  have hP : va_P D vwCl (wX x a b ++ wM cI a pa pe st bn hc hm C R lo ++ wM cI b pa2 pe2 st2 bn2 hc2 hm2 C2 R2 lo2 ++ wL cL o 1 ov) s.heap := hP
  refine lv_aload_n hx hb dL_run_0 rfl (lv_at hl 3 rfl) ?_
  refine lv_iconst (v := 0) hx hb dL_run_1 (by decide) ?_
  refine lv_aload_n hx hb dL_run_2 rfl (lv_at hl 0 rfl) ?_
  refine lv_iload_n hx hb dL_run_3 rfl (lv_at hl 1 rfl) ?_
  refine lv_iload_n hx hb dL_run_4 rfl (lv_at hl 2 rfl) ?_
  refine kXVc (As := [.int hh, .int mm]) (rest := [.int 0, .ref o]) (name := eIO) ⟨hx, hb, hml, hown, hts⟩ (tX1_run_h l hst D cI x b a pa pe st bn hc hm C R lo hh mm hp) (cwV 2 hts gL_run_X1_run rfl rfl rfl (by decide +kernel) ⟨Nat.le_of_ble_eq_true rfl, Nat.le_of_ble_eq_true rfl⟩) hP hK hN hX hZ hS [0, 1, 2, 3, 4, 5, 6, 7] rfl [0] rfl rfl rfl rfl hl.1 rfl (Nat.le_of_ble_eq_true rfl) dL_run_5 ⟨Nat.le_of_ble_eq_true rfl, Nat.le_of_ble_eq_true rfl⟩ [] ⟨0, 10, 13, 19⟩ [⟨0, 10, 17, 13⟩] htb (fun z hz => absurd hz List.not_mem_nil) (by decide) (by decide) (hts (.classLink RL 19 eIO) (mg 1 rfl)) hX.2.2.2.2.2.1 (fun q9 H locs hP hS => ?_)
  have hP : va_P D vwCl (wX x a b ++ wM cI a pa pe st bn hc hm C R lo ++ wM cI b pa2 pe2 st2 bn2 hc2 hm2 C2 R2 lo2 ++ wL cL o 1 ov) H := hP
  refine lv_astore (lv' := [(4, .ref q9), (0, .ref x), (1, .int hh), (2, .int mm), (3, .ref o)]) hx hb dL_run_13 hl (by decide) rfl (fun ls hl => ?_)
  refine lv_iconst (v := 1) hx hb dL_run_15 (by decide) ?_
  refine W.widen (k := 1) (n := 6) (by omega) (by omega) ?_
  exact eQi () hx hb hr hlocks hP hD hK hS dL_run_16 (rfl)
set_option maxHeartbeats 4000000 in
set_option maxRecDepth 100000 in
theorem mL_run_a (l : Launch) (hst : l.stackTraces = false) (D : va_G) (cI cL : ClassId) (x : Nat) (a : Nat → Nat) (pa pe st bn hc hm : Nat → Int32) (C R lo : Int32) (b : Nat → Nat) (pa2 pe2 st2 bn2 hc2 hm2 : Nat → Int32) (C2 R2 lo2 : Int32) (o : Nat) (ov : Nat → Int64) (hh mm : Int32) (hp : xhas 2 hh = true) (hr3 : xin mm 1 99 = false) (sz : Nat) : Met l yL_run wsL_run ({ frames := 8, cells := 1, slots := 6, locals := 139 } : Room) (va_Pc [.ref x, .int hh, .int mm, .ref o] (fun U => wPQ D [(cI, .int), (cL, .long)] sz (wX x a b ++ wM cI a pa pe st bn hc hm C R lo ++ wM cI b pa2 pe2 st2 bn2 hc2 hm2 C2 R2 lo2 ++ wL cL o 1 ov) U ∧ (KX U ∧ ZS U U.heap))) (va_Qi (fun (zz : Int32) (_ : Unit) => zz = 2) (wB D [(cI, .int), (cL, .long)] (va_A (wX x a b ++ wM cI a pa pe st bn hc hm C R lo ++ wM cI b pa2 pe2 st2 bn2 hc2 hm2 C2 R2 lo2 ++ wL cL o 1 ov) sz) (fun _ : Unit => (wX x a b ++ wM cI a pa pe st bn hc hm C R lo ++ wM cI b pa2 pe2 st2 bn2 hc2 hm2 C2 R2 lo2 ++ wL cL o 1 ov))) (va_A (wX x a b ++ wM cI a pa pe st bn hc hm C R lo ++ wM cI b pa2 pe2 st2 bn2 hc2 hm2 C2 R2 lo2 ++ wL cL o 1 ov) sz)) 1 6 (va_A (wX x a b ++ wM cI a pa pe st bn hc hm C R lo ++ wM cI b pa2 pe2 st2 bn2 hc2 hm2 C2 R2 lo2 ++ wL cL o 1 ov) sz) := by
  refine mW_of (K2 := fun U => KX U ∧ ZS U U.heap) (by decide) rfl (Nat.le_of_ble_eq_true rfl) ?_
  intro p e s m below meth c hx hb hr hml hown htb hts hlocks hsz hP hK hN hD hXZ hA hS ls hl
  obtain ⟨hX, hZ⟩ := hXZ
  have hown : s.vm.findClass RL = some m.cls := hown
  have hl : lv_has ls 5 [(0, .ref x), (1, .int hh), (2, .int mm), (3, .ref o)] := hl
  have hP : va_P D vwCl (wX x a b ++ wM cI a pa pe st bn hc hm C R lo ++ wM cI b pa2 pe2 st2 bn2 hc2 hm2 C2 R2 lo2 ++ wL cL o 1 ov) s.heap := hP
  refine lv_aload_n hx hb dL_run_0 rfl (lv_at hl 3 rfl) ?_
  refine lv_iconst (v := 0) hx hb dL_run_1 (by decide) ?_
  refine lv_aload_n hx hb dL_run_2 rfl (lv_at hl 0 rfl) ?_
  refine lv_iload_n hx hb dL_run_3 rfl (lv_at hl 1 rfl) ?_
  refine lv_iload_n hx hb dL_run_4 rfl (lv_at hl 2 rfl) ?_
  refine kXVc (As := [.int hh, .int mm]) (rest := [.int 0, .ref o]) (name := eIA) ⟨hx, hb, hml, hown, hts⟩ (tX1_run_a l hst D cI x b a pa pe st bn hc hm C R lo hh mm hp hr3) (cwV 2 hts gL_run_X1_run rfl rfl rfl (by decide +kernel) ⟨Nat.le_of_ble_eq_true rfl, Nat.le_of_ble_eq_true rfl⟩) hP hK hN hX hZ hS [0, 1, 2, 3, 4, 5, 6, 7] rfl [0] rfl rfl rfl rfl hl.1 rfl (Nat.le_of_ble_eq_true rfl) dL_run_5 ⟨Nat.le_of_ble_eq_true rfl, Nat.le_of_ble_eq_true rfl⟩ [⟨0, 10, 13, 19⟩] ⟨0, 10, 17, 13⟩ [] htb (fun z hz => by obtain rfl := List.mem_singleton.mp hz; exact Or.inr ⟨by decide, eIO, hts (.classLink RL 19 eIO) (mg 1 rfl), hX.2.2.2.2.2.2.2.2.1⟩) (by decide) (by decide) (hts (.classLink RL 13 eIA) (mg 2 rfl)) hX.2.2.2.2.2.2.1 (fun q9 H locs hP hS => ?_)
  have hP : va_P D vwCl (wX x a b ++ wM cI a pa pe st bn hc hm C R lo ++ wM cI b pa2 pe2 st2 bn2 hc2 hm2 C2 R2 lo2 ++ wL cL o 1 ov) H := hP
  refine lv_astore (lv' := [(4, .ref q9), (0, .ref x), (1, .int hh), (2, .int mm), (3, .ref o)]) hx hb dL_run_17 hl (by decide) rfl (fun ls hl => ?_)
  refine lv_iconst (v := 2) hx hb dL_run_19 (by decide) ?_
  refine W.widen (k := 1) (n := 6) (by omega) (by omega) ?_
  exact eQi () hx hb hr hlocks hP hD hK hS dL_run_20 (rfl)
set_option maxHeartbeats 4000000 in
set_option maxRecDepth 100000 in
theorem mL_partAt_0 (l : Launch) (D : va_G) (cI cL : ClassId) (x : Nat) (a : Nat → Nat) (pa pe st bn hc hm : Nat → Int32) (C R lo : Int32) (b : Nat → Nat) (pa2 pe2 st2 bn2 hc2 hm2 : Nat → Int32) (C2 R2 lo2 : Int32) (o : Nat) (ov : Nat → Int64) (rr kk : Int32) (hp : xhas R rr = true) (hq : xhas C kk = true) (sz : Nat) : Met l yL_partAt wsL_partAt ({ frames := 9, cells := 0, slots := 0, locals := 155 } : Room) (va_Pc [.ref x, .int rr, .int kk, .ref o] (fun U => wPQ D [(cI, .int), (cL, .long)] sz (wX x a b ++ wM cI a pa pe st bn hc hm C R lo ++ wM cI b pa2 pe2 st2 bn2 hc2 hm2 C2 R2 lo2 ++ wL cL o 1 ov) U ∧ (KX U ∧ ZS U U.heap))) (va_Qi (fun (zz : Int32) (_ : Unit) => zz = 0) (wB D [(cI, .int), (cL, .long)] (va_A (wX x a b ++ wM cI a pa pe st bn hc hm C R lo ++ wM cI b pa2 pe2 st2 bn2 hc2 hm2 C2 R2 lo2 ++ wL cL o 1 ov) sz) (fun _ : Unit => (wX x a b ++ wM cI a pa pe st bn hc hm C R lo ++ wM cI b pa2 pe2 st2 bn2 hc2 hm2 C2 R2 lo2 ++ wL cL o 1 ((vp_updL ov 0 ((xcl 72 pa (rr * C + kk)) : Int32).toInt64))))) (va_A (wX x a b ++ wM cI a pa pe st bn hc hm C R lo ++ wM cI b pa2 pe2 st2 bn2 hc2 hm2 C2 R2 lo2 ++ wL cL o 1 ov) sz)) 0 0 (va_A (wX x a b ++ wM cI a pa pe st bn hc hm C R lo ++ wM cI b pa2 pe2 st2 bn2 hc2 hm2 C2 R2 lo2 ++ wL cL o 1 ov) sz) := by
  refine mW_of (K2 := fun U => KX U ∧ ZS U U.heap) (by decide) rfl (Nat.le_of_ble_eq_true rfl) ?_
  intro p e s m below meth c hx hb hr hml hown htb hts hlocks hsz hP hK hN hD hXZ hA hS ls hl
  obtain ⟨hX, hZ⟩ := hXZ
  have hown : s.vm.findClass RL = some m.cls := hown
  have hl : lv_has ls 5 [(0, .ref x), (1, .int rr), (2, .int kk), (3, .ref o)] := hl
  have hP : va_P D vwCl (wX x a b ++ wM cI a pa pe st bn hc hm C R lo ++ wM cI b pa2 pe2 st2 bn2 hc2 hm2 C2 R2 lo2 ++ wL cL o 1 ov) s.heap := hP
  refine lv_aload_n hx hb dL_partAt_0 rfl (lv_at hl 3 rfl) ?_
  refine lv_iconst (v := 0) hx hb dL_partAt_1 (by decide) ?_
  refine lv_aload_n hx hb dL_partAt_2 rfl (lv_at hl 0 rfl) ?_
  refine lv_iload_n hx hb dL_partAt_3 rfl (lv_at hl 1 rfl) ?_
  refine lv_iload_n hx hb dL_partAt_4 rfl (lv_at hl 2 rfl) ?_
  refine kRVi (As := [.int rr, .int kk]) (rest := [.int 0, .ref o]) ⟨hx, hb, hml, hown, hts⟩ (mX1_partAt l D cI x b a pa pe st bn hc hm C R lo rr kk hp hq) (cwV 2 hts gL_partAt_X1_partAt rfl rfl rfl (by decide +kernel) ⟨Nat.le_of_ble_eq_true rfl, Nat.le_of_ble_eq_true rfl⟩) hP hK hN [0, 1, 2, 3, 4, 5, 6, 7] rfl [0] rfl rfl rfl rfl hl.1 rfl (Nat.le_of_ble_eq_true rfl) dL_partAt_5 ⟨Nat.zero_le _, Nat.zero_le _⟩ (fun r_1 hr_1 => ?_)
  subst r_1
  refine lv_i2l (v := (xcl 72 pa (rr * C + kk) : Int32).toInt64) hx hb dL_partAt_8 rfl ?_
  refine va_last hx hb hK hP hD hS 15 1 rfl rfl (vp_in_nI (n := 0) (by decide) (by decide)) dL_partAt_9 (fun H locs hP hD hS => ?_)
  rw [show (0 : Int32).toNatClampNeg = 0 from by decide] at hP hD
  have hP : va_P D vwCl (wX x a b ++ wM cI a pa pe st bn hc hm C R lo ++ wM cI b pa2 pe2 st2 bn2 hc2 hm2 C2 R2 lo2 ++ wL cL o 1 ((vp_updL ov 0 ((xcl 72 pa (rr * C + kk) : Int32).toInt64)))) H := hP
  have hD : va_D (va_A (wX x a b ++ wM cI a pa pe st bn hc hm C R lo ++ wM cI b pa2 pe2 st2 bn2 hc2 hm2 C2 R2 lo2 ++ wL cL o 1 ov) sz) (wX x a b ++ wM cI a pa pe st bn hc hm C R lo ++ wM cI b pa2 pe2 st2 bn2 hc2 hm2 C2 R2 lo2 ++ wL cL o 1 ((vp_updL ov 0 ((xcl 72 pa (rr * C + kk) : Int32).toInt64)))) := hD
  refine lv_goto (tgt := 17) hx hb dL_partAt_10 (by decide) ?_
  refine lv_iconst (v := 0) hx hb dL_partAt_17 (by decide) ?_
  exact eQi () hx hb hr hlocks hP hD hK hS dL_partAt_18 (rfl)
set_option maxHeartbeats 4000000 in
set_option maxRecDepth 100000 in
theorem mL_leadsRight_0 (l : Launch) (D : va_G) (cI cL : ClassId) (x : Nat) (a : Nat → Nat) (pa pe st bn hc hm : Nat → Int32) (C R lo : Int32) (b : Nat → Nat) (pa2 pe2 st2 bn2 hc2 hm2 : Nat → Int32) (C2 R2 lo2 : Int32) (o : Nat) (ov : Nat → Int64) (rr kk : Int32) (hp : xhas R rr = true) (hq : xhas C kk = true) (sz : Nat) : Met l yL_leadsRight wsL_leadsRight ({ frames := 9, cells := 0, slots := 0, locals := 155 } : Room) (va_Pc [.ref x, .int rr, .int kk, .ref o] (fun U => wPQ D [(cI, .int), (cL, .long)] sz (wX x a b ++ wM cI a pa pe st bn hc hm C R lo ++ wM cI b pa2 pe2 st2 bn2 hc2 hm2 C2 R2 lo2 ++ wL cL o 1 ov) U ∧ (KX U ∧ ZS U U.heap))) (va_Qi (fun (zz : Int32) (_ : Unit) => zz = 0) (wB D [(cI, .int), (cL, .long)] (va_A (wX x a b ++ wM cI a pa pe st bn hc hm C R lo ++ wM cI b pa2 pe2 st2 bn2 hc2 hm2 C2 R2 lo2 ++ wL cL o 1 ov) sz) (fun _ : Unit => (wX x a b ++ wM cI a pa pe st bn hc hm C R lo ++ wM cI b pa2 pe2 st2 bn2 hc2 hm2 C2 R2 lo2 ++ wL cL o 1 ((vp_updL ov 0 (if xRight pa st (rr * C + kk) = true then (1 : Int64) else 0)))))) (va_A (wX x a b ++ wM cI a pa pe st bn hc hm C R lo ++ wM cI b pa2 pe2 st2 bn2 hc2 hm2 C2 R2 lo2 ++ wL cL o 1 ov) sz)) 0 0 (va_A (wX x a b ++ wM cI a pa pe st bn hc hm C R lo ++ wM cI b pa2 pe2 st2 bn2 hc2 hm2 C2 R2 lo2 ++ wL cL o 1 ov) sz) := by
  refine mW_of (K2 := fun U => KX U ∧ ZS U U.heap) (by decide) rfl (Nat.le_of_ble_eq_true rfl) ?_
  intro p e s m below meth c hx hb hr hml hown htb hts hlocks hsz hP hK hN hD hXZ hA hS ls hl
  obtain ⟨hX, hZ⟩ := hXZ
  have hown : s.vm.findClass RL = some m.cls := hown
  have hl : lv_has ls 5 [(0, .ref x), (1, .int rr), (2, .int kk), (3, .ref o)] := hl
  have hP : va_P D vwCl (wX x a b ++ wM cI a pa pe st bn hc hm C R lo ++ wM cI b pa2 pe2 st2 bn2 hc2 hm2 C2 R2 lo2 ++ wL cL o 1 ov) s.heap := hP
  refine lv_aload_n hx hb dL_leadsRight_0 rfl (lv_at hl 3 rfl) ?_
  refine lv_iconst (v := 0) hx hb dL_leadsRight_1 (by decide) ?_
  refine lv_aload_n hx hb dL_leadsRight_2 rfl (lv_at hl 0 rfl) ?_
  refine lv_iload_n hx hb dL_leadsRight_3 rfl (lv_at hl 1 rfl) ?_
  refine lv_iload_n hx hb dL_leadsRight_4 rfl (lv_at hl 2 rfl) ?_
  refine kRVi (As := [.int rr, .int kk]) (rest := [.int 0, .ref o]) ⟨hx, hb, hml, hown, hts⟩ (mX1_leadsRight l D cI x b a pa pe st bn hc hm C R lo rr kk hp hq) (cwV 2 hts gL_leadsRight_X1_leadsRight rfl rfl rfl (by decide +kernel) ⟨Nat.le_of_ble_eq_true rfl, Nat.le_of_ble_eq_true rfl⟩) hP hK hN [0, 1, 2, 3, 4, 5, 6, 7] rfl [0] rfl rfl rfl rfl hl.1 rfl (Nat.le_of_ble_eq_true rfl) dL_leadsRight_5 ⟨Nat.zero_le _, Nat.zero_le _⟩ (fun r_1 hr_1 => ?_)
  subst r_1
  refine lv_if_eq (tgt := 15) hx hb dL_leadsRight_8 (by decide) (fun c_2 => ?_) (fun c_2 => ?_)
  · simp only [ne_eq, bi_e0, Bool.not_eq_false] at c_2
    refine lv_lconst (v := 0) hx hb dL_leadsRight_15 (by decide) ?_
    refine va_last hx hb hK hP hD hS 15 1 rfl rfl (vp_in_nI (n := 0) (by decide) (by decide)) dL_leadsRight_16 (fun H locs hP hD hS => ?_)
    rw [show (0 : Int32).toNatClampNeg = 0 from by decide] at hP hD
    have hP : va_P D vwCl (wX x a b ++ wM cI a pa pe st bn hc hm C R lo ++ wM cI b pa2 pe2 st2 bn2 hc2 hm2 C2 R2 lo2 ++ wL cL o 1 ((vp_updL ov 0 0))) H := hP
    have hD : va_D (va_A (wX x a b ++ wM cI a pa pe st bn hc hm C R lo ++ wM cI b pa2 pe2 st2 bn2 hc2 hm2 C2 R2 lo2 ++ wL cL o 1 ov) sz) (wX x a b ++ wM cI a pa pe st bn hc hm C R lo ++ wM cI b pa2 pe2 st2 bn2 hc2 hm2 C2 R2 lo2 ++ wL cL o 1 ((vp_updL ov 0 0))) := hD
    refine lv_goto (tgt := 24) hx hb dL_leadsRight_17 (by decide) ?_
    refine lv_iconst (v := 0) hx hb dL_leadsRight_24 (by decide) ?_
    have hP : va_P D vwCl (wX x a b ++ wM cI a pa pe st bn hc hm C R lo ++ wM cI b pa2 pe2 st2 bn2 hc2 hm2 C2 R2 lo2 ++ wL cL o 1 ((vp_updL ov 0 (if xRight pa st (rr * C + kk) = true then (1 : Int64) else 0)))) H := by (first | rw [if_pos (show (xRight pa st (rr * C + kk)) = true from c_2)] | rw [if_neg (show ¬ (xRight pa st (rr * C + kk)) = true by rw [c_2]; decide)]); exact hP
    have hD : va_D (va_A (wX x a b ++ wM cI a pa pe st bn hc hm C R lo ++ wM cI b pa2 pe2 st2 bn2 hc2 hm2 C2 R2 lo2 ++ wL cL o 1 ov) sz) (wX x a b ++ wM cI a pa pe st bn hc hm C R lo ++ wM cI b pa2 pe2 st2 bn2 hc2 hm2 C2 R2 lo2 ++ wL cL o 1 ((vp_updL ov 0 (if xRight pa st (rr * C + kk) = true then (1 : Int64) else 0)))) := by (first | rw [if_pos (show (xRight pa st (rr * C + kk)) = true from c_2)] | rw [if_neg (show ¬ (xRight pa st (rr * C + kk)) = true by rw [c_2]; decide)]); exact hD
    exact eQi () hx hb hr hlocks hP hD hK hS dL_leadsRight_25 (rfl)
  · simp only [ne_eq, bi_e0, Bool.not_eq_false] at c_2
    refine lv_lconst (v := 1) hx hb dL_leadsRight_11 (by decide) ?_
    refine lv_goto (tgt := 16) hx hb dL_leadsRight_12 (by decide) ?_
    refine va_last hx hb hK hP hD hS 15 1 rfl rfl (vp_in_nI (n := 0) (by decide) (by decide)) dL_leadsRight_16 (fun H locs hP hD hS => ?_)
    rw [show (0 : Int32).toNatClampNeg = 0 from by decide] at hP hD
    have hP : va_P D vwCl (wX x a b ++ wM cI a pa pe st bn hc hm C R lo ++ wM cI b pa2 pe2 st2 bn2 hc2 hm2 C2 R2 lo2 ++ wL cL o 1 ((vp_updL ov 0 1))) H := hP
    have hD : va_D (va_A (wX x a b ++ wM cI a pa pe st bn hc hm C R lo ++ wM cI b pa2 pe2 st2 bn2 hc2 hm2 C2 R2 lo2 ++ wL cL o 1 ov) sz) (wX x a b ++ wM cI a pa pe st bn hc hm C R lo ++ wM cI b pa2 pe2 st2 bn2 hc2 hm2 C2 R2 lo2 ++ wL cL o 1 ((vp_updL ov 0 1))) := hD
    refine lv_goto (tgt := 24) hx hb dL_leadsRight_17 (by decide) ?_
    refine lv_iconst (v := 0) hx hb dL_leadsRight_24 (by decide) ?_
    have hP : va_P D vwCl (wX x a b ++ wM cI a pa pe st bn hc hm C R lo ++ wM cI b pa2 pe2 st2 bn2 hc2 hm2 C2 R2 lo2 ++ wL cL o 1 ((vp_updL ov 0 (if xRight pa st (rr * C + kk) = true then (1 : Int64) else 0)))) H := by (first | rw [if_pos (show (xRight pa st (rr * C + kk)) = true from c_2)] | rw [if_neg (show ¬ (xRight pa st (rr * C + kk)) = true by rw [c_2]; decide)]); exact hP
    have hD : va_D (va_A (wX x a b ++ wM cI a pa pe st bn hc hm C R lo ++ wM cI b pa2 pe2 st2 bn2 hc2 hm2 C2 R2 lo2 ++ wL cL o 1 ov) sz) (wX x a b ++ wM cI a pa pe st bn hc hm C R lo ++ wM cI b pa2 pe2 st2 bn2 hc2 hm2 C2 R2 lo2 ++ wL cL o 1 ((vp_updL ov 0 (if xRight pa st (rr * C + kk) = true then (1 : Int64) else 0)))) := by (first | rw [if_pos (show (xRight pa st (rr * C + kk)) = true from c_2)] | rw [if_neg (show ¬ (xRight pa st (rr * C + kk)) = true by rw [c_2]; decide)]); exact hD
    exact eQi () hx hb hr hlocks hP hD hK hS dL_leadsRight_25 (rfl)
set_option maxHeartbeats 4000000 in
set_option maxRecDepth 100000 in
theorem mL_countAt_0 (l : Launch) (D : va_G) (cI cL : ClassId) (x : Nat) (a : Nat → Nat) (pa pe st bn hc hm : Nat → Int32) (C R lo : Int32) (b : Nat → Nat) (pa2 pe2 st2 bn2 hc2 hm2 : Nat → Int32) (C2 R2 lo2 : Int32) (o : Nat) (ov : Nat → Int64) (rr kk : Int32) (hp : xhas R rr = true) (hq : xhas C kk = true) (sz : Nat) : Met l yL_countAt wsL_countAt ({ frames := 9, cells := 0, slots := 0, locals := 155 } : Room) (va_Pc [.ref x, .int rr, .int kk, .ref o] (fun U => wPQ D [(cI, .int), (cL, .long)] sz (wX x a b ++ wM cI a pa pe st bn hc hm C R lo ++ wM cI b pa2 pe2 st2 bn2 hc2 hm2 C2 R2 lo2 ++ wL cL o 1 ov) U ∧ (KX U ∧ ZS U U.heap))) (va_Qi (fun (zz : Int32) (_ : Unit) => zz = 0) (wB D [(cI, .int), (cL, .long)] (va_A (wX x a b ++ wM cI a pa pe st bn hc hm C R lo ++ wM cI b pa2 pe2 st2 bn2 hc2 hm2 C2 R2 lo2 ++ wL cL o 1 ov) sz) (fun _ : Unit => (wX x a b ++ wM cI a pa pe st bn hc hm C R lo ++ wM cI b pa2 pe2 st2 bn2 hc2 hm2 C2 R2 lo2 ++ wL cL o 1 ((vp_updL ov 0 ((xCnt pa st (rr * C + kk)) : Int32).toInt64))))) (va_A (wX x a b ++ wM cI a pa pe st bn hc hm C R lo ++ wM cI b pa2 pe2 st2 bn2 hc2 hm2 C2 R2 lo2 ++ wL cL o 1 ov) sz)) 0 0 (va_A (wX x a b ++ wM cI a pa pe st bn hc hm C R lo ++ wM cI b pa2 pe2 st2 bn2 hc2 hm2 C2 R2 lo2 ++ wL cL o 1 ov) sz) := by
  refine mW_of (K2 := fun U => KX U ∧ ZS U U.heap) (by decide) rfl (Nat.le_of_ble_eq_true rfl) ?_
  intro p e s m below meth c hx hb hr hml hown htb hts hlocks hsz hP hK hN hD hXZ hA hS ls hl
  obtain ⟨hX, hZ⟩ := hXZ
  have hown : s.vm.findClass RL = some m.cls := hown
  have hl : lv_has ls 5 [(0, .ref x), (1, .int rr), (2, .int kk), (3, .ref o)] := hl
  have hP : va_P D vwCl (wX x a b ++ wM cI a pa pe st bn hc hm C R lo ++ wM cI b pa2 pe2 st2 bn2 hc2 hm2 C2 R2 lo2 ++ wL cL o 1 ov) s.heap := hP
  refine lv_aload_n hx hb dL_countAt_0 rfl (lv_at hl 3 rfl) ?_
  refine lv_iconst (v := 0) hx hb dL_countAt_1 (by decide) ?_
  refine lv_aload_n hx hb dL_countAt_2 rfl (lv_at hl 0 rfl) ?_
  refine lv_iload_n hx hb dL_countAt_3 rfl (lv_at hl 1 rfl) ?_
  refine lv_iload_n hx hb dL_countAt_4 rfl (lv_at hl 2 rfl) ?_
  refine kRVi (As := [.int rr, .int kk]) (rest := [.int 0, .ref o]) ⟨hx, hb, hml, hown, hts⟩ (mX1_countAt l D cI x b a pa pe st bn hc hm C R lo rr kk hp hq) (cwV 2 hts gL_countAt_X1_countAt rfl rfl rfl (by decide +kernel) ⟨Nat.le_of_ble_eq_true rfl, Nat.le_of_ble_eq_true rfl⟩) hP hK hN [0, 1, 2, 3, 4, 5, 6, 7] rfl [0] rfl rfl rfl rfl hl.1 rfl (Nat.le_of_ble_eq_true rfl) dL_countAt_5 ⟨Nat.zero_le _, Nat.zero_le _⟩ (fun r_1 hr_1 => ?_)
  subst r_1
  refine lv_i2l (v := (xCnt pa st (rr * C + kk) : Int32).toInt64) hx hb dL_countAt_8 rfl ?_
  refine va_last hx hb hK hP hD hS 15 1 rfl rfl (vp_in_nI (n := 0) (by decide) (by decide)) dL_countAt_9 (fun H locs hP hD hS => ?_)
  rw [show (0 : Int32).toNatClampNeg = 0 from by decide] at hP hD
  have hP : va_P D vwCl (wX x a b ++ wM cI a pa pe st bn hc hm C R lo ++ wM cI b pa2 pe2 st2 bn2 hc2 hm2 C2 R2 lo2 ++ wL cL o 1 ((vp_updL ov 0 ((xCnt pa st (rr * C + kk) : Int32).toInt64)))) H := hP
  have hD : va_D (va_A (wX x a b ++ wM cI a pa pe st bn hc hm C R lo ++ wM cI b pa2 pe2 st2 bn2 hc2 hm2 C2 R2 lo2 ++ wL cL o 1 ov) sz) (wX x a b ++ wM cI a pa pe st bn hc hm C R lo ++ wM cI b pa2 pe2 st2 bn2 hc2 hm2 C2 R2 lo2 ++ wL cL o 1 ((vp_updL ov 0 ((xCnt pa st (rr * C + kk) : Int32).toInt64)))) := hD
  refine lv_goto (tgt := 17) hx hb dL_countAt_10 (by decide) ?_
  refine lv_iconst (v := 0) hx hb dL_countAt_17 (by decide) ?_
  exact eQi () hx hb hr hlocks hP hD hK hS dL_countAt_18 (rfl)
set_option maxHeartbeats 4000000 in
set_option maxRecDepth 100000 in
theorem mL_partAt_r (l : Launch) (hst : l.stackTraces = false) (D : va_G) (cI cL : ClassId) (x : Nat) (a : Nat → Nat) (pa pe st bn hc hm : Nat → Int32) (C R lo : Int32) (b : Nat → Nat) (pa2 pe2 st2 bn2 hc2 hm2 : Nat → Int32) (C2 R2 lo2 : Int32) (o : Nat) (ov : Nat → Int64) (rr kk : Int32) (hp : xhas R rr = false) (sz : Nat) : Met l yL_partAt wsL_partAt ({ frames := 9, cells := 1, slots := 6, locals := 155 } : Room) (va_Pc [.ref x, .int rr, .int kk, .ref o] (fun U => wPQ D [(cI, .int), (cL, .long)] sz (wX x a b ++ wM cI a pa pe st bn hc hm C R lo ++ wM cI b pa2 pe2 st2 bn2 hc2 hm2 C2 R2 lo2 ++ wL cL o 1 ov) U ∧ (KX U ∧ ZS U U.heap))) (va_Qi (fun (zz : Int32) (_ : Unit) => zz = 1) (wB D [(cI, .int), (cL, .long)] (va_A (wX x a b ++ wM cI a pa pe st bn hc hm C R lo ++ wM cI b pa2 pe2 st2 bn2 hc2 hm2 C2 R2 lo2 ++ wL cL o 1 ov) sz) (fun _ : Unit => (wX x a b ++ wM cI a pa pe st bn hc hm C R lo ++ wM cI b pa2 pe2 st2 bn2 hc2 hm2 C2 R2 lo2 ++ wL cL o 1 ov))) (va_A (wX x a b ++ wM cI a pa pe st bn hc hm C R lo ++ wM cI b pa2 pe2 st2 bn2 hc2 hm2 C2 R2 lo2 ++ wL cL o 1 ov) sz)) 1 6 (va_A (wX x a b ++ wM cI a pa pe st bn hc hm C R lo ++ wM cI b pa2 pe2 st2 bn2 hc2 hm2 C2 R2 lo2 ++ wL cL o 1 ov) sz) := by
  refine mW_of (K2 := fun U => KX U ∧ ZS U U.heap) (by decide) rfl (Nat.le_of_ble_eq_true rfl) ?_
  intro p e s m below meth c hx hb hr hml hown htb hts hlocks hsz hP hK hN hD hXZ hA hS ls hl
  obtain ⟨hX, hZ⟩ := hXZ
  have hown : s.vm.findClass RL = some m.cls := hown
  have hl : lv_has ls 5 [(0, .ref x), (1, .int rr), (2, .int kk), (3, .ref o)] := hl
  have hP : va_P D vwCl (wX x a b ++ wM cI a pa pe st bn hc hm C R lo ++ wM cI b pa2 pe2 st2 bn2 hc2 hm2 C2 R2 lo2 ++ wL cL o 1 ov) s.heap := hP
  refine lv_aload_n hx hb dL_partAt_0 rfl (lv_at hl 3 rfl) ?_
  refine lv_iconst (v := 0) hx hb dL_partAt_1 (by decide) ?_
  refine lv_aload_n hx hb dL_partAt_2 rfl (lv_at hl 0 rfl) ?_
  refine lv_iload_n hx hb dL_partAt_3 rfl (lv_at hl 1 rfl) ?_
  refine lv_iload_n hx hb dL_partAt_4 rfl (lv_at hl 2 rfl) ?_
  refine kXVc (As := [.int rr, .int kk]) (rest := [.int 0, .ref o]) (name := eIO) ⟨hx, hb, hml, hown, hts⟩ (tX1_partAt_r l hst D cI x b a pa pe st bn hc hm C R lo rr kk hp) (cwV 2 hts gL_partAt_X1_partAt rfl rfl rfl (by decide +kernel) ⟨Nat.le_of_ble_eq_true rfl, Nat.le_of_ble_eq_true rfl⟩) hP hK hN hX hZ hS [0, 1, 2, 3, 4, 5, 6, 7] rfl [0] rfl rfl rfl rfl hl.1 rfl (Nat.le_of_ble_eq_true rfl) dL_partAt_5 ⟨Nat.le_of_ble_eq_true rfl, Nat.le_of_ble_eq_true rfl⟩ [] ⟨0, 10, 13, 19⟩ [] htb (fun z hz => absurd hz List.not_mem_nil) (by decide) (by decide) (hts (.classLink RL 19 eIO) (mg 1 rfl)) hX.2.2.2.2.2.1 (fun q9 H locs hP hS => ?_)
  have hP : va_P D vwCl (wX x a b ++ wM cI a pa pe st bn hc hm C R lo ++ wM cI b pa2 pe2 st2 bn2 hc2 hm2 C2 R2 lo2 ++ wL cL o 1 ov) H := hP
  refine lv_astore (lv' := [(4, .ref q9), (0, .ref x), (1, .int rr), (2, .int kk), (3, .ref o)]) hx hb dL_partAt_13 hl (by decide) rfl (fun ls hl => ?_)
  refine lv_iconst (v := 1) hx hb dL_partAt_15 (by decide) ?_
  refine W.widen (k := 1) (n := 6) (by omega) (by omega) ?_
  exact eQi () hx hb hr hlocks hP hD hK hS dL_partAt_16 (rfl)
set_option maxHeartbeats 4000000 in
set_option maxRecDepth 100000 in
theorem mL_partAt_c (l : Launch) (hst : l.stackTraces = false) (D : va_G) (cI cL : ClassId) (x : Nat) (a : Nat → Nat) (pa pe st bn hc hm : Nat → Int32) (C R lo : Int32) (b : Nat → Nat) (pa2 pe2 st2 bn2 hc2 hm2 : Nat → Int32) (C2 R2 lo2 : Int32) (o : Nat) (ov : Nat → Int64) (rr kk : Int32) (hp : xhas R rr = true) (hq : xhas C kk = false) (sz : Nat) : Met l yL_partAt wsL_partAt ({ frames := 9, cells := 1, slots := 6, locals := 155 } : Room) (va_Pc [.ref x, .int rr, .int kk, .ref o] (fun U => wPQ D [(cI, .int), (cL, .long)] sz (wX x a b ++ wM cI a pa pe st bn hc hm C R lo ++ wM cI b pa2 pe2 st2 bn2 hc2 hm2 C2 R2 lo2 ++ wL cL o 1 ov) U ∧ (KX U ∧ ZS U U.heap))) (va_Qi (fun (zz : Int32) (_ : Unit) => zz = 1) (wB D [(cI, .int), (cL, .long)] (va_A (wX x a b ++ wM cI a pa pe st bn hc hm C R lo ++ wM cI b pa2 pe2 st2 bn2 hc2 hm2 C2 R2 lo2 ++ wL cL o 1 ov) sz) (fun _ : Unit => (wX x a b ++ wM cI a pa pe st bn hc hm C R lo ++ wM cI b pa2 pe2 st2 bn2 hc2 hm2 C2 R2 lo2 ++ wL cL o 1 ov))) (va_A (wX x a b ++ wM cI a pa pe st bn hc hm C R lo ++ wM cI b pa2 pe2 st2 bn2 hc2 hm2 C2 R2 lo2 ++ wL cL o 1 ov) sz)) 1 6 (va_A (wX x a b ++ wM cI a pa pe st bn hc hm C R lo ++ wM cI b pa2 pe2 st2 bn2 hc2 hm2 C2 R2 lo2 ++ wL cL o 1 ov) sz) := by
  refine mW_of (K2 := fun U => KX U ∧ ZS U U.heap) (by decide) rfl (Nat.le_of_ble_eq_true rfl) ?_
  intro p e s m below meth c hx hb hr hml hown htb hts hlocks hsz hP hK hN hD hXZ hA hS ls hl
  obtain ⟨hX, hZ⟩ := hXZ
  have hown : s.vm.findClass RL = some m.cls := hown
  have hl : lv_has ls 5 [(0, .ref x), (1, .int rr), (2, .int kk), (3, .ref o)] := hl
  have hP : va_P D vwCl (wX x a b ++ wM cI a pa pe st bn hc hm C R lo ++ wM cI b pa2 pe2 st2 bn2 hc2 hm2 C2 R2 lo2 ++ wL cL o 1 ov) s.heap := hP
  refine lv_aload_n hx hb dL_partAt_0 rfl (lv_at hl 3 rfl) ?_
  refine lv_iconst (v := 0) hx hb dL_partAt_1 (by decide) ?_
  refine lv_aload_n hx hb dL_partAt_2 rfl (lv_at hl 0 rfl) ?_
  refine lv_iload_n hx hb dL_partAt_3 rfl (lv_at hl 1 rfl) ?_
  refine lv_iload_n hx hb dL_partAt_4 rfl (lv_at hl 2 rfl) ?_
  refine kXVc (As := [.int rr, .int kk]) (rest := [.int 0, .ref o]) (name := eIO) ⟨hx, hb, hml, hown, hts⟩ (tX1_partAt_c l hst D cI x b a pa pe st bn hc hm C R lo rr kk hp hq) (cwV 2 hts gL_partAt_X1_partAt rfl rfl rfl (by decide +kernel) ⟨Nat.le_of_ble_eq_true rfl, Nat.le_of_ble_eq_true rfl⟩) hP hK hN hX hZ hS [0, 1, 2, 3, 4, 5, 6, 7] rfl [0] rfl rfl rfl rfl hl.1 rfl (Nat.le_of_ble_eq_true rfl) dL_partAt_5 ⟨Nat.le_of_ble_eq_true rfl, Nat.le_of_ble_eq_true rfl⟩ [] ⟨0, 10, 13, 19⟩ [] htb (fun z hz => absurd hz List.not_mem_nil) (by decide) (by decide) (hts (.classLink RL 19 eIO) (mg 1 rfl)) hX.2.2.2.2.2.1 (fun q9 H locs hP hS => ?_)
  have hP : va_P D vwCl (wX x a b ++ wM cI a pa pe st bn hc hm C R lo ++ wM cI b pa2 pe2 st2 bn2 hc2 hm2 C2 R2 lo2 ++ wL cL o 1 ov) H := hP
  refine lv_astore (lv' := [(4, .ref q9), (0, .ref x), (1, .int rr), (2, .int kk), (3, .ref o)]) hx hb dL_partAt_13 hl (by decide) rfl (fun ls hl => ?_)
  refine lv_iconst (v := 1) hx hb dL_partAt_15 (by decide) ?_
  refine W.widen (k := 1) (n := 6) (by omega) (by omega) ?_
  exact eQi () hx hb hr hlocks hP hD hK hS dL_partAt_16 (rfl)
set_option maxHeartbeats 4000000 in
set_option maxRecDepth 100000 in
theorem mL_leadsRight_r (l : Launch) (hst : l.stackTraces = false) (D : va_G) (cI cL : ClassId) (x : Nat) (a : Nat → Nat) (pa pe st bn hc hm : Nat → Int32) (C R lo : Int32) (b : Nat → Nat) (pa2 pe2 st2 bn2 hc2 hm2 : Nat → Int32) (C2 R2 lo2 : Int32) (o : Nat) (ov : Nat → Int64) (rr kk : Int32) (hp : xhas R rr = false) (sz : Nat) : Met l yL_leadsRight wsL_leadsRight ({ frames := 9, cells := 1, slots := 6, locals := 155 } : Room) (va_Pc [.ref x, .int rr, .int kk, .ref o] (fun U => wPQ D [(cI, .int), (cL, .long)] sz (wX x a b ++ wM cI a pa pe st bn hc hm C R lo ++ wM cI b pa2 pe2 st2 bn2 hc2 hm2 C2 R2 lo2 ++ wL cL o 1 ov) U ∧ (KX U ∧ ZS U U.heap))) (va_Qi (fun (zz : Int32) (_ : Unit) => zz = 1) (wB D [(cI, .int), (cL, .long)] (va_A (wX x a b ++ wM cI a pa pe st bn hc hm C R lo ++ wM cI b pa2 pe2 st2 bn2 hc2 hm2 C2 R2 lo2 ++ wL cL o 1 ov) sz) (fun _ : Unit => (wX x a b ++ wM cI a pa pe st bn hc hm C R lo ++ wM cI b pa2 pe2 st2 bn2 hc2 hm2 C2 R2 lo2 ++ wL cL o 1 ov))) (va_A (wX x a b ++ wM cI a pa pe st bn hc hm C R lo ++ wM cI b pa2 pe2 st2 bn2 hc2 hm2 C2 R2 lo2 ++ wL cL o 1 ov) sz)) 1 6 (va_A (wX x a b ++ wM cI a pa pe st bn hc hm C R lo ++ wM cI b pa2 pe2 st2 bn2 hc2 hm2 C2 R2 lo2 ++ wL cL o 1 ov) sz) := by
  refine mW_of (K2 := fun U => KX U ∧ ZS U U.heap) (by decide) rfl (Nat.le_of_ble_eq_true rfl) ?_
  intro p e s m below meth c hx hb hr hml hown htb hts hlocks hsz hP hK hN hD hXZ hA hS ls hl
  obtain ⟨hX, hZ⟩ := hXZ
  have hown : s.vm.findClass RL = some m.cls := hown
  have hl : lv_has ls 5 [(0, .ref x), (1, .int rr), (2, .int kk), (3, .ref o)] := hl
  have hP : va_P D vwCl (wX x a b ++ wM cI a pa pe st bn hc hm C R lo ++ wM cI b pa2 pe2 st2 bn2 hc2 hm2 C2 R2 lo2 ++ wL cL o 1 ov) s.heap := hP
  refine lv_aload_n hx hb dL_leadsRight_0 rfl (lv_at hl 3 rfl) ?_
  refine lv_iconst (v := 0) hx hb dL_leadsRight_1 (by decide) ?_
  refine lv_aload_n hx hb dL_leadsRight_2 rfl (lv_at hl 0 rfl) ?_
  refine lv_iload_n hx hb dL_leadsRight_3 rfl (lv_at hl 1 rfl) ?_
  refine lv_iload_n hx hb dL_leadsRight_4 rfl (lv_at hl 2 rfl) ?_
  refine kXVc (As := [.int rr, .int kk]) (rest := [.int 0, .ref o]) (name := eIO) ⟨hx, hb, hml, hown, hts⟩ (tX1_leadsRight_r l hst D cI x b a pa pe st bn hc hm C R lo rr kk hp) (cwV 2 hts gL_leadsRight_X1_leadsRight rfl rfl rfl (by decide +kernel) ⟨Nat.le_of_ble_eq_true rfl, Nat.le_of_ble_eq_true rfl⟩) hP hK hN hX hZ hS [0, 1, 2, 3, 4, 5, 6, 7] rfl [0] rfl rfl rfl rfl hl.1 rfl (Nat.le_of_ble_eq_true rfl) dL_leadsRight_5 ⟨Nat.le_of_ble_eq_true rfl, Nat.le_of_ble_eq_true rfl⟩ [] ⟨0, 17, 20, 19⟩ [] htb (fun z hz => absurd hz List.not_mem_nil) (by decide) (by decide) (hts (.classLink RL 19 eIO) (mg 1 rfl)) hX.2.2.2.2.2.1 (fun q9 H locs hP hS => ?_)
  have hP : va_P D vwCl (wX x a b ++ wM cI a pa pe st bn hc hm C R lo ++ wM cI b pa2 pe2 st2 bn2 hc2 hm2 C2 R2 lo2 ++ wL cL o 1 ov) H := hP
  refine lv_astore (lv' := [(4, .ref q9), (0, .ref x), (1, .int rr), (2, .int kk), (3, .ref o)]) hx hb dL_leadsRight_20 hl (by decide) rfl (fun ls hl => ?_)
  refine lv_iconst (v := 1) hx hb dL_leadsRight_22 (by decide) ?_
  refine W.widen (k := 1) (n := 6) (by omega) (by omega) ?_
  exact eQi () hx hb hr hlocks hP hD hK hS dL_leadsRight_23 (rfl)
set_option maxHeartbeats 4000000 in
set_option maxRecDepth 100000 in
theorem mL_leadsRight_c (l : Launch) (hst : l.stackTraces = false) (D : va_G) (cI cL : ClassId) (x : Nat) (a : Nat → Nat) (pa pe st bn hc hm : Nat → Int32) (C R lo : Int32) (b : Nat → Nat) (pa2 pe2 st2 bn2 hc2 hm2 : Nat → Int32) (C2 R2 lo2 : Int32) (o : Nat) (ov : Nat → Int64) (rr kk : Int32) (hp : xhas R rr = true) (hq : xhas C kk = false) (sz : Nat) : Met l yL_leadsRight wsL_leadsRight ({ frames := 9, cells := 1, slots := 6, locals := 155 } : Room) (va_Pc [.ref x, .int rr, .int kk, .ref o] (fun U => wPQ D [(cI, .int), (cL, .long)] sz (wX x a b ++ wM cI a pa pe st bn hc hm C R lo ++ wM cI b pa2 pe2 st2 bn2 hc2 hm2 C2 R2 lo2 ++ wL cL o 1 ov) U ∧ (KX U ∧ ZS U U.heap))) (va_Qi (fun (zz : Int32) (_ : Unit) => zz = 1) (wB D [(cI, .int), (cL, .long)] (va_A (wX x a b ++ wM cI a pa pe st bn hc hm C R lo ++ wM cI b pa2 pe2 st2 bn2 hc2 hm2 C2 R2 lo2 ++ wL cL o 1 ov) sz) (fun _ : Unit => (wX x a b ++ wM cI a pa pe st bn hc hm C R lo ++ wM cI b pa2 pe2 st2 bn2 hc2 hm2 C2 R2 lo2 ++ wL cL o 1 ov))) (va_A (wX x a b ++ wM cI a pa pe st bn hc hm C R lo ++ wM cI b pa2 pe2 st2 bn2 hc2 hm2 C2 R2 lo2 ++ wL cL o 1 ov) sz)) 1 6 (va_A (wX x a b ++ wM cI a pa pe st bn hc hm C R lo ++ wM cI b pa2 pe2 st2 bn2 hc2 hm2 C2 R2 lo2 ++ wL cL o 1 ov) sz) := by
  refine mW_of (K2 := fun U => KX U ∧ ZS U U.heap) (by decide) rfl (Nat.le_of_ble_eq_true rfl) ?_
  intro p e s m below meth c hx hb hr hml hown htb hts hlocks hsz hP hK hN hD hXZ hA hS ls hl
  obtain ⟨hX, hZ⟩ := hXZ
  have hown : s.vm.findClass RL = some m.cls := hown
  have hl : lv_has ls 5 [(0, .ref x), (1, .int rr), (2, .int kk), (3, .ref o)] := hl
  have hP : va_P D vwCl (wX x a b ++ wM cI a pa pe st bn hc hm C R lo ++ wM cI b pa2 pe2 st2 bn2 hc2 hm2 C2 R2 lo2 ++ wL cL o 1 ov) s.heap := hP
  refine lv_aload_n hx hb dL_leadsRight_0 rfl (lv_at hl 3 rfl) ?_
  refine lv_iconst (v := 0) hx hb dL_leadsRight_1 (by decide) ?_
  refine lv_aload_n hx hb dL_leadsRight_2 rfl (lv_at hl 0 rfl) ?_
  refine lv_iload_n hx hb dL_leadsRight_3 rfl (lv_at hl 1 rfl) ?_
  refine lv_iload_n hx hb dL_leadsRight_4 rfl (lv_at hl 2 rfl) ?_
  refine kXVc (As := [.int rr, .int kk]) (rest := [.int 0, .ref o]) (name := eIO) ⟨hx, hb, hml, hown, hts⟩ (tX1_leadsRight_c l hst D cI x b a pa pe st bn hc hm C R lo rr kk hp hq) (cwV 2 hts gL_leadsRight_X1_leadsRight rfl rfl rfl (by decide +kernel) ⟨Nat.le_of_ble_eq_true rfl, Nat.le_of_ble_eq_true rfl⟩) hP hK hN hX hZ hS [0, 1, 2, 3, 4, 5, 6, 7] rfl [0] rfl rfl rfl rfl hl.1 rfl (Nat.le_of_ble_eq_true rfl) dL_leadsRight_5 ⟨Nat.le_of_ble_eq_true rfl, Nat.le_of_ble_eq_true rfl⟩ [] ⟨0, 17, 20, 19⟩ [] htb (fun z hz => absurd hz List.not_mem_nil) (by decide) (by decide) (hts (.classLink RL 19 eIO) (mg 1 rfl)) hX.2.2.2.2.2.1 (fun q9 H locs hP hS => ?_)
  have hP : va_P D vwCl (wX x a b ++ wM cI a pa pe st bn hc hm C R lo ++ wM cI b pa2 pe2 st2 bn2 hc2 hm2 C2 R2 lo2 ++ wL cL o 1 ov) H := hP
  refine lv_astore (lv' := [(4, .ref q9), (0, .ref x), (1, .int rr), (2, .int kk), (3, .ref o)]) hx hb dL_leadsRight_20 hl (by decide) rfl (fun ls hl => ?_)
  refine lv_iconst (v := 1) hx hb dL_leadsRight_22 (by decide) ?_
  refine W.widen (k := 1) (n := 6) (by omega) (by omega) ?_
  exact eQi () hx hb hr hlocks hP hD hK hS dL_leadsRight_23 (rfl)
set_option maxHeartbeats 4000000 in
set_option maxRecDepth 100000 in
theorem mL_countAt_r (l : Launch) (hst : l.stackTraces = false) (D : va_G) (cI cL : ClassId) (x : Nat) (a : Nat → Nat) (pa pe st bn hc hm : Nat → Int32) (C R lo : Int32) (b : Nat → Nat) (pa2 pe2 st2 bn2 hc2 hm2 : Nat → Int32) (C2 R2 lo2 : Int32) (o : Nat) (ov : Nat → Int64) (rr kk : Int32) (hp : xhas R rr = false) (sz : Nat) : Met l yL_countAt wsL_countAt ({ frames := 9, cells := 1, slots := 6, locals := 155 } : Room) (va_Pc [.ref x, .int rr, .int kk, .ref o] (fun U => wPQ D [(cI, .int), (cL, .long)] sz (wX x a b ++ wM cI a pa pe st bn hc hm C R lo ++ wM cI b pa2 pe2 st2 bn2 hc2 hm2 C2 R2 lo2 ++ wL cL o 1 ov) U ∧ (KX U ∧ ZS U U.heap))) (va_Qi (fun (zz : Int32) (_ : Unit) => zz = 1) (wB D [(cI, .int), (cL, .long)] (va_A (wX x a b ++ wM cI a pa pe st bn hc hm C R lo ++ wM cI b pa2 pe2 st2 bn2 hc2 hm2 C2 R2 lo2 ++ wL cL o 1 ov) sz) (fun _ : Unit => (wX x a b ++ wM cI a pa pe st bn hc hm C R lo ++ wM cI b pa2 pe2 st2 bn2 hc2 hm2 C2 R2 lo2 ++ wL cL o 1 ov))) (va_A (wX x a b ++ wM cI a pa pe st bn hc hm C R lo ++ wM cI b pa2 pe2 st2 bn2 hc2 hm2 C2 R2 lo2 ++ wL cL o 1 ov) sz)) 1 6 (va_A (wX x a b ++ wM cI a pa pe st bn hc hm C R lo ++ wM cI b pa2 pe2 st2 bn2 hc2 hm2 C2 R2 lo2 ++ wL cL o 1 ov) sz) := by
  refine mW_of (K2 := fun U => KX U ∧ ZS U U.heap) (by decide) rfl (Nat.le_of_ble_eq_true rfl) ?_
  intro p e s m below meth c hx hb hr hml hown htb hts hlocks hsz hP hK hN hD hXZ hA hS ls hl
  obtain ⟨hX, hZ⟩ := hXZ
  have hown : s.vm.findClass RL = some m.cls := hown
  have hl : lv_has ls 5 [(0, .ref x), (1, .int rr), (2, .int kk), (3, .ref o)] := hl
  have hP : va_P D vwCl (wX x a b ++ wM cI a pa pe st bn hc hm C R lo ++ wM cI b pa2 pe2 st2 bn2 hc2 hm2 C2 R2 lo2 ++ wL cL o 1 ov) s.heap := hP
  refine lv_aload_n hx hb dL_countAt_0 rfl (lv_at hl 3 rfl) ?_
  refine lv_iconst (v := 0) hx hb dL_countAt_1 (by decide) ?_
  refine lv_aload_n hx hb dL_countAt_2 rfl (lv_at hl 0 rfl) ?_
  refine lv_iload_n hx hb dL_countAt_3 rfl (lv_at hl 1 rfl) ?_
  refine lv_iload_n hx hb dL_countAt_4 rfl (lv_at hl 2 rfl) ?_
  refine kXVc (As := [.int rr, .int kk]) (rest := [.int 0, .ref o]) (name := eIO) ⟨hx, hb, hml, hown, hts⟩ (tX1_countAt_r l hst D cI x b a pa pe st bn hc hm C R lo rr kk hp) (cwV 2 hts gL_countAt_X1_countAt rfl rfl rfl (by decide +kernel) ⟨Nat.le_of_ble_eq_true rfl, Nat.le_of_ble_eq_true rfl⟩) hP hK hN hX hZ hS [0, 1, 2, 3, 4, 5, 6, 7] rfl [0] rfl rfl rfl rfl hl.1 rfl (Nat.le_of_ble_eq_true rfl) dL_countAt_5 ⟨Nat.le_of_ble_eq_true rfl, Nat.le_of_ble_eq_true rfl⟩ [] ⟨0, 10, 13, 19⟩ [] htb (fun z hz => absurd hz List.not_mem_nil) (by decide) (by decide) (hts (.classLink RL 19 eIO) (mg 1 rfl)) hX.2.2.2.2.2.1 (fun q9 H locs hP hS => ?_)
  have hP : va_P D vwCl (wX x a b ++ wM cI a pa pe st bn hc hm C R lo ++ wM cI b pa2 pe2 st2 bn2 hc2 hm2 C2 R2 lo2 ++ wL cL o 1 ov) H := hP
  refine lv_astore (lv' := [(4, .ref q9), (0, .ref x), (1, .int rr), (2, .int kk), (3, .ref o)]) hx hb dL_countAt_13 hl (by decide) rfl (fun ls hl => ?_)
  refine lv_iconst (v := 1) hx hb dL_countAt_15 (by decide) ?_
  refine W.widen (k := 1) (n := 6) (by omega) (by omega) ?_
  exact eQi () hx hb hr hlocks hP hD hK hS dL_countAt_16 (rfl)
set_option maxHeartbeats 4000000 in
set_option maxRecDepth 100000 in
theorem mL_countAt_c (l : Launch) (hst : l.stackTraces = false) (D : va_G) (cI cL : ClassId) (x : Nat) (a : Nat → Nat) (pa pe st bn hc hm : Nat → Int32) (C R lo : Int32) (b : Nat → Nat) (pa2 pe2 st2 bn2 hc2 hm2 : Nat → Int32) (C2 R2 lo2 : Int32) (o : Nat) (ov : Nat → Int64) (rr kk : Int32) (hp : xhas R rr = true) (hq : xhas C kk = false) (sz : Nat) : Met l yL_countAt wsL_countAt ({ frames := 9, cells := 1, slots := 6, locals := 155 } : Room) (va_Pc [.ref x, .int rr, .int kk, .ref o] (fun U => wPQ D [(cI, .int), (cL, .long)] sz (wX x a b ++ wM cI a pa pe st bn hc hm C R lo ++ wM cI b pa2 pe2 st2 bn2 hc2 hm2 C2 R2 lo2 ++ wL cL o 1 ov) U ∧ (KX U ∧ ZS U U.heap))) (va_Qi (fun (zz : Int32) (_ : Unit) => zz = 1) (wB D [(cI, .int), (cL, .long)] (va_A (wX x a b ++ wM cI a pa pe st bn hc hm C R lo ++ wM cI b pa2 pe2 st2 bn2 hc2 hm2 C2 R2 lo2 ++ wL cL o 1 ov) sz) (fun _ : Unit => (wX x a b ++ wM cI a pa pe st bn hc hm C R lo ++ wM cI b pa2 pe2 st2 bn2 hc2 hm2 C2 R2 lo2 ++ wL cL o 1 ov))) (va_A (wX x a b ++ wM cI a pa pe st bn hc hm C R lo ++ wM cI b pa2 pe2 st2 bn2 hc2 hm2 C2 R2 lo2 ++ wL cL o 1 ov) sz)) 1 6 (va_A (wX x a b ++ wM cI a pa pe st bn hc hm C R lo ++ wM cI b pa2 pe2 st2 bn2 hc2 hm2 C2 R2 lo2 ++ wL cL o 1 ov) sz) := by
  refine mW_of (K2 := fun U => KX U ∧ ZS U U.heap) (by decide) rfl (Nat.le_of_ble_eq_true rfl) ?_
  intro p e s m below meth c hx hb hr hml hown htb hts hlocks hsz hP hK hN hD hXZ hA hS ls hl
  obtain ⟨hX, hZ⟩ := hXZ
  have hown : s.vm.findClass RL = some m.cls := hown
  have hl : lv_has ls 5 [(0, .ref x), (1, .int rr), (2, .int kk), (3, .ref o)] := hl
  have hP : va_P D vwCl (wX x a b ++ wM cI a pa pe st bn hc hm C R lo ++ wM cI b pa2 pe2 st2 bn2 hc2 hm2 C2 R2 lo2 ++ wL cL o 1 ov) s.heap := hP
  refine lv_aload_n hx hb dL_countAt_0 rfl (lv_at hl 3 rfl) ?_
  refine lv_iconst (v := 0) hx hb dL_countAt_1 (by decide) ?_
  refine lv_aload_n hx hb dL_countAt_2 rfl (lv_at hl 0 rfl) ?_
  refine lv_iload_n hx hb dL_countAt_3 rfl (lv_at hl 1 rfl) ?_
  refine lv_iload_n hx hb dL_countAt_4 rfl (lv_at hl 2 rfl) ?_
  refine kXVc (As := [.int rr, .int kk]) (rest := [.int 0, .ref o]) (name := eIO) ⟨hx, hb, hml, hown, hts⟩ (tX1_countAt_c l hst D cI x b a pa pe st bn hc hm C R lo rr kk hp hq) (cwV 2 hts gL_countAt_X1_countAt rfl rfl rfl (by decide +kernel) ⟨Nat.le_of_ble_eq_true rfl, Nat.le_of_ble_eq_true rfl⟩) hP hK hN hX hZ hS [0, 1, 2, 3, 4, 5, 6, 7] rfl [0] rfl rfl rfl rfl hl.1 rfl (Nat.le_of_ble_eq_true rfl) dL_countAt_5 ⟨Nat.le_of_ble_eq_true rfl, Nat.le_of_ble_eq_true rfl⟩ [] ⟨0, 10, 13, 19⟩ [] htb (fun z hz => absurd hz List.not_mem_nil) (by decide) (by decide) (hts (.classLink RL 19 eIO) (mg 1 rfl)) hX.2.2.2.2.2.1 (fun q9 H locs hP hS => ?_)
  have hP : va_P D vwCl (wX x a b ++ wM cI a pa pe st bn hc hm C R lo ++ wM cI b pa2 pe2 st2 bn2 hc2 hm2 C2 R2 lo2 ++ wL cL o 1 ov) H := hP
  refine lv_astore (lv' := [(4, .ref q9), (0, .ref x), (1, .int rr), (2, .int kk), (3, .ref o)]) hx hb dL_countAt_13 hl (by decide) rfl (fun ls hl => ?_)
  refine lv_iconst (v := 1) hx hb dL_countAt_15 (by decide) ?_
  refine W.widen (k := 1) (n := 6) (by omega) (by omega) ?_
  exact eQi () hx hb hr hlocks hP hD hK hS dL_countAt_16 (rfl)
set_option maxHeartbeats 4000000 in
set_option maxRecDepth 100000 in
theorem mL_binOf_0 (l : Launch) (D : va_G) (cI cL : ClassId) (x : Nat) (a : Nat → Nat) (pa pe st bn hc hm : Nat → Int32) (C R lo : Int32) (b : Nat → Nat) (pa2 pe2 st2 bn2 hc2 hm2 : Nat → Int32) (C2 R2 lo2 : Int32) (o : Nat) (ov : Nat → Int64) (kk : Int32) (hq : xhas C kk = true) (sz : Nat) : Met l yL_binOf wsL_binOf ({ frames := 8, cells := 0, slots := 0, locals := 132 } : Room) (va_Pc [.ref x, .int kk, .ref o] (fun U => wPQ D [(cI, .int), (cL, .long)] sz (wX x a b ++ wM cI a pa pe st bn hc hm C R lo ++ wM cI b pa2 pe2 st2 bn2 hc2 hm2 C2 R2 lo2 ++ wL cL o 1 ov) U ∧ (KX U ∧ ZS U U.heap))) (va_Qi (fun (zz : Int32) (_ : Unit) => zz = 0) (wB D [(cI, .int), (cL, .long)] (va_A (wX x a b ++ wM cI a pa pe st bn hc hm C R lo ++ wM cI b pa2 pe2 st2 bn2 hc2 hm2 C2 R2 lo2 ++ wL cL o 1 ov) sz) (fun _ : Unit => (wX x a b ++ wM cI a pa pe st bn hc hm C R lo ++ wM cI b pa2 pe2 st2 bn2 hc2 hm2 C2 R2 lo2 ++ wL cL o 1 ((vp_updL ov 0 ((xcl 9 bn kk) : Int32).toInt64))))) (va_A (wX x a b ++ wM cI a pa pe st bn hc hm C R lo ++ wM cI b pa2 pe2 st2 bn2 hc2 hm2 C2 R2 lo2 ++ wL cL o 1 ov) sz)) 0 0 (va_A (wX x a b ++ wM cI a pa pe st bn hc hm C R lo ++ wM cI b pa2 pe2 st2 bn2 hc2 hm2 C2 R2 lo2 ++ wL cL o 1 ov) sz) := by
  refine mW_of (K2 := fun U => KX U ∧ ZS U U.heap) (by decide) rfl (Nat.le_of_ble_eq_true rfl) ?_
  intro p e s m below meth c hx hb hr hml hown htb hts hlocks hsz hP hK hN hD hXZ hA hS ls hl
  obtain ⟨hX, hZ⟩ := hXZ
  have hown : s.vm.findClass RL = some m.cls := hown
  have hl : lv_has ls 4 [(0, .ref x), (1, .int kk), (2, .ref o)] := hl
  have hP : va_P D vwCl (wX x a b ++ wM cI a pa pe st bn hc hm C R lo ++ wM cI b pa2 pe2 st2 bn2 hc2 hm2 C2 R2 lo2 ++ wL cL o 1 ov) s.heap := hP
  refine lv_aload_n hx hb dL_binOf_0 rfl (lv_at hl 2 rfl) ?_
  refine lv_iconst (v := 0) hx hb dL_binOf_1 (by decide) ?_
  refine lv_aload_n hx hb dL_binOf_2 rfl (lv_at hl 0 rfl) ?_
  refine lv_iload_n hx hb dL_binOf_3 rfl (lv_at hl 1 rfl) ?_
  refine kRVi (As := [.int kk]) (rest := [.int 0, .ref o]) ⟨hx, hb, hml, hown, hts⟩ (mX1_binOf l D cI x b a pa pe st bn hc hm C R lo kk hq) (cwV 1 hts gL_binOf_X1_binOf rfl rfl rfl (by decide +kernel) ⟨Nat.le_of_ble_eq_true rfl, Nat.le_of_ble_eq_true rfl⟩) hP hK hN [0, 1, 2, 3, 4, 5, 6, 7] rfl [0] rfl rfl rfl rfl hl.1 rfl (Nat.le_of_ble_eq_true rfl) dL_binOf_4 ⟨Nat.zero_le _, Nat.zero_le _⟩ (fun r_1 hr_1 => ?_)
  subst r_1
  refine lv_i2l (v := (xcl 9 bn kk : Int32).toInt64) hx hb dL_binOf_7 rfl ?_
  refine va_last hx hb hK hP hD hS 15 1 rfl rfl (vp_in_nI (n := 0) (by decide) (by decide)) dL_binOf_8 (fun H locs hP hD hS => ?_)
  rw [show (0 : Int32).toNatClampNeg = 0 from by decide] at hP hD
  have hP : va_P D vwCl (wX x a b ++ wM cI a pa pe st bn hc hm C R lo ++ wM cI b pa2 pe2 st2 bn2 hc2 hm2 C2 R2 lo2 ++ wL cL o 1 ((vp_updL ov 0 ((xcl 9 bn kk : Int32).toInt64)))) H := hP
  have hD : va_D (va_A (wX x a b ++ wM cI a pa pe st bn hc hm C R lo ++ wM cI b pa2 pe2 st2 bn2 hc2 hm2 C2 R2 lo2 ++ wL cL o 1 ov) sz) (wX x a b ++ wM cI a pa pe st bn hc hm C R lo ++ wM cI b pa2 pe2 st2 bn2 hc2 hm2 C2 R2 lo2 ++ wL cL o 1 ((vp_updL ov 0 ((xcl 9 bn kk : Int32).toInt64)))) := hD
  refine lv_goto (tgt := 15) hx hb dL_binOf_9 (by decide) ?_
  refine lv_iconst (v := 0) hx hb dL_binOf_15 (by decide) ?_
  exact eQi () hx hb hr hlocks hP hD hK hS dL_binOf_16 (rfl)
set_option maxHeartbeats 4000000 in
set_option maxRecDepth 100000 in
theorem mL_marblesIn_0 (l : Launch) (D : va_G) (cI cL : ClassId) (x : Nat) (a : Nat → Nat) (pa pe st bn hc hm : Nat → Int32) (C R lo : Int32) (b : Nat → Nat) (pa2 pe2 st2 bn2 hc2 hm2 : Nat → Int32) (C2 R2 lo2 : Int32) (o : Nat) (ov : Nat → Int64) (hh : Int32) (hp : xhas 2 hh = true) (sz : Nat) : Met l yL_marblesIn wsL_marblesIn ({ frames := 8, cells := 0, slots := 0, locals := 131 } : Room) (va_Pc [.ref x, .int hh, .ref o] (fun U => wPQ D [(cI, .int), (cL, .long)] sz (wX x a b ++ wM cI a pa pe st bn hc hm C R lo ++ wM cI b pa2 pe2 st2 bn2 hc2 hm2 C2 R2 lo2 ++ wL cL o 1 ov) U ∧ (KX U ∧ ZS U U.heap))) (va_Qi (fun (zz : Int32) (_ : Unit) => zz = 0) (wB D [(cI, .int), (cL, .long)] (va_A (wX x a b ++ wM cI a pa pe st bn hc hm C R lo ++ wM cI b pa2 pe2 st2 bn2 hc2 hm2 C2 R2 lo2 ++ wL cL o 1 ov) sz) (fun _ : Unit => (wX x a b ++ wM cI a pa pe st bn hc hm C R lo ++ wM cI b pa2 pe2 st2 bn2 hc2 hm2 C2 R2 lo2 ++ wL cL o 1 ((vp_updL ov 0 ((xcl 2 hm hh) : Int32).toInt64))))) (va_A (wX x a b ++ wM cI a pa pe st bn hc hm C R lo ++ wM cI b pa2 pe2 st2 bn2 hc2 hm2 C2 R2 lo2 ++ wL cL o 1 ov) sz)) 0 0 (va_A (wX x a b ++ wM cI a pa pe st bn hc hm C R lo ++ wM cI b pa2 pe2 st2 bn2 hc2 hm2 C2 R2 lo2 ++ wL cL o 1 ov) sz) := by
  refine mW_of (K2 := fun U => KX U ∧ ZS U U.heap) (by decide) rfl (Nat.le_of_ble_eq_true rfl) ?_
  intro p e s m below meth c hx hb hr hml hown htb hts hlocks hsz hP hK hN hD hXZ hA hS ls hl
  obtain ⟨hX, hZ⟩ := hXZ
  have hown : s.vm.findClass RL = some m.cls := hown
  have hl : lv_has ls 4 [(0, .ref x), (1, .int hh), (2, .ref o)] := hl
  have hP : va_P D vwCl (wX x a b ++ wM cI a pa pe st bn hc hm C R lo ++ wM cI b pa2 pe2 st2 bn2 hc2 hm2 C2 R2 lo2 ++ wL cL o 1 ov) s.heap := hP
  refine lv_aload_n hx hb dL_marblesIn_0 rfl (lv_at hl 2 rfl) ?_
  refine lv_iconst (v := 0) hx hb dL_marblesIn_1 (by decide) ?_
  refine lv_aload_n hx hb dL_marblesIn_2 rfl (lv_at hl 0 rfl) ?_
  refine lv_iload_n hx hb dL_marblesIn_3 rfl (lv_at hl 1 rfl) ?_
  refine kRVi (As := [.int hh]) (rest := [.int 0, .ref o]) ⟨hx, hb, hml, hown, hts⟩ (mX1_marblesIn l D cI x b a pa pe st bn hc hm C R lo hh hp) (cwV 1 hts gL_marblesIn_X1_marblesIn rfl rfl rfl (by decide +kernel) ⟨Nat.le_of_ble_eq_true rfl, Nat.le_of_ble_eq_true rfl⟩) hP hK hN [0, 1, 2, 3, 4, 5, 6, 7] rfl [0] rfl rfl rfl rfl hl.1 rfl (Nat.le_of_ble_eq_true rfl) dL_marblesIn_4 ⟨Nat.zero_le _, Nat.zero_le _⟩ (fun r_1 hr_1 => ?_)
  subst r_1
  refine lv_i2l (v := (xcl 2 hm hh : Int32).toInt64) hx hb dL_marblesIn_7 rfl ?_
  refine va_last hx hb hK hP hD hS 15 1 rfl rfl (vp_in_nI (n := 0) (by decide) (by decide)) dL_marblesIn_8 (fun H locs hP hD hS => ?_)
  rw [show (0 : Int32).toNatClampNeg = 0 from by decide] at hP hD
  have hP : va_P D vwCl (wX x a b ++ wM cI a pa pe st bn hc hm C R lo ++ wM cI b pa2 pe2 st2 bn2 hc2 hm2 C2 R2 lo2 ++ wL cL o 1 ((vp_updL ov 0 ((xcl 2 hm hh : Int32).toInt64)))) H := hP
  have hD : va_D (va_A (wX x a b ++ wM cI a pa pe st bn hc hm C R lo ++ wM cI b pa2 pe2 st2 bn2 hc2 hm2 C2 R2 lo2 ++ wL cL o 1 ov) sz) (wX x a b ++ wM cI a pa pe st bn hc hm C R lo ++ wM cI b pa2 pe2 st2 bn2 hc2 hm2 C2 R2 lo2 ++ wL cL o 1 ((vp_updL ov 0 ((xcl 2 hm hh : Int32).toInt64)))) := hD
  refine lv_goto (tgt := 15) hx hb dL_marblesIn_9 (by decide) ?_
  refine lv_iconst (v := 0) hx hb dL_marblesIn_15 (by decide) ?_
  exact eQi () hx hb hr hlocks hP hD hK hS dL_marblesIn_16 (rfl)
set_option maxHeartbeats 4000000 in
set_option maxRecDepth 100000 in
theorem mL_columnOf_0 (l : Launch) (D : va_G) (cI cL : ClassId) (x : Nat) (a : Nat → Nat) (pa pe st bn hc hm : Nat → Int32) (C R lo : Int32) (b : Nat → Nat) (pa2 pe2 st2 bn2 hc2 hm2 : Nat → Int32) (C2 R2 lo2 : Int32) (o : Nat) (ov : Nat → Int64) (hh : Int32) (hp : xhas 2 hh = true) (sz : Nat) : Met l yL_columnOf wsL_columnOf ({ frames := 8, cells := 0, slots := 0, locals := 131 } : Room) (va_Pc [.ref x, .int hh, .ref o] (fun U => wPQ D [(cI, .int), (cL, .long)] sz (wX x a b ++ wM cI a pa pe st bn hc hm C R lo ++ wM cI b pa2 pe2 st2 bn2 hc2 hm2 C2 R2 lo2 ++ wL cL o 1 ov) U ∧ (KX U ∧ ZS U U.heap))) (va_Qi (fun (zz : Int32) (_ : Unit) => zz = 0) (wB D [(cI, .int), (cL, .long)] (va_A (wX x a b ++ wM cI a pa pe st bn hc hm C R lo ++ wM cI b pa2 pe2 st2 bn2 hc2 hm2 C2 R2 lo2 ++ wL cL o 1 ov) sz) (fun _ : Unit => (wX x a b ++ wM cI a pa pe st bn hc hm C R lo ++ wM cI b pa2 pe2 st2 bn2 hc2 hm2 C2 R2 lo2 ++ wL cL o 1 ((vp_updL ov 0 ((xcl 2 hc hh) : Int32).toInt64))))) (va_A (wX x a b ++ wM cI a pa pe st bn hc hm C R lo ++ wM cI b pa2 pe2 st2 bn2 hc2 hm2 C2 R2 lo2 ++ wL cL o 1 ov) sz)) 0 0 (va_A (wX x a b ++ wM cI a pa pe st bn hc hm C R lo ++ wM cI b pa2 pe2 st2 bn2 hc2 hm2 C2 R2 lo2 ++ wL cL o 1 ov) sz) := by
  refine mW_of (K2 := fun U => KX U ∧ ZS U U.heap) (by decide) rfl (Nat.le_of_ble_eq_true rfl) ?_
  intro p e s m below meth c hx hb hr hml hown htb hts hlocks hsz hP hK hN hD hXZ hA hS ls hl
  obtain ⟨hX, hZ⟩ := hXZ
  have hown : s.vm.findClass RL = some m.cls := hown
  have hl : lv_has ls 4 [(0, .ref x), (1, .int hh), (2, .ref o)] := hl
  have hP : va_P D vwCl (wX x a b ++ wM cI a pa pe st bn hc hm C R lo ++ wM cI b pa2 pe2 st2 bn2 hc2 hm2 C2 R2 lo2 ++ wL cL o 1 ov) s.heap := hP
  refine lv_aload_n hx hb dL_columnOf_0 rfl (lv_at hl 2 rfl) ?_
  refine lv_iconst (v := 0) hx hb dL_columnOf_1 (by decide) ?_
  refine lv_aload_n hx hb dL_columnOf_2 rfl (lv_at hl 0 rfl) ?_
  refine lv_iload_n hx hb dL_columnOf_3 rfl (lv_at hl 1 rfl) ?_
  refine kRVi (As := [.int hh]) (rest := [.int 0, .ref o]) ⟨hx, hb, hml, hown, hts⟩ (mX1_columnOf l D cI x b a pa pe st bn hc hm C R lo hh hp) (cwV 1 hts gL_columnOf_X1_columnOf rfl rfl rfl (by decide +kernel) ⟨Nat.le_of_ble_eq_true rfl, Nat.le_of_ble_eq_true rfl⟩) hP hK hN [0, 1, 2, 3, 4, 5, 6, 7] rfl [0] rfl rfl rfl rfl hl.1 rfl (Nat.le_of_ble_eq_true rfl) dL_columnOf_4 ⟨Nat.zero_le _, Nat.zero_le _⟩ (fun r_1 hr_1 => ?_)
  subst r_1
  refine lv_i2l (v := (xcl 2 hc hh : Int32).toInt64) hx hb dL_columnOf_7 rfl ?_
  refine va_last hx hb hK hP hD hS 15 1 rfl rfl (vp_in_nI (n := 0) (by decide) (by decide)) dL_columnOf_8 (fun H locs hP hD hS => ?_)
  rw [show (0 : Int32).toNatClampNeg = 0 from by decide] at hP hD
  have hP : va_P D vwCl (wX x a b ++ wM cI a pa pe st bn hc hm C R lo ++ wM cI b pa2 pe2 st2 bn2 hc2 hm2 C2 R2 lo2 ++ wL cL o 1 ((vp_updL ov 0 ((xcl 2 hc hh : Int32).toInt64)))) H := hP
  have hD : va_D (va_A (wX x a b ++ wM cI a pa pe st bn hc hm C R lo ++ wM cI b pa2 pe2 st2 bn2 hc2 hm2 C2 R2 lo2 ++ wL cL o 1 ov) sz) (wX x a b ++ wM cI a pa pe st bn hc hm C R lo ++ wM cI b pa2 pe2 st2 bn2 hc2 hm2 C2 R2 lo2 ++ wL cL o 1 ((vp_updL ov 0 ((xcl 2 hc hh : Int32).toInt64)))) := hD
  refine lv_goto (tgt := 15) hx hb dL_columnOf_9 (by decide) ?_
  refine lv_iconst (v := 0) hx hb dL_columnOf_15 (by decide) ?_
  exact eQi () hx hb hr hlocks hP hD hK hS dL_columnOf_16 (rfl)
set_option maxHeartbeats 4000000 in
set_option maxRecDepth 100000 in
theorem mL_numberIn_0 (l : Launch) (D : va_G) (cI cL : ClassId) (x : Nat) (a : Nat → Nat) (pa pe st bn hc hm : Nat → Int32) (C R lo : Int32) (b : Nat → Nat) (pa2 pe2 st2 bn2 hc2 hm2 : Nat → Int32) (C2 R2 lo2 : Int32) (o : Nat) (ov : Nat → Int64) (rr : Int32) (hp : xhas R rr = true) (sz : Nat) : Met l yL_numberIn wsL_numberIn ({ frames := 8, cells := 0, slots := 0, locals := 132 } : Room) (va_Pc [.ref x, .int rr, .ref o] (fun U => wPQ D [(cI, .int), (cL, .long)] sz (wX x a b ++ wM cI a pa pe st bn hc hm C R lo ++ wM cI b pa2 pe2 st2 bn2 hc2 hm2 C2 R2 lo2 ++ wL cL o 1 ov) U ∧ (KX U ∧ ZS U U.heap))) (va_Qi (fun (zz : Int32) (_ : Unit) => zz = 0) (wB D [(cI, .int), (cL, .long)] (va_A (wX x a b ++ wM cI a pa pe st bn hc hm C R lo ++ wM cI b pa2 pe2 st2 bn2 hc2 hm2 C2 R2 lo2 ++ wL cL o 1 ov) sz) (fun _ : Unit => (wX x a b ++ wM cI a pa pe st bn hc hm C R lo ++ wM cI b pa2 pe2 st2 bn2 hc2 hm2 C2 R2 lo2 ++ wL cL o 1 ((vp_updL ov 0 ((xNum pa st C rr) : Int32).toInt64))))) (va_A (wX x a b ++ wM cI a pa pe st bn hc hm C R lo ++ wM cI b pa2 pe2 st2 bn2 hc2 hm2 C2 R2 lo2 ++ wL cL o 1 ov) sz)) 0 0 (va_A (wX x a b ++ wM cI a pa pe st bn hc hm C R lo ++ wM cI b pa2 pe2 st2 bn2 hc2 hm2 C2 R2 lo2 ++ wL cL o 1 ov) sz) := by
  refine mW_of (K2 := fun U => KX U ∧ ZS U U.heap) (by decide) rfl (Nat.le_of_ble_eq_true rfl) ?_
  intro p e s m below meth c hx hb hr hml hown htb hts hlocks hsz hP hK hN hD hXZ hA hS ls hl
  obtain ⟨hX, hZ⟩ := hXZ
  have hown : s.vm.findClass RL = some m.cls := hown
  have hl : lv_has ls 4 [(0, .ref x), (1, .int rr), (2, .ref o)] := hl
  have hP : va_P D vwCl (wX x a b ++ wM cI a pa pe st bn hc hm C R lo ++ wM cI b pa2 pe2 st2 bn2 hc2 hm2 C2 R2 lo2 ++ wL cL o 1 ov) s.heap := hP
  refine lv_aload_n hx hb dL_numberIn_0 rfl (lv_at hl 2 rfl) ?_
  refine lv_iconst (v := 0) hx hb dL_numberIn_1 (by decide) ?_
  refine lv_aload_n hx hb dL_numberIn_2 rfl (lv_at hl 0 rfl) ?_
  refine lv_iload_n hx hb dL_numberIn_3 rfl (lv_at hl 1 rfl) ?_
  refine kRVi (As := [.int rr]) (rest := [.int 0, .ref o]) ⟨hx, hb, hml, hown, hts⟩ (mX1_numberIn l D cI x b a pa pe st bn hc hm C R lo rr hp) (cwV 1 hts gL_numberIn_X1_numberIn rfl rfl rfl (by decide +kernel) ⟨Nat.le_of_ble_eq_true rfl, Nat.le_of_ble_eq_true rfl⟩) hP hK hN [0, 1, 2, 3, 4, 5, 6, 7] rfl [0] rfl rfl rfl rfl hl.1 rfl (Nat.le_of_ble_eq_true rfl) dL_numberIn_4 ⟨Nat.zero_le _, Nat.zero_le _⟩ (fun r_1 hr_1 => ?_)
  subst r_1
  refine lv_i2l (v := (xNum pa st C rr : Int32).toInt64) hx hb dL_numberIn_7 rfl ?_
  refine va_last hx hb hK hP hD hS 15 1 rfl rfl (vp_in_nI (n := 0) (by decide) (by decide)) dL_numberIn_8 (fun H locs hP hD hS => ?_)
  rw [show (0 : Int32).toNatClampNeg = 0 from by decide] at hP hD
  have hP : va_P D vwCl (wX x a b ++ wM cI a pa pe st bn hc hm C R lo ++ wM cI b pa2 pe2 st2 bn2 hc2 hm2 C2 R2 lo2 ++ wL cL o 1 ((vp_updL ov 0 ((xNum pa st C rr : Int32).toInt64)))) H := hP
  have hD : va_D (va_A (wX x a b ++ wM cI a pa pe st bn hc hm C R lo ++ wM cI b pa2 pe2 st2 bn2 hc2 hm2 C2 R2 lo2 ++ wL cL o 1 ov) sz) (wX x a b ++ wM cI a pa pe st bn hc hm C R lo ++ wM cI b pa2 pe2 st2 bn2 hc2 hm2 C2 R2 lo2 ++ wL cL o 1 ((vp_updL ov 0 ((xNum pa st C rr : Int32).toInt64)))) := hD
  refine lv_goto (tgt := 15) hx hb dL_numberIn_9 (by decide) ?_
  refine lv_iconst (v := 0) hx hb dL_numberIn_15 (by decide) ?_
  exact eQi () hx hb hr hlocks hP hD hK hS dL_numberIn_16 (rfl)
set_option maxHeartbeats 4000000 in
set_option maxRecDepth 100000 in
theorem mL_numberIn_r (l : Launch) (hst : l.stackTraces = false) (D : va_G) (cI cL : ClassId) (x : Nat) (a : Nat → Nat) (pa pe st bn hc hm : Nat → Int32) (C R lo : Int32) (b : Nat → Nat) (pa2 pe2 st2 bn2 hc2 hm2 : Nat → Int32) (C2 R2 lo2 : Int32) (o : Nat) (ov : Nat → Int64) (rr : Int32) (hp : xhas R rr = false) (sz : Nat) : Met l yL_numberIn wsL_numberIn ({ frames := 8, cells := 1, slots := 6, locals := 132 } : Room) (va_Pc [.ref x, .int rr, .ref o] (fun U => wPQ D [(cI, .int), (cL, .long)] sz (wX x a b ++ wM cI a pa pe st bn hc hm C R lo ++ wM cI b pa2 pe2 st2 bn2 hc2 hm2 C2 R2 lo2 ++ wL cL o 1 ov) U ∧ (KX U ∧ ZS U U.heap))) (va_Qi (fun (zz : Int32) (_ : Unit) => zz = 1) (wB D [(cI, .int), (cL, .long)] (va_A (wX x a b ++ wM cI a pa pe st bn hc hm C R lo ++ wM cI b pa2 pe2 st2 bn2 hc2 hm2 C2 R2 lo2 ++ wL cL o 1 ov) sz) (fun _ : Unit => (wX x a b ++ wM cI a pa pe st bn hc hm C R lo ++ wM cI b pa2 pe2 st2 bn2 hc2 hm2 C2 R2 lo2 ++ wL cL o 1 ov))) (va_A (wX x a b ++ wM cI a pa pe st bn hc hm C R lo ++ wM cI b pa2 pe2 st2 bn2 hc2 hm2 C2 R2 lo2 ++ wL cL o 1 ov) sz)) 1 6 (va_A (wX x a b ++ wM cI a pa pe st bn hc hm C R lo ++ wM cI b pa2 pe2 st2 bn2 hc2 hm2 C2 R2 lo2 ++ wL cL o 1 ov) sz) := by
  refine mW_of (K2 := fun U => KX U ∧ ZS U U.heap) (by decide) rfl (Nat.le_of_ble_eq_true rfl) ?_
  intro p e s m below meth c hx hb hr hml hown htb hts hlocks hsz hP hK hN hD hXZ hA hS ls hl
  obtain ⟨hX, hZ⟩ := hXZ
  have hown : s.vm.findClass RL = some m.cls := hown
  have hl : lv_has ls 4 [(0, .ref x), (1, .int rr), (2, .ref o)] := hl
  have hP : va_P D vwCl (wX x a b ++ wM cI a pa pe st bn hc hm C R lo ++ wM cI b pa2 pe2 st2 bn2 hc2 hm2 C2 R2 lo2 ++ wL cL o 1 ov) s.heap := hP
  refine lv_aload_n hx hb dL_numberIn_0 rfl (lv_at hl 2 rfl) ?_
  refine lv_iconst (v := 0) hx hb dL_numberIn_1 (by decide) ?_
  refine lv_aload_n hx hb dL_numberIn_2 rfl (lv_at hl 0 rfl) ?_
  refine lv_iload_n hx hb dL_numberIn_3 rfl (lv_at hl 1 rfl) ?_
  refine kXVc (As := [.int rr]) (rest := [.int 0, .ref o]) (name := eIO) ⟨hx, hb, hml, hown, hts⟩ (tX1_numberIn_r l hst D cI x b a pa pe st bn hc hm C R lo rr hp) (cwV 1 hts gL_numberIn_X1_numberIn rfl rfl rfl (by decide +kernel) ⟨Nat.le_of_ble_eq_true rfl, Nat.le_of_ble_eq_true rfl⟩) hP hK hN hX hZ hS [0, 1, 2, 3, 4, 5, 6, 7] rfl [0] rfl rfl rfl rfl hl.1 rfl (Nat.le_of_ble_eq_true rfl) dL_numberIn_4 ⟨Nat.le_of_ble_eq_true rfl, Nat.le_of_ble_eq_true rfl⟩ [] ⟨0, 9, 12, 19⟩ [] htb (fun z hz => absurd hz List.not_mem_nil) (by decide) (by decide) (hts (.classLink RL 19 eIO) (mg 1 rfl)) hX.2.2.2.2.2.1 (fun q9 H locs hP hS => ?_)
  have hP : va_P D vwCl (wX x a b ++ wM cI a pa pe st bn hc hm C R lo ++ wM cI b pa2 pe2 st2 bn2 hc2 hm2 C2 R2 lo2 ++ wL cL o 1 ov) H := hP
  refine lv_astore_n (lv' := [(3, .ref q9), (0, .ref x), (1, .int rr), (2, .ref o)]) hx hb dL_numberIn_12 rfl hl (by decide) rfl (fun ls hl => ?_)
  refine lv_iconst (v := 1) hx hb dL_numberIn_13 (by decide) ?_
  refine W.widen (k := 1) (n := 6) (by omega) (by omega) ?_
  exact eQi () hx hb hr hlocks hP hD hK hS dL_numberIn_14 (rfl)
set_option maxHeartbeats 4000000 in
set_option maxRecDepth 100000 in
theorem mL_wouldLand_0 (l : Launch) (D : va_G) (cI cL : ClassId) (x : Nat) (a : Nat → Nat) (pa pe st bn hc hm : Nat → Int32) (C R lo : Int32) (b : Nat → Nat) (pa2 pe2 st2 bn2 hc2 hm2 : Nat → Int32) (C2 R2 lo2 : Int32) (o : Nat) (ov : Nat → Int64) (kk : Int32) (hq : xhas C kk = true) (sz : Nat) : Met l yL_wouldLand wsL_wouldLand ({ frames := 8, cells := 0, slots := 0, locals := 132 } : Room) (va_Pc [.ref x, .int kk, .ref o] (fun U => wPQ D [(cI, .int), (cL, .long)] sz (wX x a b ++ wM cI a pa pe st bn hc hm C R lo ++ wM cI b pa2 pe2 st2 bn2 hc2 hm2 C2 R2 lo2 ++ wL cL o 1 ov) U ∧ (KX U ∧ ZS U U.heap))) (va_Qi (fun (zz : Int32) (u : MS) => zz = 0) (wB D [(cI, .int), (cL, .long)] (va_A (wX x a b ++ wM cI a pa pe st bn hc hm C R lo ++ wM cI b pa2 pe2 st2 bn2 hc2 hm2 C2 R2 lo2 ++ wL cL o 1 ov) sz) (fun u : MS => (wX x a b ++ wM cI a pa pe st bn hc hm C R lo ++ wM cI b u.1 u.2.1 u.2.2.1 u.2.2.2.1 u.2.2.2.2.1 u.2.2.2.2.2.1 u.2.2.2.2.2.2.1 u.2.2.2.2.2.2.2.1 u.2.2.2.2.2.2.2.2 ++ wL cL o 1 ((vp_updL ov 0 ((xFall pa pe st C kk R).1 : Int32).toInt64))))) (va_A (wX x a b ++ wM cI a pa pe st bn hc hm C R lo ++ wM cI b pa2 pe2 st2 bn2 hc2 hm2 C2 R2 lo2 ++ wL cL o 1 ov) sz)) 0 0 (va_A (wX x a b ++ wM cI a pa pe st bn hc hm C R lo ++ wM cI b pa2 pe2 st2 bn2 hc2 hm2 C2 R2 lo2 ++ wL cL o 1 ov) sz) := by
  refine mW_of (K2 := fun U => KX U ∧ ZS U U.heap) (by decide) rfl (Nat.le_of_ble_eq_true rfl) ?_
  intro p e s m below meth c hx hb hr hml hown htb hts hlocks hsz hP hK hN hD hXZ hA hS ls hl
  obtain ⟨hX, hZ⟩ := hXZ
  have hown : s.vm.findClass RL = some m.cls := hown
  have hl : lv_has ls 4 [(0, .ref x), (1, .int kk), (2, .ref o)] := hl
  have hP : va_P D vwCl (wX x a b ++ wM cI a pa pe st bn hc hm C R lo ++ wM cI b pa2 pe2 st2 bn2 hc2 hm2 C2 R2 lo2 ++ wL cL o 1 ov) s.heap := hP
  refine lv_aload_n hx hb dL_wouldLand_0 rfl (lv_at hl 2 rfl) ?_
  refine lv_iconst (v := 0) hx hb dL_wouldLand_1 (by decide) ?_
  refine lv_aload_n hx hb dL_wouldLand_2 rfl (lv_at hl 0 rfl) ?_
  refine lv_iload_n hx hb dL_wouldLand_3 rfl (lv_at hl 1 rfl) ?_
  refine kQVi (As := [.int kk]) (rest := [.int 0, .ref o]) (wr := [(o, .inl (cL, 1, .inr (.inl ov)))]) (W2 := (fun u : MS => (wX x a b ++ wM cI a pa pe st bn hc hm C R lo ++ wM cI b u.1 u.2.1 u.2.2.1 u.2.2.2.1 u.2.2.2.2.1 u.2.2.2.2.2.1 u.2.2.2.2.2.2.1 u.2.2.2.2.2.2.2.1 u.2.2.2.2.2.2.2.2 ++ wL cL o 1 ov))) ⟨hx, hb, hml, hown, hts⟩ (mX1_wouldLand l D cI x a pa pe st bn hc hm C R lo b pa2 pe2 st2 bn2 hc2 hm2 C2 R2 lo2 kk hq _) (cwV 1 hts gL_wouldLand_X1_wouldLand rfl rfl rfl (by decide +kernel) ⟨Nat.le_of_ble_eq_true rfl, Nat.le_of_ble_eq_true rfl⟩) hP hD hK hN hS hA [0, 1, 2, 3, 4, 5, 6, 7, 8, 9, 10, 11, 12, 13, 14] (by decide) rfl [15] (by decide) rfl (by decide) [1, 2, 3, 4, 5, 6, 7, 8, 9, 10, 11, 12, 13, 14, 15, 0] (by decide) (fun _ => rfl) [0] rfl rfl rfl rfl hl.1 rfl (Nat.le_of_ble_eq_true rfl) dL_wouldLand_4 ⟨Nat.le_of_ble_eq_true rfl, Nat.le_of_ble_eq_true rfl⟩ (fun r_1 u_1 H locs hr_1 hP hD hS => ?_)
  subst r_1
  have hP : va_P D vwCl (wX x a b ++ wM cI a pa pe st bn hc hm C R lo ++ wM cI b u_1.1 u_1.2.1 u_1.2.2.1 u_1.2.2.2.1 u_1.2.2.2.2.1 u_1.2.2.2.2.2.1 u_1.2.2.2.2.2.2.1 u_1.2.2.2.2.2.2.2.1 u_1.2.2.2.2.2.2.2.2 ++ wL cL o 1 ov) H := hP
  have hD : va_D (va_A (wX x a b ++ wM cI a pa pe st bn hc hm C R lo ++ wM cI b pa2 pe2 st2 bn2 hc2 hm2 C2 R2 lo2 ++ wL cL o 1 ov) sz) (wX x a b ++ wM cI a pa pe st bn hc hm C R lo ++ wM cI b u_1.1 u_1.2.1 u_1.2.2.1 u_1.2.2.2.1 u_1.2.2.2.2.1 u_1.2.2.2.2.2.1 u_1.2.2.2.2.2.2.1 u_1.2.2.2.2.2.2.2.1 u_1.2.2.2.2.2.2.2.2 ++ wL cL o 1 ov) := hD
  refine lv_i2l (v := ((xFall pa pe st C kk R).1 : Int32).toInt64) hx hb dL_wouldLand_7 rfl ?_
  refine va_last hx hb hK hP hD hS 15 1 rfl rfl (vp_in_nI (n := 0) (by decide) (by decide)) dL_wouldLand_8 (fun H locs hP hD hS => ?_)
  rw [show (0 : Int32).toNatClampNeg = 0 from by decide] at hP hD
  have hP : va_P D vwCl (wX x a b ++ wM cI a pa pe st bn hc hm C R lo ++ wM cI b u_1.1 u_1.2.1 u_1.2.2.1 u_1.2.2.2.1 u_1.2.2.2.2.1 u_1.2.2.2.2.2.1 u_1.2.2.2.2.2.2.1 u_1.2.2.2.2.2.2.2.1 u_1.2.2.2.2.2.2.2.2 ++ wL cL o 1 ((vp_updL ov 0 (((xFall pa pe st C kk R).1 : Int32).toInt64)))) H := hP
  have hD : va_D (va_A (wX x a b ++ wM cI a pa pe st bn hc hm C R lo ++ wM cI b pa2 pe2 st2 bn2 hc2 hm2 C2 R2 lo2 ++ wL cL o 1 ov) sz) (wX x a b ++ wM cI a pa pe st bn hc hm C R lo ++ wM cI b u_1.1 u_1.2.1 u_1.2.2.1 u_1.2.2.2.1 u_1.2.2.2.2.1 u_1.2.2.2.2.2.1 u_1.2.2.2.2.2.2.1 u_1.2.2.2.2.2.2.2.1 u_1.2.2.2.2.2.2.2.2 ++ wL cL o 1 ((vp_updL ov 0 (((xFall pa pe st C kk R).1 : Int32).toInt64)))) := hD
  refine lv_goto (tgt := 15) hx hb dL_wouldLand_9 (by decide) ?_
  refine lv_iconst (v := 0) hx hb dL_wouldLand_15 (by decide) ?_
  exact eQi (u_1.1, u_1.2.1, u_1.2.2.1, u_1.2.2.2.1, u_1.2.2.2.2.1, u_1.2.2.2.2.2.1, u_1.2.2.2.2.2.2.1, u_1.2.2.2.2.2.2.2.1, u_1.2.2.2.2.2.2.2.2) hx hb hr hlocks hP hD hK hS dL_wouldLand_16 (rfl)
set_option maxHeartbeats 4000000 in
set_option maxRecDepth 100000 in
theorem mL_wouldTurn_0 (l : Launch) (D : va_G) (cI cL : ClassId) (x : Nat) (a : Nat → Nat) (pa pe st bn hc hm : Nat → Int32) (C R lo : Int32) (b : Nat → Nat) (pa2 pe2 st2 bn2 hc2 hm2 : Nat → Int32) (C2 R2 lo2 : Int32) (o : Nat) (ov : Nat → Int64) (kk : Int32) (hq : xhas C kk = true) (sz : Nat) : Met l yL_wouldTurn wsL_wouldTurn ({ frames := 8, cells := 0, slots := 0, locals := 132 } : Room) (va_Pc [.ref x, .int kk, .ref o] (fun U => wPQ D [(cI, .int), (cL, .long)] sz (wX x a b ++ wM cI a pa pe st bn hc hm C R lo ++ wM cI b pa2 pe2 st2 bn2 hc2 hm2 C2 R2 lo2 ++ wL cL o 1 ov) U ∧ (KX U ∧ ZS U U.heap))) (va_Qi (fun (zz : Int32) (u : MS) => zz = 0) (wB D [(cI, .int), (cL, .long)] (va_A (wX x a b ++ wM cI a pa pe st bn hc hm C R lo ++ wM cI b pa2 pe2 st2 bn2 hc2 hm2 C2 R2 lo2 ++ wL cL o 1 ov) sz) (fun u : MS => (wX x a b ++ wM cI a pa pe st bn hc hm C R lo ++ wM cI b u.1 u.2.1 u.2.2.1 u.2.2.2.1 u.2.2.2.2.1 u.2.2.2.2.2.1 u.2.2.2.2.2.2.1 u.2.2.2.2.2.2.2.1 u.2.2.2.2.2.2.2.2 ++ wL cL o 1 ((vp_updL ov 0 ((xWTurn pa pe st C R kk) : Int32).toInt64))))) (va_A (wX x a b ++ wM cI a pa pe st bn hc hm C R lo ++ wM cI b pa2 pe2 st2 bn2 hc2 hm2 C2 R2 lo2 ++ wL cL o 1 ov) sz)) 0 0 (va_A (wX x a b ++ wM cI a pa pe st bn hc hm C R lo ++ wM cI b pa2 pe2 st2 bn2 hc2 hm2 C2 R2 lo2 ++ wL cL o 1 ov) sz) := by
  refine mW_of (K2 := fun U => KX U ∧ ZS U U.heap) (by decide) rfl (Nat.le_of_ble_eq_true rfl) ?_
  intro p e s m below meth c hx hb hr hml hown htb hts hlocks hsz hP hK hN hD hXZ hA hS ls hl
  obtain ⟨hX, hZ⟩ := hXZ
  have hown : s.vm.findClass RL = some m.cls := hown
  have hl : lv_has ls 4 [(0, .ref x), (1, .int kk), (2, .ref o)] := hl
  have hP : va_P D vwCl (wX x a b ++ wM cI a pa pe st bn hc hm C R lo ++ wM cI b pa2 pe2 st2 bn2 hc2 hm2 C2 R2 lo2 ++ wL cL o 1 ov) s.heap := hP
  refine lv_aload_n hx hb dL_wouldTurn_0 rfl (lv_at hl 2 rfl) ?_
  refine lv_iconst (v := 0) hx hb dL_wouldTurn_1 (by decide) ?_
  refine lv_aload_n hx hb dL_wouldTurn_2 rfl (lv_at hl 0 rfl) ?_
  refine lv_iload_n hx hb dL_wouldTurn_3 rfl (lv_at hl 1 rfl) ?_
  refine kQVi (As := [.int kk]) (rest := [.int 0, .ref o]) (wr := [(o, .inl (cL, 1, .inr (.inl ov)))]) (W2 := (fun u : MS => (wX x a b ++ wM cI a pa pe st bn hc hm C R lo ++ wM cI b u.1 u.2.1 u.2.2.1 u.2.2.2.1 u.2.2.2.2.1 u.2.2.2.2.2.1 u.2.2.2.2.2.2.1 u.2.2.2.2.2.2.2.1 u.2.2.2.2.2.2.2.2 ++ wL cL o 1 ov))) ⟨hx, hb, hml, hown, hts⟩ (mX1_wouldTurn l D cI x a pa pe st bn hc hm C R lo b pa2 pe2 st2 bn2 hc2 hm2 C2 R2 lo2 kk hq _) (cwV 1 hts gL_wouldTurn_X1_wouldTurn rfl rfl rfl (by decide +kernel) ⟨Nat.le_of_ble_eq_true rfl, Nat.le_of_ble_eq_true rfl⟩) hP hD hK hN hS hA [0, 1, 2, 3, 4, 5, 6, 7, 8, 9, 10, 11, 12, 13, 14] (by decide) rfl [15] (by decide) rfl (by decide) [1, 2, 3, 4, 5, 6, 7, 8, 9, 10, 11, 12, 13, 14, 15, 0] (by decide) (fun _ => rfl) [0] rfl rfl rfl rfl hl.1 rfl (Nat.le_of_ble_eq_true rfl) dL_wouldTurn_4 ⟨Nat.le_of_ble_eq_true rfl, Nat.le_of_ble_eq_true rfl⟩ (fun r_1 u_1 H locs hr_1 hP hD hS => ?_)
  subst r_1
  have hP : va_P D vwCl (wX x a b ++ wM cI a pa pe st bn hc hm C R lo ++ wM cI b u_1.1 u_1.2.1 u_1.2.2.1 u_1.2.2.2.1 u_1.2.2.2.2.1 u_1.2.2.2.2.2.1 u_1.2.2.2.2.2.2.1 u_1.2.2.2.2.2.2.2.1 u_1.2.2.2.2.2.2.2.2 ++ wL cL o 1 ov) H := hP
  have hD : va_D (va_A (wX x a b ++ wM cI a pa pe st bn hc hm C R lo ++ wM cI b pa2 pe2 st2 bn2 hc2 hm2 C2 R2 lo2 ++ wL cL o 1 ov) sz) (wX x a b ++ wM cI a pa pe st bn hc hm C R lo ++ wM cI b u_1.1 u_1.2.1 u_1.2.2.1 u_1.2.2.2.1 u_1.2.2.2.2.1 u_1.2.2.2.2.2.1 u_1.2.2.2.2.2.2.1 u_1.2.2.2.2.2.2.2.1 u_1.2.2.2.2.2.2.2.2 ++ wL cL o 1 ov) := hD
  refine lv_i2l (v := (xWTurn pa pe st C R kk : Int32).toInt64) hx hb dL_wouldTurn_7 rfl ?_
  refine va_last hx hb hK hP hD hS 15 1 rfl rfl (vp_in_nI (n := 0) (by decide) (by decide)) dL_wouldTurn_8 (fun H locs hP hD hS => ?_)
  rw [show (0 : Int32).toNatClampNeg = 0 from by decide] at hP hD
  have hP : va_P D vwCl (wX x a b ++ wM cI a pa pe st bn hc hm C R lo ++ wM cI b u_1.1 u_1.2.1 u_1.2.2.1 u_1.2.2.2.1 u_1.2.2.2.2.1 u_1.2.2.2.2.2.1 u_1.2.2.2.2.2.2.1 u_1.2.2.2.2.2.2.2.1 u_1.2.2.2.2.2.2.2.2 ++ wL cL o 1 ((vp_updL ov 0 ((xWTurn pa pe st C R kk : Int32).toInt64)))) H := hP
  have hD : va_D (va_A (wX x a b ++ wM cI a pa pe st bn hc hm C R lo ++ wM cI b pa2 pe2 st2 bn2 hc2 hm2 C2 R2 lo2 ++ wL cL o 1 ov) sz) (wX x a b ++ wM cI a pa pe st bn hc hm C R lo ++ wM cI b u_1.1 u_1.2.1 u_1.2.2.1 u_1.2.2.2.1 u_1.2.2.2.2.1 u_1.2.2.2.2.2.1 u_1.2.2.2.2.2.2.1 u_1.2.2.2.2.2.2.2.1 u_1.2.2.2.2.2.2.2.2 ++ wL cL o 1 ((vp_updL ov 0 ((xWTurn pa pe st C R kk : Int32).toInt64)))) := hD
  refine lv_goto (tgt := 15) hx hb dL_wouldTurn_9 (by decide) ?_
  refine lv_iconst (v := 0) hx hb dL_wouldTurn_15 (by decide) ?_
  exact eQi (u_1.1, u_1.2.1, u_1.2.2.1, u_1.2.2.2.1, u_1.2.2.2.2.1, u_1.2.2.2.2.2.1, u_1.2.2.2.2.2.2.1, u_1.2.2.2.2.2.2.2.1, u_1.2.2.2.2.2.2.2.2) hx hb hr hlocks hP hD hK hS dL_wouldTurn_16 (rfl)
set_option maxHeartbeats 4000000 in
set_option maxRecDepth 100000 in
theorem mL_asBeforeIn_0 (l : Launch) (D : va_G) (cI cL : ClassId) (x : Nat) (a : Nat → Nat) (pa pe st bn hc hm : Nat → Int32) (C R lo : Int32) (b : Nat → Nat) (pa2 pe2 st2 bn2 hc2 hm2 : Nat → Int32) (C2 R2 lo2 : Int32) (o : Nat) (ov : Nat → Int64) (kk : Int32) (hq : xhas C kk = true) (sz : Nat) : Met l yL_asBeforeIn wsL_asBeforeIn ({ frames := 8, cells := 0, slots := 0, locals := 133 } : Room) (va_Pc [.ref x, .int kk, .ref o] (fun U => wPQ D [(cI, .int), (cL, .long)] sz (wX x a b ++ wM cI a pa pe st bn hc hm C R lo ++ wM cI b pa2 pe2 st2 bn2 hc2 hm2 C2 R2 lo2 ++ wL cL o 1 ov) U ∧ (KX U ∧ ZS U U.heap))) (va_Qi (fun (zz : Int32) (u : MS) => zz = 0) (wB D [(cI, .int), (cL, .long)] (va_A (wX x a b ++ wM cI a pa pe st bn hc hm C R lo ++ wM cI b pa2 pe2 st2 bn2 hc2 hm2 C2 R2 lo2 ++ wL cL o 1 ov) sz) (fun u : MS => (wX x a b ++ wM cI a pa pe st bn hc hm C R lo ++ wM cI b u.1 u.2.1 u.2.2.1 u.2.2.2.1 u.2.2.2.2.1 u.2.2.2.2.2.1 u.2.2.2.2.2.2.1 u.2.2.2.2.2.2.2.1 u.2.2.2.2.2.2.2.2 ++ wL cL o 1 ((vp_updL ov 0 ((xAsb pa pe st C R kk) : Int32).toInt64))))) (va_A (wX x a b ++ wM cI a pa pe st bn hc hm C R lo ++ wM cI b pa2 pe2 st2 bn2 hc2 hm2 C2 R2 lo2 ++ wL cL o 1 ov) sz)) 0 0 (va_A (wX x a b ++ wM cI a pa pe st bn hc hm C R lo ++ wM cI b pa2 pe2 st2 bn2 hc2 hm2 C2 R2 lo2 ++ wL cL o 1 ov) sz) := by
  refine mW_of (K2 := fun U => KX U ∧ ZS U U.heap) (by decide) rfl (Nat.le_of_ble_eq_true rfl) ?_
  intro p e s m below meth c hx hb hr hml hown htb hts hlocks hsz hP hK hN hD hXZ hA hS ls hl
  obtain ⟨hX, hZ⟩ := hXZ
  have hown : s.vm.findClass RL = some m.cls := hown
  have hl : lv_has ls 4 [(0, .ref x), (1, .int kk), (2, .ref o)] := hl
  have hP : va_P D vwCl (wX x a b ++ wM cI a pa pe st bn hc hm C R lo ++ wM cI b pa2 pe2 st2 bn2 hc2 hm2 C2 R2 lo2 ++ wL cL o 1 ov) s.heap := hP
  refine lv_aload_n hx hb dL_asBeforeIn_0 rfl (lv_at hl 2 rfl) ?_
  refine lv_iconst (v := 0) hx hb dL_asBeforeIn_1 (by decide) ?_
  refine lv_aload_n hx hb dL_asBeforeIn_2 rfl (lv_at hl 0 rfl) ?_
  refine lv_iload_n hx hb dL_asBeforeIn_3 rfl (lv_at hl 1 rfl) ?_
  refine kQVi (As := [.int kk]) (rest := [.int 0, .ref o]) (wr := [(o, .inl (cL, 1, .inr (.inl ov)))]) (W2 := (fun u : MS => (wX x a b ++ wM cI a pa pe st bn hc hm C R lo ++ wM cI b u.1 u.2.1 u.2.2.1 u.2.2.2.1 u.2.2.2.2.1 u.2.2.2.2.2.1 u.2.2.2.2.2.2.1 u.2.2.2.2.2.2.2.1 u.2.2.2.2.2.2.2.2 ++ wL cL o 1 ov))) ⟨hx, hb, hml, hown, hts⟩ (mX1_asBeforeIn l D cI x a pa pe st bn hc hm C R lo b pa2 pe2 st2 bn2 hc2 hm2 C2 R2 lo2 kk hq _) (cwV 1 hts gL_asBeforeIn_X1_asBeforeIn rfl rfl rfl (by decide +kernel) ⟨Nat.le_of_ble_eq_true rfl, Nat.le_of_ble_eq_true rfl⟩) hP hD hK hN hS hA [0, 1, 2, 3, 4, 5, 6, 7, 8, 9, 10, 11, 12, 13, 14] (by decide) rfl [15] (by decide) rfl (by decide) [1, 2, 3, 4, 5, 6, 7, 8, 9, 10, 11, 12, 13, 14, 15, 0] (by decide) (fun _ => rfl) [0] rfl rfl rfl rfl hl.1 rfl (Nat.le_of_ble_eq_true rfl) dL_asBeforeIn_4 ⟨Nat.le_of_ble_eq_true rfl, Nat.le_of_ble_eq_true rfl⟩ (fun r_1 u_1 H locs hr_1 hP hD hS => ?_)
  subst r_1
  have hP : va_P D vwCl (wX x a b ++ wM cI a pa pe st bn hc hm C R lo ++ wM cI b u_1.1 u_1.2.1 u_1.2.2.1 u_1.2.2.2.1 u_1.2.2.2.2.1 u_1.2.2.2.2.2.1 u_1.2.2.2.2.2.2.1 u_1.2.2.2.2.2.2.2.1 u_1.2.2.2.2.2.2.2.2 ++ wL cL o 1 ov) H := hP
  have hD : va_D (va_A (wX x a b ++ wM cI a pa pe st bn hc hm C R lo ++ wM cI b pa2 pe2 st2 bn2 hc2 hm2 C2 R2 lo2 ++ wL cL o 1 ov) sz) (wX x a b ++ wM cI a pa pe st bn hc hm C R lo ++ wM cI b u_1.1 u_1.2.1 u_1.2.2.1 u_1.2.2.2.1 u_1.2.2.2.2.1 u_1.2.2.2.2.2.1 u_1.2.2.2.2.2.2.1 u_1.2.2.2.2.2.2.2.1 u_1.2.2.2.2.2.2.2.2 ++ wL cL o 1 ov) := hD
  refine lv_i2l (v := (xAsb pa pe st C R kk : Int32).toInt64) hx hb dL_asBeforeIn_7 rfl ?_
  refine va_last hx hb hK hP hD hS 15 1 rfl rfl (vp_in_nI (n := 0) (by decide) (by decide)) dL_asBeforeIn_8 (fun H locs hP hD hS => ?_)
  rw [show (0 : Int32).toNatClampNeg = 0 from by decide] at hP hD
  have hP : va_P D vwCl (wX x a b ++ wM cI a pa pe st bn hc hm C R lo ++ wM cI b u_1.1 u_1.2.1 u_1.2.2.1 u_1.2.2.2.1 u_1.2.2.2.2.1 u_1.2.2.2.2.2.1 u_1.2.2.2.2.2.2.1 u_1.2.2.2.2.2.2.2.1 u_1.2.2.2.2.2.2.2.2 ++ wL cL o 1 ((vp_updL ov 0 ((xAsb pa pe st C R kk : Int32).toInt64)))) H := hP
  have hD : va_D (va_A (wX x a b ++ wM cI a pa pe st bn hc hm C R lo ++ wM cI b pa2 pe2 st2 bn2 hc2 hm2 C2 R2 lo2 ++ wL cL o 1 ov) sz) (wX x a b ++ wM cI a pa pe st bn hc hm C R lo ++ wM cI b u_1.1 u_1.2.1 u_1.2.2.1 u_1.2.2.2.1 u_1.2.2.2.2.1 u_1.2.2.2.2.2.1 u_1.2.2.2.2.2.2.1 u_1.2.2.2.2.2.2.2.1 u_1.2.2.2.2.2.2.2.2 ++ wL cL o 1 ((vp_updL ov 0 ((xAsb pa pe st C R kk : Int32).toInt64)))) := hD
  refine lv_goto (tgt := 15) hx hb dL_asBeforeIn_9 (by decide) ?_
  refine lv_iconst (v := 0) hx hb dL_asBeforeIn_15 (by decide) ?_
  exact eQi (u_1.1, u_1.2.1, u_1.2.2.1, u_1.2.2.2.1, u_1.2.2.2.2.1, u_1.2.2.2.2.2.1, u_1.2.2.2.2.2.2.1, u_1.2.2.2.2.2.2.2.1, u_1.2.2.2.2.2.2.2.2) hx hb hr hlocks hP hD hK hS dL_asBeforeIn_16 (rfl)
set_option maxHeartbeats 4000000 in
set_option maxRecDepth 100000 in
theorem mL_wouldBeIn_0 (l : Launch) (D : va_G) (cI cL : ClassId) (x : Nat) (a : Nat → Nat) (pa pe st bn hc hm : Nat → Int32) (C R lo : Int32) (b : Nat → Nat) (pa2 pe2 st2 bn2 hc2 hm2 : Nat → Int32) (C2 R2 lo2 : Int32) (o : Nat) (ov : Nat → Int64) (kk rr : Int32) (hq : xhas C kk = true) (hp : xhas R rr = true) (sz : Nat) : Met l yL_wouldBeIn wsL_wouldBeIn ({ frames := 8, cells := 0, slots := 0, locals := 133 } : Room) (va_Pc [.ref x, .int kk, .int rr, .ref o] (fun U => wPQ D [(cI, .int), (cL, .long)] sz (wX x a b ++ wM cI a pa pe st bn hc hm C R lo ++ wM cI b pa2 pe2 st2 bn2 hc2 hm2 C2 R2 lo2 ++ wL cL o 1 ov) U ∧ (KX U ∧ ZS U U.heap))) (va_Qi (fun (zz : Int32) (u : MS) => zz = 0) (wB D [(cI, .int), (cL, .long)] (va_A (wX x a b ++ wM cI a pa pe st bn hc hm C R lo ++ wM cI b pa2 pe2 st2 bn2 hc2 hm2 C2 R2 lo2 ++ wL cL o 1 ov) sz) (fun u : MS => (wX x a b ++ wM cI a pa pe st bn hc hm C R lo ++ wM cI b u.1 u.2.1 u.2.2.1 u.2.2.2.1 u.2.2.2.2.1 u.2.2.2.2.2.1 u.2.2.2.2.2.2.1 u.2.2.2.2.2.2.2.1 u.2.2.2.2.2.2.2.2 ++ wL cL o 1 ((vp_updL ov 0 ((xFall pa pe st C kk rr).1 : Int32).toInt64))))) (va_A (wX x a b ++ wM cI a pa pe st bn hc hm C R lo ++ wM cI b pa2 pe2 st2 bn2 hc2 hm2 C2 R2 lo2 ++ wL cL o 1 ov) sz)) 0 0 (va_A (wX x a b ++ wM cI a pa pe st bn hc hm C R lo ++ wM cI b pa2 pe2 st2 bn2 hc2 hm2 C2 R2 lo2 ++ wL cL o 1 ov) sz) := by
  refine mW_of (K2 := fun U => KX U ∧ ZS U U.heap) (by decide) rfl (Nat.le_of_ble_eq_true rfl) ?_
  intro p e s m below meth c hx hb hr hml hown htb hts hlocks hsz hP hK hN hD hXZ hA hS ls hl
  obtain ⟨hX, hZ⟩ := hXZ
  have hown : s.vm.findClass RL = some m.cls := hown
  have hl : lv_has ls 5 [(0, .ref x), (1, .int kk), (2, .int rr), (3, .ref o)] := hl
  have hP : va_P D vwCl (wX x a b ++ wM cI a pa pe st bn hc hm C R lo ++ wM cI b pa2 pe2 st2 bn2 hc2 hm2 C2 R2 lo2 ++ wL cL o 1 ov) s.heap := hP
  refine lv_aload_n hx hb dL_wouldBeIn_0 rfl (lv_at hl 3 rfl) ?_
  refine lv_iconst (v := 0) hx hb dL_wouldBeIn_1 (by decide) ?_
  refine lv_aload_n hx hb dL_wouldBeIn_2 rfl (lv_at hl 0 rfl) ?_
  refine lv_iload_n hx hb dL_wouldBeIn_3 rfl (lv_at hl 1 rfl) ?_
  refine lv_iload_n hx hb dL_wouldBeIn_4 rfl (lv_at hl 2 rfl) ?_
  refine kQVi (As := [.int kk, .int rr]) (rest := [.int 0, .ref o]) (wr := [(o, .inl (cL, 1, .inr (.inl ov)))]) (W2 := (fun u : MS => (wX x a b ++ wM cI a pa pe st bn hc hm C R lo ++ wM cI b u.1 u.2.1 u.2.2.1 u.2.2.2.1 u.2.2.2.2.1 u.2.2.2.2.2.1 u.2.2.2.2.2.2.1 u.2.2.2.2.2.2.2.1 u.2.2.2.2.2.2.2.2 ++ wL cL o 1 ov))) ⟨hx, hb, hml, hown, hts⟩ (mX1_wouldBeIn l D cI x a pa pe st bn hc hm C R lo b pa2 pe2 st2 bn2 hc2 hm2 C2 R2 lo2 kk rr hq hp _) (cwV 2 hts gL_wouldBeIn_X1_wouldBeIn rfl rfl rfl (by decide +kernel) ⟨Nat.le_of_ble_eq_true rfl, Nat.le_of_ble_eq_true rfl⟩) hP hD hK hN hS hA [0, 1, 2, 3, 4, 5, 6, 7, 8, 9, 10, 11, 12, 13, 14] (by decide) rfl [15] (by decide) rfl (by decide) [1, 2, 3, 4, 5, 6, 7, 8, 9, 10, 11, 12, 13, 14, 15, 0] (by decide) (fun _ => rfl) [0] rfl rfl rfl rfl hl.1 rfl (Nat.le_of_ble_eq_true rfl) dL_wouldBeIn_5 ⟨Nat.le_of_ble_eq_true rfl, Nat.le_of_ble_eq_true rfl⟩ (fun r_1 u_1 H locs hr_1 hP hD hS => ?_)
  subst r_1
  have hP : va_P D vwCl (wX x a b ++ wM cI a pa pe st bn hc hm C R lo ++ wM cI b u_1.1 u_1.2.1 u_1.2.2.1 u_1.2.2.2.1 u_1.2.2.2.2.1 u_1.2.2.2.2.2.1 u_1.2.2.2.2.2.2.1 u_1.2.2.2.2.2.2.2.1 u_1.2.2.2.2.2.2.2.2 ++ wL cL o 1 ov) H := hP
  have hD : va_D (va_A (wX x a b ++ wM cI a pa pe st bn hc hm C R lo ++ wM cI b pa2 pe2 st2 bn2 hc2 hm2 C2 R2 lo2 ++ wL cL o 1 ov) sz) (wX x a b ++ wM cI a pa pe st bn hc hm C R lo ++ wM cI b u_1.1 u_1.2.1 u_1.2.2.1 u_1.2.2.2.1 u_1.2.2.2.2.1 u_1.2.2.2.2.2.1 u_1.2.2.2.2.2.2.1 u_1.2.2.2.2.2.2.2.1 u_1.2.2.2.2.2.2.2.2 ++ wL cL o 1 ov) := hD
  refine lv_i2l (v := ((xFall pa pe st C kk rr).1 : Int32).toInt64) hx hb dL_wouldBeIn_8 rfl ?_
  refine va_last hx hb hK hP hD hS 15 1 rfl rfl (vp_in_nI (n := 0) (by decide) (by decide)) dL_wouldBeIn_9 (fun H locs hP hD hS => ?_)
  rw [show (0 : Int32).toNatClampNeg = 0 from by decide] at hP hD
  have hP : va_P D vwCl (wX x a b ++ wM cI a pa pe st bn hc hm C R lo ++ wM cI b u_1.1 u_1.2.1 u_1.2.2.1 u_1.2.2.2.1 u_1.2.2.2.2.1 u_1.2.2.2.2.2.1 u_1.2.2.2.2.2.2.1 u_1.2.2.2.2.2.2.2.1 u_1.2.2.2.2.2.2.2.2 ++ wL cL o 1 ((vp_updL ov 0 (((xFall pa pe st C kk rr).1 : Int32).toInt64)))) H := hP
  have hD : va_D (va_A (wX x a b ++ wM cI a pa pe st bn hc hm C R lo ++ wM cI b pa2 pe2 st2 bn2 hc2 hm2 C2 R2 lo2 ++ wL cL o 1 ov) sz) (wX x a b ++ wM cI a pa pe st bn hc hm C R lo ++ wM cI b u_1.1 u_1.2.1 u_1.2.2.1 u_1.2.2.2.1 u_1.2.2.2.2.1 u_1.2.2.2.2.2.1 u_1.2.2.2.2.2.2.1 u_1.2.2.2.2.2.2.2.1 u_1.2.2.2.2.2.2.2.2 ++ wL cL o 1 ((vp_updL ov 0 (((xFall pa pe st C kk rr).1 : Int32).toInt64)))) := hD
  refine lv_goto (tgt := 17) hx hb dL_wouldBeIn_10 (by decide) ?_
  refine lv_iconst (v := 0) hx hb dL_wouldBeIn_17 (by decide) ?_
  exact eQi (u_1.1, u_1.2.1, u_1.2.2.1, u_1.2.2.2.1, u_1.2.2.2.2.1, u_1.2.2.2.2.2.1, u_1.2.2.2.2.2.2.1, u_1.2.2.2.2.2.2.2.1, u_1.2.2.2.2.2.2.2.2) hx hb hr hlocks hP hD hK hS dL_wouldBeIn_18 (rfl)
set_option maxHeartbeats 4000000 in
set_option maxRecDepth 100000 in
theorem mL_wouldBeIn_c (l : Launch) (hst : l.stackTraces = false) (D : va_G) (cI cL : ClassId) (x : Nat) (a : Nat → Nat) (pa pe st bn hc hm : Nat → Int32) (C R lo : Int32) (b : Nat → Nat) (pa2 pe2 st2 bn2 hc2 hm2 : Nat → Int32) (C2 R2 lo2 : Int32) (o : Nat) (ov : Nat → Int64) (kk rr : Int32) (hq : xhas C kk = false) (sz : Nat) : Met l yL_wouldBeIn wsL_wouldBeIn ({ frames := 8, cells := 1, slots := 6, locals := 133 } : Room) (va_Pc [.ref x, .int kk, .int rr, .ref o] (fun U => wPQ D [(cI, .int), (cL, .long)] sz (wX x a b ++ wM cI a pa pe st bn hc hm C R lo ++ wM cI b pa2 pe2 st2 bn2 hc2 hm2 C2 R2 lo2 ++ wL cL o 1 ov) U ∧ (KX U ∧ ZS U U.heap))) (va_Qi (fun (zz : Int32) (_ : Unit) => zz = 1) (wB D [(cI, .int), (cL, .long)] (va_A (wX x a b ++ wM cI a pa pe st bn hc hm C R lo ++ wM cI b pa2 pe2 st2 bn2 hc2 hm2 C2 R2 lo2 ++ wL cL o 1 ov) sz) (fun _ : Unit => (wX x a b ++ wM cI a pa pe st bn hc hm C R lo ++ wM cI b pa2 pe2 st2 bn2 hc2 hm2 C2 R2 lo2 ++ wL cL o 1 ov))) (va_A (wX x a b ++ wM cI a pa pe st bn hc hm C R lo ++ wM cI b pa2 pe2 st2 bn2 hc2 hm2 C2 R2 lo2 ++ wL cL o 1 ov) sz)) 1 6 (va_A (wX x a b ++ wM cI a pa pe st bn hc hm C R lo ++ wM cI b pa2 pe2 st2 bn2 hc2 hm2 C2 R2 lo2 ++ wL cL o 1 ov) sz) := by
  refine mW_of (K2 := fun U => KX U ∧ ZS U U.heap) (by decide) rfl (Nat.le_of_ble_eq_true rfl) ?_
  intro p e s m below meth c hx hb hr hml hown htb hts hlocks hsz hP hK hN hD hXZ hA hS ls hl
  obtain ⟨hX, hZ⟩ := hXZ
  have hown : s.vm.findClass RL = some m.cls := hown
  have hl : lv_has ls 5 [(0, .ref x), (1, .int kk), (2, .int rr), (3, .ref o)] := hl
  have hP : va_P D vwCl (wX x a b ++ wM cI a pa pe st bn hc hm C R lo ++ wM cI b pa2 pe2 st2 bn2 hc2 hm2 C2 R2 lo2 ++ wL cL o 1 ov) s.heap := hP
  refine lv_aload_n hx hb dL_wouldBeIn_0 rfl (lv_at hl 3 rfl) ?_
  refine lv_iconst (v := 0) hx hb dL_wouldBeIn_1 (by decide) ?_
  refine lv_aload_n hx hb dL_wouldBeIn_2 rfl (lv_at hl 0 rfl) ?_
  refine lv_iload_n hx hb dL_wouldBeIn_3 rfl (lv_at hl 1 rfl) ?_
  refine lv_iload_n hx hb dL_wouldBeIn_4 rfl (lv_at hl 2 rfl) ?_
  refine kXVc (As := [.int kk, .int rr]) (rest := [.int 0, .ref o]) (name := eIO) ⟨hx, hb, hml, hown, hts⟩ (tX1_wouldBeIn_c l hst D cI x b a pa pe st bn hc hm C R lo kk rr hq) (cwV 2 hts gL_wouldBeIn_X1_wouldBeIn rfl rfl rfl (by decide +kernel) ⟨Nat.le_of_ble_eq_true rfl, Nat.le_of_ble_eq_true rfl⟩) hP hK hN hX hZ hS [0, 1, 2, 3, 4, 5, 6, 7] rfl [0] rfl rfl rfl rfl hl.1 rfl (Nat.le_of_ble_eq_true rfl) dL_wouldBeIn_5 ⟨Nat.le_of_ble_eq_true rfl, Nat.le_of_ble_eq_true rfl⟩ [] ⟨0, 10, 13, 19⟩ [] htb (fun z hz => absurd hz List.not_mem_nil) (by decide) (by decide) (hts (.classLink RL 19 eIO) (mg 1 rfl)) hX.2.2.2.2.2.1 (fun q9 H locs hP hS => ?_)
  have hP : va_P D vwCl (wX x a b ++ wM cI a pa pe st bn hc hm C R lo ++ wM cI b pa2 pe2 st2 bn2 hc2 hm2 C2 R2 lo2 ++ wL cL o 1 ov) H := hP
  refine lv_astore (lv' := [(4, .ref q9), (0, .ref x), (1, .int kk), (2, .int rr), (3, .ref o)]) hx hb dL_wouldBeIn_13 hl (by decide) rfl (fun ls hl => ?_)
  refine lv_iconst (v := 1) hx hb dL_wouldBeIn_15 (by decide) ?_
  refine W.widen (k := 1) (n := 6) (by omega) (by omega) ?_
  exact eQi () hx hb hr hlocks hP hD hK hS dL_wouldBeIn_16 (rfl)
set_option maxHeartbeats 4000000 in
set_option maxRecDepth 100000 in
theorem mL_wouldBeIn_r (l : Launch) (hst : l.stackTraces = false) (D : va_G) (cI cL : ClassId) (x : Nat) (a : Nat → Nat) (pa pe st bn hc hm : Nat → Int32) (C R lo : Int32) (b : Nat → Nat) (pa2 pe2 st2 bn2 hc2 hm2 : Nat → Int32) (C2 R2 lo2 : Int32) (o : Nat) (ov : Nat → Int64) (kk rr : Int32) (hq : xhas C kk = true) (hp : xhas R rr = false) (sz : Nat) : Met l yL_wouldBeIn wsL_wouldBeIn ({ frames := 8, cells := 1, slots := 6, locals := 133 } : Room) (va_Pc [.ref x, .int kk, .int rr, .ref o] (fun U => wPQ D [(cI, .int), (cL, .long)] sz (wX x a b ++ wM cI a pa pe st bn hc hm C R lo ++ wM cI b pa2 pe2 st2 bn2 hc2 hm2 C2 R2 lo2 ++ wL cL o 1 ov) U ∧ (KX U ∧ ZS U U.heap))) (va_Qi (fun (zz : Int32) (_ : Unit) => zz = 1) (wB D [(cI, .int), (cL, .long)] (va_A (wX x a b ++ wM cI a pa pe st bn hc hm C R lo ++ wM cI b pa2 pe2 st2 bn2 hc2 hm2 C2 R2 lo2 ++ wL cL o 1 ov) sz) (fun _ : Unit => (wX x a b ++ wM cI a pa pe st bn hc hm C R lo ++ wM cI b pa2 pe2 st2 bn2 hc2 hm2 C2 R2 lo2 ++ wL cL o 1 ov))) (va_A (wX x a b ++ wM cI a pa pe st bn hc hm C R lo ++ wM cI b pa2 pe2 st2 bn2 hc2 hm2 C2 R2 lo2 ++ wL cL o 1 ov) sz)) 1 6 (va_A (wX x a b ++ wM cI a pa pe st bn hc hm C R lo ++ wM cI b pa2 pe2 st2 bn2 hc2 hm2 C2 R2 lo2 ++ wL cL o 1 ov) sz) := by
  refine mW_of (K2 := fun U => KX U ∧ ZS U U.heap) (by decide) rfl (Nat.le_of_ble_eq_true rfl) ?_
  intro p e s m below meth c hx hb hr hml hown htb hts hlocks hsz hP hK hN hD hXZ hA hS ls hl
  obtain ⟨hX, hZ⟩ := hXZ
  have hown : s.vm.findClass RL = some m.cls := hown
  have hl : lv_has ls 5 [(0, .ref x), (1, .int kk), (2, .int rr), (3, .ref o)] := hl
  have hP : va_P D vwCl (wX x a b ++ wM cI a pa pe st bn hc hm C R lo ++ wM cI b pa2 pe2 st2 bn2 hc2 hm2 C2 R2 lo2 ++ wL cL o 1 ov) s.heap := hP
  refine lv_aload_n hx hb dL_wouldBeIn_0 rfl (lv_at hl 3 rfl) ?_
  refine lv_iconst (v := 0) hx hb dL_wouldBeIn_1 (by decide) ?_
  refine lv_aload_n hx hb dL_wouldBeIn_2 rfl (lv_at hl 0 rfl) ?_
  refine lv_iload_n hx hb dL_wouldBeIn_3 rfl (lv_at hl 1 rfl) ?_
  refine lv_iload_n hx hb dL_wouldBeIn_4 rfl (lv_at hl 2 rfl) ?_
  refine kXVc (As := [.int kk, .int rr]) (rest := [.int 0, .ref o]) (name := eIO) ⟨hx, hb, hml, hown, hts⟩ (tX1_wouldBeIn_r l hst D cI x b a pa pe st bn hc hm C R lo kk rr hq hp) (cwV 2 hts gL_wouldBeIn_X1_wouldBeIn rfl rfl rfl (by decide +kernel) ⟨Nat.le_of_ble_eq_true rfl, Nat.le_of_ble_eq_true rfl⟩) hP hK hN hX hZ hS [0, 1, 2, 3, 4, 5, 6, 7] rfl [0] rfl rfl rfl rfl hl.1 rfl (Nat.le_of_ble_eq_true rfl) dL_wouldBeIn_5 ⟨Nat.le_of_ble_eq_true rfl, Nat.le_of_ble_eq_true rfl⟩ [] ⟨0, 10, 13, 19⟩ [] htb (fun z hz => absurd hz List.not_mem_nil) (by decide) (by decide) (hts (.classLink RL 19 eIO) (mg 1 rfl)) hX.2.2.2.2.2.1 (fun q9 H locs hP hS => ?_)
  have hP : va_P D vwCl (wX x a b ++ wM cI a pa pe st bn hc hm C R lo ++ wM cI b pa2 pe2 st2 bn2 hc2 hm2 C2 R2 lo2 ++ wL cL o 1 ov) H := hP
  refine lv_astore (lv' := [(4, .ref q9), (0, .ref x), (1, .int kk), (2, .int rr), (3, .ref o)]) hx hb dL_wouldBeIn_13 hl (by decide) rfl (fun ls hl => ?_)
  refine lv_iconst (v := 1) hx hb dL_wouldBeIn_15 (by decide) ?_
  refine W.widen (k := 1) (n := 6) (by omega) (by omega) ?_
  exact eQi () hx hb hr hlocks hP hD hK hS dL_wouldBeIn_16 (rfl)
set_option maxHeartbeats 4000000 in
set_option maxRecDepth 100000 in
theorem mL_drop_c (l : Launch) (hst : l.stackTraces = false) (D : va_G) (cI cL : ClassId) (x : Nat) (a : Nat → Nat) (pa pe st bn hc hm : Nat → Int32) (C R lo : Int32) (b : Nat → Nat) (pa2 pe2 st2 bn2 hc2 hm2 : Nat → Int32) (C2 R2 lo2 : Int32) (o : Nat) (ov : Nat → Int64) (kk : Int32) (hq : xhas C kk = false) (sz : Nat) : Met l yL_drop wsL_drop ({ frames := 8, cells := 1, slots := 6, locals := 132 } : Room) (va_Pc [.ref x, .int kk, .ref o] (fun U => wPQ D [(cI, .int), (cL, .long)] sz (wX x a b ++ wM cI a pa pe st bn hc hm C R lo ++ wM cI b pa2 pe2 st2 bn2 hc2 hm2 C2 R2 lo2 ++ wL cL o 1 ov) U ∧ (KX U ∧ ZS U U.heap))) (va_Qi (fun (zz : Int32) (_ : Unit) => zz = 1) (wB D [(cI, .int), (cL, .long)] (va_A (wX x a b ++ wM cI a pa pe st bn hc hm C R lo ++ wM cI b pa2 pe2 st2 bn2 hc2 hm2 C2 R2 lo2 ++ wL cL o 1 ov) sz) (fun _ : Unit => (wX x a b ++ wM cI a pa pe st bn hc hm C R lo ++ wM cI b pa2 pe2 st2 bn2 hc2 hm2 C2 R2 lo2 ++ wL cL o 1 ov))) (va_A (wX x a b ++ wM cI a pa pe st bn hc hm C R lo ++ wM cI b pa2 pe2 st2 bn2 hc2 hm2 C2 R2 lo2 ++ wL cL o 1 ov) sz)) 1 6 (va_A (wX x a b ++ wM cI a pa pe st bn hc hm C R lo ++ wM cI b pa2 pe2 st2 bn2 hc2 hm2 C2 R2 lo2 ++ wL cL o 1 ov) sz) := by
  refine mW_of (K2 := fun U => KX U ∧ ZS U U.heap) (by decide) rfl (Nat.le_of_ble_eq_true rfl) ?_
  intro p e s m below meth c hx hb hr hml hown htb hts hlocks hsz hP hK hN hD hXZ hA hS ls hl
  obtain ⟨hX, hZ⟩ := hXZ
  have hown : s.vm.findClass RL = some m.cls := hown
  have hl : lv_has ls 4 [(0, .ref x), (1, .int kk), (2, .ref o)] := hl
  have hP : va_P D vwCl (wX x a b ++ wM cI a pa pe st bn hc hm C R lo ++ wM cI b pa2 pe2 st2 bn2 hc2 hm2 C2 R2 lo2 ++ wL cL o 1 ov) s.heap := hP
  refine lv_aload_n hx hb dL_drop_0 rfl (lv_at hl 2 rfl) ?_
  refine lv_iconst (v := 0) hx hb dL_drop_1 (by decide) ?_
  refine lv_aload_n hx hb dL_drop_2 rfl (lv_at hl 0 rfl) ?_
  refine lv_iload_n hx hb dL_drop_3 rfl (lv_at hl 1 rfl) ?_
  refine kXVc (As := [.int kk]) (rest := [.int 0, .ref o]) (name := eIO) ⟨hx, hb, hml, hown, hts⟩ (tX1_drop_c l hst D cI x b a pa pe st bn hc hm C R lo kk hq) (cwV 1 hts gL_drop_X1_drop rfl rfl rfl (by decide +kernel) ⟨Nat.le_of_ble_eq_true rfl, Nat.le_of_ble_eq_true rfl⟩) hP hK hN hX hZ hS [0, 1, 2, 3, 4, 5, 6, 7] rfl [0] rfl rfl rfl rfl hl.1 rfl (Nat.le_of_ble_eq_true rfl) dL_drop_4 ⟨Nat.le_of_ble_eq_true rfl, Nat.le_of_ble_eq_true rfl⟩ [] ⟨0, 9, 12, 19⟩ [] htb (fun z hz => absurd hz List.not_mem_nil) (by decide) (by decide) (hts (.classLink RL 19 eIO) (mg 1 rfl)) hX.2.2.2.2.2.1 (fun q9 H locs hP hS => ?_)
  have hP : va_P D vwCl (wX x a b ++ wM cI a pa pe st bn hc hm C R lo ++ wM cI b pa2 pe2 st2 bn2 hc2 hm2 C2 R2 lo2 ++ wL cL o 1 ov) H := hP
  refine lv_astore_n (lv' := [(3, .ref q9), (0, .ref x), (1, .int kk), (2, .ref o)]) hx hb dL_drop_12 rfl hl (by decide) rfl (fun ls hl => ?_)
  refine lv_iconst (v := 1) hx hb dL_drop_13 (by decide) ?_
  refine W.widen (k := 1) (n := 6) (by omega) (by omega) ?_
  exact eQi () hx hb hr hlocks hP hD hK hS dL_drop_14 (rfl)
set_option maxHeartbeats 4000000 in
set_option maxRecDepth 100000 in
theorem mL_binOf_c (l : Launch) (hst : l.stackTraces = false) (D : va_G) (cI cL : ClassId) (x : Nat) (a : Nat → Nat) (pa pe st bn hc hm : Nat → Int32) (C R lo : Int32) (b : Nat → Nat) (pa2 pe2 st2 bn2 hc2 hm2 : Nat → Int32) (C2 R2 lo2 : Int32) (o : Nat) (ov : Nat → Int64) (kk : Int32) (hq : xhas C kk = false) (sz : Nat) : Met l yL_binOf wsL_binOf ({ frames := 8, cells := 1, slots := 6, locals := 132 } : Room) (va_Pc [.ref x, .int kk, .ref o] (fun U => wPQ D [(cI, .int), (cL, .long)] sz (wX x a b ++ wM cI a pa pe st bn hc hm C R lo ++ wM cI b pa2 pe2 st2 bn2 hc2 hm2 C2 R2 lo2 ++ wL cL o 1 ov) U ∧ (KX U ∧ ZS U U.heap))) (va_Qi (fun (zz : Int32) (_ : Unit) => zz = 1) (wB D [(cI, .int), (cL, .long)] (va_A (wX x a b ++ wM cI a pa pe st bn hc hm C R lo ++ wM cI b pa2 pe2 st2 bn2 hc2 hm2 C2 R2 lo2 ++ wL cL o 1 ov) sz) (fun _ : Unit => (wX x a b ++ wM cI a pa pe st bn hc hm C R lo ++ wM cI b pa2 pe2 st2 bn2 hc2 hm2 C2 R2 lo2 ++ wL cL o 1 ov))) (va_A (wX x a b ++ wM cI a pa pe st bn hc hm C R lo ++ wM cI b pa2 pe2 st2 bn2 hc2 hm2 C2 R2 lo2 ++ wL cL o 1 ov) sz)) 1 6 (va_A (wX x a b ++ wM cI a pa pe st bn hc hm C R lo ++ wM cI b pa2 pe2 st2 bn2 hc2 hm2 C2 R2 lo2 ++ wL cL o 1 ov) sz) := by
  refine mW_of (K2 := fun U => KX U ∧ ZS U U.heap) (by decide) rfl (Nat.le_of_ble_eq_true rfl) ?_
  intro p e s m below meth c hx hb hr hml hown htb hts hlocks hsz hP hK hN hD hXZ hA hS ls hl
  obtain ⟨hX, hZ⟩ := hXZ
  have hown : s.vm.findClass RL = some m.cls := hown
  have hl : lv_has ls 4 [(0, .ref x), (1, .int kk), (2, .ref o)] := hl
  have hP : va_P D vwCl (wX x a b ++ wM cI a pa pe st bn hc hm C R lo ++ wM cI b pa2 pe2 st2 bn2 hc2 hm2 C2 R2 lo2 ++ wL cL o 1 ov) s.heap := hP
  refine lv_aload_n hx hb dL_binOf_0 rfl (lv_at hl 2 rfl) ?_
  refine lv_iconst (v := 0) hx hb dL_binOf_1 (by decide) ?_
  refine lv_aload_n hx hb dL_binOf_2 rfl (lv_at hl 0 rfl) ?_
  refine lv_iload_n hx hb dL_binOf_3 rfl (lv_at hl 1 rfl) ?_
  refine kXVc (As := [.int kk]) (rest := [.int 0, .ref o]) (name := eIO) ⟨hx, hb, hml, hown, hts⟩ (tX1_binOf_c l hst D cI x b a pa pe st bn hc hm C R lo kk hq) (cwV 1 hts gL_binOf_X1_binOf rfl rfl rfl (by decide +kernel) ⟨Nat.le_of_ble_eq_true rfl, Nat.le_of_ble_eq_true rfl⟩) hP hK hN hX hZ hS [0, 1, 2, 3, 4, 5, 6, 7] rfl [0] rfl rfl rfl rfl hl.1 rfl (Nat.le_of_ble_eq_true rfl) dL_binOf_4 ⟨Nat.le_of_ble_eq_true rfl, Nat.le_of_ble_eq_true rfl⟩ [] ⟨0, 9, 12, 19⟩ [] htb (fun z hz => absurd hz List.not_mem_nil) (by decide) (by decide) (hts (.classLink RL 19 eIO) (mg 1 rfl)) hX.2.2.2.2.2.1 (fun q9 H locs hP hS => ?_)
  have hP : va_P D vwCl (wX x a b ++ wM cI a pa pe st bn hc hm C R lo ++ wM cI b pa2 pe2 st2 bn2 hc2 hm2 C2 R2 lo2 ++ wL cL o 1 ov) H := hP
  refine lv_astore_n (lv' := [(3, .ref q9), (0, .ref x), (1, .int kk), (2, .ref o)]) hx hb dL_binOf_12 rfl hl (by decide) rfl (fun ls hl => ?_)
  refine lv_iconst (v := 1) hx hb dL_binOf_13 (by decide) ?_
  refine W.widen (k := 1) (n := 6) (by omega) (by omega) ?_
  exact eQi () hx hb hr hlocks hP hD hK hS dL_binOf_14 (rfl)
set_option maxHeartbeats 4000000 in
set_option maxRecDepth 100000 in
theorem mL_wouldLand_c (l : Launch) (hst : l.stackTraces = false) (D : va_G) (cI cL : ClassId) (x : Nat) (a : Nat → Nat) (pa pe st bn hc hm : Nat → Int32) (C R lo : Int32) (b : Nat → Nat) (pa2 pe2 st2 bn2 hc2 hm2 : Nat → Int32) (C2 R2 lo2 : Int32) (o : Nat) (ov : Nat → Int64) (kk : Int32) (hq : xhas C kk = false) (sz : Nat) : Met l yL_wouldLand wsL_wouldLand ({ frames := 8, cells := 1, slots := 6, locals := 132 } : Room) (va_Pc [.ref x, .int kk, .ref o] (fun U => wPQ D [(cI, .int), (cL, .long)] sz (wX x a b ++ wM cI a pa pe st bn hc hm C R lo ++ wM cI b pa2 pe2 st2 bn2 hc2 hm2 C2 R2 lo2 ++ wL cL o 1 ov) U ∧ (KX U ∧ ZS U U.heap))) (va_Qi (fun (zz : Int32) (_ : Unit) => zz = 1) (wB D [(cI, .int), (cL, .long)] (va_A (wX x a b ++ wM cI a pa pe st bn hc hm C R lo ++ wM cI b pa2 pe2 st2 bn2 hc2 hm2 C2 R2 lo2 ++ wL cL o 1 ov) sz) (fun _ : Unit => (wX x a b ++ wM cI a pa pe st bn hc hm C R lo ++ wM cI b pa2 pe2 st2 bn2 hc2 hm2 C2 R2 lo2 ++ wL cL o 1 ov))) (va_A (wX x a b ++ wM cI a pa pe st bn hc hm C R lo ++ wM cI b pa2 pe2 st2 bn2 hc2 hm2 C2 R2 lo2 ++ wL cL o 1 ov) sz)) 1 6 (va_A (wX x a b ++ wM cI a pa pe st bn hc hm C R lo ++ wM cI b pa2 pe2 st2 bn2 hc2 hm2 C2 R2 lo2 ++ wL cL o 1 ov) sz) := by
  refine mW_of (K2 := fun U => KX U ∧ ZS U U.heap) (by decide) rfl (Nat.le_of_ble_eq_true rfl) ?_
  intro p e s m below meth c hx hb hr hml hown htb hts hlocks hsz hP hK hN hD hXZ hA hS ls hl
  obtain ⟨hX, hZ⟩ := hXZ
  have hown : s.vm.findClass RL = some m.cls := hown
  have hl : lv_has ls 4 [(0, .ref x), (1, .int kk), (2, .ref o)] := hl
  have hP : va_P D vwCl (wX x a b ++ wM cI a pa pe st bn hc hm C R lo ++ wM cI b pa2 pe2 st2 bn2 hc2 hm2 C2 R2 lo2 ++ wL cL o 1 ov) s.heap := hP
  refine lv_aload_n hx hb dL_wouldLand_0 rfl (lv_at hl 2 rfl) ?_
  refine lv_iconst (v := 0) hx hb dL_wouldLand_1 (by decide) ?_
  refine lv_aload_n hx hb dL_wouldLand_2 rfl (lv_at hl 0 rfl) ?_
  refine lv_iload_n hx hb dL_wouldLand_3 rfl (lv_at hl 1 rfl) ?_
  refine kXVc (As := [.int kk]) (rest := [.int 0, .ref o]) (name := eIO) ⟨hx, hb, hml, hown, hts⟩ (tX1_wouldLand_c l hst D cI x b a pa pe st bn hc hm C R lo kk hq) (cwV 1 hts gL_wouldLand_X1_wouldLand rfl rfl rfl (by decide +kernel) ⟨Nat.le_of_ble_eq_true rfl, Nat.le_of_ble_eq_true rfl⟩) hP hK hN hX hZ hS [0, 1, 2, 3, 4, 5, 6, 7] rfl [0] rfl rfl rfl rfl hl.1 rfl (Nat.le_of_ble_eq_true rfl) dL_wouldLand_4 ⟨Nat.le_of_ble_eq_true rfl, Nat.le_of_ble_eq_true rfl⟩ [] ⟨0, 9, 12, 19⟩ [] htb (fun z hz => absurd hz List.not_mem_nil) (by decide) (by decide) (hts (.classLink RL 19 eIO) (mg 1 rfl)) hX.2.2.2.2.2.1 (fun q9 H locs hP hS => ?_)
  have hP : va_P D vwCl (wX x a b ++ wM cI a pa pe st bn hc hm C R lo ++ wM cI b pa2 pe2 st2 bn2 hc2 hm2 C2 R2 lo2 ++ wL cL o 1 ov) H := hP
  refine lv_astore_n (lv' := [(3, .ref q9), (0, .ref x), (1, .int kk), (2, .ref o)]) hx hb dL_wouldLand_12 rfl hl (by decide) rfl (fun ls hl => ?_)
  refine lv_iconst (v := 1) hx hb dL_wouldLand_13 (by decide) ?_
  refine W.widen (k := 1) (n := 6) (by omega) (by omega) ?_
  exact eQi () hx hb hr hlocks hP hD hK hS dL_wouldLand_14 (rfl)
set_option maxHeartbeats 4000000 in
set_option maxRecDepth 100000 in
theorem mL_wouldTurn_c (l : Launch) (hst : l.stackTraces = false) (D : va_G) (cI cL : ClassId) (x : Nat) (a : Nat → Nat) (pa pe st bn hc hm : Nat → Int32) (C R lo : Int32) (b : Nat → Nat) (pa2 pe2 st2 bn2 hc2 hm2 : Nat → Int32) (C2 R2 lo2 : Int32) (o : Nat) (ov : Nat → Int64) (kk : Int32) (hq : xhas C kk = false) (sz : Nat) : Met l yL_wouldTurn wsL_wouldTurn ({ frames := 8, cells := 1, slots := 6, locals := 132 } : Room) (va_Pc [.ref x, .int kk, .ref o] (fun U => wPQ D [(cI, .int), (cL, .long)] sz (wX x a b ++ wM cI a pa pe st bn hc hm C R lo ++ wM cI b pa2 pe2 st2 bn2 hc2 hm2 C2 R2 lo2 ++ wL cL o 1 ov) U ∧ (KX U ∧ ZS U U.heap))) (va_Qi (fun (zz : Int32) (_ : Unit) => zz = 1) (wB D [(cI, .int), (cL, .long)] (va_A (wX x a b ++ wM cI a pa pe st bn hc hm C R lo ++ wM cI b pa2 pe2 st2 bn2 hc2 hm2 C2 R2 lo2 ++ wL cL o 1 ov) sz) (fun _ : Unit => (wX x a b ++ wM cI a pa pe st bn hc hm C R lo ++ wM cI b pa2 pe2 st2 bn2 hc2 hm2 C2 R2 lo2 ++ wL cL o 1 ov))) (va_A (wX x a b ++ wM cI a pa pe st bn hc hm C R lo ++ wM cI b pa2 pe2 st2 bn2 hc2 hm2 C2 R2 lo2 ++ wL cL o 1 ov) sz)) 1 6 (va_A (wX x a b ++ wM cI a pa pe st bn hc hm C R lo ++ wM cI b pa2 pe2 st2 bn2 hc2 hm2 C2 R2 lo2 ++ wL cL o 1 ov) sz) := by
  refine mW_of (K2 := fun U => KX U ∧ ZS U U.heap) (by decide) rfl (Nat.le_of_ble_eq_true rfl) ?_
  intro p e s m below meth c hx hb hr hml hown htb hts hlocks hsz hP hK hN hD hXZ hA hS ls hl
  obtain ⟨hX, hZ⟩ := hXZ
  have hown : s.vm.findClass RL = some m.cls := hown
  have hl : lv_has ls 4 [(0, .ref x), (1, .int kk), (2, .ref o)] := hl
  have hP : va_P D vwCl (wX x a b ++ wM cI a pa pe st bn hc hm C R lo ++ wM cI b pa2 pe2 st2 bn2 hc2 hm2 C2 R2 lo2 ++ wL cL o 1 ov) s.heap := hP
  refine lv_aload_n hx hb dL_wouldTurn_0 rfl (lv_at hl 2 rfl) ?_
  refine lv_iconst (v := 0) hx hb dL_wouldTurn_1 (by decide) ?_
  refine lv_aload_n hx hb dL_wouldTurn_2 rfl (lv_at hl 0 rfl) ?_
  refine lv_iload_n hx hb dL_wouldTurn_3 rfl (lv_at hl 1 rfl) ?_
  refine kXVc (As := [.int kk]) (rest := [.int 0, .ref o]) (name := eIO) ⟨hx, hb, hml, hown, hts⟩ (tX1_wouldTurn_c l hst D cI x b a pa pe st bn hc hm C R lo kk hq) (cwV 1 hts gL_wouldTurn_X1_wouldTurn rfl rfl rfl (by decide +kernel) ⟨Nat.le_of_ble_eq_true rfl, Nat.le_of_ble_eq_true rfl⟩) hP hK hN hX hZ hS [0, 1, 2, 3, 4, 5, 6, 7] rfl [0] rfl rfl rfl rfl hl.1 rfl (Nat.le_of_ble_eq_true rfl) dL_wouldTurn_4 ⟨Nat.le_of_ble_eq_true rfl, Nat.le_of_ble_eq_true rfl⟩ [] ⟨0, 9, 12, 19⟩ [] htb (fun z hz => absurd hz List.not_mem_nil) (by decide) (by decide) (hts (.classLink RL 19 eIO) (mg 1 rfl)) hX.2.2.2.2.2.1 (fun q9 H locs hP hS => ?_)
  have hP : va_P D vwCl (wX x a b ++ wM cI a pa pe st bn hc hm C R lo ++ wM cI b pa2 pe2 st2 bn2 hc2 hm2 C2 R2 lo2 ++ wL cL o 1 ov) H := hP
  refine lv_astore_n (lv' := [(3, .ref q9), (0, .ref x), (1, .int kk), (2, .ref o)]) hx hb dL_wouldTurn_12 rfl hl (by decide) rfl (fun ls hl => ?_)
  refine lv_iconst (v := 1) hx hb dL_wouldTurn_13 (by decide) ?_
  refine W.widen (k := 1) (n := 6) (by omega) (by omega) ?_
  exact eQi () hx hb hr hlocks hP hD hK hS dL_wouldTurn_14 (rfl)
set_option maxHeartbeats 4000000 in
set_option maxRecDepth 100000 in
theorem mL_asBeforeIn_c (l : Launch) (hst : l.stackTraces = false) (D : va_G) (cI cL : ClassId) (x : Nat) (a : Nat → Nat) (pa pe st bn hc hm : Nat → Int32) (C R lo : Int32) (b : Nat → Nat) (pa2 pe2 st2 bn2 hc2 hm2 : Nat → Int32) (C2 R2 lo2 : Int32) (o : Nat) (ov : Nat → Int64) (kk : Int32) (hq : xhas C kk = false) (sz : Nat) : Met l yL_asBeforeIn wsL_asBeforeIn ({ frames := 8, cells := 1, slots := 6, locals := 133 } : Room) (va_Pc [.ref x, .int kk, .ref o] (fun U => wPQ D [(cI, .int), (cL, .long)] sz (wX x a b ++ wM cI a pa pe st bn hc hm C R lo ++ wM cI b pa2 pe2 st2 bn2 hc2 hm2 C2 R2 lo2 ++ wL cL o 1 ov) U ∧ (KX U ∧ ZS U U.heap))) (va_Qi (fun (zz : Int32) (_ : Unit) => zz = 1) (wB D [(cI, .int), (cL, .long)] (va_A (wX x a b ++ wM cI a pa pe st bn hc hm C R lo ++ wM cI b pa2 pe2 st2 bn2 hc2 hm2 C2 R2 lo2 ++ wL cL o 1 ov) sz) (fun _ : Unit => (wX x a b ++ wM cI a pa pe st bn hc hm C R lo ++ wM cI b pa2 pe2 st2 bn2 hc2 hm2 C2 R2 lo2 ++ wL cL o 1 ov))) (va_A (wX x a b ++ wM cI a pa pe st bn hc hm C R lo ++ wM cI b pa2 pe2 st2 bn2 hc2 hm2 C2 R2 lo2 ++ wL cL o 1 ov) sz)) 1 6 (va_A (wX x a b ++ wM cI a pa pe st bn hc hm C R lo ++ wM cI b pa2 pe2 st2 bn2 hc2 hm2 C2 R2 lo2 ++ wL cL o 1 ov) sz) := by
  refine mW_of (K2 := fun U => KX U ∧ ZS U U.heap) (by decide) rfl (Nat.le_of_ble_eq_true rfl) ?_
  intro p e s m below meth c hx hb hr hml hown htb hts hlocks hsz hP hK hN hD hXZ hA hS ls hl
  obtain ⟨hX, hZ⟩ := hXZ
  have hown : s.vm.findClass RL = some m.cls := hown
  have hl : lv_has ls 4 [(0, .ref x), (1, .int kk), (2, .ref o)] := hl
  have hP : va_P D vwCl (wX x a b ++ wM cI a pa pe st bn hc hm C R lo ++ wM cI b pa2 pe2 st2 bn2 hc2 hm2 C2 R2 lo2 ++ wL cL o 1 ov) s.heap := hP
  refine lv_aload_n hx hb dL_asBeforeIn_0 rfl (lv_at hl 2 rfl) ?_
  refine lv_iconst (v := 0) hx hb dL_asBeforeIn_1 (by decide) ?_
  refine lv_aload_n hx hb dL_asBeforeIn_2 rfl (lv_at hl 0 rfl) ?_
  refine lv_iload_n hx hb dL_asBeforeIn_3 rfl (lv_at hl 1 rfl) ?_
  refine kXVc (As := [.int kk]) (rest := [.int 0, .ref o]) (name := eIO) ⟨hx, hb, hml, hown, hts⟩ (tX1_asBeforeIn_c l hst D cI x b a pa pe st bn hc hm C R lo kk hq) (cwV 1 hts gL_asBeforeIn_X1_asBeforeIn rfl rfl rfl (by decide +kernel) ⟨Nat.le_of_ble_eq_true rfl, Nat.le_of_ble_eq_true rfl⟩) hP hK hN hX hZ hS [0, 1, 2, 3, 4, 5, 6, 7] rfl [0] rfl rfl rfl rfl hl.1 rfl (Nat.le_of_ble_eq_true rfl) dL_asBeforeIn_4 ⟨Nat.le_of_ble_eq_true rfl, Nat.le_of_ble_eq_true rfl⟩ [] ⟨0, 9, 12, 19⟩ [] htb (fun z hz => absurd hz List.not_mem_nil) (by decide) (by decide) (hts (.classLink RL 19 eIO) (mg 1 rfl)) hX.2.2.2.2.2.1 (fun q9 H locs hP hS => ?_)
  have hP : va_P D vwCl (wX x a b ++ wM cI a pa pe st bn hc hm C R lo ++ wM cI b pa2 pe2 st2 bn2 hc2 hm2 C2 R2 lo2 ++ wL cL o 1 ov) H := hP
  refine lv_astore_n (lv' := [(3, .ref q9), (0, .ref x), (1, .int kk), (2, .ref o)]) hx hb dL_asBeforeIn_12 rfl hl (by decide) rfl (fun ls hl => ?_)
  refine lv_iconst (v := 1) hx hb dL_asBeforeIn_13 (by decide) ?_
  refine W.widen (k := 1) (n := 6) (by omega) (by omega) ?_
  exact eQi () hx hb hr hlocks hP hD hK hS dL_asBeforeIn_14 (rfl)
set_option maxHeartbeats 4000000 in
set_option maxRecDepth 100000 in
theorem mL_lastLands_0 (l : Launch) (D : va_G) (cI cL : ClassId) (x : Nat) (a : Nat → Nat) (pa pe st bn hc hm : Nat → Int32) (C R lo : Int32) (b : Nat → Nat) (pa2 pe2 st2 bn2 hc2 hm2 : Nat → Int32) (C2 R2 lo2 : Int32) (o : Nat) (ov : Nat → Int64) (kk mm : Int32) (hq : xhas C kk = true) (hr3 : xin mm 1 60 = true) (sz : Nat) : Met l yL_lastLands wsL_lastLands ({ frames := 8, cells := 0, slots := 0, locals := 136 } : Room) (va_Pc [.ref x, .int kk, .int mm, .ref o] (fun U => wPQ D [(cI, .int), (cL, .long)] sz (wX x a b ++ wM cI a pa pe st bn hc hm C R lo ++ wM cI b pa2 pe2 st2 bn2 hc2 hm2 C2 R2 lo2 ++ wL cL o 1 ov) U ∧ (KX U ∧ ZS U U.heap))) (va_Qi (fun (zz : Int32) (u : MS) => zz = 0) (wB D [(cI, .int), (cL, .long)] (va_A (wX x a b ++ wM cI a pa pe st bn hc hm C R lo ++ wM cI b pa2 pe2 st2 bn2 hc2 hm2 C2 R2 lo2 ++ wL cL o 1 ov) sz) (fun u : MS => (wX x a b ++ wM cI a pa pe st bn hc hm C R lo ++ wM cI b u.1 u.2.1 u.2.2.1 u.2.2.2.1 u.2.2.2.2.1 u.2.2.2.2.2.1 u.2.2.2.2.2.2.1 u.2.2.2.2.2.2.2.1 u.2.2.2.2.2.2.2.2 ++ wL cL o 1 ((vp_updL ov 0 ((xLast pa pe st C R kk mm) : Int32).toInt64))))) (va_A (wX x a b ++ wM cI a pa pe st bn hc hm C R lo ++ wM cI b pa2 pe2 st2 bn2 hc2 hm2 C2 R2 lo2 ++ wL cL o 1 ov) sz)) 0 0 (va_A (wX x a b ++ wM cI a pa pe st bn hc hm C R lo ++ wM cI b pa2 pe2 st2 bn2 hc2 hm2 C2 R2 lo2 ++ wL cL o 1 ov) sz) := by
  refine mW_of (K2 := fun U => KX U ∧ ZS U U.heap) (by decide) rfl (Nat.le_of_ble_eq_true rfl) ?_
  intro p e s m below meth c hx hb hr hml hown htb hts hlocks hsz hP hK hN hD hXZ hA hS ls hl
  obtain ⟨hX, hZ⟩ := hXZ
  have hown : s.vm.findClass RL = some m.cls := hown
  have hl : lv_has ls 5 [(0, .ref x), (1, .int kk), (2, .int mm), (3, .ref o)] := hl
  have hP : va_P D vwCl (wX x a b ++ wM cI a pa pe st bn hc hm C R lo ++ wM cI b pa2 pe2 st2 bn2 hc2 hm2 C2 R2 lo2 ++ wL cL o 1 ov) s.heap := hP
  refine lv_aload_n hx hb dL_lastLands_0 rfl (lv_at hl 3 rfl) ?_
  refine lv_iconst (v := 0) hx hb dL_lastLands_1 (by decide) ?_
  refine lv_aload_n hx hb dL_lastLands_2 rfl (lv_at hl 0 rfl) ?_
  refine lv_iload_n hx hb dL_lastLands_3 rfl (lv_at hl 1 rfl) ?_
  refine lv_iload_n hx hb dL_lastLands_4 rfl (lv_at hl 2 rfl) ?_
  refine kQVi (As := [.int kk, .int mm]) (rest := [.int 0, .ref o]) (wr := [(o, .inl (cL, 1, .inr (.inl ov)))]) (W2 := (fun u : MS => (wX x a b ++ wM cI a pa pe st bn hc hm C R lo ++ wM cI b u.1 u.2.1 u.2.2.1 u.2.2.2.1 u.2.2.2.2.1 u.2.2.2.2.2.1 u.2.2.2.2.2.2.1 u.2.2.2.2.2.2.2.1 u.2.2.2.2.2.2.2.2 ++ wL cL o 1 ov))) ⟨hx, hb, hml, hown, hts⟩ (mX1_lastLands l D cI x a pa pe st bn hc hm C R lo b pa2 pe2 st2 bn2 hc2 hm2 C2 R2 lo2 kk mm hq hr3 _) (cwV 2 hts gL_lastLands_X1_lastLands rfl rfl rfl (by decide +kernel) ⟨Nat.le_of_ble_eq_true rfl, Nat.le_of_ble_eq_true rfl⟩) hP hD hK hN hS hA [0, 1, 2, 3, 4, 5, 6, 7, 8, 9, 10, 11, 12, 13, 14] (by decide) rfl [15] (by decide) rfl (by decide) [1, 2, 3, 4, 5, 6, 7, 8, 9, 10, 11, 12, 13, 14, 15, 0] (by decide) (fun _ => rfl) [0] rfl rfl rfl rfl hl.1 rfl (Nat.le_of_ble_eq_true rfl) dL_lastLands_5 ⟨Nat.le_of_ble_eq_true rfl, Nat.le_of_ble_eq_true rfl⟩ (fun r_1 u_1 H locs hr_1 hP hD hS => ?_)
  subst r_1
  have hP : va_P D vwCl (wX x a b ++ wM cI a pa pe st bn hc hm C R lo ++ wM cI b u_1.1 u_1.2.1 u_1.2.2.1 u_1.2.2.2.1 u_1.2.2.2.2.1 u_1.2.2.2.2.2.1 u_1.2.2.2.2.2.2.1 u_1.2.2.2.2.2.2.2.1 u_1.2.2.2.2.2.2.2.2 ++ wL cL o 1 ov) H := hP
  have hD : va_D (va_A (wX x a b ++ wM cI a pa pe st bn hc hm C R lo ++ wM cI b pa2 pe2 st2 bn2 hc2 hm2 C2 R2 lo2 ++ wL cL o 1 ov) sz) (wX x a b ++ wM cI a pa pe st bn hc hm C R lo ++ wM cI b u_1.1 u_1.2.1 u_1.2.2.1 u_1.2.2.2.1 u_1.2.2.2.2.1 u_1.2.2.2.2.2.1 u_1.2.2.2.2.2.2.1 u_1.2.2.2.2.2.2.2.1 u_1.2.2.2.2.2.2.2.2 ++ wL cL o 1 ov) := hD
  refine lv_i2l (v := (xLast pa pe st C R kk mm : Int32).toInt64) hx hb dL_lastLands_8 rfl ?_
  refine va_last hx hb hK hP hD hS 15 1 rfl rfl (vp_in_nI (n := 0) (by decide) (by decide)) dL_lastLands_9 (fun H locs hP hD hS => ?_)
  rw [show (0 : Int32).toNatClampNeg = 0 from by decide] at hP hD
  have hP : va_P D vwCl (wX x a b ++ wM cI a pa pe st bn hc hm C R lo ++ wM cI b u_1.1 u_1.2.1 u_1.2.2.1 u_1.2.2.2.1 u_1.2.2.2.2.1 u_1.2.2.2.2.2.1 u_1.2.2.2.2.2.2.1 u_1.2.2.2.2.2.2.2.1 u_1.2.2.2.2.2.2.2.2 ++ wL cL o 1 ((vp_updL ov 0 ((xLast pa pe st C R kk mm : Int32).toInt64)))) H := hP
  have hD : va_D (va_A (wX x a b ++ wM cI a pa pe st bn hc hm C R lo ++ wM cI b pa2 pe2 st2 bn2 hc2 hm2 C2 R2 lo2 ++ wL cL o 1 ov) sz) (wX x a b ++ wM cI a pa pe st bn hc hm C R lo ++ wM cI b u_1.1 u_1.2.1 u_1.2.2.1 u_1.2.2.2.1 u_1.2.2.2.2.1 u_1.2.2.2.2.2.1 u_1.2.2.2.2.2.2.1 u_1.2.2.2.2.2.2.2.1 u_1.2.2.2.2.2.2.2.2 ++ wL cL o 1 ((vp_updL ov 0 ((xLast pa pe st C R kk mm : Int32).toInt64)))) := hD
  refine lv_goto (tgt := 21) hx hb dL_lastLands_10 (by decide) ?_
  refine lv_iconst (v := 0) hx hb dL_lastLands_21 (by decide) ?_
  exact eQi (u_1.1, u_1.2.1, u_1.2.2.1, u_1.2.2.2.1, u_1.2.2.2.2.1, u_1.2.2.2.2.2.1, u_1.2.2.2.2.2.2.1, u_1.2.2.2.2.2.2.2.1, u_1.2.2.2.2.2.2.2.2) hx hb hr hlocks hP hD hK hS dL_lastLands_22 (rfl)
set_option maxHeartbeats 4000000 in
set_option maxRecDepth 100000 in
theorem mL_lastLands_c (l : Launch) (hst : l.stackTraces = false) (D : va_G) (cI cL : ClassId) (x : Nat) (a : Nat → Nat) (pa pe st bn hc hm : Nat → Int32) (C R lo : Int32) (b : Nat → Nat) (pa2 pe2 st2 bn2 hc2 hm2 : Nat → Int32) (C2 R2 lo2 : Int32) (o : Nat) (ov : Nat → Int64) (kk mm : Int32) (hq : xhas C kk = false) (sz : Nat) : Met l yL_lastLands wsL_lastLands ({ frames := 8, cells := 1, slots := 6, locals := 136 } : Room) (va_Pc [.ref x, .int kk, .int mm, .ref o] (fun U => wPQ D [(cI, .int), (cL, .long)] sz (wX x a b ++ wM cI a pa pe st bn hc hm C R lo ++ wM cI b pa2 pe2 st2 bn2 hc2 hm2 C2 R2 lo2 ++ wL cL o 1 ov) U ∧ (KX U ∧ ZS U U.heap))) (va_Qi (fun (zz : Int32) (_ : Unit) => zz = 1) (wB D [(cI, .int), (cL, .long)] (va_A (wX x a b ++ wM cI a pa pe st bn hc hm C R lo ++ wM cI b pa2 pe2 st2 bn2 hc2 hm2 C2 R2 lo2 ++ wL cL o 1 ov) sz) (fun _ : Unit => (wX x a b ++ wM cI a pa pe st bn hc hm C R lo ++ wM cI b pa2 pe2 st2 bn2 hc2 hm2 C2 R2 lo2 ++ wL cL o 1 ov))) (va_A (wX x a b ++ wM cI a pa pe st bn hc hm C R lo ++ wM cI b pa2 pe2 st2 bn2 hc2 hm2 C2 R2 lo2 ++ wL cL o 1 ov) sz)) 1 6 (va_A (wX x a b ++ wM cI a pa pe st bn hc hm C R lo ++ wM cI b pa2 pe2 st2 bn2 hc2 hm2 C2 R2 lo2 ++ wL cL o 1 ov) sz) := by
  refine mW_of (K2 := fun U => KX U ∧ ZS U U.heap) (by decide) rfl (Nat.le_of_ble_eq_true rfl) ?_
  intro p e s m below meth c hx hb hr hml hown htb hts hlocks hsz hP hK hN hD hXZ hA hS ls hl
  obtain ⟨hX, hZ⟩ := hXZ
  have hown : s.vm.findClass RL = some m.cls := hown
  have hl : lv_has ls 5 [(0, .ref x), (1, .int kk), (2, .int mm), (3, .ref o)] := hl
  have hP : va_P D vwCl (wX x a b ++ wM cI a pa pe st bn hc hm C R lo ++ wM cI b pa2 pe2 st2 bn2 hc2 hm2 C2 R2 lo2 ++ wL cL o 1 ov) s.heap := hP
  refine lv_aload_n hx hb dL_lastLands_0 rfl (lv_at hl 3 rfl) ?_
  refine lv_iconst (v := 0) hx hb dL_lastLands_1 (by decide) ?_
  refine lv_aload_n hx hb dL_lastLands_2 rfl (lv_at hl 0 rfl) ?_
  refine lv_iload_n hx hb dL_lastLands_3 rfl (lv_at hl 1 rfl) ?_
  refine lv_iload_n hx hb dL_lastLands_4 rfl (lv_at hl 2 rfl) ?_
  refine kXVc (As := [.int kk, .int mm]) (rest := [.int 0, .ref o]) (name := eIO) ⟨hx, hb, hml, hown, hts⟩ (tX1_lastLands_c l hst D cI x b a pa pe st bn hc hm C R lo kk mm hq) (cwV 2 hts gL_lastLands_X1_lastLands rfl rfl rfl (by decide +kernel) ⟨Nat.le_of_ble_eq_true rfl, Nat.le_of_ble_eq_true rfl⟩) hP hK hN hX hZ hS [0, 1, 2, 3, 4, 5, 6, 7] rfl [0] rfl rfl rfl rfl hl.1 rfl (Nat.le_of_ble_eq_true rfl) dL_lastLands_5 ⟨Nat.le_of_ble_eq_true rfl, Nat.le_of_ble_eq_true rfl⟩ [] ⟨0, 10, 13, 19⟩ [⟨0, 10, 17, 13⟩] htb (fun z hz => absurd hz List.not_mem_nil) (by decide) (by decide) (hts (.classLink RL 19 eIO) (mg 1 rfl)) hX.2.2.2.2.2.1 (fun q9 H locs hP hS => ?_)
  have hP : va_P D vwCl (wX x a b ++ wM cI a pa pe st bn hc hm C R lo ++ wM cI b pa2 pe2 st2 bn2 hc2 hm2 C2 R2 lo2 ++ wL cL o 1 ov) H := hP
  refine lv_astore (lv' := [(4, .ref q9), (0, .ref x), (1, .int kk), (2, .int mm), (3, .ref o)]) hx hb dL_lastLands_13 hl (by decide) rfl (fun ls hl => ?_)
  refine lv_iconst (v := 1) hx hb dL_lastLands_15 (by decide) ?_
  refine W.widen (k := 1) (n := 6) (by omega) (by omega) ?_
  exact eQi () hx hb hr hlocks hP hD hK hS dL_lastLands_16 (rfl)
set_option maxHeartbeats 4000000 in
set_option maxRecDepth 100000 in
theorem mL_lastLands_a (l : Launch) (hst : l.stackTraces = false) (D : va_G) (cI cL : ClassId) (x : Nat) (a : Nat → Nat) (pa pe st bn hc hm : Nat → Int32) (C R lo : Int32) (b : Nat → Nat) (pa2 pe2 st2 bn2 hc2 hm2 : Nat → Int32) (C2 R2 lo2 : Int32) (o : Nat) (ov : Nat → Int64) (kk mm : Int32) (hq : xhas C kk = true) (hr3 : xin mm 1 60 = false) (sz : Nat) : Met l yL_lastLands wsL_lastLands ({ frames := 8, cells := 1, slots := 6, locals := 136 } : Room) (va_Pc [.ref x, .int kk, .int mm, .ref o] (fun U => wPQ D [(cI, .int), (cL, .long)] sz (wX x a b ++ wM cI a pa pe st bn hc hm C R lo ++ wM cI b pa2 pe2 st2 bn2 hc2 hm2 C2 R2 lo2 ++ wL cL o 1 ov) U ∧ (KX U ∧ ZS U U.heap))) (va_Qi (fun (zz : Int32) (_ : Unit) => zz = 2) (wB D [(cI, .int), (cL, .long)] (va_A (wX x a b ++ wM cI a pa pe st bn hc hm C R lo ++ wM cI b pa2 pe2 st2 bn2 hc2 hm2 C2 R2 lo2 ++ wL cL o 1 ov) sz) (fun _ : Unit => (wX x a b ++ wM cI a pa pe st bn hc hm C R lo ++ wM cI b pa2 pe2 st2 bn2 hc2 hm2 C2 R2 lo2 ++ wL cL o 1 ov))) (va_A (wX x a b ++ wM cI a pa pe st bn hc hm C R lo ++ wM cI b pa2 pe2 st2 bn2 hc2 hm2 C2 R2 lo2 ++ wL cL o 1 ov) sz)) 1 6 (va_A (wX x a b ++ wM cI a pa pe st bn hc hm C R lo ++ wM cI b pa2 pe2 st2 bn2 hc2 hm2 C2 R2 lo2 ++ wL cL o 1 ov) sz) := by
  refine mW_of (K2 := fun U => KX U ∧ ZS U U.heap) (by decide) rfl (Nat.le_of_ble_eq_true rfl) ?_
  intro p e s m below meth c hx hb hr hml hown htb hts hlocks hsz hP hK hN hD hXZ hA hS ls hl
  obtain ⟨hX, hZ⟩ := hXZ
  have hown : s.vm.findClass RL = some m.cls := hown
  have hl : lv_has ls 5 [(0, .ref x), (1, .int kk), (2, .int mm), (3, .ref o)] := hl
  have hP : va_P D vwCl (wX x a b ++ wM cI a pa pe st bn hc hm C R lo ++ wM cI b pa2 pe2 st2 bn2 hc2 hm2 C2 R2 lo2 ++ wL cL o 1 ov) s.heap := hP
  refine lv_aload_n hx hb dL_lastLands_0 rfl (lv_at hl 3 rfl) ?_
  refine lv_iconst (v := 0) hx hb dL_lastLands_1 (by decide) ?_
  refine lv_aload_n hx hb dL_lastLands_2 rfl (lv_at hl 0 rfl) ?_
  refine lv_iload_n hx hb dL_lastLands_3 rfl (lv_at hl 1 rfl) ?_
  refine lv_iload_n hx hb dL_lastLands_4 rfl (lv_at hl 2 rfl) ?_
  refine kXVc (As := [.int kk, .int mm]) (rest := [.int 0, .ref o]) (name := eIA) ⟨hx, hb, hml, hown, hts⟩ (tX1_lastLands_a l hst D cI x b a pa pe st bn hc hm C R lo kk mm hq hr3) (cwV 2 hts gL_lastLands_X1_lastLands rfl rfl rfl (by decide +kernel) ⟨Nat.le_of_ble_eq_true rfl, Nat.le_of_ble_eq_true rfl⟩) hP hK hN hX hZ hS [0, 1, 2, 3, 4, 5, 6, 7] rfl [0] rfl rfl rfl rfl hl.1 rfl (Nat.le_of_ble_eq_true rfl) dL_lastLands_5 ⟨Nat.le_of_ble_eq_true rfl, Nat.le_of_ble_eq_true rfl⟩ [⟨0, 10, 13, 19⟩] ⟨0, 10, 17, 13⟩ [] htb (fun z hz => by obtain rfl := List.mem_singleton.mp hz; exact Or.inr ⟨by decide, eIO, hts (.classLink RL 19 eIO) (mg 1 rfl), hX.2.2.2.2.2.2.2.2.1⟩) (by decide) (by decide) (hts (.classLink RL 13 eIA) (mg 2 rfl)) hX.2.2.2.2.2.2.1 (fun q9 H locs hP hS => ?_)
  have hP : va_P D vwCl (wX x a b ++ wM cI a pa pe st bn hc hm C R lo ++ wM cI b pa2 pe2 st2 bn2 hc2 hm2 C2 R2 lo2 ++ wL cL o 1 ov) H := hP
  refine lv_astore (lv' := [(4, .ref q9), (0, .ref x), (1, .int kk), (2, .int mm), (3, .ref o)]) hx hb dL_lastLands_17 hl (by decide) rfl (fun ls hl => ?_)
  refine lv_iconst (v := 2) hx hb dL_lastLands_19 (by decide) ?_
  refine W.widen (k := 1) (n := 6) (by omega) (by omega) ?_
  exact eQi () hx hb hr hlocks hP hD hK hS dL_lastLands_20 (rfl)
set_option maxHeartbeats 4000000 in
set_option maxRecDepth 100000 in
theorem mL_wouldRun_0 (l : Launch) (D : va_G) (cI cL : ClassId) (x : Nat) (a : Nat → Nat) (pa pe st bn hc hm : Nat → Int32) (C R lo : Int32) (b : Nat → Nat) (pa2 pe2 st2 bn2 hc2 hm2 : Nat → Int32) (C2 R2 lo2 : Int32) (o : Nat) (ov : Nat → Int64) (hh : Int32) (hp : xhas 2 hh = true) (sz : Nat) : Met l yL_wouldRun wsL_wouldRun ({ frames := 8, cells := 0, slots := 0, locals := 138 } : Room) (va_Pc [.ref x, .int hh, .ref o] (fun U => wPQ D [(cI, .int), (cL, .long)] sz (wX x a b ++ wM cI a pa pe st bn hc hm C R lo ++ wM cI b pa2 pe2 st2 bn2 hc2 hm2 C2 R2 lo2 ++ wL cL o 1 ov) U ∧ (KX U ∧ ZS U U.heap))) (va_Qi (fun (zz : Int32) (u : MS) => zz = 0) (wB D [(cI, .int), (cL, .long)] (va_A (wX x a b ++ wM cI a pa pe st bn hc hm C R lo ++ wM cI b pa2 pe2 st2 bn2 hc2 hm2 C2 R2 lo2 ++ wL cL o 1 ov) sz) (fun u : MS => (wX x a b ++ wM cI a pa pe st bn hc hm C R lo ++ wM cI b u.1 u.2.1 u.2.2.1 u.2.2.2.1 u.2.2.2.2.1 u.2.2.2.2.2.1 u.2.2.2.2.2.2.1 u.2.2.2.2.2.2.2.1 u.2.2.2.2.2.2.2.2 ++ wL cL o 1 ((vp_updL ov 0 ((xRun pa pe st bn hc hm C R lo hh 99).1 : Int32).toInt64))))) (va_A (wX x a b ++ wM cI a pa pe st bn hc hm C R lo ++ wM cI b pa2 pe2 st2 bn2 hc2 hm2 C2 R2 lo2 ++ wL cL o 1 ov) sz)) 0 0 (va_A (wX x a b ++ wM cI a pa pe st bn hc hm C R lo ++ wM cI b pa2 pe2 st2 bn2 hc2 hm2 C2 R2 lo2 ++ wL cL o 1 ov) sz) := by
  refine mW_of (K2 := fun U => KX U ∧ ZS U U.heap) (by decide) rfl (Nat.le_of_ble_eq_true rfl) ?_
  intro p e s m below meth c hx hb hr hml hown htb hts hlocks hsz hP hK hN hD hXZ hA hS ls hl
  obtain ⟨hX, hZ⟩ := hXZ
  have hown : s.vm.findClass RL = some m.cls := hown
  have hl : lv_has ls 4 [(0, .ref x), (1, .int hh), (2, .ref o)] := hl
  have hP : va_P D vwCl (wX x a b ++ wM cI a pa pe st bn hc hm C R lo ++ wM cI b pa2 pe2 st2 bn2 hc2 hm2 C2 R2 lo2 ++ wL cL o 1 ov) s.heap := hP
  refine lv_aload_n hx hb dL_wouldRun_0 rfl (lv_at hl 2 rfl) ?_
  refine lv_iconst (v := 0) hx hb dL_wouldRun_1 (by decide) ?_
  refine lv_aload_n hx hb dL_wouldRun_2 rfl (lv_at hl 0 rfl) ?_
  refine lv_iload_n hx hb dL_wouldRun_3 rfl (lv_at hl 1 rfl) ?_
  refine kQVi (As := [.int hh]) (rest := [.int 0, .ref o]) (wr := [(o, .inl (cL, 1, .inr (.inl ov)))]) (W2 := (fun u : MS => (wX x a b ++ wM cI a pa pe st bn hc hm C R lo ++ wM cI b u.1 u.2.1 u.2.2.1 u.2.2.2.1 u.2.2.2.2.1 u.2.2.2.2.2.1 u.2.2.2.2.2.2.1 u.2.2.2.2.2.2.2.1 u.2.2.2.2.2.2.2.2 ++ wL cL o 1 ov))) ⟨hx, hb, hml, hown, hts⟩ (mX1_wouldRun l D cI x a pa pe st bn hc hm C R lo b pa2 pe2 st2 bn2 hc2 hm2 C2 R2 lo2 hh hp _) (cwV 1 hts gL_wouldRun_X1_wouldRun rfl rfl rfl (by decide +kernel) ⟨Nat.le_of_ble_eq_true rfl, Nat.le_of_ble_eq_true rfl⟩) hP hD hK hN hS hA [0, 1, 2, 3, 4, 5, 6, 7, 8, 9, 10, 11, 12, 13, 14] (by decide) rfl [15] (by decide) rfl (by decide) [1, 2, 3, 4, 5, 6, 7, 8, 9, 10, 11, 12, 13, 14, 15, 0] (by decide) (fun _ => rfl) [0] rfl rfl rfl rfl hl.1 rfl (Nat.le_of_ble_eq_true rfl) dL_wouldRun_4 ⟨Nat.le_of_ble_eq_true rfl, Nat.le_of_ble_eq_true rfl⟩ (fun r_1 u_1 H locs hr_1 hP hD hS => ?_)
  subst r_1
  have hP : va_P D vwCl (wX x a b ++ wM cI a pa pe st bn hc hm C R lo ++ wM cI b u_1.1 u_1.2.1 u_1.2.2.1 u_1.2.2.2.1 u_1.2.2.2.2.1 u_1.2.2.2.2.2.1 u_1.2.2.2.2.2.2.1 u_1.2.2.2.2.2.2.2.1 u_1.2.2.2.2.2.2.2.2 ++ wL cL o 1 ov) H := hP
  have hD : va_D (va_A (wX x a b ++ wM cI a pa pe st bn hc hm C R lo ++ wM cI b pa2 pe2 st2 bn2 hc2 hm2 C2 R2 lo2 ++ wL cL o 1 ov) sz) (wX x a b ++ wM cI a pa pe st bn hc hm C R lo ++ wM cI b u_1.1 u_1.2.1 u_1.2.2.1 u_1.2.2.2.1 u_1.2.2.2.2.1 u_1.2.2.2.2.2.1 u_1.2.2.2.2.2.2.1 u_1.2.2.2.2.2.2.2.1 u_1.2.2.2.2.2.2.2.2 ++ wL cL o 1 ov) := hD
  refine lv_i2l (v := ((xRun pa pe st bn hc hm C R lo hh 99).1 : Int32).toInt64) hx hb dL_wouldRun_7 rfl ?_
  refine va_last hx hb hK hP hD hS 15 1 rfl rfl (vp_in_nI (n := 0) (by decide) (by decide)) dL_wouldRun_8 (fun H locs hP hD hS => ?_)
  rw [show (0 : Int32).toNatClampNeg = 0 from by decide] at hP hD
  have hP : va_P D vwCl (wX x a b ++ wM cI a pa pe st bn hc hm C R lo ++ wM cI b u_1.1 u_1.2.1 u_1.2.2.1 u_1.2.2.2.1 u_1.2.2.2.2.1 u_1.2.2.2.2.2.1 u_1.2.2.2.2.2.2.1 u_1.2.2.2.2.2.2.2.1 u_1.2.2.2.2.2.2.2.2 ++ wL cL o 1 ((vp_updL ov 0 (((xRun pa pe st bn hc hm C R lo hh 99).1 : Int32).toInt64)))) H := hP
  have hD : va_D (va_A (wX x a b ++ wM cI a pa pe st bn hc hm C R lo ++ wM cI b pa2 pe2 st2 bn2 hc2 hm2 C2 R2 lo2 ++ wL cL o 1 ov) sz) (wX x a b ++ wM cI a pa pe st bn hc hm C R lo ++ wM cI b u_1.1 u_1.2.1 u_1.2.2.1 u_1.2.2.2.1 u_1.2.2.2.2.1 u_1.2.2.2.2.2.1 u_1.2.2.2.2.2.2.1 u_1.2.2.2.2.2.2.2.1 u_1.2.2.2.2.2.2.2.2 ++ wL cL o 1 ((vp_updL ov 0 (((xRun pa pe st bn hc hm C R lo hh 99).1 : Int32).toInt64)))) := hD
  refine lv_goto (tgt := 15) hx hb dL_wouldRun_9 (by decide) ?_
  refine lv_iconst (v := 0) hx hb dL_wouldRun_15 (by decide) ?_
  exact eQi (u_1.1, u_1.2.1, u_1.2.2.1, u_1.2.2.2.1, u_1.2.2.2.2.1, u_1.2.2.2.2.2.1, u_1.2.2.2.2.2.2.1, u_1.2.2.2.2.2.2.2.1, u_1.2.2.2.2.2.2.2.2) hx hb hr hlocks hP hD hK hS dL_wouldRun_16 (rfl)
set_option maxHeartbeats 4000000 in
set_option maxRecDepth 100000 in
theorem mL_marblesIn_h (l : Launch) (hst : l.stackTraces = false) (D : va_G) (cI cL : ClassId) (x : Nat) (a : Nat → Nat) (pa pe st bn hc hm : Nat → Int32) (C R lo : Int32) (b : Nat → Nat) (pa2 pe2 st2 bn2 hc2 hm2 : Nat → Int32) (C2 R2 lo2 : Int32) (o : Nat) (ov : Nat → Int64) (hh : Int32) (hp : xhas 2 hh = false) (sz : Nat) : Met l yL_marblesIn wsL_marblesIn ({ frames := 8, cells := 1, slots := 6, locals := 131 } : Room) (va_Pc [.ref x, .int hh, .ref o] (fun U => wPQ D [(cI, .int), (cL, .long)] sz (wX x a b ++ wM cI a pa pe st bn hc hm C R lo ++ wM cI b pa2 pe2 st2 bn2 hc2 hm2 C2 R2 lo2 ++ wL cL o 1 ov) U ∧ (KX U ∧ ZS U U.heap))) (va_Qi (fun (zz : Int32) (_ : Unit) => zz = 1) (wB D [(cI, .int), (cL, .long)] (va_A (wX x a b ++ wM cI a pa pe st bn hc hm C R lo ++ wM cI b pa2 pe2 st2 bn2 hc2 hm2 C2 R2 lo2 ++ wL cL o 1 ov) sz) (fun _ : Unit => (wX x a b ++ wM cI a pa pe st bn hc hm C R lo ++ wM cI b pa2 pe2 st2 bn2 hc2 hm2 C2 R2 lo2 ++ wL cL o 1 ov))) (va_A (wX x a b ++ wM cI a pa pe st bn hc hm C R lo ++ wM cI b pa2 pe2 st2 bn2 hc2 hm2 C2 R2 lo2 ++ wL cL o 1 ov) sz)) 1 6 (va_A (wX x a b ++ wM cI a pa pe st bn hc hm C R lo ++ wM cI b pa2 pe2 st2 bn2 hc2 hm2 C2 R2 lo2 ++ wL cL o 1 ov) sz) := by
  refine mW_of (K2 := fun U => KX U ∧ ZS U U.heap) (by decide) rfl (Nat.le_of_ble_eq_true rfl) ?_
  intro p e s m below meth c hx hb hr hml hown htb hts hlocks hsz hP hK hN hD hXZ hA hS ls hl
  obtain ⟨hX, hZ⟩ := hXZ
  have hown : s.vm.findClass RL = some m.cls := hown
  have hl : lv_has ls 4 [(0, .ref x), (1, .int hh), (2, .ref o)] := hl
  have hP : va_P D vwCl (wX x a b ++ wM cI a pa pe st bn hc hm C R lo ++ wM cI b pa2 pe2 st2 bn2 hc2 hm2 C2 R2 lo2 ++ wL cL o 1 ov) s.heap := hP
  refine lv_aload_n hx hb dL_marblesIn_0 rfl (lv_at hl 2 rfl) ?_
  refine lv_iconst (v := 0) hx hb dL_marblesIn_1 (by decide) ?_
  refine lv_aload_n hx hb dL_marblesIn_2 rfl (lv_at hl 0 rfl) ?_
  refine lv_iload_n hx hb dL_marblesIn_3 rfl (lv_at hl 1 rfl) ?_
  refine kXVc (As := [.int hh]) (rest := [.int 0, .ref o]) (name := eIO) ⟨hx, hb, hml, hown, hts⟩ (tX1_marblesIn_h l hst D cI x b a pa pe st bn hc hm C R lo hh hp) (cwV 1 hts gL_marblesIn_X1_marblesIn rfl rfl rfl (by decide +kernel) ⟨Nat.le_of_ble_eq_true rfl, Nat.le_of_ble_eq_true rfl⟩) hP hK hN hX hZ hS [0, 1, 2, 3, 4, 5, 6, 7] rfl [0] rfl rfl rfl rfl hl.1 rfl (Nat.le_of_ble_eq_true rfl) dL_marblesIn_4 ⟨Nat.le_of_ble_eq_true rfl, Nat.le_of_ble_eq_true rfl⟩ [] ⟨0, 9, 12, 19⟩ [] htb (fun z hz => absurd hz List.not_mem_nil) (by decide) (by decide) (hts (.classLink RL 19 eIO) (mg 1 rfl)) hX.2.2.2.2.2.1 (fun q9 H locs hP hS => ?_)
  have hP : va_P D vwCl (wX x a b ++ wM cI a pa pe st bn hc hm C R lo ++ wM cI b pa2 pe2 st2 bn2 hc2 hm2 C2 R2 lo2 ++ wL cL o 1 ov) H := hP
  refine lv_astore_n (lv' := [(3, .ref q9), (0, .ref x), (1, .int hh), (2, .ref o)]) hx hb dL_marblesIn_12 rfl hl (by decide) rfl (fun ls hl => ?_)
  refine lv_iconst (v := 1) hx hb dL_marblesIn_13 (by decide) ?_
  refine W.widen (k := 1) (n := 6) (by omega) (by omega) ?_
  exact eQi () hx hb hr hlocks hP hD hK hS dL_marblesIn_14 (rfl)
set_option maxHeartbeats 4000000 in
set_option maxRecDepth 100000 in
theorem mL_columnOf_h (l : Launch) (hst : l.stackTraces = false) (D : va_G) (cI cL : ClassId) (x : Nat) (a : Nat → Nat) (pa pe st bn hc hm : Nat → Int32) (C R lo : Int32) (b : Nat → Nat) (pa2 pe2 st2 bn2 hc2 hm2 : Nat → Int32) (C2 R2 lo2 : Int32) (o : Nat) (ov : Nat → Int64) (hh : Int32) (hp : xhas 2 hh = false) (sz : Nat) : Met l yL_columnOf wsL_columnOf ({ frames := 8, cells := 1, slots := 6, locals := 131 } : Room) (va_Pc [.ref x, .int hh, .ref o] (fun U => wPQ D [(cI, .int), (cL, .long)] sz (wX x a b ++ wM cI a pa pe st bn hc hm C R lo ++ wM cI b pa2 pe2 st2 bn2 hc2 hm2 C2 R2 lo2 ++ wL cL o 1 ov) U ∧ (KX U ∧ ZS U U.heap))) (va_Qi (fun (zz : Int32) (_ : Unit) => zz = 1) (wB D [(cI, .int), (cL, .long)] (va_A (wX x a b ++ wM cI a pa pe st bn hc hm C R lo ++ wM cI b pa2 pe2 st2 bn2 hc2 hm2 C2 R2 lo2 ++ wL cL o 1 ov) sz) (fun _ : Unit => (wX x a b ++ wM cI a pa pe st bn hc hm C R lo ++ wM cI b pa2 pe2 st2 bn2 hc2 hm2 C2 R2 lo2 ++ wL cL o 1 ov))) (va_A (wX x a b ++ wM cI a pa pe st bn hc hm C R lo ++ wM cI b pa2 pe2 st2 bn2 hc2 hm2 C2 R2 lo2 ++ wL cL o 1 ov) sz)) 1 6 (va_A (wX x a b ++ wM cI a pa pe st bn hc hm C R lo ++ wM cI b pa2 pe2 st2 bn2 hc2 hm2 C2 R2 lo2 ++ wL cL o 1 ov) sz) := by
  refine mW_of (K2 := fun U => KX U ∧ ZS U U.heap) (by decide) rfl (Nat.le_of_ble_eq_true rfl) ?_
  intro p e s m below meth c hx hb hr hml hown htb hts hlocks hsz hP hK hN hD hXZ hA hS ls hl
  obtain ⟨hX, hZ⟩ := hXZ
  have hown : s.vm.findClass RL = some m.cls := hown
  have hl : lv_has ls 4 [(0, .ref x), (1, .int hh), (2, .ref o)] := hl
  have hP : va_P D vwCl (wX x a b ++ wM cI a pa pe st bn hc hm C R lo ++ wM cI b pa2 pe2 st2 bn2 hc2 hm2 C2 R2 lo2 ++ wL cL o 1 ov) s.heap := hP
  refine lv_aload_n hx hb dL_columnOf_0 rfl (lv_at hl 2 rfl) ?_
  refine lv_iconst (v := 0) hx hb dL_columnOf_1 (by decide) ?_
  refine lv_aload_n hx hb dL_columnOf_2 rfl (lv_at hl 0 rfl) ?_
  refine lv_iload_n hx hb dL_columnOf_3 rfl (lv_at hl 1 rfl) ?_
  refine kXVc (As := [.int hh]) (rest := [.int 0, .ref o]) (name := eIO) ⟨hx, hb, hml, hown, hts⟩ (tX1_columnOf_h l hst D cI x b a pa pe st bn hc hm C R lo hh hp) (cwV 1 hts gL_columnOf_X1_columnOf rfl rfl rfl (by decide +kernel) ⟨Nat.le_of_ble_eq_true rfl, Nat.le_of_ble_eq_true rfl⟩) hP hK hN hX hZ hS [0, 1, 2, 3, 4, 5, 6, 7] rfl [0] rfl rfl rfl rfl hl.1 rfl (Nat.le_of_ble_eq_true rfl) dL_columnOf_4 ⟨Nat.le_of_ble_eq_true rfl, Nat.le_of_ble_eq_true rfl⟩ [] ⟨0, 9, 12, 19⟩ [] htb (fun z hz => absurd hz List.not_mem_nil) (by decide) (by decide) (hts (.classLink RL 19 eIO) (mg 1 rfl)) hX.2.2.2.2.2.1 (fun q9 H locs hP hS => ?_)
  have hP : va_P D vwCl (wX x a b ++ wM cI a pa pe st bn hc hm C R lo ++ wM cI b pa2 pe2 st2 bn2 hc2 hm2 C2 R2 lo2 ++ wL cL o 1 ov) H := hP
  refine lv_astore_n (lv' := [(3, .ref q9), (0, .ref x), (1, .int hh), (2, .ref o)]) hx hb dL_columnOf_12 rfl hl (by decide) rfl (fun ls hl => ?_)
  refine lv_iconst (v := 1) hx hb dL_columnOf_13 (by decide) ?_
  refine W.widen (k := 1) (n := 6) (by omega) (by omega) ?_
  exact eQi () hx hb hr hlocks hP hD hK hS dL_columnOf_14 (rfl)
set_option maxHeartbeats 4000000 in
set_option maxRecDepth 100000 in
theorem mL_wouldRun_h (l : Launch) (hst : l.stackTraces = false) (D : va_G) (cI cL : ClassId) (x : Nat) (a : Nat → Nat) (pa pe st bn hc hm : Nat → Int32) (C R lo : Int32) (b : Nat → Nat) (pa2 pe2 st2 bn2 hc2 hm2 : Nat → Int32) (C2 R2 lo2 : Int32) (o : Nat) (ov : Nat → Int64) (hh : Int32) (hp : xhas 2 hh = false) (sz : Nat) : Met l yL_wouldRun wsL_wouldRun ({ frames := 8, cells := 1, slots := 6, locals := 138 } : Room) (va_Pc [.ref x, .int hh, .ref o] (fun U => wPQ D [(cI, .int), (cL, .long)] sz (wX x a b ++ wM cI a pa pe st bn hc hm C R lo ++ wM cI b pa2 pe2 st2 bn2 hc2 hm2 C2 R2 lo2 ++ wL cL o 1 ov) U ∧ (KX U ∧ ZS U U.heap))) (va_Qi (fun (zz : Int32) (_ : Unit) => zz = 1) (wB D [(cI, .int), (cL, .long)] (va_A (wX x a b ++ wM cI a pa pe st bn hc hm C R lo ++ wM cI b pa2 pe2 st2 bn2 hc2 hm2 C2 R2 lo2 ++ wL cL o 1 ov) sz) (fun _ : Unit => (wX x a b ++ wM cI a pa pe st bn hc hm C R lo ++ wM cI b pa2 pe2 st2 bn2 hc2 hm2 C2 R2 lo2 ++ wL cL o 1 ov))) (va_A (wX x a b ++ wM cI a pa pe st bn hc hm C R lo ++ wM cI b pa2 pe2 st2 bn2 hc2 hm2 C2 R2 lo2 ++ wL cL o 1 ov) sz)) 1 6 (va_A (wX x a b ++ wM cI a pa pe st bn hc hm C R lo ++ wM cI b pa2 pe2 st2 bn2 hc2 hm2 C2 R2 lo2 ++ wL cL o 1 ov) sz) := by
  refine mW_of (K2 := fun U => KX U ∧ ZS U U.heap) (by decide) rfl (Nat.le_of_ble_eq_true rfl) ?_
  intro p e s m below meth c hx hb hr hml hown htb hts hlocks hsz hP hK hN hD hXZ hA hS ls hl
  obtain ⟨hX, hZ⟩ := hXZ
  have hown : s.vm.findClass RL = some m.cls := hown
  have hl : lv_has ls 4 [(0, .ref x), (1, .int hh), (2, .ref o)] := hl
  have hP : va_P D vwCl (wX x a b ++ wM cI a pa pe st bn hc hm C R lo ++ wM cI b pa2 pe2 st2 bn2 hc2 hm2 C2 R2 lo2 ++ wL cL o 1 ov) s.heap := hP
  refine lv_aload_n hx hb dL_wouldRun_0 rfl (lv_at hl 2 rfl) ?_
  refine lv_iconst (v := 0) hx hb dL_wouldRun_1 (by decide) ?_
  refine lv_aload_n hx hb dL_wouldRun_2 rfl (lv_at hl 0 rfl) ?_
  refine lv_iload_n hx hb dL_wouldRun_3 rfl (lv_at hl 1 rfl) ?_
  refine kXVc (As := [.int hh]) (rest := [.int 0, .ref o]) (name := eIO) ⟨hx, hb, hml, hown, hts⟩ (tX1_wouldRun_h l hst D cI x b a pa pe st bn hc hm C R lo hh hp) (cwV 1 hts gL_wouldRun_X1_wouldRun rfl rfl rfl (by decide +kernel) ⟨Nat.le_of_ble_eq_true rfl, Nat.le_of_ble_eq_true rfl⟩) hP hK hN hX hZ hS [0, 1, 2, 3, 4, 5, 6, 7] rfl [0] rfl rfl rfl rfl hl.1 rfl (Nat.le_of_ble_eq_true rfl) dL_wouldRun_4 ⟨Nat.le_of_ble_eq_true rfl, Nat.le_of_ble_eq_true rfl⟩ [] ⟨0, 9, 12, 19⟩ [] htb (fun z hz => absurd hz List.not_mem_nil) (by decide) (by decide) (hts (.classLink RL 19 eIO) (mg 1 rfl)) hX.2.2.2.2.2.1 (fun q9 H locs hP hS => ?_)
  have hP : va_P D vwCl (wX x a b ++ wM cI a pa pe st bn hc hm C R lo ++ wM cI b pa2 pe2 st2 bn2 hc2 hm2 C2 R2 lo2 ++ wL cL o 1 ov) H := hP
  refine lv_astore_n (lv' := [(3, .ref q9), (0, .ref x), (1, .int hh), (2, .ref o)]) hx hb dL_wouldRun_12 rfl hl (by decide) rfl (fun ls hl => ?_)
  refine lv_iconst (v := 1) hx hb dL_wouldRun_13 (by decide) ?_
  refine W.widen (k := 1) (n := 6) (by omega) (by omega) ?_
  exact eQi () hx hb hr hlocks hP hD hK hS dL_wouldRun_14 (rfl)
