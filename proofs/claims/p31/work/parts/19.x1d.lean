set_option maxHeartbeats 4000000 in
set_option maxRecDepth 100000 in
theorem mX1_digest (l : Launch) (D : va_G) (cI : ClassId) (x : Nat) (a : Nat → Nat) (pa pe st bn hc hm : Nat → Int32) (C R lo : Int32) (b : Nat → Nat) (pa2 pe2 st2 bn2 hc2 hm2 : Nat → Int32) (C2 R2 lo2 : Int32) (sz : Nat) : Met l yX1_digest wsX1_digest ({ frames := 9, cells := 0, slots := 0, locals := 156 } : Room) (va_Pc [.ref x] (wPQ D [(cI, .int)] sz (wX x a b ++ wM cI a pa pe st bn hc hm C R lo ++ wM cI b pa2 pe2 st2 bn2 hc2 hm2 C2 R2 lo2))) (va_Ql (fun (zz : Int64) (u : MS) => zz = xDig pa pe st bn hc hm C R lo) (wB D [(cI, .int)] (va_A (wX x a b ++ wM cI a pa pe st bn hc hm C R lo ++ wM cI b pa2 pe2 st2 bn2 hc2 hm2 C2 R2 lo2) sz) (fun u : MS => (wX x a b ++ wM cI a pa pe st bn hc hm C R lo ++ wM cI b u.1 u.2.1 u.2.2.1 u.2.2.2.1 u.2.2.2.2.1 u.2.2.2.2.2.1 u.2.2.2.2.2.2.1 u.2.2.2.2.2.2.2.1 u.2.2.2.2.2.2.2.2))) (va_A (wX x a b ++ wM cI a pa pe st bn hc hm C R lo ++ wM cI b pa2 pe2 st2 bn2 hc2 hm2 C2 R2 lo2) sz)) 0 0 (va_A (wX x a b ++ wM cI a pa pe st bn hc hm C R lo ++ wM cI b pa2 pe2 st2 bn2 hc2 hm2 C2 R2 lo2) sz) := by
  refine mQ_of (by decide) rfl (Nat.le_of_ble_eq_true rfl) ?_
  intro p e s m below meth c hx hb hr hml hown hin hts hlocks hsz hP hK hN hD hA hS ls hl
  have hown : s.vm.findClass RX1 = some m.cls := hown
  have hl : lv_has ls 5 [(0, .ref x)] := hl
  have hP : va_P D vwCl (wX x a b ++ wM cI a pa pe st bn hc hm C R lo ++ wM cI b pa2 pe2 st2 bn2 hc2 hm2 C2 R2 lo2) s.heap := hP
  refine lv_ldc2 hx hb hown (hts (.constantLong RX1 137 (2239)) (mg 1 rfl)) dX1_digest_0 ?_
  refine lv_lstore_n (lv' := [(1, .long 2239), (0, .ref x)]) hx hb dX1_digest_3 rfl hl (by decide) rfl (fun ls hl => ?_)
  refine lv_lload_n hx hb dX1_digest_4 rfl (lv_at hl 0 rfl) ?_
  refine lv_ldc2 hx hb hown (hts (.constantLong RX1 139 (31)) (mg 2 rfl)) dX1_digest_5 ?_
  refine lv_lmul hx hb dX1_digest_8 ?_
  refine lv_aload_n hx hb dX1_digest_9 rfl (lv_at hl 1 rfl) ?_
  refine kRVi (As := []) (rest := [.long (2239 * 31)]) ⟨hx, hb, hml, hown, hts⟩ (mX1_columns l D cI x b a pa pe st bn hc hm C R lo) (cwV 0 hts gX1_digest_X1_columns rfl rfl rfl (by decide +kernel) ⟨Nat.le_of_ble_eq_true rfl, Nat.le_of_ble_eq_true rfl⟩) hP hK hN [0, 1, 2, 3, 4, 5, 6, 7] rfl [0] rfl rfl rfl rfl hl.1 rfl (Nat.le_of_ble_eq_true rfl) dX1_digest_10 ⟨Nat.zero_le _, Nat.zero_le _⟩ (fun r_1 hr_1 => ?_)
  subst r_1
  refine lv_i2l (v := (C : Int32).toInt64) hx hb dX1_digest_13 rfl ?_
  refine lv_ladd hx hb dX1_digest_14 ?_
  refine lv_lstore_n (lv' := [(1, .long ((2239 * 31) + ((C : Int32).toInt64))), (0, .ref x)]) hx hb dX1_digest_15 rfl hl (by decide) rfl (fun ls hl => ?_)
  refine lv_lload_n hx hb dX1_digest_16 rfl (lv_at hl 0 rfl) ?_
  refine lv_ldc2 hx hb hown (hts (.constantLong RX1 139 (31)) (mg 2 rfl)) dX1_digest_17 ?_
  refine lv_lmul hx hb dX1_digest_20 ?_
  refine lv_aload_n hx hb dX1_digest_21 rfl (lv_at hl 1 rfl) ?_
  refine kRVi (As := []) (rest := [.long (((2239 * 31) + ((C : Int32).toInt64)) * 31)]) ⟨hx, hb, hml, hown, hts⟩ (mX1_rows l D cI x b a pa pe st bn hc hm C R lo) (cwV 0 hts gX1_digest_X1_rows rfl rfl rfl (by decide +kernel) ⟨Nat.le_of_ble_eq_true rfl, Nat.le_of_ble_eq_true rfl⟩) hP hK hN [0, 1, 2, 3, 4, 5, 6, 7] rfl [0] rfl rfl rfl rfl hl.1 rfl (Nat.le_of_ble_eq_true rfl) dX1_digest_22 ⟨Nat.zero_le _, Nat.zero_le _⟩ (fun r_2 hr_2 => ?_)
  subst r_2
  refine lv_i2l (v := (R : Int32).toInt64) hx hb dX1_digest_25 rfl ?_
  refine lv_ladd hx hb dX1_digest_26 ?_
  refine lv_lstore_n (lv' := [(1, .long ((((2239 * 31) + ((C : Int32).toInt64)) * 31) + ((R : Int32).toInt64))), (0, .ref x)]) hx hb dX1_digest_27 rfl hl (by decide) rfl (fun ls hl => ?_)
  refine lv_lload_n hx hb dX1_digest_28 rfl (lv_at hl 0 rfl) ?_
  refine lv_ldc2 hx hb hown (hts (.constantLong RX1 139 (31)) (mg 2 rfl)) dX1_digest_29 ?_
  refine lv_lmul hx hb dX1_digest_32 ?_
  refine lv_aload_n hx hb dX1_digest_33 rfl (lv_at hl 1 rfl) ?_
  refine kRVi (As := []) (rest := [.long (((((2239 * 31) + ((C : Int32).toInt64)) * 31) + ((R : Int32).toInt64)) * 31)]) ⟨hx, hb, hml, hown, hts⟩ (mX1_lost l D cI x b a pa pe st bn hc hm C R lo) (cwV 0 hts gX1_digest_X1_lost rfl rfl rfl (by decide +kernel) ⟨Nat.le_of_ble_eq_true rfl, Nat.le_of_ble_eq_true rfl⟩) hP hK hN [0, 1, 2, 3, 4, 5, 6, 7] rfl [0] rfl rfl rfl rfl hl.1 rfl (Nat.le_of_ble_eq_true rfl) dX1_digest_34 ⟨Nat.zero_le _, Nat.zero_le _⟩ (fun r_3 hr_3 => ?_)
  subst r_3
  refine lv_i2l (v := (lo : Int32).toInt64) hx hb dX1_digest_37 rfl ?_
  refine lv_ladd hx hb dX1_digest_38 ?_
  refine lv_lstore_n (lv' := [(1, .long ((((((2239 * 31) + ((C : Int32).toInt64)) * 31) + ((R : Int32).toInt64)) * 31) + ((lo : Int32).toInt64))), (0, .ref x)]) hx hb dX1_digest_39 rfl hl (by decide) rfl (fun ls hl => ?_)
  refine lv_lload_n hx hb dX1_digest_40 rfl (lv_at hl 0 rfl) ?_
  refine lv_ldc2 hx hb hown (hts (.constantLong RX1 139 (31)) (mg 2 rfl)) dX1_digest_41 ?_
  refine lv_lmul hx hb dX1_digest_44 ?_
  refine lv_aload_n hx hb dX1_digest_45 rfl (lv_at hl 1 rfl) ?_
  refine kRVi (As := []) (rest := [.long (((((((2239 * 31) + ((C : Int32).toInt64)) * 31) + ((R : Int32).toInt64)) * 31) + ((lo : Int32).toInt64)) * 31)]) ⟨hx, hb, hml, hown, hts⟩ (mX1_toggles l D cI x b a pa pe st bn hc hm C R lo) (cwV 0 hts gX1_digest_X1_toggles rfl rfl rfl (by decide +kernel) ⟨Nat.le_of_ble_eq_true rfl, Nat.le_of_ble_eq_true rfl⟩) hP hK hN [0, 1, 2, 3, 4, 5, 6, 7] rfl [0] rfl rfl rfl rfl hl.1 rfl (Nat.le_of_ble_eq_true rfl) dX1_digest_46 ⟨Nat.zero_le _, Nat.zero_le _⟩ (fun r_4 hr_4 => ?_)
  subst r_4
  refine lv_i2l (v := (xTog pa : Int32).toInt64) hx hb dX1_digest_49 rfl ?_
  refine lv_ladd hx hb dX1_digest_50 ?_
  refine lv_lstore_n (lv' := [(1, .long ((((((((2239 * 31) + ((C : Int32).toInt64)) * 31) + ((R : Int32).toInt64)) * 31) + ((lo : Int32).toInt64)) * 31) + ((xTog pa : Int32).toInt64))), (0, .ref x)]) hx hb dX1_digest_51 rfl hl (by decide) rfl (fun ls hl => ?_)
  refine lv_lload_n hx hb dX1_digest_52 rfl (lv_at hl 0 rfl) ?_
  refine lv_ldc2 hx hb hown (hts (.constantLong RX1 139 (31)) (mg 2 rfl)) dX1_digest_53 ?_
  refine lv_lmul hx hb dX1_digest_56 ?_
  refine lv_aload_n hx hb dX1_digest_57 rfl (lv_at hl 1 rfl) ?_
  refine kQVi (As := []) (rest := [.long (((((((((2239 * 31) + ((C : Int32).toInt64)) * 31) + ((R : Int32).toInt64)) * 31) + ((lo : Int32).toInt64)) * 31) + ((xTog pa : Int32).toInt64)) * 31)]) (wr := []) (W2 := (fun u : MS => (wX x a b ++ wM cI a pa pe st bn hc hm C R lo ++ wM cI b u.1 u.2.1 u.2.2.1 u.2.2.2.1 u.2.2.2.2.1 u.2.2.2.2.2.1 u.2.2.2.2.2.2.1 u.2.2.2.2.2.2.2.1 u.2.2.2.2.2.2.2.2))) ⟨hx, hb, hml, hown, hts⟩ (mX1_bestColumn l D cI x a pa pe st bn hc hm C R lo b pa2 pe2 st2 bn2 hc2 hm2 C2 R2 lo2 _) (cwV 0 hts gX1_digest_X1_bestColumn rfl rfl rfl (by decide +kernel) ⟨Nat.le_of_ble_eq_true rfl, Nat.le_of_ble_eq_true rfl⟩) hP hD hK hN hS hA [0, 1, 2, 3, 4, 5, 6, 7, 8, 9, 10, 11, 12, 13, 14] (by decide) rfl [] (by decide) rfl (by decide) [0, 1, 2, 3, 4, 5, 6, 7, 8, 9, 10, 11, 12, 13, 14] (by decide) (fun _ => rfl) [0] rfl rfl rfl rfl hl.1 rfl (Nat.le_of_ble_eq_true rfl) dX1_digest_58 ⟨Nat.le_of_ble_eq_true rfl, Nat.le_of_ble_eq_true rfl⟩ (fun r_5 u_5 H locs hr_5 hP hD hS => ?_)
  subst r_5
  have hP : va_P D vwCl (wX x a b ++ wM cI a pa pe st bn hc hm C R lo ++ wM cI b u_5.1 u_5.2.1 u_5.2.2.1 u_5.2.2.2.1 u_5.2.2.2.2.1 u_5.2.2.2.2.2.1 u_5.2.2.2.2.2.2.1 u_5.2.2.2.2.2.2.2.1 u_5.2.2.2.2.2.2.2.2) H := hP
  have hD : va_D (va_A (wX x a b ++ wM cI a pa pe st bn hc hm C R lo ++ wM cI b pa2 pe2 st2 bn2 hc2 hm2 C2 R2 lo2) sz) (wX x a b ++ wM cI a pa pe st bn hc hm C R lo ++ wM cI b u_5.1 u_5.2.1 u_5.2.2.1 u_5.2.2.2.1 u_5.2.2.2.2.1 u_5.2.2.2.2.2.1 u_5.2.2.2.2.2.2.1 u_5.2.2.2.2.2.2.2.1 u_5.2.2.2.2.2.2.2.2) := hD
  refine lv_i2l (v := (xBest pa pe st C R : Int32).toInt64) hx hb dX1_digest_61 rfl ?_
  refine lv_ladd hx hb dX1_digest_62 ?_
  refine lv_lstore_n (lv' := [(1, .long ((((((((((2239 * 31) + ((C : Int32).toInt64)) * 31) + ((R : Int32).toInt64)) * 31) + ((lo : Int32).toInt64)) * 31) + ((xTog pa : Int32).toInt64)) * 31) + ((xBest pa pe st C R : Int32).toInt64))), (0, .ref x)]) hx hb dX1_digest_63 rfl hl (by decide) rfl (fun ls hl => ?_)
  refine lv_iconst (v := 0) hx hb dX1_digest_64 (by decide) ?_
  refine lv_istore_n (lv' := [(3, .int 0), (1, .long ((((((((((2239 * 31) + ((C : Int32).toInt64)) * 31) + ((R : Int32).toInt64)) * 31) + ((lo : Int32).toInt64)) * 31) + ((xTog pa : Int32).toInt64)) * 31) + ((xBest pa pe st C R : Int32).toInt64))), (0, .ref x)]) hx hb dX1_digest_65 rfl hl (by decide) rfl (fun ls hl => ?_)
  have L66 : ∀ (n k : Nat) (dv : Int64) (tpa : Nat → Int32) (tpe : Nat → Int32) (tst : Nat → Int32) (tbn : Nat → Int32) (thc : Nat → Int32) (thm : Nat → Int32) (tC : Int32) (tR : Int32) (tlo : Int32), k + n = 2 → xDig pa pe st bn hc hm C R lo = xDig1 pa pe st bn hc hm C R lo n k dv → ∀ (H : Heap) (locs : List Loc), va_P D vwCl (wX x a b ++ wM cI a pa pe st bn hc hm C R lo ++ wM cI b tpa tpe tst tbn thc thm tC tR tlo) H → va_D (va_A (wX x a b ++ wM cI a pa pe st bn hc hm C R lo ++ wM cI b pa2 pe2 st2 bn2 hc2 hm2 C2 R2 lo2) sz) (wX x a b ++ wM cI a pa pe st bn hc hm C R lo ++ wM cI b tpa tpe tst tbn thc thm tC tR tlo) → va_S (va_A (wX x a b ++ wM cI a pa pe st bn hc hm C R lo ++ wM cI b pa2 pe2 st2 bn2 hc2 hm2 C2 R2 lo2) sz) s.heap H locs → ∀ ls : Array Slot, lv_has ls 5 [(3, .int (nI k)), (1, .long dv), (0, .ref x)] → W p l e ({ frames := 9, cells := 0, slots := 0, locals := 156 } : Room) s m [.ref x].toArray below meth c H locs 0 0 (MQ below (va_Ql (fun (zz : Int64) (u : MS) => zz = xDig pa pe st bn hc hm C R lo) (wB D [(cI, .int)] (va_A (wX x a b ++ wM cI a pa pe st bn hc hm C R lo ++ wM cI b pa2 pe2 st2 bn2 hc2 hm2 C2 R2 lo2) sz) (fun u : MS => (wX x a b ++ wM cI a pa pe st bn hc hm C R lo ++ wM cI b u.1 u.2.1 u.2.2.1 u.2.2.2.1 u.2.2.2.2.1 u.2.2.2.2.2.1 u.2.2.2.2.2.2.1 u.2.2.2.2.2.2.2.1 u.2.2.2.2.2.2.2.2))) (va_A (wX x a b ++ wM cI a pa pe st bn hc hm C R lo ++ wM cI b pa2 pe2 st2 bn2 hc2 hm2 C2 R2 lo2) sz)) [.ref x].toArray s 0 0 (va_A (wX x a b ++ wM cI a pa pe st bn hc hm C R lo ++ wM cI b pa2 pe2 st2 bn2 hc2 hm2 C2 R2 lo2) sz)) (F0 m 66 ls []) := by
    intro n
    induction n with
    | zero =>
      intro k dv tpa tpe tst tbn thc thm tC tR tlo hkn66 hf1 H locs hP hD hS ls hl
      refine lv_iload_n hx hb dX1_digest_66 rfl (lv_at hl 0 rfl) ?_
      refine lv_iconst (v := 2) hx hb dX1_digest_67 (by decide) ?_
      refine lv_icmp_ge (tgt := 116) hx hb dX1_digest_68 (by decide) (fun c_6 => ?_) (fun c9 => absurd (by rw [show (2 : Int32) = nI 2 from rfl]; exact nI_le (by omega) (by omega)) c9)
      refine lv_iconst (v := 0) hx hb dX1_digest_116 (by decide) ?_
      refine lv_istore_n (lv' := [(3, .int 0), (1, .long dv), (0, .ref x)]) hx hb dX1_digest_117 rfl hl (by decide) rfl (fun ls hl => ?_)
      have L118 : ∀ (n2 k2 : Nat) (dv2 : Int64), k2 + n2 = R.toNatClampNeg → xDig pa pe st bn hc hm C R lo = xDig2 pa pe st bn hc hm C R lo n2 k2 dv2 → ∀ (H : Heap) (locs : List Loc), va_P D vwCl (wX x a b ++ wM cI a pa pe st bn hc hm C R lo ++ wM cI b tpa tpe tst tbn thc thm tC tR tlo) H → va_D (va_A (wX x a b ++ wM cI a pa pe st bn hc hm C R lo ++ wM cI b pa2 pe2 st2 bn2 hc2 hm2 C2 R2 lo2) sz) (wX x a b ++ wM cI a pa pe st bn hc hm C R lo ++ wM cI b tpa tpe tst tbn thc thm tC tR tlo) → va_S (va_A (wX x a b ++ wM cI a pa pe st bn hc hm C R lo ++ wM cI b pa2 pe2 st2 bn2 hc2 hm2 C2 R2 lo2) sz) s.heap H locs → ∀ ls : Array Slot, lv_has ls 5 [(3, .int (nI k2)), (1, .long dv2), (0, .ref x)] → W p l e ({ frames := 9, cells := 0, slots := 0, locals := 156 } : Room) s m [.ref x].toArray below meth c H locs 0 0 (MQ below (va_Ql (fun (zz : Int64) (u : MS) => zz = xDig pa pe st bn hc hm C R lo) (wB D [(cI, .int)] (va_A (wX x a b ++ wM cI a pa pe st bn hc hm C R lo ++ wM cI b pa2 pe2 st2 bn2 hc2 hm2 C2 R2 lo2) sz) (fun u : MS => (wX x a b ++ wM cI a pa pe st bn hc hm C R lo ++ wM cI b u.1 u.2.1 u.2.2.1 u.2.2.2.1 u.2.2.2.2.1 u.2.2.2.2.2.1 u.2.2.2.2.2.2.1 u.2.2.2.2.2.2.2.1 u.2.2.2.2.2.2.2.2))) (va_A (wX x a b ++ wM cI a pa pe st bn hc hm C R lo ++ wM cI b pa2 pe2 st2 bn2 hc2 hm2 C2 R2 lo2) sz)) [.ref x].toArray s 0 0 (va_A (wX x a b ++ wM cI a pa pe st bn hc hm C R lo ++ wM cI b pa2 pe2 st2 bn2 hc2 hm2 C2 R2 lo2) sz)) (F0 m 118 ls []) := by
        intro n2
        induction n2 with
        | zero =>
          intro k2 dv2 hkn118 hf2 H locs hP hD hS ls hl
          refine lv_iload_n hx hb dX1_digest_118 rfl (lv_at hl 0 rfl) ?_
          refine lv_aload_n hx hb dX1_digest_119 rfl (lv_at hl 2 rfl) ?_
          refine kRVi (As := []) (rest := [.int (nI k2)]) ⟨hx, hb, hml, hown, hts⟩ (mX1_rows l D cI x b a pa pe st bn hc hm C R lo) (cwV 0 hts gX1_digest_X1_rows rfl rfl rfl (by decide +kernel) ⟨Nat.le_of_ble_eq_true rfl, Nat.le_of_ble_eq_true rfl⟩) hP hK hN [0, 1, 2, 3, 4, 5, 6, 7] rfl [0] rfl rfl rfl rfl hl.1 rfl (Nat.le_of_ble_eq_true rfl) dX1_digest_120 ⟨Nat.zero_le _, Nat.zero_le _⟩ (fun r_7 hr_7 => ?_)
          subst r_7
          refine lv_icmp_ge (tgt := 216) hx hb dX1_digest_123 (by decide) (fun c_8 => ?_) (fun c9 => absurd (by rw [lc_le (by have := clampLt R; omega)]; omega) c9)
          refine lv_iconst (v := 0) hx hb dX1_digest_216 (by decide) ?_
          refine lv_istore_n (lv' := [(3, .int 0), (1, .long dv2), (0, .ref x)]) hx hb dX1_digest_217 rfl hl (by decide) rfl (fun ls hl => ?_)
          have L218 : ∀ (n3 k3 : Nat) (dv3 : Int64) (tpa3 : Nat → Int32) (tpe3 : Nat → Int32) (tst3 : Nat → Int32) (tbn3 : Nat → Int32) (thc3 : Nat → Int32) (thm3 : Nat → Int32) (tC3 : Int32) (tR3 : Int32) (tlo3 : Int32), k3 + n3 = C.toNatClampNeg → xDig pa pe st bn hc hm C R lo = xDig3 pa pe st bn hc hm C R lo n3 k3 dv3 → ∀ (H : Heap) (locs : List Loc), va_P D vwCl (wX x a b ++ wM cI a pa pe st bn hc hm C R lo ++ wM cI b tpa3 tpe3 tst3 tbn3 thc3 thm3 tC3 tR3 tlo3) H → va_D (va_A (wX x a b ++ wM cI a pa pe st bn hc hm C R lo ++ wM cI b pa2 pe2 st2 bn2 hc2 hm2 C2 R2 lo2) sz) (wX x a b ++ wM cI a pa pe st bn hc hm C R lo ++ wM cI b tpa3 tpe3 tst3 tbn3 thc3 thm3 tC3 tR3 tlo3) → va_S (va_A (wX x a b ++ wM cI a pa pe st bn hc hm C R lo ++ wM cI b pa2 pe2 st2 bn2 hc2 hm2 C2 R2 lo2) sz) s.heap H locs → ∀ ls : Array Slot, lv_has ls 5 [(3, .int (nI k3)), (1, .long dv3), (0, .ref x)] → W p l e ({ frames := 9, cells := 0, slots := 0, locals := 156 } : Room) s m [.ref x].toArray below meth c H locs 0 0 (MQ below (va_Ql (fun (zz : Int64) (u : MS) => zz = xDig pa pe st bn hc hm C R lo) (wB D [(cI, .int)] (va_A (wX x a b ++ wM cI a pa pe st bn hc hm C R lo ++ wM cI b pa2 pe2 st2 bn2 hc2 hm2 C2 R2 lo2) sz) (fun u : MS => (wX x a b ++ wM cI a pa pe st bn hc hm C R lo ++ wM cI b u.1 u.2.1 u.2.2.1 u.2.2.2.1 u.2.2.2.2.1 u.2.2.2.2.2.1 u.2.2.2.2.2.2.1 u.2.2.2.2.2.2.2.1 u.2.2.2.2.2.2.2.2))) (va_A (wX x a b ++ wM cI a pa pe st bn hc hm C R lo ++ wM cI b pa2 pe2 st2 bn2 hc2 hm2 C2 R2 lo2) sz)) [.ref x].toArray s 0 0 (va_A (wX x a b ++ wM cI a pa pe st bn hc hm C R lo ++ wM cI b pa2 pe2 st2 bn2 hc2 hm2 C2 R2 lo2) sz)) (F0 m 218 ls []) := by
            intro n3
            induction n3 with
            | zero =>
              intro k3 dv3 tpa3 tpe3 tst3 tbn3 thc3 thm3 tC3 tR3 tlo3 hkn218 hf3 H locs hP hD hS ls hl
              refine lv_iload_n hx hb dX1_digest_218 rfl (lv_at hl 0 rfl) ?_
              refine lv_aload_n hx hb dX1_digest_219 rfl (lv_at hl 2 rfl) ?_
              refine kRVi (As := []) (rest := [.int (nI k3)]) ⟨hx, hb, hml, hown, hts⟩ (mX1_columns l D cI x b a pa pe st bn hc hm C R lo) (cwV 0 hts gX1_digest_X1_columns rfl rfl rfl (by decide +kernel) ⟨Nat.le_of_ble_eq_true rfl, Nat.le_of_ble_eq_true rfl⟩) hP hK hN [0, 1, 2, 3, 4, 5, 6, 7] rfl [0] rfl rfl rfl rfl hl.1 rfl (Nat.le_of_ble_eq_true rfl) dX1_digest_220 ⟨Nat.zero_le _, Nat.zero_le _⟩ (fun r_9 hr_9 => ?_)
              subst r_9
              refine lv_icmp_ge (tgt := 284) hx hb dX1_digest_223 (by decide) (fun c_10 => ?_) (fun c9 => absurd (by rw [lc_le (by have := clampLt C; omega)]; omega) c9)
              refine lv_lload_n hx hb dX1_digest_284 rfl (lv_at hl 1 rfl) ?_
              exact eQl (tpa3, tpe3, tst3, tbn3, thc3, thm3, tC3, tR3, tlo3) hx hb hr hlocks hP hD hK hS dX1_digest_285 (by rw [hf3]; rfl)
            | succ n3 ih218 =>
              intro k3 dv3 tpa3 tpe3 tst3 tbn3 thc3 thm3 tC3 tR3 tlo3 hkn218 hf3 H locs hP hD hS ls hl
              refine lv_iload_n hx hb dX1_digest_218 rfl (lv_at hl 0 rfl) ?_
              refine lv_aload_n hx hb dX1_digest_219 rfl (lv_at hl 2 rfl) ?_
              refine kRVi (As := []) (rest := [.int (nI k3)]) ⟨hx, hb, hml, hown, hts⟩ (mX1_columns l D cI x b a pa pe st bn hc hm C R lo) (cwV 0 hts gX1_digest_X1_columns rfl rfl rfl (by decide +kernel) ⟨Nat.le_of_ble_eq_true rfl, Nat.le_of_ble_eq_true rfl⟩) hP hK hN [0, 1, 2, 3, 4, 5, 6, 7] rfl [0] rfl rfl rfl rfl hl.1 rfl (Nat.le_of_ble_eq_true rfl) dX1_digest_220 ⟨Nat.zero_le _, Nat.zero_le _⟩ (fun r_11 hr_11 => ?_)
              subst r_11
              refine lv_icmp_ge (tgt := 284) hx hb dX1_digest_223 (by decide) (fun c9 => absurd c9 (by rw [lc_le (by have := clampLt C; omega)]; omega)) (fun c_12 => ?_)
              refine lv_lload_n hx hb dX1_digest_226 rfl (lv_at hl 1 rfl) ?_
              refine lv_ldc2 hx hb hown (hts (.constantLong RX1 139 (31)) (mg 2 rfl)) dX1_digest_227 ?_
              refine lv_lmul hx hb dX1_digest_230 ?_
              refine lv_aload_n hx hb dX1_digest_231 rfl (lv_at hl 2 rfl) ?_
              refine lv_iload_n hx hb dX1_digest_232 rfl (lv_at hl 0 rfl) ?_
              refine kRVi (As := [.int (nI k3)]) (rest := [.long (dv3 * 31)]) ⟨hx, hb, hml, hown, hts⟩ (mX1_binOf l D cI x b a pa pe st bn hc hm C R lo (nI k3) (xhas_n (by omega))) (cwV 1 hts gX1_digest_X1_binOf rfl rfl rfl (by decide +kernel) ⟨Nat.le_of_ble_eq_true rfl, Nat.le_of_ble_eq_true rfl⟩) hP hK hN [0, 1, 2, 3, 4, 5, 6, 7] rfl [0] rfl rfl rfl rfl hl.1 rfl (Nat.le_of_ble_eq_true rfl) dX1_digest_233 ⟨Nat.zero_le _, Nat.zero_le _⟩ (fun r_13 hr_13 => ?_)
              subst r_13
              refine lv_i2l (v := (xcl 9 bn (nI k3) : Int32).toInt64) hx hb dX1_digest_236 rfl ?_
              refine lv_ladd hx hb dX1_digest_237 ?_
              refine lv_lstore_n (lv' := [(1, .long ((dv3 * 31) + ((xcl 9 bn (nI k3) : Int32).toInt64))), (3, .int (nI k3)), (0, .ref x)]) hx hb dX1_digest_238 rfl hl (by decide) rfl (fun ls hl => ?_)
              refine lv_lload_n hx hb dX1_digest_239 rfl (lv_at hl 0 rfl) ?_
              refine lv_ldc2 hx hb hown (hts (.constantLong RX1 139 (31)) (mg 2 rfl)) dX1_digest_240 ?_
              refine lv_lmul hx hb dX1_digest_243 ?_
              refine lv_aload_n hx hb dX1_digest_244 rfl (lv_at hl 2 rfl) ?_
              refine lv_iload_n hx hb dX1_digest_245 rfl (lv_at hl 1 rfl) ?_
              refine kQVi (As := [.int (nI k3)]) (rest := [.long (((dv3 * 31) + ((xcl 9 bn (nI k3) : Int32).toInt64)) * 31)]) (wr := []) (W2 := (fun u : MS => (wX x a b ++ wM cI a pa pe st bn hc hm C R lo ++ wM cI b u.1 u.2.1 u.2.2.1 u.2.2.2.1 u.2.2.2.2.1 u.2.2.2.2.2.1 u.2.2.2.2.2.2.1 u.2.2.2.2.2.2.2.1 u.2.2.2.2.2.2.2.2))) ⟨hx, hb, hml, hown, hts⟩ (mX1_wouldLand l D cI x a pa pe st bn hc hm C R lo b tpa3 tpe3 tst3 tbn3 thc3 thm3 tC3 tR3 tlo3 (nI k3) (xhas_n (by omega)) _) (cwV 1 hts gX1_digest_X1_wouldLand rfl rfl rfl (by decide +kernel) ⟨Nat.le_of_ble_eq_true rfl, Nat.le_of_ble_eq_true rfl⟩) hP hD hK hN hS hA [0, 1, 2, 3, 4, 5, 6, 7, 8, 9, 10, 11, 12, 13, 14] (by decide) rfl [] (by decide) rfl (by decide) [0, 1, 2, 3, 4, 5, 6, 7, 8, 9, 10, 11, 12, 13, 14] (by decide) (fun _ => rfl) [0] rfl rfl rfl rfl hl.1 rfl (Nat.le_of_ble_eq_true rfl) dX1_digest_246 ⟨Nat.le_of_ble_eq_true rfl, Nat.le_of_ble_eq_true rfl⟩ (fun r_14 u_14 H locs hr_14 hP hD hS => ?_)
              subst r_14
              have hP : va_P D vwCl (wX x a b ++ wM cI a pa pe st bn hc hm C R lo ++ wM cI b u_14.1 u_14.2.1 u_14.2.2.1 u_14.2.2.2.1 u_14.2.2.2.2.1 u_14.2.2.2.2.2.1 u_14.2.2.2.2.2.2.1 u_14.2.2.2.2.2.2.2.1 u_14.2.2.2.2.2.2.2.2) H := hP
              have hD : va_D (va_A (wX x a b ++ wM cI a pa pe st bn hc hm C R lo ++ wM cI b pa2 pe2 st2 bn2 hc2 hm2 C2 R2 lo2) sz) (wX x a b ++ wM cI a pa pe st bn hc hm C R lo ++ wM cI b u_14.1 u_14.2.1 u_14.2.2.1 u_14.2.2.2.1 u_14.2.2.2.2.1 u_14.2.2.2.2.2.1 u_14.2.2.2.2.2.2.1 u_14.2.2.2.2.2.2.2.1 u_14.2.2.2.2.2.2.2.2) := hD
              refine lv_i2l (v := ((xFall pa pe st C (nI k3) R).1 : Int32).toInt64) hx hb dX1_digest_249 rfl ?_
              refine lv_ladd hx hb dX1_digest_250 ?_
              refine lv_lstore_n (lv' := [(1, .long ((((dv3 * 31) + ((xcl 9 bn (nI k3) : Int32).toInt64)) * 31) + (((xFall pa pe st C (nI k3) R).1 : Int32).toInt64))), (3, .int (nI k3)), (0, .ref x)]) hx hb dX1_digest_251 rfl hl (by decide) rfl (fun ls hl => ?_)
              refine lv_lload_n hx hb dX1_digest_252 rfl (lv_at hl 0 rfl) ?_
              refine lv_ldc2 hx hb hown (hts (.constantLong RX1 139 (31)) (mg 2 rfl)) dX1_digest_253 ?_
              refine lv_lmul hx hb dX1_digest_256 ?_
              refine lv_aload_n hx hb dX1_digest_257 rfl (lv_at hl 2 rfl) ?_
              refine lv_iload_n hx hb dX1_digest_258 rfl (lv_at hl 1 rfl) ?_
              refine kQVi (As := [.int (nI k3)]) (rest := [.long (((((dv3 * 31) + ((xcl 9 bn (nI k3) : Int32).toInt64)) * 31) + (((xFall pa pe st C (nI k3) R).1 : Int32).toInt64)) * 31)]) (wr := []) (W2 := (fun u : MS => (wX x a b ++ wM cI a pa pe st bn hc hm C R lo ++ wM cI b u.1 u.2.1 u.2.2.1 u.2.2.2.1 u.2.2.2.2.1 u.2.2.2.2.2.1 u.2.2.2.2.2.2.1 u.2.2.2.2.2.2.2.1 u.2.2.2.2.2.2.2.2))) ⟨hx, hb, hml, hown, hts⟩ (mX1_wouldTurn l D cI x a pa pe st bn hc hm C R lo b u_14.1 u_14.2.1 u_14.2.2.1 u_14.2.2.2.1 u_14.2.2.2.2.1 u_14.2.2.2.2.2.1 u_14.2.2.2.2.2.2.1 u_14.2.2.2.2.2.2.2.1 u_14.2.2.2.2.2.2.2.2 (nI k3) (xhas_n (by omega)) _) (cwV 1 hts gX1_digest_X1_wouldTurn rfl rfl rfl (by decide +kernel) ⟨Nat.le_of_ble_eq_true rfl, Nat.le_of_ble_eq_true rfl⟩) hP hD hK hN hS hA [0, 1, 2, 3, 4, 5, 6, 7, 8, 9, 10, 11, 12, 13, 14] (by decide) rfl [] (by decide) rfl (by decide) [0, 1, 2, 3, 4, 5, 6, 7, 8, 9, 10, 11, 12, 13, 14] (by decide) (fun _ => rfl) [0] rfl rfl rfl rfl hl.1 rfl (Nat.le_of_ble_eq_true rfl) dX1_digest_259 ⟨Nat.le_of_ble_eq_true rfl, Nat.le_of_ble_eq_true rfl⟩ (fun r_15 u_15 H locs hr_15 hP hD hS => ?_)
              subst r_15
              have hP : va_P D vwCl (wX x a b ++ wM cI a pa pe st bn hc hm C R lo ++ wM cI b u_15.1 u_15.2.1 u_15.2.2.1 u_15.2.2.2.1 u_15.2.2.2.2.1 u_15.2.2.2.2.2.1 u_15.2.2.2.2.2.2.1 u_15.2.2.2.2.2.2.2.1 u_15.2.2.2.2.2.2.2.2) H := hP
              have hD : va_D (va_A (wX x a b ++ wM cI a pa pe st bn hc hm C R lo ++ wM cI b pa2 pe2 st2 bn2 hc2 hm2 C2 R2 lo2) sz) (wX x a b ++ wM cI a pa pe st bn hc hm C R lo ++ wM cI b u_15.1 u_15.2.1 u_15.2.2.1 u_15.2.2.2.1 u_15.2.2.2.2.1 u_15.2.2.2.2.2.1 u_15.2.2.2.2.2.2.1 u_15.2.2.2.2.2.2.2.1 u_15.2.2.2.2.2.2.2.2) := hD
              refine lv_i2l (v := (xWTurn pa pe st C R (nI k3) : Int32).toInt64) hx hb dX1_digest_262 rfl ?_
              refine lv_ladd hx hb dX1_digest_263 ?_
              refine lv_lstore_n (lv' := [(1, .long ((((((dv3 * 31) + ((xcl 9 bn (nI k3) : Int32).toInt64)) * 31) + (((xFall pa pe st C (nI k3) R).1 : Int32).toInt64)) * 31) + ((xWTurn pa pe st C R (nI k3) : Int32).toInt64))), (3, .int (nI k3)), (0, .ref x)]) hx hb dX1_digest_264 rfl hl (by decide) rfl (fun ls hl => ?_)
              refine lv_lload_n hx hb dX1_digest_265 rfl (lv_at hl 0 rfl) ?_
              refine lv_ldc2 hx hb hown (hts (.constantLong RX1 139 (31)) (mg 2 rfl)) dX1_digest_266 ?_
              refine lv_lmul hx hb dX1_digest_269 ?_
              refine lv_aload_n hx hb dX1_digest_270 rfl (lv_at hl 2 rfl) ?_
              refine lv_iload_n hx hb dX1_digest_271 rfl (lv_at hl 1 rfl) ?_
              refine kQVi (As := [.int (nI k3)]) (rest := [.long (((((((dv3 * 31) + ((xcl 9 bn (nI k3) : Int32).toInt64)) * 31) + (((xFall pa pe st C (nI k3) R).1 : Int32).toInt64)) * 31) + ((xWTurn pa pe st C R (nI k3) : Int32).toInt64)) * 31)]) (wr := []) (W2 := (fun u : MS => (wX x a b ++ wM cI a pa pe st bn hc hm C R lo ++ wM cI b u.1 u.2.1 u.2.2.1 u.2.2.2.1 u.2.2.2.2.1 u.2.2.2.2.2.1 u.2.2.2.2.2.2.1 u.2.2.2.2.2.2.2.1 u.2.2.2.2.2.2.2.2))) ⟨hx, hb, hml, hown, hts⟩ (mX1_asBeforeIn l D cI x a pa pe st bn hc hm C R lo b u_15.1 u_15.2.1 u_15.2.2.1 u_15.2.2.2.1 u_15.2.2.2.2.1 u_15.2.2.2.2.2.1 u_15.2.2.2.2.2.2.1 u_15.2.2.2.2.2.2.2.1 u_15.2.2.2.2.2.2.2.2 (nI k3) (xhas_n (by omega)) _) (cwV 1 hts gX1_digest_X1_asBeforeIn rfl rfl rfl (by decide +kernel) ⟨Nat.le_of_ble_eq_true rfl, Nat.le_of_ble_eq_true rfl⟩) hP hD hK hN hS hA [0, 1, 2, 3, 4, 5, 6, 7, 8, 9, 10, 11, 12, 13, 14] (by decide) rfl [] (by decide) rfl (by decide) [0, 1, 2, 3, 4, 5, 6, 7, 8, 9, 10, 11, 12, 13, 14] (by decide) (fun _ => rfl) [0] rfl rfl rfl rfl hl.1 rfl (Nat.le_of_ble_eq_true rfl) dX1_digest_272 ⟨Nat.le_of_ble_eq_true rfl, Nat.le_of_ble_eq_true rfl⟩ (fun r_16 u_16 H locs hr_16 hP hD hS => ?_)
              subst r_16
              have hP : va_P D vwCl (wX x a b ++ wM cI a pa pe st bn hc hm C R lo ++ wM cI b u_16.1 u_16.2.1 u_16.2.2.1 u_16.2.2.2.1 u_16.2.2.2.2.1 u_16.2.2.2.2.2.1 u_16.2.2.2.2.2.2.1 u_16.2.2.2.2.2.2.2.1 u_16.2.2.2.2.2.2.2.2) H := hP
              have hD : va_D (va_A (wX x a b ++ wM cI a pa pe st bn hc hm C R lo ++ wM cI b pa2 pe2 st2 bn2 hc2 hm2 C2 R2 lo2) sz) (wX x a b ++ wM cI a pa pe st bn hc hm C R lo ++ wM cI b u_16.1 u_16.2.1 u_16.2.2.1 u_16.2.2.2.1 u_16.2.2.2.2.1 u_16.2.2.2.2.2.1 u_16.2.2.2.2.2.2.1 u_16.2.2.2.2.2.2.2.1 u_16.2.2.2.2.2.2.2.2) := hD
              refine lv_i2l (v := (xAsb pa pe st C R (nI k3) : Int32).toInt64) hx hb dX1_digest_275 rfl ?_
              refine lv_ladd hx hb dX1_digest_276 ?_
              refine lv_lstore_n (lv' := [(1, .long ((((((((dv3 * 31) + ((xcl 9 bn (nI k3) : Int32).toInt64)) * 31) + (((xFall pa pe st C (nI k3) R).1 : Int32).toInt64)) * 31) + ((xWTurn pa pe st C R (nI k3) : Int32).toInt64)) * 31) + ((xAsb pa pe st C R (nI k3) : Int32).toInt64))), (3, .int (nI k3)), (0, .ref x)]) hx hb dX1_digest_277 rfl hl (by decide) rfl (fun ls hl => ?_)
              refine lv_iinc (v := (nI (k3 + 1))) (lv' := [(3, .int (nI (k3 + 1))), (1, .long ((((((((dv3 * 31) + ((xcl 9 bn (nI k3) : Int32).toInt64)) * 31) + (((xFall pa pe st C (nI k3) R).1 : Int32).toInt64)) * 31) + ((xWTurn pa pe st C R (nI k3) : Int32).toInt64)) * 31) + ((xAsb pa pe st C R (nI k3) : Int32).toInt64))), (0, .ref x)]) hx hb dX1_digest_278 hl (k := 1) rfl (nI_1 k3) (by decide) rfl (fun ls hl => ?_)
              refine lv_goto (tgt := 218) hx hb dX1_digest_281 (by decide) ?_
              exact ih218 (k3 + 1) ((((((((dv3 * 31) + ((xcl 9 bn (nI k3) : Int32).toInt64)) * 31) + (((xFall pa pe st C (nI k3) R).1 : Int32).toInt64)) * 31) + ((xWTurn pa pe st C R (nI k3) : Int32).toInt64)) * 31) + ((xAsb pa pe st C R (nI k3) : Int32).toInt64)) u_16.1 u_16.2.1 u_16.2.2.1 u_16.2.2.2.1 u_16.2.2.2.2.1 u_16.2.2.2.2.2.1 u_16.2.2.2.2.2.2.1 u_16.2.2.2.2.2.2.2.1 u_16.2.2.2.2.2.2.2.2 (by omega) (by rw [hf3]; rfl) _ _ hP hD hS ls (lv_sub hl [0, 1, 2] rfl)
          exact L218 C.toNatClampNeg 0 dv2 tpa tpe tst tbn thc thm tC tR tlo (by omega) (by rw [hf2]; rfl) _ _ hP hD hS ls (lv_sub hl [0, 1, 2] rfl)
        | succ n2 ih118 =>
          intro k2 dv2 hkn118 hf2 H locs hP hD hS ls hl
          refine lv_iload_n hx hb dX1_digest_118 rfl (lv_at hl 0 rfl) ?_
          refine lv_aload_n hx hb dX1_digest_119 rfl (lv_at hl 2 rfl) ?_
          refine kRVi (As := []) (rest := [.int (nI k2)]) ⟨hx, hb, hml, hown, hts⟩ (mX1_rows l D cI x b a pa pe st bn hc hm C R lo) (cwV 0 hts gX1_digest_X1_rows rfl rfl rfl (by decide +kernel) ⟨Nat.le_of_ble_eq_true rfl, Nat.le_of_ble_eq_true rfl⟩) hP hK hN [0, 1, 2, 3, 4, 5, 6, 7] rfl [0] rfl rfl rfl rfl hl.1 rfl (Nat.le_of_ble_eq_true rfl) dX1_digest_120 ⟨Nat.zero_le _, Nat.zero_le _⟩ (fun r_17 hr_17 => ?_)
          subst r_17
          refine lv_icmp_ge (tgt := 216) hx hb dX1_digest_123 (by decide) (fun c9 => absurd c9 (by rw [lc_le (by have := clampLt R; omega)]; omega)) (fun c_18 => ?_)
          refine lv_lload_n hx hb dX1_digest_126 rfl (lv_at hl 1 rfl) ?_
          refine lv_ldc2 hx hb hown (hts (.constantLong RX1 139 (31)) (mg 2 rfl)) dX1_digest_127 ?_
          refine lv_lmul hx hb dX1_digest_130 ?_
          refine lv_aload_n hx hb dX1_digest_131 rfl (lv_at hl 2 rfl) ?_
          refine lv_iload_n hx hb dX1_digest_132 rfl (lv_at hl 0 rfl) ?_
          refine kRVi (As := [.int (nI k2)]) (rest := [.long (dv2 * 31)]) ⟨hx, hb, hml, hown, hts⟩ (mX1_numberIn l D cI x b a pa pe st bn hc hm C R lo (nI k2) (xhas_n (by omega))) (cwV 1 hts gX1_digest_X1_numberIn rfl rfl rfl (by decide +kernel) ⟨Nat.le_of_ble_eq_true rfl, Nat.le_of_ble_eq_true rfl⟩) hP hK hN [0, 1, 2, 3, 4, 5, 6, 7] rfl [0] rfl rfl rfl rfl hl.1 rfl (Nat.le_of_ble_eq_true rfl) dX1_digest_133 ⟨Nat.zero_le _, Nat.zero_le _⟩ (fun r_19 hr_19 => ?_)
          subst r_19
          refine lv_i2l (v := (xNum pa st C (nI k2) : Int32).toInt64) hx hb dX1_digest_136 rfl ?_
          refine lv_ladd hx hb dX1_digest_137 ?_
          refine lv_lstore_n (lv' := [(1, .long ((dv2 * 31) + ((xNum pa st C (nI k2) : Int32).toInt64))), (3, .int (nI k2)), (0, .ref x)]) hx hb dX1_digest_138 rfl hl (by decide) rfl (fun ls hl => ?_)
          refine lv_iconst (v := 0) hx hb dX1_digest_139 (by decide) ?_
          refine lv_istore (lv' := [(4, .int 0), (1, .long ((dv2 * 31) + ((xNum pa st C (nI k2) : Int32).toInt64))), (3, .int (nI k2)), (0, .ref x)]) hx hb dX1_digest_140 hl (by decide) rfl (fun ls hl => ?_)
          have L142 : ∀ (n4 k4 : Nat) (dv4 : Int64), k4 + n4 = C.toNatClampNeg → xDig pa pe st bn hc hm C R lo = xDig2 pa pe st bn hc hm C R lo n2 (k2 + 1) (xDig4 pa st C k2 n4 k4 dv4) → ∀ (H : Heap) (locs : List Loc), va_P D vwCl (wX x a b ++ wM cI a pa pe st bn hc hm C R lo ++ wM cI b tpa tpe tst tbn thc thm tC tR tlo) H → va_D (va_A (wX x a b ++ wM cI a pa pe st bn hc hm C R lo ++ wM cI b pa2 pe2 st2 bn2 hc2 hm2 C2 R2 lo2) sz) (wX x a b ++ wM cI a pa pe st bn hc hm C R lo ++ wM cI b tpa tpe tst tbn thc thm tC tR tlo) → va_S (va_A (wX x a b ++ wM cI a pa pe st bn hc hm C R lo ++ wM cI b pa2 pe2 st2 bn2 hc2 hm2 C2 R2 lo2) sz) s.heap H locs → ∀ ls : Array Slot, lv_has ls 5 [(4, .int (nI k4)), (1, .long dv4), (3, .int (nI k2)), (0, .ref x)] → W p l e ({ frames := 9, cells := 0, slots := 0, locals := 156 } : Room) s m [.ref x].toArray below meth c H locs 0 0 (MQ below (va_Ql (fun (zz : Int64) (u : MS) => zz = xDig pa pe st bn hc hm C R lo) (wB D [(cI, .int)] (va_A (wX x a b ++ wM cI a pa pe st bn hc hm C R lo ++ wM cI b pa2 pe2 st2 bn2 hc2 hm2 C2 R2 lo2) sz) (fun u : MS => (wX x a b ++ wM cI a pa pe st bn hc hm C R lo ++ wM cI b u.1 u.2.1 u.2.2.1 u.2.2.2.1 u.2.2.2.2.1 u.2.2.2.2.2.1 u.2.2.2.2.2.2.1 u.2.2.2.2.2.2.2.1 u.2.2.2.2.2.2.2.2))) (va_A (wX x a b ++ wM cI a pa pe st bn hc hm C R lo ++ wM cI b pa2 pe2 st2 bn2 hc2 hm2 C2 R2 lo2) sz)) [.ref x].toArray s 0 0 (va_A (wX x a b ++ wM cI a pa pe st bn hc hm C R lo ++ wM cI b pa2 pe2 st2 bn2 hc2 hm2 C2 R2 lo2) sz)) (F0 m 142 ls []) := by
            intro n4
            induction n4 with
            | zero =>
              intro k4 dv4 hkn142 hf4 H locs hP hD hS ls hl
              refine lv_iload hx hb dX1_digest_142 (lv_at hl 0 rfl) ?_
              refine lv_aload_n hx hb dX1_digest_144 rfl (lv_at hl 3 rfl) ?_
              refine kRVi (As := []) (rest := [.int (nI k4)]) ⟨hx, hb, hml, hown, hts⟩ (mX1_columns l D cI x b a pa pe st bn hc hm C R lo) (cwV 0 hts gX1_digest_X1_columns rfl rfl rfl (by decide +kernel) ⟨Nat.le_of_ble_eq_true rfl, Nat.le_of_ble_eq_true rfl⟩) hP hK hN [0, 1, 2, 3, 4, 5, 6, 7] rfl [0] rfl rfl rfl rfl hl.1 rfl (Nat.le_of_ble_eq_true rfl) dX1_digest_145 ⟨Nat.zero_le _, Nat.zero_le _⟩ (fun r_20 hr_20 => ?_)
              subst r_20
              refine lv_icmp_ge (tgt := 210) hx hb dX1_digest_148 (by decide) (fun c_21 => ?_) (fun c9 => absurd (by rw [lc_le (by have := clampLt C; omega)]; omega) c9)
              refine lv_iinc (v := (nI (k2 + 1))) (lv' := [(3, .int (nI (k2 + 1))), (4, .int (nI k4)), (1, .long dv4), (0, .ref x)]) hx hb dX1_digest_210 hl (k := 2) rfl (nI_1 k2) (by decide) rfl (fun ls hl => ?_)
              refine lv_goto (tgt := 118) hx hb dX1_digest_213 (by decide) ?_
              exact ih118 (k2 + 1) dv4 (by omega) (by rw [hf4]; rfl) _ _ hP hD hS ls (lv_sub hl [0, 2, 3] rfl)
            | succ n4 ih142 =>
              intro k4 dv4 hkn142 hf4 H locs hP hD hS ls hl
              refine lv_iload hx hb dX1_digest_142 (lv_at hl 0 rfl) ?_
              refine lv_aload_n hx hb dX1_digest_144 rfl (lv_at hl 3 rfl) ?_
              refine kRVi (As := []) (rest := [.int (nI k4)]) ⟨hx, hb, hml, hown, hts⟩ (mX1_columns l D cI x b a pa pe st bn hc hm C R lo) (cwV 0 hts gX1_digest_X1_columns rfl rfl rfl (by decide +kernel) ⟨Nat.le_of_ble_eq_true rfl, Nat.le_of_ble_eq_true rfl⟩) hP hK hN [0, 1, 2, 3, 4, 5, 6, 7] rfl [0] rfl rfl rfl rfl hl.1 rfl (Nat.le_of_ble_eq_true rfl) dX1_digest_145 ⟨Nat.zero_le _, Nat.zero_le _⟩ (fun r_22 hr_22 => ?_)
              subst r_22
              refine lv_icmp_ge (tgt := 210) hx hb dX1_digest_148 (by decide) (fun c9 => absurd c9 (by rw [lc_le (by have := clampLt C; omega)]; omega)) (fun c_23 => ?_)
              refine lv_lload_n hx hb dX1_digest_151 rfl (lv_at hl 1 rfl) ?_
              refine lv_ldc2 hx hb hown (hts (.constantLong RX1 139 (31)) (mg 2 rfl)) dX1_digest_152 ?_
              refine lv_lmul hx hb dX1_digest_155 ?_
              refine lv_aload_n hx hb dX1_digest_156 rfl (lv_at hl 3 rfl) ?_
              refine lv_iload_n hx hb dX1_digest_157 rfl (lv_at hl 2 rfl) ?_
              refine lv_iload hx hb dX1_digest_158 (lv_at hl 0 rfl) ?_
              refine kRVi (As := [.int (nI k2), .int (nI k4)]) (rest := [.long (dv4 * 31)]) ⟨hx, hb, hml, hown, hts⟩ (mX1_partAt l D cI x b a pa pe st bn hc hm C R lo (nI k2) (nI k4) (xhas_n (by omega)) (xhas_n (by omega))) (cwV 2 hts gX1_digest_X1_partAt rfl rfl rfl (by decide +kernel) ⟨Nat.le_of_ble_eq_true rfl, Nat.le_of_ble_eq_true rfl⟩) hP hK hN [0, 1, 2, 3, 4, 5, 6, 7] rfl [0] rfl rfl rfl rfl hl.1 rfl (Nat.le_of_ble_eq_true rfl) dX1_digest_160 ⟨Nat.zero_le _, Nat.zero_le _⟩ (fun r_24 hr_24 => ?_)
              subst r_24
              refine lv_i2l (v := (xcl 72 pa ((nI k2) * C + (nI k4)) : Int32).toInt64) hx hb dX1_digest_163 rfl ?_
              refine lv_ladd hx hb dX1_digest_164 ?_
              refine lv_lstore_n (lv' := [(1, .long ((dv4 * 31) + ((xcl 72 pa ((nI k2) * C + (nI k4)) : Int32).toInt64))), (4, .int (nI k4)), (3, .int (nI k2)), (0, .ref x)]) hx hb dX1_digest_165 rfl hl (by decide) rfl (fun ls hl => ?_)
              refine lv_lload_n hx hb dX1_digest_166 rfl (lv_at hl 0 rfl) ?_
              refine lv_ldc2 hx hb hown (hts (.constantLong RX1 139 (31)) (mg 2 rfl)) dX1_digest_167 ?_
              refine lv_lmul hx hb dX1_digest_170 ?_
              refine lv_aload_n hx hb dX1_digest_171 rfl (lv_at hl 3 rfl) ?_
              refine lv_iload_n hx hb dX1_digest_172 rfl (lv_at hl 2 rfl) ?_
              refine lv_iload hx hb dX1_digest_173 (lv_at hl 1 rfl) ?_
              refine kRVi (As := [.int (nI k2), .int (nI k4)]) (rest := [.long (((dv4 * 31) + ((xcl 72 pa ((nI k2) * C + (nI k4)) : Int32).toInt64)) * 31)]) ⟨hx, hb, hml, hown, hts⟩ (mX1_leadsRight l D cI x b a pa pe st bn hc hm C R lo (nI k2) (nI k4) (xhas_n (by omega)) (xhas_n (by omega))) (cwV 2 hts gX1_digest_X1_leadsRight rfl rfl rfl (by decide +kernel) ⟨Nat.le_of_ble_eq_true rfl, Nat.le_of_ble_eq_true rfl⟩) hP hK hN [0, 1, 2, 3, 4, 5, 6, 7] rfl [0] rfl rfl rfl rfl hl.1 rfl (Nat.le_of_ble_eq_true rfl) dX1_digest_175 ⟨Nat.zero_le _, Nat.zero_le _⟩ (fun r_25 hr_25 => ?_)
              subst r_25
              refine lv_if_eq (tgt := 185) hx hb dX1_digest_178 (by decide) (fun c_26 => ?_) (fun c_26 => ?_)
              · simp only [ne_eq, bi_e0] at c_26
                refine lv_iconst (v := 0) hx hb dX1_digest_185 (by decide) ?_
                refine lv_i2l (v := (0 : Int32).toInt64) hx hb dX1_digest_186 rfl ?_
                refine lv_ladd hx hb dX1_digest_187 ?_
                refine lv_lstore_n (lv' := [(1, .long ((((dv4 * 31) + ((xcl 72 pa ((nI k2) * C + (nI k4)) : Int32).toInt64)) * 31) + ((0 : Int32).toInt64))), (4, .int (nI k4)), (3, .int (nI k2)), (0, .ref x)]) hx hb dX1_digest_188 rfl hl (by decide) rfl (fun ls hl => ?_)
                refine lv_lload_n hx hb dX1_digest_189 rfl (lv_at hl 0 rfl) ?_
                refine lv_ldc2 hx hb hown (hts (.constantLong RX1 139 (31)) (mg 2 rfl)) dX1_digest_190 ?_
                refine lv_lmul hx hb dX1_digest_193 ?_
                refine lv_aload_n hx hb dX1_digest_194 rfl (lv_at hl 3 rfl) ?_
                refine lv_iload_n hx hb dX1_digest_195 rfl (lv_at hl 2 rfl) ?_
                refine lv_iload hx hb dX1_digest_196 (lv_at hl 1 rfl) ?_
                refine kRVi (As := [.int (nI k2), .int (nI k4)]) (rest := [.long (((((dv4 * 31) + ((xcl 72 pa ((nI k2) * C + (nI k4)) : Int32).toInt64)) * 31) + ((0 : Int32).toInt64)) * 31)]) ⟨hx, hb, hml, hown, hts⟩ (mX1_countAt l D cI x b a pa pe st bn hc hm C R lo (nI k2) (nI k4) (xhas_n (by omega)) (xhas_n (by omega))) (cwV 2 hts gX1_digest_X1_countAt rfl rfl rfl (by decide +kernel) ⟨Nat.le_of_ble_eq_true rfl, Nat.le_of_ble_eq_true rfl⟩) hP hK hN [0, 1, 2, 3, 4, 5, 6, 7] rfl [0] rfl rfl rfl rfl hl.1 rfl (Nat.le_of_ble_eq_true rfl) dX1_digest_198 ⟨Nat.zero_le _, Nat.zero_le _⟩ (fun r_27 hr_27 => ?_)
                subst r_27
                refine lv_i2l (v := (xCnt pa st ((nI k2) * C + (nI k4)) : Int32).toInt64) hx hb dX1_digest_201 rfl ?_
                refine lv_ladd hx hb dX1_digest_202 ?_
                refine lv_lstore_n (lv' := [(1, .long ((((((dv4 * 31) + ((xcl 72 pa ((nI k2) * C + (nI k4)) : Int32).toInt64)) * 31) + ((0 : Int32).toInt64)) * 31) + ((xCnt pa st ((nI k2) * C + (nI k4)) : Int32).toInt64))), (4, .int (nI k4)), (3, .int (nI k2)), (0, .ref x)]) hx hb dX1_digest_203 rfl hl (by decide) rfl (fun ls hl => ?_)
                refine lv_iinc (v := (nI (k4 + 1))) (lv' := [(4, .int (nI (k4 + 1))), (1, .long ((((((dv4 * 31) + ((xcl 72 pa ((nI k2) * C + (nI k4)) : Int32).toInt64)) * 31) + ((0 : Int32).toInt64)) * 31) + ((xCnt pa st ((nI k2) * C + (nI k4)) : Int32).toInt64))), (3, .int (nI k2)), (0, .ref x)]) hx hb dX1_digest_204 hl (k := 1) rfl (nI_1 k4) (by decide) rfl (fun ls hl => ?_)
                refine lv_goto (tgt := 142) hx hb dX1_digest_207 (by decide) ?_
                exact ih142 (k4 + 1) ((((((dv4 * 31) + ((xcl 72 pa ((nI k2) * C + (nI k4)) : Int32).toInt64)) * 31) + ((0 : Int32).toInt64)) * 31) + ((xCnt pa st ((nI k2) * C + (nI k4)) : Int32).toInt64)) (by omega) (by rw [hf4, xDig4]; first | rw [if_neg (by rw [c_26]; decide)] | rw [if_pos (nf_t c_26)]) _ _ hP hD hS ls (lv_sub hl [0, 1, 2, 3] rfl)
              · simp only [ne_eq, bi_e0] at c_26
                refine lv_iconst (v := 1) hx hb dX1_digest_181 (by decide) ?_
                refine lv_goto (tgt := 186) hx hb dX1_digest_182 (by decide) ?_
                refine lv_i2l (v := (1 : Int32).toInt64) hx hb dX1_digest_186 rfl ?_
                refine lv_ladd hx hb dX1_digest_187 ?_
                refine lv_lstore_n (lv' := [(1, .long ((((dv4 * 31) + ((xcl 72 pa ((nI k2) * C + (nI k4)) : Int32).toInt64)) * 31) + ((1 : Int32).toInt64))), (4, .int (nI k4)), (3, .int (nI k2)), (0, .ref x)]) hx hb dX1_digest_188 rfl hl (by decide) rfl (fun ls hl => ?_)
                refine lv_lload_n hx hb dX1_digest_189 rfl (lv_at hl 0 rfl) ?_
                refine lv_ldc2 hx hb hown (hts (.constantLong RX1 139 (31)) (mg 2 rfl)) dX1_digest_190 ?_
                refine lv_lmul hx hb dX1_digest_193 ?_
                refine lv_aload_n hx hb dX1_digest_194 rfl (lv_at hl 3 rfl) ?_
                refine lv_iload_n hx hb dX1_digest_195 rfl (lv_at hl 2 rfl) ?_
                refine lv_iload hx hb dX1_digest_196 (lv_at hl 1 rfl) ?_
                refine kRVi (As := [.int (nI k2), .int (nI k4)]) (rest := [.long (((((dv4 * 31) + ((xcl 72 pa ((nI k2) * C + (nI k4)) : Int32).toInt64)) * 31) + ((1 : Int32).toInt64)) * 31)]) ⟨hx, hb, hml, hown, hts⟩ (mX1_countAt l D cI x b a pa pe st bn hc hm C R lo (nI k2) (nI k4) (xhas_n (by omega)) (xhas_n (by omega))) (cwV 2 hts gX1_digest_X1_countAt rfl rfl rfl (by decide +kernel) ⟨Nat.le_of_ble_eq_true rfl, Nat.le_of_ble_eq_true rfl⟩) hP hK hN [0, 1, 2, 3, 4, 5, 6, 7] rfl [0] rfl rfl rfl rfl hl.1 rfl (Nat.le_of_ble_eq_true rfl) dX1_digest_198 ⟨Nat.zero_le _, Nat.zero_le _⟩ (fun r_28 hr_28 => ?_)
                subst r_28
                refine lv_i2l (v := (xCnt pa st ((nI k2) * C + (nI k4)) : Int32).toInt64) hx hb dX1_digest_201 rfl ?_
                refine lv_ladd hx hb dX1_digest_202 ?_
                refine lv_lstore_n (lv' := [(1, .long ((((((dv4 * 31) + ((xcl 72 pa ((nI k2) * C + (nI k4)) : Int32).toInt64)) * 31) + ((1 : Int32).toInt64)) * 31) + ((xCnt pa st ((nI k2) * C + (nI k4)) : Int32).toInt64))), (4, .int (nI k4)), (3, .int (nI k2)), (0, .ref x)]) hx hb dX1_digest_203 rfl hl (by decide) rfl (fun ls hl => ?_)
                refine lv_iinc (v := (nI (k4 + 1))) (lv' := [(4, .int (nI (k4 + 1))), (1, .long ((((((dv4 * 31) + ((xcl 72 pa ((nI k2) * C + (nI k4)) : Int32).toInt64)) * 31) + ((1 : Int32).toInt64)) * 31) + ((xCnt pa st ((nI k2) * C + (nI k4)) : Int32).toInt64))), (3, .int (nI k2)), (0, .ref x)]) hx hb dX1_digest_204 hl (k := 1) rfl (nI_1 k4) (by decide) rfl (fun ls hl => ?_)
                refine lv_goto (tgt := 142) hx hb dX1_digest_207 (by decide) ?_
                exact ih142 (k4 + 1) ((((((dv4 * 31) + ((xcl 72 pa ((nI k2) * C + (nI k4)) : Int32).toInt64)) * 31) + ((1 : Int32).toInt64)) * 31) + ((xCnt pa st ((nI k2) * C + (nI k4)) : Int32).toInt64)) (by omega) (by rw [hf4, xDig4]; first | rw [if_neg (by rw [c_26]; decide)] | rw [if_pos (nf_t c_26)]) _ _ hP hD hS ls (lv_sub hl [0, 1, 2, 3] rfl)
          exact L142 C.toNatClampNeg 0 ((dv2 * 31) + ((xNum pa st C (nI k2) : Int32).toInt64)) (by omega) (by rw [hf2]; rfl) _ _ hP hD hS ls (lv_sub hl [0, 1, 2, 3] rfl)
      exact L118 R.toNatClampNeg 0 dv (by omega) (by rw [hf1]; rfl) _ _ hP hD hS ls (lv_sub hl [0, 1, 2] rfl)
    | succ n ih66 =>
      intro k dv tpa tpe tst tbn thc thm tC tR tlo hkn66 hf1 H locs hP hD hS ls hl
      refine lv_iload_n hx hb dX1_digest_66 rfl (lv_at hl 0 rfl) ?_
      refine lv_iconst (v := 2) hx hb dX1_digest_67 (by decide) ?_
      refine lv_icmp_ge (tgt := 116) hx hb dX1_digest_68 (by decide) (fun c9 => absurd c9 (by rw [show (2 : Int32) = nI 2 from rfl]; exact nI_ge (by omega) (by decide))) (fun c_29 => ?_)
      refine lv_lload_n hx hb dX1_digest_71 rfl (lv_at hl 1 rfl) ?_
      refine lv_ldc2 hx hb hown (hts (.constantLong RX1 139 (31)) (mg 2 rfl)) dX1_digest_72 ?_
      refine lv_lmul hx hb dX1_digest_75 ?_
      refine lv_aload_n hx hb dX1_digest_76 rfl (lv_at hl 2 rfl) ?_
      refine lv_iload_n hx hb dX1_digest_77 rfl (lv_at hl 0 rfl) ?_
      refine kRVi (As := [.int (nI k)]) (rest := [.long (dv * 31)]) ⟨hx, hb, hml, hown, hts⟩ (mX1_marblesIn l D cI x b a pa pe st bn hc hm C R lo (nI k) (xhas_n (C := 2) (by show _ < 2; omega))) (cwV 1 hts gX1_digest_X1_marblesIn rfl rfl rfl (by decide +kernel) ⟨Nat.le_of_ble_eq_true rfl, Nat.le_of_ble_eq_true rfl⟩) hP hK hN [0, 1, 2, 3, 4, 5, 6, 7] rfl [0] rfl rfl rfl rfl hl.1 rfl (Nat.le_of_ble_eq_true rfl) dX1_digest_78 ⟨Nat.zero_le _, Nat.zero_le _⟩ (fun r_30 hr_30 => ?_)
      subst r_30
      refine lv_i2l (v := (xcl 2 hm (nI k) : Int32).toInt64) hx hb dX1_digest_81 rfl ?_
      refine lv_ladd hx hb dX1_digest_82 ?_
      refine lv_lstore_n (lv' := [(1, .long ((dv * 31) + ((xcl 2 hm (nI k) : Int32).toInt64))), (3, .int (nI k)), (0, .ref x)]) hx hb dX1_digest_83 rfl hl (by decide) rfl (fun ls hl => ?_)
      refine lv_lload_n hx hb dX1_digest_84 rfl (lv_at hl 0 rfl) ?_
      refine lv_ldc2 hx hb hown (hts (.constantLong RX1 139 (31)) (mg 2 rfl)) dX1_digest_85 ?_
      refine lv_lmul hx hb dX1_digest_88 ?_
      refine lv_aload_n hx hb dX1_digest_89 rfl (lv_at hl 2 rfl) ?_
      refine lv_iload_n hx hb dX1_digest_90 rfl (lv_at hl 1 rfl) ?_
      refine kRVi (As := [.int (nI k)]) (rest := [.long (((dv * 31) + ((xcl 2 hm (nI k) : Int32).toInt64)) * 31)]) ⟨hx, hb, hml, hown, hts⟩ (mX1_columnOf l D cI x b a pa pe st bn hc hm C R lo (nI k) (xhas_n (C := 2) (by show _ < 2; omega))) (cwV 1 hts gX1_digest_X1_columnOf rfl rfl rfl (by decide +kernel) ⟨Nat.le_of_ble_eq_true rfl, Nat.le_of_ble_eq_true rfl⟩) hP hK hN [0, 1, 2, 3, 4, 5, 6, 7] rfl [0] rfl rfl rfl rfl hl.1 rfl (Nat.le_of_ble_eq_true rfl) dX1_digest_91 ⟨Nat.zero_le _, Nat.zero_le _⟩ (fun r_31 hr_31 => ?_)
      subst r_31
      refine lv_i2l (v := (xcl 2 hc (nI k) : Int32).toInt64) hx hb dX1_digest_94 rfl ?_
      refine lv_ladd hx hb dX1_digest_95 ?_
      refine lv_lstore_n (lv' := [(1, .long ((((dv * 31) + ((xcl 2 hm (nI k) : Int32).toInt64)) * 31) + ((xcl 2 hc (nI k) : Int32).toInt64))), (3, .int (nI k)), (0, .ref x)]) hx hb dX1_digest_96 rfl hl (by decide) rfl (fun ls hl => ?_)
      refine lv_lload_n hx hb dX1_digest_97 rfl (lv_at hl 0 rfl) ?_
      refine lv_ldc2 hx hb hown (hts (.constantLong RX1 139 (31)) (mg 2 rfl)) dX1_digest_98 ?_
      refine lv_lmul hx hb dX1_digest_101 ?_
      refine lv_aload_n hx hb dX1_digest_102 rfl (lv_at hl 2 rfl) ?_
      refine lv_iload_n hx hb dX1_digest_103 rfl (lv_at hl 1 rfl) ?_
      refine kQVi (As := [.int (nI k)]) (rest := [.long (((((dv * 31) + ((xcl 2 hm (nI k) : Int32).toInt64)) * 31) + ((xcl 2 hc (nI k) : Int32).toInt64)) * 31)]) (wr := []) (W2 := (fun u : MS => (wX x a b ++ wM cI a pa pe st bn hc hm C R lo ++ wM cI b u.1 u.2.1 u.2.2.1 u.2.2.2.1 u.2.2.2.2.1 u.2.2.2.2.2.1 u.2.2.2.2.2.2.1 u.2.2.2.2.2.2.2.1 u.2.2.2.2.2.2.2.2))) ⟨hx, hb, hml, hown, hts⟩ (mX1_wouldRun l D cI x a pa pe st bn hc hm C R lo b tpa tpe tst tbn thc thm tC tR tlo (nI k) (xhas_n (C := 2) (by show _ < 2; omega)) _) (cwV 1 hts gX1_digest_X1_wouldRun rfl rfl rfl (by decide +kernel) ⟨Nat.le_of_ble_eq_true rfl, Nat.le_of_ble_eq_true rfl⟩) hP hD hK hN hS hA [0, 1, 2, 3, 4, 5, 6, 7, 8, 9, 10, 11, 12, 13, 14] (by decide) rfl [] (by decide) rfl (by decide) [0, 1, 2, 3, 4, 5, 6, 7, 8, 9, 10, 11, 12, 13, 14] (by decide) (fun _ => rfl) [0] rfl rfl rfl rfl hl.1 rfl (Nat.le_of_ble_eq_true rfl) dX1_digest_104 ⟨Nat.le_of_ble_eq_true rfl, Nat.le_of_ble_eq_true rfl⟩ (fun r_32 u_32 H locs hr_32 hP hD hS => ?_)
      subst r_32
      have hP : va_P D vwCl (wX x a b ++ wM cI a pa pe st bn hc hm C R lo ++ wM cI b u_32.1 u_32.2.1 u_32.2.2.1 u_32.2.2.2.1 u_32.2.2.2.2.1 u_32.2.2.2.2.2.1 u_32.2.2.2.2.2.2.1 u_32.2.2.2.2.2.2.2.1 u_32.2.2.2.2.2.2.2.2) H := hP
      have hD : va_D (va_A (wX x a b ++ wM cI a pa pe st bn hc hm C R lo ++ wM cI b pa2 pe2 st2 bn2 hc2 hm2 C2 R2 lo2) sz) (wX x a b ++ wM cI a pa pe st bn hc hm C R lo ++ wM cI b u_32.1 u_32.2.1 u_32.2.2.1 u_32.2.2.2.1 u_32.2.2.2.2.1 u_32.2.2.2.2.2.1 u_32.2.2.2.2.2.2.1 u_32.2.2.2.2.2.2.2.1 u_32.2.2.2.2.2.2.2.2) := hD
      refine lv_i2l (v := ((xRun pa pe st bn hc hm C R lo (nI k) 99).1 : Int32).toInt64) hx hb dX1_digest_107 rfl ?_
      refine lv_ladd hx hb dX1_digest_108 ?_
      refine lv_lstore_n (lv' := [(1, .long ((((((dv * 31) + ((xcl 2 hm (nI k) : Int32).toInt64)) * 31) + ((xcl 2 hc (nI k) : Int32).toInt64)) * 31) + (((xRun pa pe st bn hc hm C R lo (nI k) 99).1 : Int32).toInt64))), (3, .int (nI k)), (0, .ref x)]) hx hb dX1_digest_109 rfl hl (by decide) rfl (fun ls hl => ?_)
      refine lv_iinc (v := (nI (k + 1))) (lv' := [(3, .int (nI (k + 1))), (1, .long ((((((dv * 31) + ((xcl 2 hm (nI k) : Int32).toInt64)) * 31) + ((xcl 2 hc (nI k) : Int32).toInt64)) * 31) + (((xRun pa pe st bn hc hm C R lo (nI k) 99).1 : Int32).toInt64))), (0, .ref x)]) hx hb dX1_digest_110 hl (k := 1) rfl (nI_1 k) (by decide) rfl (fun ls hl => ?_)
      refine lv_goto (tgt := 66) hx hb dX1_digest_113 (by decide) ?_
      exact ih66 (k + 1) ((((((dv * 31) + ((xcl 2 hm (nI k) : Int32).toInt64)) * 31) + ((xcl 2 hc (nI k) : Int32).toInt64)) * 31) + (((xRun pa pe st bn hc hm C R lo (nI k) 99).1 : Int32).toInt64)) u_32.1 u_32.2.1 u_32.2.2.1 u_32.2.2.2.1 u_32.2.2.2.2.1 u_32.2.2.2.2.2.1 u_32.2.2.2.2.2.2.1 u_32.2.2.2.2.2.2.2.1 u_32.2.2.2.2.2.2.2.2 (by omega) (by rw [hf1]; rfl) _ _ hP hD hS ls (lv_sub hl [0, 1, 2] rfl)
  exact L66 2 0 ((((((((((2239 * 31) + ((C : Int32).toInt64)) * 31) + ((R : Int32).toInt64)) * 31) + ((lo : Int32).toInt64)) * 31) + ((xTog pa : Int32).toInt64)) * 31) + ((xBest pa pe st C R : Int32).toInt64)) u_5.1 u_5.2.1 u_5.2.2.1 u_5.2.2.2.1 u_5.2.2.2.2.1 u_5.2.2.2.2.2.1 u_5.2.2.2.2.2.2.1 u_5.2.2.2.2.2.2.2.1 u_5.2.2.2.2.2.2.2.2 (by omega) rfl _ _ hP hD hS ls (lv_sub hl [0, 1, 2] rfl)
