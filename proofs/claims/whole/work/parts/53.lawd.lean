set_option maxHeartbeats 4000000 in
set_option maxRecDepth 100000 in
theorem cs_15 {p : Program} {l : Launch} {e : Env} {s : State} {m : MethodId} {below : List Frame} {meth : Method} {c : Code} {Q : State → Prop} {D : va_G} {cI cL : ClassId} {x o b0 L k : Nat} {a b v : Nat → Nat} {xs : Nat → Int32} {A : Nat → Prop} {cells slots : Nat} {cN rN : Nat} {pa pe st bn hc hm : Nat → Int32} {lo : Int32} {pa2 pe2 st2 bn2 hc2 hm2 : Nat → Int32} {C2 R2 lo2 : Int32} {pt pd ab nw kp wy : Nat → Int32} {th tn : Int32} {ov : Nat → Int64} {H : Heap} {locs : List Loc} {ls : Array Slot} (F : LF p l s m b0 c D cI cL L xs A) (hR : Rel cN rN pa pe st bn hc hm lo pt pd ab nw) (hk : 4 * k + 3 < L) (h1 : cells + 10 ≤ room_1.cells) (h2 : slots + 41 ≤ room_1.slots) (hP : va_P D vwCl (wX x a b ++ wM cI a pa pe st bn hc hm (nI cN) (nI rN) lo ++ wM cI b pa2 pe2 st2 bn2 hc2 hm2 C2 R2 lo2 ++ wN cI v pt pd ab nw kp wy th (nI cN) (nI rN) tn ++ wL cL o 1 ov) H) (hD : va_D A (wX x a b ++ wM cI a pa pe st bn hc hm (nI cN) (nI rN) lo ++ wM cI b pa2 pe2 st2 bn2 hc2 hm2 C2 R2 lo2 ++ wN cI v pt pd ab nw kp wy th (nI cN) (nI rN) tn ++ wL cL o 1 ov)) (hS : va_S A s.heap H locs) (hl : lv_has ls 9 [(4, .int (nI (4 * k))), (3, .ref o), (2, .ref (v 0)), (1, .ref x), (0, .ref b0)]) (K : LK p l e s m b0 below meth c D cI cL x o k a b v A cells slots Q) : W p l e room_1 s m #[Value.ref b0] below meth c H locs cells slots Q (F0 m 990 ls []) := by
  obtain ⟨hx, hb, hml, hown, hts, hK, hN, hKX, hZ, hA, hX, hbl, hbA, hst, hL⟩ := F
  have hI := hR.inv
  obtain ⟨v1, hv1⟩ : ∃ z, xs (nI (4 * k) + 1).toNatClampNeg = z := ⟨_, rfl⟩
  by_cases hp : xhas 2 v1 = true
  · obtain ⟨i1, hi1, rfl⟩ := hE hp
    obtain ⟨o1, o2, o3⟩ := hR.hop2 hi1
    refine lv_aload_n hx hb dL_law_990 rfl (lv_at hl 3 rfl) ?_
    refine lv_aload_n hx hb dL_law_991 rfl (lv_at hl 4 rfl) ?_
    refine lv_iload hx hb dL_law_992 (lv_at hl 0 rfl) ?_
    refine lv_iconst (v := 1) hx hb dL_law_994 (by decide) ?_
    refine lv_iadd hx hb dL_law_995 ?_
    refine va_sld hx hb hX hbl hbA hS (sx_in hL (j := 1) (by omega)) dL_law_996 ?_
    rw [hv1]
    refine lv_aload_n hx hb dL_law_997 rfl (lv_at hl 1 rfl) ?_
    refine kQWi (As := [.ref x, .int (nI i1), .ref o]) (rest := []) (wr := [(v 0, .inr (2, [.int th, .int (nI cN), .int (nI rN), .ref (v 1), .ref (v 2), .ref (v 3), .ref (v 4), .ref (v 5), .int tn, .ref (v 6)])), (v 1, .inl (cI, 72, .inl pt)), (v 2, .inl (cI, 72, .inl pd)), (v 3, .inl (cI, 2, .inl ab)), (v 4, .inl (cI, 84, .inl nw)), (v 5, .inl (cI, 84, .inl kp)), (v 6, .inl (cI, 8, .inl wy))]) (W2 := (fun _ => (wX x a b ++ wM cI a pa pe st bn hc hm (nI cN) (nI rN) lo ++ wM cI b pa2 pe2 st2 bn2 hc2 hm2 C2 R2 lo2 ++ wN cI v pt pd ab nw kp wy th (nI cN) (nI rN) tn ++ wL cL o 1 ((vp_updL ov 0 ((xcl 2 hm (nI i1)) : Int32).toInt64))))) ⟨hx, hb, hml, hown, hts⟩ (mL_marblesIn_0 l D cI cL x a pa pe st bn hc hm (nI cN) (nI rN) lo b pa2 pe2 st2 bn2 hc2 hm2 C2 R2 lo2 o ov (nI i1) hp _) (vx_cwSW 3 hts gL_law_L_marblesIn rfl rfl rfl (by decide +kernel) ⟨Nat.le_of_ble_eq_true rfl, Nat.le_of_ble_eq_true rfl⟩) hP hD hK hN hKX (hZ.now hS hA) hS hA [0, 1, 2, 3, 4, 5, 6, 7, 8, 9, 10, 11, 12, 13, 14, 22] (by decide) rfl [15, 16, 17, 18, 19, 20, 21] (by decide) rfl (by decide) [7, 8, 9, 10, 11, 12, 13, 14, 15, 16, 17, 18, 19, 20, 21, 0, 1, 2, 3, 4, 5, 6, 22] (by decide) (fun _ => rfl) [0, 1] rfl rfl hl.1 rfl (Nat.le_of_ble_eq_true rfl) dL_law_998 ⟨by omega, by omega⟩ (fun r_1 u_1 H locs hr_1 hP hD hS => ?_)
    subst r_1
    have hP : va_P D vwCl (wX x a b ++ wM cI a pa pe st bn hc hm (nI cN) (nI rN) lo ++ wM cI b pa2 pe2 st2 bn2 hc2 hm2 C2 R2 lo2 ++ wN cI v pt pd ab nw kp wy th (nI cN) (nI rN) tn ++ wL cL o 1 ((vp_updL ov 0 ((xcl 2 hm (nI i1)) : Int32).toInt64))) H := hP
    have hD : va_D A (wX x a b ++ wM cI a pa pe st bn hc hm (nI cN) (nI rN) lo ++ wM cI b pa2 pe2 st2 bn2 hc2 hm2 C2 R2 lo2 ++ wN cI v pt pd ab nw kp wy th (nI cN) (nI rN) tn ++ wL cL o 1 ((vp_updL ov 0 ((xcl 2 hm (nI i1)) : Int32).toInt64))) := hD
    refine lv_istore (lv' := [(5, .int 0), (4, .int (nI (4 * k))), (3, .ref o), (2, .ref (v 0)), (1, .ref x), (0, .ref b0)]) hx hb dL_law_1001 hl (by decide) rfl (fun ls hl => ?_)
    refine lv_aload_n hx hb dL_law_1003 rfl (lv_at hl 3 rfl) ?_
    refine lv_aload_n hx hb dL_law_1004 rfl (lv_at hl 5 rfl) ?_
    refine lv_iload hx hb dL_law_1005 (lv_at hl 1 rfl) ?_
    refine lv_iconst (v := 1) hx hb dL_law_1007 (by decide) ?_
    refine lv_iadd hx hb dL_law_1008 ?_
    refine va_sld hx hb hX hbl hbA hS (sx_in hL (j := 1) (by omega)) dL_law_1009 ?_
    rw [hv1]
    refine kQVi (As := [.int (nI i1)]) (rest := []) (wr := [(x, .inr (1, [.ref (a 0), .ref (b 0)])), (a 0, .inr (0, [.ref (a 1), .ref (a 2), .ref (a 3), .ref (a 4), .ref (a 5), .ref (a 6), .int (nI cN), .int (nI rN), .int lo])), (a 1, .inl (cI, 72, .inl pa)), (a 2, .inl (cI, 72, .inl pe)), (a 3, .inl (cI, 72, .inl st)), (a 4, .inl (cI, 9, .inl bn)), (a 5, .inl (cI, 2, .inl hc)), (a 6, .inl (cI, 2, .inl hm)), (b 0, .inr (0, [.ref (b 1), .ref (b 2), .ref (b 3), .ref (b 4), .ref (b 5), .ref (b 6), .int C2, .int R2, .int lo2])), (b 1, .inl (cI, 72, .inl pa2)), (b 2, .inl (cI, 72, .inl pe2)), (b 3, .inl (cI, 72, .inl st2)), (b 4, .inl (cI, 9, .inl bn2)), (b 5, .inl (cI, 2, .inl hc2)), (b 6, .inl (cI, 2, .inl hm2)), (o, .inl (cL, 1, .inr (.inl (vp_updL ov 0 ((xcl 2 hm (nI i1)) : Int32).toInt64))))]) (W2 := (fun _ => (wX x a b ++ wM cI a pa pe st bn hc hm (nI cN) (nI rN) lo ++ wM cI b pa2 pe2 st2 bn2 hc2 hm2 C2 R2 lo2 ++ wN cI v pt pd ab nw kp wy 0 (nI cN) (nI rN) tn ++ wL cL o 1 ((vp_updL ov 0 ((xcl 2 hm (nI i1)) : Int32).toInt64))))) ⟨hx, hb, hml, hown, hts⟩ (mX2_marblesIn_0 l D cI v pt pd ab nw kp wy th cN rN tn (nI i1) (hT hp) _) (cwV 1 hts gL_law_X2_marblesIn rfl rfl rfl (by decide +kernel) ⟨Nat.le_of_ble_eq_true rfl, Nat.le_of_ble_eq_true rfl⟩) hP hD hK hN hS hA [15, 16, 17, 18, 19, 20, 21] (by decide) rfl [0, 1, 2, 3, 4, 5, 6, 7, 8, 9, 10, 11, 12, 13, 14, 22] (by decide) rfl (by decide) [0, 1, 2, 3, 4, 5, 6, 7, 8, 9, 10, 11, 12, 13, 14, 16, 17, 18, 19, 20, 21, 22, 15] (by decide) (fun _ => rfl) [0] rfl rfl rfl rfl hl.1 rfl (Nat.le_of_ble_eq_true rfl) dL_law_1010 ⟨by omega, by omega⟩ (fun r_2 u_2 H locs hr_2 hP hD hS => ?_)
    subst r_2
    have hP : va_P D vwCl (wX x a b ++ wM cI a pa pe st bn hc hm (nI cN) (nI rN) lo ++ wM cI b pa2 pe2 st2 bn2 hc2 hm2 C2 R2 lo2 ++ wN cI v pt pd ab nw kp wy 0 (nI cN) (nI rN) tn ++ wL cL o 1 ((vp_updL ov 0 ((xcl 2 hm (nI i1)) : Int32).toInt64))) H := hP
    have hD : va_D A (wX x a b ++ wM cI a pa pe st bn hc hm (nI cN) (nI rN) lo ++ wM cI b pa2 pe2 st2 bn2 hc2 hm2 C2 R2 lo2 ++ wN cI v pt pd ab nw kp wy 0 (nI cN) (nI rN) tn ++ wL cL o 1 ((vp_updL ov 0 ((xcl 2 hm (nI i1)) : Int32).toInt64))) := hD
    refine lv_istore (lv' := [(6, .int (nw (81 + (nI i1)).toNatClampNeg)), (5, .int 0), (4, .int (nI (4 * k))), (3, .ref o), (2, .ref (v 0)), (1, .ref x), (0, .ref b0)]) hx hb dL_law_1013 hl (by decide) rfl (fun ls hl => ?_)
    refine lv_aload_n hx hb dL_law_1015 rfl (lv_at hl 4 rfl) ?_
    refine kRVi (As := []) (rest := []) ⟨hx, hb, hml, hown, hts⟩ (mX2_thrown l D cI v pt pd ab nw kp wy 0 cN rN tn) (cwV 0 hts gL_law_X2_thrown rfl rfl rfl (by decide +kernel) ⟨Nat.le_of_ble_eq_true rfl, Nat.le_of_ble_eq_true rfl⟩) hP hK hN [15, 16, 17, 18, 19, 20, 21] rfl [0] rfl rfl rfl rfl hl.1 rfl (Nat.le_of_ble_eq_true rfl) dL_law_1016 ⟨by omega, by omega⟩ (fun r_3 hr_3 => ?_)
    subst r_3
    refine lv_iload hx hb dL_law_1019 (lv_at hl 1 rfl) ?_
    refine lv_icmp_eq (tgt := 1026) hx hb dL_law_1021 (by decide) (fun _ => ?_) (fun c9 => absurd (by decide) c9)
    refine lv_iload hx hb dL_law_1026 (lv_at hl 1 rfl) ?_
    refine lv_if_ne (tgt := 1043) hx hb dL_law_1028 (by decide) (fun c9 => absurd c9 (by decide)) (fun _ => ?_)
    refine lv_aload_n hx hb dL_law_1031 rfl (lv_at hl 3 rfl) ?_
    refine lv_iconst (v := 0) hx hb dL_law_1032 (by decide) ?_
    refine va_lald hx hb hK hP 22 1 rfl rfl (vp_in_nI (n := 0) (by decide) (by decide)) dL_law_1033 ?_
    rw [show (0 : Int32).toNatClampNeg = 0 from by decide, updL_0]
    refine lv_iload hx hb dL_law_1034 (lv_at hl 0 rfl) ?_
    refine lv_i2l (v := (nw (81 + (nI i1)).toNatClampNeg : Int32).toInt64) hx hb dL_law_1036 rfl ?_
    refine W.lcmp hx hb dL_law_1037 ?_
    refine lv_if_eq (tgt := 1043) hx hb dL_law_1038 (by decide) (fun _ => ?_) (fun c9 => absurd ((lg_cmp_eq _ _).mpr (congrArg Int32.toInt64 o1)) c9)
    refine lv_goto (tgt := 1599) hx hb dL_law_1043 (by decide) ?_
    refine W.widen (k := cells + 10) (n := slots + 41) (by omega) (by omega) ?_
    exact K cN rN pa pe st bn hc hm lo pa2 pe2 st2 bn2 hc2 hm2 C2 R2 lo2 pt pd ab nw kp wy 0 tn (vp_updL ov 0 ((xcl 2 hm (nI i1)) : Int32).toInt64) _ _ _ hR hP hD hS (lv_sub hl [2, 3, 4, 5, 6] rfl)
  · have hp : xhas 2 v1 = false := Bool.eq_false_iff.mpr hp
    refine lv_aload_n hx hb dL_law_990 rfl (lv_at hl 3 rfl) ?_
    refine lv_aload_n hx hb dL_law_991 rfl (lv_at hl 4 rfl) ?_
    refine lv_iload hx hb dL_law_992 (lv_at hl 0 rfl) ?_
    refine lv_iconst (v := 1) hx hb dL_law_994 (by decide) ?_
    refine lv_iadd hx hb dL_law_995 ?_
    refine va_sld hx hb hX hbl hbA hS (sx_in hL (j := 1) (by omega)) dL_law_996 ?_
    rw [hv1]
    refine lv_aload_n hx hb dL_law_997 rfl (lv_at hl 1 rfl) ?_
    refine kQWi (As := [.ref x, .int v1, .ref o]) (rest := []) (wr := [(v 0, .inr (2, [.int th, .int (nI cN), .int (nI rN), .ref (v 1), .ref (v 2), .ref (v 3), .ref (v 4), .ref (v 5), .int tn, .ref (v 6)])), (v 1, .inl (cI, 72, .inl pt)), (v 2, .inl (cI, 72, .inl pd)), (v 3, .inl (cI, 2, .inl ab)), (v 4, .inl (cI, 84, .inl nw)), (v 5, .inl (cI, 84, .inl kp)), (v 6, .inl (cI, 8, .inl wy))]) (W2 := (fun _ => (wX x a b ++ wM cI a pa pe st bn hc hm (nI cN) (nI rN) lo ++ wM cI b pa2 pe2 st2 bn2 hc2 hm2 C2 R2 lo2 ++ wN cI v pt pd ab nw kp wy th (nI cN) (nI rN) tn ++ wL cL o 1 ov))) ⟨hx, hb, hml, hown, hts⟩ (mL_marblesIn_h l hst D cI cL x a pa pe st bn hc hm (nI cN) (nI rN) lo b pa2 pe2 st2 bn2 hc2 hm2 C2 R2 lo2 o ov v1 hp _) (vx_cwSW 3 hts gL_law_L_marblesIn rfl rfl rfl (by decide +kernel) ⟨Nat.le_of_ble_eq_true rfl, Nat.le_of_ble_eq_true rfl⟩) hP hD hK hN hKX (hZ.now hS hA) hS hA [0, 1, 2, 3, 4, 5, 6, 7, 8, 9, 10, 11, 12, 13, 14, 22] (by decide) rfl [15, 16, 17, 18, 19, 20, 21] (by decide) rfl (by decide) [7, 8, 9, 10, 11, 12, 13, 14, 15, 16, 17, 18, 19, 20, 21, 0, 1, 2, 3, 4, 5, 6, 22] (by decide) (fun _ => rfl) [0, 1] rfl rfl hl.1 rfl (Nat.le_of_ble_eq_true rfl) dL_law_998 ⟨by omega, by omega⟩ (fun r_6 u_6 H locs hr_6 hP hD hS => ?_)
    subst r_6
    have hP : va_P D vwCl (wX x a b ++ wM cI a pa pe st bn hc hm (nI cN) (nI rN) lo ++ wM cI b pa2 pe2 st2 bn2 hc2 hm2 C2 R2 lo2 ++ wN cI v pt pd ab nw kp wy th (nI cN) (nI rN) tn ++ wL cL o 1 ov) H := hP
    have hD : va_D A (wX x a b ++ wM cI a pa pe st bn hc hm (nI cN) (nI rN) lo ++ wM cI b pa2 pe2 st2 bn2 hc2 hm2 C2 R2 lo2 ++ wN cI v pt pd ab nw kp wy th (nI cN) (nI rN) tn ++ wL cL o 1 ov) := hD
    refine lv_istore (lv' := [(5, .int 1), (4, .int (nI (4 * k))), (3, .ref o), (2, .ref (v 0)), (1, .ref x), (0, .ref b0)]) hx hb dL_law_1001 hl (by decide) rfl (fun ls hl => ?_)
    refine lv_aload_n hx hb dL_law_1003 rfl (lv_at hl 3 rfl) ?_
    refine lv_aload_n hx hb dL_law_1004 rfl (lv_at hl 5 rfl) ?_
    refine lv_iload hx hb dL_law_1005 (lv_at hl 1 rfl) ?_
    refine lv_iconst (v := 1) hx hb dL_law_1007 (by decide) ?_
    refine lv_iadd hx hb dL_law_1008 ?_
    refine va_sld hx hb hX hbl hbA hS (sx_in hL (j := 1) (by omega)) dL_law_1009 ?_
    rw [hv1]
    refine kQVi (As := [.int v1]) (rest := []) (wr := [(x, .inr (1, [.ref (a 0), .ref (b 0)])), (a 0, .inr (0, [.ref (a 1), .ref (a 2), .ref (a 3), .ref (a 4), .ref (a 5), .ref (a 6), .int (nI cN), .int (nI rN), .int lo])), (a 1, .inl (cI, 72, .inl pa)), (a 2, .inl (cI, 72, .inl pe)), (a 3, .inl (cI, 72, .inl st)), (a 4, .inl (cI, 9, .inl bn)), (a 5, .inl (cI, 2, .inl hc)), (a 6, .inl (cI, 2, .inl hm)), (b 0, .inr (0, [.ref (b 1), .ref (b 2), .ref (b 3), .ref (b 4), .ref (b 5), .ref (b 6), .int C2, .int R2, .int lo2])), (b 1, .inl (cI, 72, .inl pa2)), (b 2, .inl (cI, 72, .inl pe2)), (b 3, .inl (cI, 72, .inl st2)), (b 4, .inl (cI, 9, .inl bn2)), (b 5, .inl (cI, 2, .inl hc2)), (b 6, .inl (cI, 2, .inl hm2)), (o, .inl (cL, 1, .inr (.inl ov)))]) (W2 := (fun _ => (wX x a b ++ wM cI a pa pe st bn hc hm (nI cN) (nI rN) lo ++ wM cI b pa2 pe2 st2 bn2 hc2 hm2 C2 R2 lo2 ++ wN cI v pt pd ab nw kp wy 1 (nI cN) (nI rN) tn ++ wL cL o 1 ov))) ⟨hx, hb, hml, hown, hts⟩ (mX2_marblesIn_1 l D cI v pt pd ab nw kp wy th cN rN tn v1 (hT hp) _) (cwV 1 hts gL_law_X2_marblesIn rfl rfl rfl (by decide +kernel) ⟨Nat.le_of_ble_eq_true rfl, Nat.le_of_ble_eq_true rfl⟩) hP hD hK hN hS hA [15, 16, 17, 18, 19, 20, 21] (by decide) rfl [0, 1, 2, 3, 4, 5, 6, 7, 8, 9, 10, 11, 12, 13, 14, 22] (by decide) rfl (by decide) [0, 1, 2, 3, 4, 5, 6, 7, 8, 9, 10, 11, 12, 13, 14, 16, 17, 18, 19, 20, 21, 22, 15] (by decide) (fun _ => rfl) [0] rfl rfl rfl rfl hl.1 rfl (Nat.le_of_ble_eq_true rfl) dL_law_1010 ⟨by omega, by omega⟩ (fun r_7 u_7 H locs hr_7 hP hD hS => ?_)
    subst r_7
    have hP : va_P D vwCl (wX x a b ++ wM cI a pa pe st bn hc hm (nI cN) (nI rN) lo ++ wM cI b pa2 pe2 st2 bn2 hc2 hm2 C2 R2 lo2 ++ wN cI v pt pd ab nw kp wy 1 (nI cN) (nI rN) tn ++ wL cL o 1 ov) H := hP
    have hD : va_D A (wX x a b ++ wM cI a pa pe st bn hc hm (nI cN) (nI rN) lo ++ wM cI b pa2 pe2 st2 bn2 hc2 hm2 C2 R2 lo2 ++ wN cI v pt pd ab nw kp wy 1 (nI cN) (nI rN) tn ++ wL cL o 1 ov) := hD
    refine lv_istore (lv' := [(6, .int 0), (5, .int 1), (4, .int (nI (4 * k))), (3, .ref o), (2, .ref (v 0)), (1, .ref x), (0, .ref b0)]) hx hb dL_law_1013 hl (by decide) rfl (fun ls hl => ?_)
    refine lv_aload_n hx hb dL_law_1015 rfl (lv_at hl 4 rfl) ?_
    refine kRVi (As := []) (rest := []) ⟨hx, hb, hml, hown, hts⟩ (mX2_thrown l D cI v pt pd ab nw kp wy 1 cN rN tn) (cwV 0 hts gL_law_X2_thrown rfl rfl rfl (by decide +kernel) ⟨Nat.le_of_ble_eq_true rfl, Nat.le_of_ble_eq_true rfl⟩) hP hK hN [15, 16, 17, 18, 19, 20, 21] rfl [0] rfl rfl rfl rfl hl.1 rfl (Nat.le_of_ble_eq_true rfl) dL_law_1016 ⟨by omega, by omega⟩ (fun r_8 hr_8 => ?_)
    subst r_8
    refine lv_iload hx hb dL_law_1019 (lv_at hl 1 rfl) ?_
    refine lv_icmp_eq (tgt := 1026) hx hb dL_law_1021 (by decide) (fun _ => ?_) (fun c9 => absurd (by decide) c9)
    refine lv_iload hx hb dL_law_1026 (lv_at hl 1 rfl) ?_
    refine lv_if_ne (tgt := 1043) hx hb dL_law_1028 (by decide) (fun _ => ?_) (fun c9 => absurd c9 (by decide))
    refine lv_goto (tgt := 1599) hx hb dL_law_1043 (by decide) ?_
    refine W.widen (k := cells + 10) (n := slots + 41) (by omega) (by omega) ?_
    exact K cN rN pa pe st bn hc hm lo pa2 pe2 st2 bn2 hc2 hm2 C2 R2 lo2 pt pd ab nw kp wy 1 tn ov _ _ _ hR hP hD hS (lv_sub hl [2, 3, 4, 5, 6] rfl)
set_option maxHeartbeats 4000000 in
set_option maxRecDepth 100000 in
theorem cs_16 {p : Program} {l : Launch} {e : Env} {s : State} {m : MethodId} {below : List Frame} {meth : Method} {c : Code} {Q : State → Prop} {D : va_G} {cI cL : ClassId} {x o b0 L k : Nat} {a b v : Nat → Nat} {xs : Nat → Int32} {A : Nat → Prop} {cells slots : Nat} {cN rN : Nat} {pa pe st bn hc hm : Nat → Int32} {lo : Int32} {pa2 pe2 st2 bn2 hc2 hm2 : Nat → Int32} {C2 R2 lo2 : Int32} {pt pd ab nw kp wy : Nat → Int32} {th tn : Int32} {ov : Nat → Int64} {H : Heap} {locs : List Loc} {ls : Array Slot} (F : LF p l s m b0 c D cI cL L xs A) (hR : Rel cN rN pa pe st bn hc hm lo pt pd ab nw) (hk : 4 * k + 3 < L) (h1 : cells + 10 ≤ room_1.cells) (h2 : slots + 41 ≤ room_1.slots) (hP : va_P D vwCl (wX x a b ++ wM cI a pa pe st bn hc hm (nI cN) (nI rN) lo ++ wM cI b pa2 pe2 st2 bn2 hc2 hm2 C2 R2 lo2 ++ wN cI v pt pd ab nw kp wy th (nI cN) (nI rN) tn ++ wL cL o 1 ov) H) (hD : va_D A (wX x a b ++ wM cI a pa pe st bn hc hm (nI cN) (nI rN) lo ++ wM cI b pa2 pe2 st2 bn2 hc2 hm2 C2 R2 lo2 ++ wN cI v pt pd ab nw kp wy th (nI cN) (nI rN) tn ++ wL cL o 1 ov)) (hS : va_S A s.heap H locs) (hl : lv_has ls 9 [(4, .int (nI (4 * k))), (3, .ref o), (2, .ref (v 0)), (1, .ref x), (0, .ref b0)]) (K : LK p l e s m b0 below meth c D cI cL x o k a b v A cells slots Q) : W p l e room_1 s m #[Value.ref b0] below meth c H locs cells slots Q (F0 m 1046 ls []) := by
  obtain ⟨hx, hb, hml, hown, hts, hK, hN, hKX, hZ, hA, hX, hbl, hbA, hst, hL⟩ := F
  have hI := hR.inv
  obtain ⟨v1, hv1⟩ : ∃ z, xs (nI (4 * k) + 1).toNatClampNeg = z := ⟨_, rfl⟩
  by_cases hp : xhas 2 v1 = true
  · obtain ⟨i1, hi1, rfl⟩ := hE hp
    obtain ⟨o1, o2, o3⟩ := hR.hop2 hi1
    refine lv_aload_n hx hb dL_law_1046 rfl (lv_at hl 3 rfl) ?_
    refine lv_aload_n hx hb dL_law_1047 rfl (lv_at hl 4 rfl) ?_
    refine lv_iload hx hb dL_law_1048 (lv_at hl 0 rfl) ?_
    refine lv_iconst (v := 1) hx hb dL_law_1050 (by decide) ?_
    refine lv_iadd hx hb dL_law_1051 ?_
    refine va_sld hx hb hX hbl hbA hS (sx_in hL (j := 1) (by omega)) dL_law_1052 ?_
    rw [hv1]
    refine lv_aload_n hx hb dL_law_1053 rfl (lv_at hl 1 rfl) ?_
    refine kQWi (As := [.ref x, .int (nI i1), .ref o]) (rest := []) (wr := [(v 0, .inr (2, [.int th, .int (nI cN), .int (nI rN), .ref (v 1), .ref (v 2), .ref (v 3), .ref (v 4), .ref (v 5), .int tn, .ref (v 6)])), (v 1, .inl (cI, 72, .inl pt)), (v 2, .inl (cI, 72, .inl pd)), (v 3, .inl (cI, 2, .inl ab)), (v 4, .inl (cI, 84, .inl nw)), (v 5, .inl (cI, 84, .inl kp)), (v 6, .inl (cI, 8, .inl wy))]) (W2 := (fun _ => (wX x a b ++ wM cI a pa pe st bn hc hm (nI cN) (nI rN) lo ++ wM cI b pa2 pe2 st2 bn2 hc2 hm2 C2 R2 lo2 ++ wN cI v pt pd ab nw kp wy th (nI cN) (nI rN) tn ++ wL cL o 1 ((vp_updL ov 0 ((xcl 2 hc (nI i1)) : Int32).toInt64))))) ⟨hx, hb, hml, hown, hts⟩ (mL_columnOf_0 l D cI cL x a pa pe st bn hc hm (nI cN) (nI rN) lo b pa2 pe2 st2 bn2 hc2 hm2 C2 R2 lo2 o ov (nI i1) hp _) (vx_cwSW 3 hts gL_law_L_columnOf rfl rfl rfl (by decide +kernel) ⟨Nat.le_of_ble_eq_true rfl, Nat.le_of_ble_eq_true rfl⟩) hP hD hK hN hKX (hZ.now hS hA) hS hA [0, 1, 2, 3, 4, 5, 6, 7, 8, 9, 10, 11, 12, 13, 14, 22] (by decide) rfl [15, 16, 17, 18, 19, 20, 21] (by decide) rfl (by decide) [7, 8, 9, 10, 11, 12, 13, 14, 15, 16, 17, 18, 19, 20, 21, 0, 1, 2, 3, 4, 5, 6, 22] (by decide) (fun _ => rfl) [0, 1] rfl rfl hl.1 rfl (Nat.le_of_ble_eq_true rfl) dL_law_1054 ⟨by omega, by omega⟩ (fun r_1 u_1 H locs hr_1 hP hD hS => ?_)
    subst r_1
    have hP : va_P D vwCl (wX x a b ++ wM cI a pa pe st bn hc hm (nI cN) (nI rN) lo ++ wM cI b pa2 pe2 st2 bn2 hc2 hm2 C2 R2 lo2 ++ wN cI v pt pd ab nw kp wy th (nI cN) (nI rN) tn ++ wL cL o 1 ((vp_updL ov 0 ((xcl 2 hc (nI i1)) : Int32).toInt64))) H := hP
    have hD : va_D A (wX x a b ++ wM cI a pa pe st bn hc hm (nI cN) (nI rN) lo ++ wM cI b pa2 pe2 st2 bn2 hc2 hm2 C2 R2 lo2 ++ wN cI v pt pd ab nw kp wy th (nI cN) (nI rN) tn ++ wL cL o 1 ((vp_updL ov 0 ((xcl 2 hc (nI i1)) : Int32).toInt64))) := hD
    refine lv_istore (lv' := [(5, .int 0), (4, .int (nI (4 * k))), (3, .ref o), (2, .ref (v 0)), (1, .ref x), (0, .ref b0)]) hx hb dL_law_1057 hl (by decide) rfl (fun ls hl => ?_)
    refine lv_aload_n hx hb dL_law_1059 rfl (lv_at hl 3 rfl) ?_
    refine lv_aload_n hx hb dL_law_1060 rfl (lv_at hl 5 rfl) ?_
    refine lv_iload hx hb dL_law_1061 (lv_at hl 1 rfl) ?_
    refine lv_iconst (v := 1) hx hb dL_law_1063 (by decide) ?_
    refine lv_iadd hx hb dL_law_1064 ?_
    refine va_sld hx hb hX hbl hbA hS (sx_in hL (j := 1) (by omega)) dL_law_1065 ?_
    rw [hv1]
    refine kQVi (As := [.int (nI i1)]) (rest := []) (wr := [(x, .inr (1, [.ref (a 0), .ref (b 0)])), (a 0, .inr (0, [.ref (a 1), .ref (a 2), .ref (a 3), .ref (a 4), .ref (a 5), .ref (a 6), .int (nI cN), .int (nI rN), .int lo])), (a 1, .inl (cI, 72, .inl pa)), (a 2, .inl (cI, 72, .inl pe)), (a 3, .inl (cI, 72, .inl st)), (a 4, .inl (cI, 9, .inl bn)), (a 5, .inl (cI, 2, .inl hc)), (a 6, .inl (cI, 2, .inl hm)), (b 0, .inr (0, [.ref (b 1), .ref (b 2), .ref (b 3), .ref (b 4), .ref (b 5), .ref (b 6), .int C2, .int R2, .int lo2])), (b 1, .inl (cI, 72, .inl pa2)), (b 2, .inl (cI, 72, .inl pe2)), (b 3, .inl (cI, 72, .inl st2)), (b 4, .inl (cI, 9, .inl bn2)), (b 5, .inl (cI, 2, .inl hc2)), (b 6, .inl (cI, 2, .inl hm2)), (o, .inl (cL, 1, .inr (.inl (vp_updL ov 0 ((xcl 2 hc (nI i1)) : Int32).toInt64))))]) (W2 := (fun _ => (wX x a b ++ wM cI a pa pe st bn hc hm (nI cN) (nI rN) lo ++ wM cI b pa2 pe2 st2 bn2 hc2 hm2 C2 R2 lo2 ++ wN cI v pt pd ab nw kp wy 0 (nI cN) (nI rN) tn ++ wL cL o 1 ((vp_updL ov 0 ((xcl 2 hc (nI i1)) : Int32).toInt64))))) ⟨hx, hb, hml, hown, hts⟩ (mX2_columnOf_0 l D cI v pt pd ab nw kp wy th cN rN tn (nI i1) (hT hp) _) (cwV 1 hts gL_law_X2_columnOf rfl rfl rfl (by decide +kernel) ⟨Nat.le_of_ble_eq_true rfl, Nat.le_of_ble_eq_true rfl⟩) hP hD hK hN hS hA [15, 16, 17, 18, 19, 20, 21] (by decide) rfl [0, 1, 2, 3, 4, 5, 6, 7, 8, 9, 10, 11, 12, 13, 14, 22] (by decide) rfl (by decide) [0, 1, 2, 3, 4, 5, 6, 7, 8, 9, 10, 11, 12, 13, 14, 16, 17, 18, 19, 20, 21, 22, 15] (by decide) (fun _ => rfl) [0] rfl rfl rfl rfl hl.1 rfl (Nat.le_of_ble_eq_true rfl) dL_law_1066 ⟨by omega, by omega⟩ (fun r_2 u_2 H locs hr_2 hP hD hS => ?_)
    subst r_2
    have hP : va_P D vwCl (wX x a b ++ wM cI a pa pe st bn hc hm (nI cN) (nI rN) lo ++ wM cI b pa2 pe2 st2 bn2 hc2 hm2 C2 R2 lo2 ++ wN cI v pt pd ab nw kp wy 0 (nI cN) (nI rN) tn ++ wL cL o 1 ((vp_updL ov 0 ((xcl 2 hc (nI i1)) : Int32).toInt64))) H := hP
    have hD : va_D A (wX x a b ++ wM cI a pa pe st bn hc hm (nI cN) (nI rN) lo ++ wM cI b pa2 pe2 st2 bn2 hc2 hm2 C2 R2 lo2 ++ wN cI v pt pd ab nw kp wy 0 (nI cN) (nI rN) tn ++ wL cL o 1 ((vp_updL ov 0 ((xcl 2 hc (nI i1)) : Int32).toInt64))) := hD
    refine lv_istore (lv' := [(6, .int (ab (nI i1).toNatClampNeg)), (5, .int 0), (4, .int (nI (4 * k))), (3, .ref o), (2, .ref (v 0)), (1, .ref x), (0, .ref b0)]) hx hb dL_law_1069 hl (by decide) rfl (fun ls hl => ?_)
    refine lv_aload_n hx hb dL_law_1071 rfl (lv_at hl 4 rfl) ?_
    refine kRVi (As := []) (rest := []) ⟨hx, hb, hml, hown, hts⟩ (mX2_thrown l D cI v pt pd ab nw kp wy 0 cN rN tn) (cwV 0 hts gL_law_X2_thrown rfl rfl rfl (by decide +kernel) ⟨Nat.le_of_ble_eq_true rfl, Nat.le_of_ble_eq_true rfl⟩) hP hK hN [15, 16, 17, 18, 19, 20, 21] rfl [0] rfl rfl rfl rfl hl.1 rfl (Nat.le_of_ble_eq_true rfl) dL_law_1072 ⟨by omega, by omega⟩ (fun r_3 hr_3 => ?_)
    subst r_3
    refine lv_iload hx hb dL_law_1075 (lv_at hl 1 rfl) ?_
    refine lv_icmp_eq (tgt := 1082) hx hb dL_law_1077 (by decide) (fun _ => ?_) (fun c9 => absurd (by decide) c9)
    refine lv_iload hx hb dL_law_1082 (lv_at hl 1 rfl) ?_
    refine lv_if_ne (tgt := 1099) hx hb dL_law_1084 (by decide) (fun c9 => absurd c9 (by decide)) (fun _ => ?_)
    refine lv_aload_n hx hb dL_law_1087 rfl (lv_at hl 3 rfl) ?_
    refine lv_iconst (v := 0) hx hb dL_law_1088 (by decide) ?_
    refine va_lald hx hb hK hP 22 1 rfl rfl (vp_in_nI (n := 0) (by decide) (by decide)) dL_law_1089 ?_
    rw [show (0 : Int32).toNatClampNeg = 0 from by decide, updL_0]
    refine lv_iload hx hb dL_law_1090 (lv_at hl 0 rfl) ?_
    refine lv_i2l (v := (ab (nI i1).toNatClampNeg : Int32).toInt64) hx hb dL_law_1092 rfl ?_
    refine W.lcmp hx hb dL_law_1093 ?_
    refine lv_if_eq (tgt := 1099) hx hb dL_law_1094 (by decide) (fun _ => ?_) (fun c9 => absurd ((lg_cmp_eq _ _).mpr (congrArg Int32.toInt64 (by rw [o2, o3]))) c9)
    refine lv_goto (tgt := 1599) hx hb dL_law_1099 (by decide) ?_
    refine W.widen (k := cells + 10) (n := slots + 41) (by omega) (by omega) ?_
    exact K cN rN pa pe st bn hc hm lo pa2 pe2 st2 bn2 hc2 hm2 C2 R2 lo2 pt pd ab nw kp wy 0 tn (vp_updL ov 0 ((xcl 2 hc (nI i1)) : Int32).toInt64) _ _ _ hR hP hD hS (lv_sub hl [2, 3, 4, 5, 6] rfl)
  · have hp : xhas 2 v1 = false := Bool.eq_false_iff.mpr hp
    refine lv_aload_n hx hb dL_law_1046 rfl (lv_at hl 3 rfl) ?_
    refine lv_aload_n hx hb dL_law_1047 rfl (lv_at hl 4 rfl) ?_
    refine lv_iload hx hb dL_law_1048 (lv_at hl 0 rfl) ?_
    refine lv_iconst (v := 1) hx hb dL_law_1050 (by decide) ?_
    refine lv_iadd hx hb dL_law_1051 ?_
    refine va_sld hx hb hX hbl hbA hS (sx_in hL (j := 1) (by omega)) dL_law_1052 ?_
    rw [hv1]
    refine lv_aload_n hx hb dL_law_1053 rfl (lv_at hl 1 rfl) ?_
    refine kQWi (As := [.ref x, .int v1, .ref o]) (rest := []) (wr := [(v 0, .inr (2, [.int th, .int (nI cN), .int (nI rN), .ref (v 1), .ref (v 2), .ref (v 3), .ref (v 4), .ref (v 5), .int tn, .ref (v 6)])), (v 1, .inl (cI, 72, .inl pt)), (v 2, .inl (cI, 72, .inl pd)), (v 3, .inl (cI, 2, .inl ab)), (v 4, .inl (cI, 84, .inl nw)), (v 5, .inl (cI, 84, .inl kp)), (v 6, .inl (cI, 8, .inl wy))]) (W2 := (fun _ => (wX x a b ++ wM cI a pa pe st bn hc hm (nI cN) (nI rN) lo ++ wM cI b pa2 pe2 st2 bn2 hc2 hm2 C2 R2 lo2 ++ wN cI v pt pd ab nw kp wy th (nI cN) (nI rN) tn ++ wL cL o 1 ov))) ⟨hx, hb, hml, hown, hts⟩ (mL_columnOf_h l hst D cI cL x a pa pe st bn hc hm (nI cN) (nI rN) lo b pa2 pe2 st2 bn2 hc2 hm2 C2 R2 lo2 o ov v1 hp _) (vx_cwSW 3 hts gL_law_L_columnOf rfl rfl rfl (by decide +kernel) ⟨Nat.le_of_ble_eq_true rfl, Nat.le_of_ble_eq_true rfl⟩) hP hD hK hN hKX (hZ.now hS hA) hS hA [0, 1, 2, 3, 4, 5, 6, 7, 8, 9, 10, 11, 12, 13, 14, 22] (by decide) rfl [15, 16, 17, 18, 19, 20, 21] (by decide) rfl (by decide) [7, 8, 9, 10, 11, 12, 13, 14, 15, 16, 17, 18, 19, 20, 21, 0, 1, 2, 3, 4, 5, 6, 22] (by decide) (fun _ => rfl) [0, 1] rfl rfl hl.1 rfl (Nat.le_of_ble_eq_true rfl) dL_law_1054 ⟨by omega, by omega⟩ (fun r_6 u_6 H locs hr_6 hP hD hS => ?_)
    subst r_6
    have hP : va_P D vwCl (wX x a b ++ wM cI a pa pe st bn hc hm (nI cN) (nI rN) lo ++ wM cI b pa2 pe2 st2 bn2 hc2 hm2 C2 R2 lo2 ++ wN cI v pt pd ab nw kp wy th (nI cN) (nI rN) tn ++ wL cL o 1 ov) H := hP
    have hD : va_D A (wX x a b ++ wM cI a pa pe st bn hc hm (nI cN) (nI rN) lo ++ wM cI b pa2 pe2 st2 bn2 hc2 hm2 C2 R2 lo2 ++ wN cI v pt pd ab nw kp wy th (nI cN) (nI rN) tn ++ wL cL o 1 ov) := hD
    refine lv_istore (lv' := [(5, .int 1), (4, .int (nI (4 * k))), (3, .ref o), (2, .ref (v 0)), (1, .ref x), (0, .ref b0)]) hx hb dL_law_1057 hl (by decide) rfl (fun ls hl => ?_)
    refine lv_aload_n hx hb dL_law_1059 rfl (lv_at hl 3 rfl) ?_
    refine lv_aload_n hx hb dL_law_1060 rfl (lv_at hl 5 rfl) ?_
    refine lv_iload hx hb dL_law_1061 (lv_at hl 1 rfl) ?_
    refine lv_iconst (v := 1) hx hb dL_law_1063 (by decide) ?_
    refine lv_iadd hx hb dL_law_1064 ?_
    refine va_sld hx hb hX hbl hbA hS (sx_in hL (j := 1) (by omega)) dL_law_1065 ?_
    rw [hv1]
    refine kQVi (As := [.int v1]) (rest := []) (wr := [(x, .inr (1, [.ref (a 0), .ref (b 0)])), (a 0, .inr (0, [.ref (a 1), .ref (a 2), .ref (a 3), .ref (a 4), .ref (a 5), .ref (a 6), .int (nI cN), .int (nI rN), .int lo])), (a 1, .inl (cI, 72, .inl pa)), (a 2, .inl (cI, 72, .inl pe)), (a 3, .inl (cI, 72, .inl st)), (a 4, .inl (cI, 9, .inl bn)), (a 5, .inl (cI, 2, .inl hc)), (a 6, .inl (cI, 2, .inl hm)), (b 0, .inr (0, [.ref (b 1), .ref (b 2), .ref (b 3), .ref (b 4), .ref (b 5), .ref (b 6), .int C2, .int R2, .int lo2])), (b 1, .inl (cI, 72, .inl pa2)), (b 2, .inl (cI, 72, .inl pe2)), (b 3, .inl (cI, 72, .inl st2)), (b 4, .inl (cI, 9, .inl bn2)), (b 5, .inl (cI, 2, .inl hc2)), (b 6, .inl (cI, 2, .inl hm2)), (o, .inl (cL, 1, .inr (.inl ov)))]) (W2 := (fun _ => (wX x a b ++ wM cI a pa pe st bn hc hm (nI cN) (nI rN) lo ++ wM cI b pa2 pe2 st2 bn2 hc2 hm2 C2 R2 lo2 ++ wN cI v pt pd ab nw kp wy 1 (nI cN) (nI rN) tn ++ wL cL o 1 ov))) ⟨hx, hb, hml, hown, hts⟩ (mX2_columnOf_1 l D cI v pt pd ab nw kp wy th cN rN tn v1 (hT hp) _) (cwV 1 hts gL_law_X2_columnOf rfl rfl rfl (by decide +kernel) ⟨Nat.le_of_ble_eq_true rfl, Nat.le_of_ble_eq_true rfl⟩) hP hD hK hN hS hA [15, 16, 17, 18, 19, 20, 21] (by decide) rfl [0, 1, 2, 3, 4, 5, 6, 7, 8, 9, 10, 11, 12, 13, 14, 22] (by decide) rfl (by decide) [0, 1, 2, 3, 4, 5, 6, 7, 8, 9, 10, 11, 12, 13, 14, 16, 17, 18, 19, 20, 21, 22, 15] (by decide) (fun _ => rfl) [0] rfl rfl rfl rfl hl.1 rfl (Nat.le_of_ble_eq_true rfl) dL_law_1066 ⟨by omega, by omega⟩ (fun r_7 u_7 H locs hr_7 hP hD hS => ?_)
    subst r_7
    have hP : va_P D vwCl (wX x a b ++ wM cI a pa pe st bn hc hm (nI cN) (nI rN) lo ++ wM cI b pa2 pe2 st2 bn2 hc2 hm2 C2 R2 lo2 ++ wN cI v pt pd ab nw kp wy 1 (nI cN) (nI rN) tn ++ wL cL o 1 ov) H := hP
    have hD : va_D A (wX x a b ++ wM cI a pa pe st bn hc hm (nI cN) (nI rN) lo ++ wM cI b pa2 pe2 st2 bn2 hc2 hm2 C2 R2 lo2 ++ wN cI v pt pd ab nw kp wy 1 (nI cN) (nI rN) tn ++ wL cL o 1 ov) := hD
    refine lv_istore (lv' := [(6, .int 0), (5, .int 1), (4, .int (nI (4 * k))), (3, .ref o), (2, .ref (v 0)), (1, .ref x), (0, .ref b0)]) hx hb dL_law_1069 hl (by decide) rfl (fun ls hl => ?_)
    refine lv_aload_n hx hb dL_law_1071 rfl (lv_at hl 4 rfl) ?_
    refine kRVi (As := []) (rest := []) ⟨hx, hb, hml, hown, hts⟩ (mX2_thrown l D cI v pt pd ab nw kp wy 1 cN rN tn) (cwV 0 hts gL_law_X2_thrown rfl rfl rfl (by decide +kernel) ⟨Nat.le_of_ble_eq_true rfl, Nat.le_of_ble_eq_true rfl⟩) hP hK hN [15, 16, 17, 18, 19, 20, 21] rfl [0] rfl rfl rfl rfl hl.1 rfl (Nat.le_of_ble_eq_true rfl) dL_law_1072 ⟨by omega, by omega⟩ (fun r_8 hr_8 => ?_)
    subst r_8
    refine lv_iload hx hb dL_law_1075 (lv_at hl 1 rfl) ?_
    refine lv_icmp_eq (tgt := 1082) hx hb dL_law_1077 (by decide) (fun _ => ?_) (fun c9 => absurd (by decide) c9)
    refine lv_iload hx hb dL_law_1082 (lv_at hl 1 rfl) ?_
    refine lv_if_ne (tgt := 1099) hx hb dL_law_1084 (by decide) (fun _ => ?_) (fun c9 => absurd c9 (by decide))
    refine lv_goto (tgt := 1599) hx hb dL_law_1099 (by decide) ?_
    refine W.widen (k := cells + 10) (n := slots + 41) (by omega) (by omega) ?_
    exact K cN rN pa pe st bn hc hm lo pa2 pe2 st2 bn2 hc2 hm2 C2 R2 lo2 pt pd ab nw kp wy 1 tn ov _ _ _ hR hP hD hS (lv_sub hl [2, 3, 4, 5, 6] rfl)
set_option maxHeartbeats 4000000 in
set_option maxRecDepth 100000 in
theorem cs_18 {p : Program} {l : Launch} {e : Env} {s : State} {m : MethodId} {below : List Frame} {meth : Method} {c : Code} {Q : State → Prop} {D : va_G} {cI cL : ClassId} {x o b0 L k : Nat} {a b v : Nat → Nat} {xs : Nat → Int32} {A : Nat → Prop} {cells slots : Nat} {cN rN : Nat} {pa pe st bn hc hm : Nat → Int32} {lo : Int32} {pa2 pe2 st2 bn2 hc2 hm2 : Nat → Int32} {C2 R2 lo2 : Int32} {pt pd ab nw kp wy : Nat → Int32} {th tn : Int32} {ov : Nat → Int64} {H : Heap} {locs : List Loc} {ls : Array Slot} (F : LF p l s m b0 c D cI cL L xs A) (hR : Rel cN rN pa pe st bn hc hm lo pt pd ab nw) (hk : 4 * k + 3 < L) (h1 : cells + 10 ≤ room_1.cells) (h2 : slots + 41 ≤ room_1.slots) (hP : va_P D vwCl (wX x a b ++ wM cI a pa pe st bn hc hm (nI cN) (nI rN) lo ++ wM cI b pa2 pe2 st2 bn2 hc2 hm2 C2 R2 lo2 ++ wN cI v pt pd ab nw kp wy th (nI cN) (nI rN) tn ++ wL cL o 1 ov) H) (hD : va_D A (wX x a b ++ wM cI a pa pe st bn hc hm (nI cN) (nI rN) lo ++ wM cI b pa2 pe2 st2 bn2 hc2 hm2 C2 R2 lo2 ++ wN cI v pt pd ab nw kp wy th (nI cN) (nI rN) tn ++ wL cL o 1 ov)) (hS : va_S A s.heap H locs) (hl : lv_has ls 9 [(4, .int (nI (4 * k))), (3, .ref o), (2, .ref (v 0)), (1, .ref x), (0, .ref b0)]) (K : LK p l e s m b0 below meth c D cI cL x o k a b v A cells slots Q) : W p l e room_1 s m #[Value.ref b0] below meth c H locs cells slots Q (F0 m 1115 ls []) := by
  obtain ⟨hx, hb, hml, hown, hts, hK, hN, hKX, hZ, hA, hX, hbl, hbA, hst, hL⟩ := F
  have hI := hR.inv
  obtain ⟨v1, hv1⟩ : ∃ z, xs (nI (4 * k) + 1).toNatClampNeg = z := ⟨_, rfl⟩
  by_cases hp : xhas (nI rN) v1 = true
  · obtain ⟨r1, hr1, rfl⟩ := hR.rE hp
    refine lv_aload_n hx hb dL_law_1115 rfl (lv_at hl 3 rfl) ?_
    refine lv_aload_n hx hb dL_law_1116 rfl (lv_at hl 4 rfl) ?_
    refine lv_iload hx hb dL_law_1117 (lv_at hl 0 rfl) ?_
    refine lv_iconst (v := 1) hx hb dL_law_1119 (by decide) ?_
    refine lv_iadd hx hb dL_law_1120 ?_
    refine va_sld hx hb hX hbl hbA hS (sx_in hL (j := 1) (by omega)) dL_law_1121 ?_
    rw [hv1]
    refine lv_aload_n hx hb dL_law_1122 rfl (lv_at hl 1 rfl) ?_
    refine kQWi (As := [.ref x, .int (nI r1), .ref o]) (rest := []) (wr := [(v 0, .inr (2, [.int th, .int (nI cN), .int (nI rN), .ref (v 1), .ref (v 2), .ref (v 3), .ref (v 4), .ref (v 5), .int tn, .ref (v 6)])), (v 1, .inl (cI, 72, .inl pt)), (v 2, .inl (cI, 72, .inl pd)), (v 3, .inl (cI, 2, .inl ab)), (v 4, .inl (cI, 84, .inl nw)), (v 5, .inl (cI, 84, .inl kp)), (v 6, .inl (cI, 8, .inl wy))]) (W2 := (fun _ => (wX x a b ++ wM cI a pa pe st bn hc hm (nI cN) (nI rN) lo ++ wM cI b pa2 pe2 st2 bn2 hc2 hm2 C2 R2 lo2 ++ wN cI v pt pd ab nw kp wy th (nI cN) (nI rN) tn ++ wL cL o 1 ((vp_updL ov 0 ((xNum pa st (nI cN) (nI r1)) : Int32).toInt64))))) ⟨hx, hb, hml, hown, hts⟩ (mL_numberIn_0 l D cI cL x a pa pe st bn hc hm (nI cN) (nI rN) lo b pa2 pe2 st2 bn2 hc2 hm2 C2 R2 lo2 o ov (nI r1) hp _) (vx_cwSW 3 hts gL_law_L_numberIn rfl rfl rfl (by decide +kernel) ⟨Nat.le_of_ble_eq_true rfl, Nat.le_of_ble_eq_true rfl⟩) hP hD hK hN hKX (hZ.now hS hA) hS hA [0, 1, 2, 3, 4, 5, 6, 7, 8, 9, 10, 11, 12, 13, 14, 22] (by decide) rfl [15, 16, 17, 18, 19, 20, 21] (by decide) rfl (by decide) [7, 8, 9, 10, 11, 12, 13, 14, 15, 16, 17, 18, 19, 20, 21, 0, 1, 2, 3, 4, 5, 6, 22] (by decide) (fun _ => rfl) [0, 1] rfl rfl hl.1 rfl (Nat.le_of_ble_eq_true rfl) dL_law_1123 ⟨by omega, by omega⟩ (fun r_1 u_1 H locs hr_1 hP hD hS => ?_)
    subst r_1
    have hP : va_P D vwCl (wX x a b ++ wM cI a pa pe st bn hc hm (nI cN) (nI rN) lo ++ wM cI b pa2 pe2 st2 bn2 hc2 hm2 C2 R2 lo2 ++ wN cI v pt pd ab nw kp wy th (nI cN) (nI rN) tn ++ wL cL o 1 ((vp_updL ov 0 ((xNum pa st (nI cN) (nI r1)) : Int32).toInt64))) H := hP
    have hD : va_D A (wX x a b ++ wM cI a pa pe st bn hc hm (nI cN) (nI rN) lo ++ wM cI b pa2 pe2 st2 bn2 hc2 hm2 C2 R2 lo2 ++ wN cI v pt pd ab nw kp wy th (nI cN) (nI rN) tn ++ wL cL o 1 ((vp_updL ov 0 ((xNum pa st (nI cN) (nI r1)) : Int32).toInt64))) := hD
    refine lv_istore (lv' := [(5, .int 0), (4, .int (nI (4 * k))), (3, .ref o), (2, .ref (v 0)), (1, .ref x), (0, .ref b0)]) hx hb dL_law_1126 hl (by decide) rfl (fun ls hl => ?_)
    refine lv_aload_n hx hb dL_law_1128 rfl (lv_at hl 3 rfl) ?_
    refine lv_aload_n hx hb dL_law_1129 rfl (lv_at hl 5 rfl) ?_
    refine lv_iload hx hb dL_law_1130 (lv_at hl 1 rfl) ?_
    refine lv_iconst (v := 1) hx hb dL_law_1132 (by decide) ?_
    refine lv_iadd hx hb dL_law_1133 ?_
    refine va_sld hx hb hX hbl hbA hS (sx_in hL (j := 1) (by omega)) dL_law_1134 ?_
    rw [hv1]
    refine kQVi (As := [.int (nI r1)]) (rest := []) (wr := [(x, .inr (1, [.ref (a 0), .ref (b 0)])), (a 0, .inr (0, [.ref (a 1), .ref (a 2), .ref (a 3), .ref (a 4), .ref (a 5), .ref (a 6), .int (nI cN), .int (nI rN), .int lo])), (a 1, .inl (cI, 72, .inl pa)), (a 2, .inl (cI, 72, .inl pe)), (a 3, .inl (cI, 72, .inl st)), (a 4, .inl (cI, 9, .inl bn)), (a 5, .inl (cI, 2, .inl hc)), (a 6, .inl (cI, 2, .inl hm)), (b 0, .inr (0, [.ref (b 1), .ref (b 2), .ref (b 3), .ref (b 4), .ref (b 5), .ref (b 6), .int C2, .int R2, .int lo2])), (b 1, .inl (cI, 72, .inl pa2)), (b 2, .inl (cI, 72, .inl pe2)), (b 3, .inl (cI, 72, .inl st2)), (b 4, .inl (cI, 9, .inl bn2)), (b 5, .inl (cI, 2, .inl hc2)), (b 6, .inl (cI, 2, .inl hm2)), (o, .inl (cL, 1, .inr (.inl (vp_updL ov 0 ((xNum pa st (nI cN) (nI r1)) : Int32).toInt64))))]) (W2 := (fun _ => (wX x a b ++ wM cI a pa pe st bn hc hm (nI cN) (nI rN) lo ++ wM cI b pa2 pe2 st2 bn2 hc2 hm2 C2 R2 lo2 ++ wN cI v pt pd ab nw kp wy 0 (nI cN) (nI rN) tn ++ wL cL o 1 ((vp_updL ov 0 ((xNum pa st (nI cN) (nI r1)) : Int32).toInt64))))) ⟨hx, hb, hml, hown, hts⟩ (mX2_numberIn_0 l D cI v pt pd ab nw kp wy th cN rN tn (nI r1) hI (hR.rT hp) hR.r1 _) (cwV 1 hts gL_law_X2_numberIn rfl rfl rfl (by decide +kernel) ⟨Nat.le_of_ble_eq_true rfl, Nat.le_of_ble_eq_true rfl⟩) hP hD hK hN hS hA [15, 16, 17, 18, 19, 20, 21] (by decide) rfl [0, 1, 2, 3, 4, 5, 6, 7, 8, 9, 10, 11, 12, 13, 14, 22] (by decide) rfl (by decide) [0, 1, 2, 3, 4, 5, 6, 7, 8, 9, 10, 11, 12, 13, 14, 16, 17, 18, 19, 20, 21, 22, 15] (by decide) (fun _ => rfl) [0] rfl rfl rfl rfl hl.1 rfl (Nat.le_of_ble_eq_true rfl) dL_law_1135 ⟨by omega, by omega⟩ (fun r_2 u_2 H locs hr_2 hP hD hS => ?_)
    subst r_2
    have hP : va_P D vwCl (wX x a b ++ wM cI a pa pe st bn hc hm (nI cN) (nI rN) lo ++ wM cI b pa2 pe2 st2 bn2 hc2 hm2 C2 R2 lo2 ++ wN cI v pt pd ab nw kp wy 0 (nI cN) (nI rN) tn ++ wL cL o 1 ((vp_updL ov 0 ((xNum pa st (nI cN) (nI r1)) : Int32).toInt64))) H := hP
    have hD : va_D A (wX x a b ++ wM cI a pa pe st bn hc hm (nI cN) (nI rN) lo ++ wM cI b pa2 pe2 st2 bn2 hc2 hm2 C2 R2 lo2 ++ wN cI v pt pd ab nw kp wy 0 (nI cN) (nI rN) tn ++ wL cL o 1 ((vp_updL ov 0 ((xNum pa st (nI cN) (nI r1)) : Int32).toInt64))) := hD
    refine lv_istore (lv' := [(6, .int (mNum pt nw cN (nI r1))), (5, .int 0), (4, .int (nI (4 * k))), (3, .ref o), (2, .ref (v 0)), (1, .ref x), (0, .ref b0)]) hx hb dL_law_1138 hl (by decide) rfl (fun ls hl => ?_)
    refine lv_aload_n hx hb dL_law_1140 rfl (lv_at hl 4 rfl) ?_
    refine kRVi (As := []) (rest := []) ⟨hx, hb, hml, hown, hts⟩ (mX2_thrown l D cI v pt pd ab nw kp wy 0 cN rN tn) (cwV 0 hts gL_law_X2_thrown rfl rfl rfl (by decide +kernel) ⟨Nat.le_of_ble_eq_true rfl, Nat.le_of_ble_eq_true rfl⟩) hP hK hN [15, 16, 17, 18, 19, 20, 21] rfl [0] rfl rfl rfl rfl hl.1 rfl (Nat.le_of_ble_eq_true rfl) dL_law_1141 ⟨by omega, by omega⟩ (fun r_3 hr_3 => ?_)
    subst r_3
    refine lv_iload hx hb dL_law_1144 (lv_at hl 1 rfl) ?_
    refine lv_icmp_eq (tgt := 1151) hx hb dL_law_1146 (by decide) (fun _ => ?_) (fun c9 => absurd (by decide) c9)
    refine lv_iload hx hb dL_law_1151 (lv_at hl 1 rfl) ?_
    refine lv_if_ne (tgt := 1168) hx hb dL_law_1153 (by decide) (fun c9 => absurd c9 (by decide)) (fun _ => ?_)
    refine lv_aload_n hx hb dL_law_1156 rfl (lv_at hl 3 rfl) ?_
    refine lv_iconst (v := 0) hx hb dL_law_1157 (by decide) ?_
    refine va_lald hx hb hK hP 22 1 rfl rfl (vp_in_nI (n := 0) (by decide) (by decide)) dL_law_1158 ?_
    rw [show (0 : Int32).toNatClampNeg = 0 from by decide, updL_0]
    refine lv_iload hx hb dL_law_1159 (lv_at hl 0 rfl) ?_
    refine lv_i2l (v := (mNum pt nw cN (nI r1) : Int32).toInt64) hx hb dL_law_1161 rfl ?_
    refine W.lcmp hx hb dL_law_1162 ?_
    refine lv_if_eq (tgt := 1168) hx hb dL_law_1163 (by decide) (fun _ => ?_) (fun c9 => absurd ((lg_cmp_eq _ _).mpr (congrArg Int32.toInt64 (hR.num hr1).symm)) c9)
    refine lv_goto (tgt := 1599) hx hb dL_law_1168 (by decide) ?_
    refine W.widen (k := cells + 10) (n := slots + 41) (by omega) (by omega) ?_
    exact K cN rN pa pe st bn hc hm lo pa2 pe2 st2 bn2 hc2 hm2 C2 R2 lo2 pt pd ab nw kp wy 0 tn (vp_updL ov 0 ((xNum pa st (nI cN) (nI r1)) : Int32).toInt64) _ _ _ hR hP hD hS (lv_sub hl [2, 3, 4, 5, 6] rfl)
  · have hp : xhas (nI rN) v1 = false := Bool.eq_false_iff.mpr hp
    refine lv_aload_n hx hb dL_law_1115 rfl (lv_at hl 3 rfl) ?_
    refine lv_aload_n hx hb dL_law_1116 rfl (lv_at hl 4 rfl) ?_
    refine lv_iload hx hb dL_law_1117 (lv_at hl 0 rfl) ?_
    refine lv_iconst (v := 1) hx hb dL_law_1119 (by decide) ?_
    refine lv_iadd hx hb dL_law_1120 ?_
    refine va_sld hx hb hX hbl hbA hS (sx_in hL (j := 1) (by omega)) dL_law_1121 ?_
    rw [hv1]
    refine lv_aload_n hx hb dL_law_1122 rfl (lv_at hl 1 rfl) ?_
    refine kQWi (As := [.ref x, .int v1, .ref o]) (rest := []) (wr := [(v 0, .inr (2, [.int th, .int (nI cN), .int (nI rN), .ref (v 1), .ref (v 2), .ref (v 3), .ref (v 4), .ref (v 5), .int tn, .ref (v 6)])), (v 1, .inl (cI, 72, .inl pt)), (v 2, .inl (cI, 72, .inl pd)), (v 3, .inl (cI, 2, .inl ab)), (v 4, .inl (cI, 84, .inl nw)), (v 5, .inl (cI, 84, .inl kp)), (v 6, .inl (cI, 8, .inl wy))]) (W2 := (fun _ => (wX x a b ++ wM cI a pa pe st bn hc hm (nI cN) (nI rN) lo ++ wM cI b pa2 pe2 st2 bn2 hc2 hm2 C2 R2 lo2 ++ wN cI v pt pd ab nw kp wy th (nI cN) (nI rN) tn ++ wL cL o 1 ov))) ⟨hx, hb, hml, hown, hts⟩ (mL_numberIn_r l hst D cI cL x a pa pe st bn hc hm (nI cN) (nI rN) lo b pa2 pe2 st2 bn2 hc2 hm2 C2 R2 lo2 o ov v1 hp _) (vx_cwSW 3 hts gL_law_L_numberIn rfl rfl rfl (by decide +kernel) ⟨Nat.le_of_ble_eq_true rfl, Nat.le_of_ble_eq_true rfl⟩) hP hD hK hN hKX (hZ.now hS hA) hS hA [0, 1, 2, 3, 4, 5, 6, 7, 8, 9, 10, 11, 12, 13, 14, 22] (by decide) rfl [15, 16, 17, 18, 19, 20, 21] (by decide) rfl (by decide) [7, 8, 9, 10, 11, 12, 13, 14, 15, 16, 17, 18, 19, 20, 21, 0, 1, 2, 3, 4, 5, 6, 22] (by decide) (fun _ => rfl) [0, 1] rfl rfl hl.1 rfl (Nat.le_of_ble_eq_true rfl) dL_law_1123 ⟨by omega, by omega⟩ (fun r_6 u_6 H locs hr_6 hP hD hS => ?_)
    subst r_6
    have hP : va_P D vwCl (wX x a b ++ wM cI a pa pe st bn hc hm (nI cN) (nI rN) lo ++ wM cI b pa2 pe2 st2 bn2 hc2 hm2 C2 R2 lo2 ++ wN cI v pt pd ab nw kp wy th (nI cN) (nI rN) tn ++ wL cL o 1 ov) H := hP
    have hD : va_D A (wX x a b ++ wM cI a pa pe st bn hc hm (nI cN) (nI rN) lo ++ wM cI b pa2 pe2 st2 bn2 hc2 hm2 C2 R2 lo2 ++ wN cI v pt pd ab nw kp wy th (nI cN) (nI rN) tn ++ wL cL o 1 ov) := hD
    refine lv_istore (lv' := [(5, .int 1), (4, .int (nI (4 * k))), (3, .ref o), (2, .ref (v 0)), (1, .ref x), (0, .ref b0)]) hx hb dL_law_1126 hl (by decide) rfl (fun ls hl => ?_)
    refine lv_aload_n hx hb dL_law_1128 rfl (lv_at hl 3 rfl) ?_
    refine lv_aload_n hx hb dL_law_1129 rfl (lv_at hl 5 rfl) ?_
    refine lv_iload hx hb dL_law_1130 (lv_at hl 1 rfl) ?_
    refine lv_iconst (v := 1) hx hb dL_law_1132 (by decide) ?_
    refine lv_iadd hx hb dL_law_1133 ?_
    refine va_sld hx hb hX hbl hbA hS (sx_in hL (j := 1) (by omega)) dL_law_1134 ?_
    rw [hv1]
    refine kQVi (As := [.int v1]) (rest := []) (wr := [(x, .inr (1, [.ref (a 0), .ref (b 0)])), (a 0, .inr (0, [.ref (a 1), .ref (a 2), .ref (a 3), .ref (a 4), .ref (a 5), .ref (a 6), .int (nI cN), .int (nI rN), .int lo])), (a 1, .inl (cI, 72, .inl pa)), (a 2, .inl (cI, 72, .inl pe)), (a 3, .inl (cI, 72, .inl st)), (a 4, .inl (cI, 9, .inl bn)), (a 5, .inl (cI, 2, .inl hc)), (a 6, .inl (cI, 2, .inl hm)), (b 0, .inr (0, [.ref (b 1), .ref (b 2), .ref (b 3), .ref (b 4), .ref (b 5), .ref (b 6), .int C2, .int R2, .int lo2])), (b 1, .inl (cI, 72, .inl pa2)), (b 2, .inl (cI, 72, .inl pe2)), (b 3, .inl (cI, 72, .inl st2)), (b 4, .inl (cI, 9, .inl bn2)), (b 5, .inl (cI, 2, .inl hc2)), (b 6, .inl (cI, 2, .inl hm2)), (o, .inl (cL, 1, .inr (.inl ov)))]) (W2 := (fun _ => (wX x a b ++ wM cI a pa pe st bn hc hm (nI cN) (nI rN) lo ++ wM cI b pa2 pe2 st2 bn2 hc2 hm2 C2 R2 lo2 ++ wN cI v pt pd ab nw kp wy 1 (nI cN) (nI rN) tn ++ wL cL o 1 ov))) ⟨hx, hb, hml, hown, hts⟩ (mX2_numberIn_1 l D cI v pt pd ab nw kp wy th cN rN tn v1 (hR.rF hp) _) (cwV 1 hts gL_law_X2_numberIn rfl rfl rfl (by decide +kernel) ⟨Nat.le_of_ble_eq_true rfl, Nat.le_of_ble_eq_true rfl⟩) hP hD hK hN hS hA [15, 16, 17, 18, 19, 20, 21] (by decide) rfl [0, 1, 2, 3, 4, 5, 6, 7, 8, 9, 10, 11, 12, 13, 14, 22] (by decide) rfl (by decide) [0, 1, 2, 3, 4, 5, 6, 7, 8, 9, 10, 11, 12, 13, 14, 16, 17, 18, 19, 20, 21, 22, 15] (by decide) (fun _ => rfl) [0] rfl rfl rfl rfl hl.1 rfl (Nat.le_of_ble_eq_true rfl) dL_law_1135 ⟨by omega, by omega⟩ (fun r_7 u_7 H locs hr_7 hP hD hS => ?_)
    subst r_7
    have hP : va_P D vwCl (wX x a b ++ wM cI a pa pe st bn hc hm (nI cN) (nI rN) lo ++ wM cI b pa2 pe2 st2 bn2 hc2 hm2 C2 R2 lo2 ++ wN cI v pt pd ab nw kp wy 1 (nI cN) (nI rN) tn ++ wL cL o 1 ov) H := hP
    have hD : va_D A (wX x a b ++ wM cI a pa pe st bn hc hm (nI cN) (nI rN) lo ++ wM cI b pa2 pe2 st2 bn2 hc2 hm2 C2 R2 lo2 ++ wN cI v pt pd ab nw kp wy 1 (nI cN) (nI rN) tn ++ wL cL o 1 ov) := hD
    refine lv_istore (lv' := [(6, .int 0), (5, .int 1), (4, .int (nI (4 * k))), (3, .ref o), (2, .ref (v 0)), (1, .ref x), (0, .ref b0)]) hx hb dL_law_1138 hl (by decide) rfl (fun ls hl => ?_)
    refine lv_aload_n hx hb dL_law_1140 rfl (lv_at hl 4 rfl) ?_
    refine kRVi (As := []) (rest := []) ⟨hx, hb, hml, hown, hts⟩ (mX2_thrown l D cI v pt pd ab nw kp wy 1 cN rN tn) (cwV 0 hts gL_law_X2_thrown rfl rfl rfl (by decide +kernel) ⟨Nat.le_of_ble_eq_true rfl, Nat.le_of_ble_eq_true rfl⟩) hP hK hN [15, 16, 17, 18, 19, 20, 21] rfl [0] rfl rfl rfl rfl hl.1 rfl (Nat.le_of_ble_eq_true rfl) dL_law_1141 ⟨by omega, by omega⟩ (fun r_8 hr_8 => ?_)
    subst r_8
    refine lv_iload hx hb dL_law_1144 (lv_at hl 1 rfl) ?_
    refine lv_icmp_eq (tgt := 1151) hx hb dL_law_1146 (by decide) (fun _ => ?_) (fun c9 => absurd (by decide) c9)
    refine lv_iload hx hb dL_law_1151 (lv_at hl 1 rfl) ?_
    refine lv_if_ne (tgt := 1168) hx hb dL_law_1153 (by decide) (fun _ => ?_) (fun c9 => absurd c9 (by decide))
    refine lv_goto (tgt := 1599) hx hb dL_law_1168 (by decide) ?_
    refine W.widen (k := cells + 10) (n := slots + 41) (by omega) (by omega) ?_
    exact K cN rN pa pe st bn hc hm lo pa2 pe2 st2 bn2 hc2 hm2 C2 R2 lo2 pt pd ab nw kp wy 1 tn ov _ _ _ hR hP hD hS (lv_sub hl [2, 3, 4, 5, 6] rfl)
set_option maxHeartbeats 4000000 in
set_option maxRecDepth 100000 in
theorem cs_24 {p : Program} {l : Launch} {e : Env} {s : State} {m : MethodId} {below : List Frame} {meth : Method} {c : Code} {Q : State → Prop} {D : va_G} {cI cL : ClassId} {x o b0 L k : Nat} {a b v : Nat → Nat} {xs : Nat → Int32} {A : Nat → Prop} {cells slots : Nat} {cN rN : Nat} {pa pe st bn hc hm : Nat → Int32} {lo : Int32} {pa2 pe2 st2 bn2 hc2 hm2 : Nat → Int32} {C2 R2 lo2 : Int32} {pt pd ab nw kp wy : Nat → Int32} {th tn : Int32} {ov : Nat → Int64} {H : Heap} {locs : List Loc} {ls : Array Slot} (F : LF p l s m b0 c D cI cL L xs A) (hR : Rel cN rN pa pe st bn hc hm lo pt pd ab nw) (hk : 4 * k + 3 < L) (h1 : cells + 10 ≤ room_1.cells) (h2 : slots + 41 ≤ room_1.slots) (hP : va_P D vwCl (wX x a b ++ wM cI a pa pe st bn hc hm (nI cN) (nI rN) lo ++ wM cI b pa2 pe2 st2 bn2 hc2 hm2 C2 R2 lo2 ++ wN cI v pt pd ab nw kp wy th (nI cN) (nI rN) tn ++ wL cL o 1 ov) H) (hD : va_D A (wX x a b ++ wM cI a pa pe st bn hc hm (nI cN) (nI rN) lo ++ wM cI b pa2 pe2 st2 bn2 hc2 hm2 C2 R2 lo2 ++ wN cI v pt pd ab nw kp wy th (nI cN) (nI rN) tn ++ wL cL o 1 ov)) (hS : va_S A s.heap H locs) (hl : lv_has ls 9 [(4, .int (nI (4 * k))), (3, .ref o), (2, .ref (v 0)), (1, .ref x), (0, .ref b0)]) (K : LK p l e s m b0 below meth c D cI cL x o k a b v A cells slots Q) : W p l e room_1 s m #[Value.ref b0] below meth c H locs cells slots Q (F0 m 1475 ls []) := by
  obtain ⟨hx, hb, hml, hown, hts, hK, hN, hKX, hZ, hA, hX, hbl, hbA, hst, hL⟩ := F
  have hI := hR.inv
  obtain ⟨v1, hv1⟩ : ∃ z, xs (nI (4 * k) + 1).toNatClampNeg = z := ⟨_, rfl⟩
  by_cases hp : xhas 2 v1 = true
  · obtain ⟨i1, hi1, rfl⟩ := hE hp
    obtain ⟨o1, o2, o3⟩ := hR.hop2 hi1
    refine lv_aload_n hx hb dL_law_1475 rfl (lv_at hl 3 rfl) ?_
    refine lv_aload_n hx hb dL_law_1476 rfl (lv_at hl 4 rfl) ?_
    refine lv_iload hx hb dL_law_1477 (lv_at hl 0 rfl) ?_
    refine lv_iconst (v := 1) hx hb dL_law_1479 (by decide) ?_
    refine lv_iadd hx hb dL_law_1480 ?_
    refine va_sld hx hb hX hbl hbA hS (sx_in hL (j := 1) (by omega)) dL_law_1481 ?_
    rw [hv1]
    refine lv_aload_n hx hb dL_law_1482 rfl (lv_at hl 1 rfl) ?_
    refine kQWi (As := [.ref x, .int (nI i1), .ref o]) (rest := []) (wr := [(v 0, .inr (2, [.int th, .int (nI cN), .int (nI rN), .ref (v 1), .ref (v 2), .ref (v 3), .ref (v 4), .ref (v 5), .int tn, .ref (v 6)])), (v 1, .inl (cI, 72, .inl pt)), (v 2, .inl (cI, 72, .inl pd)), (v 3, .inl (cI, 2, .inl ab)), (v 4, .inl (cI, 84, .inl nw)), (v 5, .inl (cI, 84, .inl kp)), (v 6, .inl (cI, 8, .inl wy))]) (W2 := (fun u : MS => (wX x a b ++ wM cI a pa pe st bn hc hm (nI cN) (nI rN) lo ++ wM cI b u.1 u.2.1 u.2.2.1 u.2.2.2.1 u.2.2.2.2.1 u.2.2.2.2.2.1 u.2.2.2.2.2.2.1 u.2.2.2.2.2.2.2.1 u.2.2.2.2.2.2.2.2 ++ wN cI v pt pd ab nw kp wy th (nI cN) (nI rN) tn ++ wL cL o 1 ((vp_updL ov 0 ((xRun pa pe st bn hc hm (nI cN) (nI rN) lo (nI i1) 99).1 : Int32).toInt64))))) ⟨hx, hb, hml, hown, hts⟩ (mL_wouldRun_0 l D cI cL x a pa pe st bn hc hm (nI cN) (nI rN) lo b pa2 pe2 st2 bn2 hc2 hm2 C2 R2 lo2 o ov (nI i1) hp _) (vx_cwSW 3 hts gL_law_L_wouldRun rfl rfl rfl (by decide +kernel) ⟨Nat.le_of_ble_eq_true rfl, Nat.le_of_ble_eq_true rfl⟩) hP hD hK hN hKX (hZ.now hS hA) hS hA [0, 1, 2, 3, 4, 5, 6, 7, 8, 9, 10, 11, 12, 13, 14, 22] (by decide) rfl [15, 16, 17, 18, 19, 20, 21] (by decide) rfl (by decide) [7, 8, 9, 10, 11, 12, 13, 14, 15, 16, 17, 18, 19, 20, 21, 0, 1, 2, 3, 4, 5, 6, 22] (by decide) (fun _ => rfl) [0, 1] rfl rfl hl.1 rfl (Nat.le_of_ble_eq_true rfl) dL_law_1483 ⟨by omega, by omega⟩ (fun r_1 u_1 H locs hr_1 hP hD hS => ?_)
    subst r_1
    have hP : va_P D vwCl (wX x a b ++ wM cI a pa pe st bn hc hm (nI cN) (nI rN) lo ++ wM cI b u_1.1 u_1.2.1 u_1.2.2.1 u_1.2.2.2.1 u_1.2.2.2.2.1 u_1.2.2.2.2.2.1 u_1.2.2.2.2.2.2.1 u_1.2.2.2.2.2.2.2.1 u_1.2.2.2.2.2.2.2.2 ++ wN cI v pt pd ab nw kp wy th (nI cN) (nI rN) tn ++ wL cL o 1 ((vp_updL ov 0 ((xRun pa pe st bn hc hm (nI cN) (nI rN) lo (nI i1) 99).1 : Int32).toInt64))) H := hP
    have hD : va_D A (wX x a b ++ wM cI a pa pe st bn hc hm (nI cN) (nI rN) lo ++ wM cI b u_1.1 u_1.2.1 u_1.2.2.1 u_1.2.2.2.1 u_1.2.2.2.2.1 u_1.2.2.2.2.2.1 u_1.2.2.2.2.2.2.1 u_1.2.2.2.2.2.2.2.1 u_1.2.2.2.2.2.2.2.2 ++ wN cI v pt pd ab nw kp wy th (nI cN) (nI rN) tn ++ wL cL o 1 ((vp_updL ov 0 ((xRun pa pe st bn hc hm (nI cN) (nI rN) lo (nI i1) 99).1 : Int32).toInt64))) := hD
    refine lv_istore (lv' := [(5, .int 0), (4, .int (nI (4 * k))), (3, .ref o), (2, .ref (v 0)), (1, .ref x), (0, .ref b0)]) hx hb dL_law_1486 hl (by decide) rfl (fun ls hl => ?_)
    refine lv_aload_n hx hb dL_law_1488 rfl (lv_at hl 3 rfl) ?_
    refine lv_aload_n hx hb dL_law_1489 rfl (lv_at hl 5 rfl) ?_
    refine lv_iload hx hb dL_law_1490 (lv_at hl 1 rfl) ?_
    refine lv_iconst (v := 1) hx hb dL_law_1492 (by decide) ?_
    refine lv_iadd hx hb dL_law_1493 ?_
    refine va_sld hx hb hX hbl hbA hS (sx_in hL (j := 1) (by omega)) dL_law_1494 ?_
    rw [hv1]
    refine kQVi (As := [.int (nI i1)]) (rest := []) (wr := [(x, .inr (1, [.ref (a 0), .ref (b 0)])), (a 0, .inr (0, [.ref (a 1), .ref (a 2), .ref (a 3), .ref (a 4), .ref (a 5), .ref (a 6), .int (nI cN), .int (nI rN), .int lo])), (a 1, .inl (cI, 72, .inl pa)), (a 2, .inl (cI, 72, .inl pe)), (a 3, .inl (cI, 72, .inl st)), (a 4, .inl (cI, 9, .inl bn)), (a 5, .inl (cI, 2, .inl hc)), (a 6, .inl (cI, 2, .inl hm)), (b 0, .inr (0, [.ref (b 1), .ref (b 2), .ref (b 3), .ref (b 4), .ref (b 5), .ref (b 6), .int u_1.2.2.2.2.2.2.1, .int u_1.2.2.2.2.2.2.2.1, .int u_1.2.2.2.2.2.2.2.2])), (b 1, .inl (cI, 72, .inl u_1.1)), (b 2, .inl (cI, 72, .inl u_1.2.1)), (b 3, .inl (cI, 72, .inl u_1.2.2.1)), (b 4, .inl (cI, 9, .inl u_1.2.2.2.1)), (b 5, .inl (cI, 2, .inl u_1.2.2.2.2.1)), (b 6, .inl (cI, 2, .inl u_1.2.2.2.2.2.1)), (o, .inl (cL, 1, .inr (.inl (vp_updL ov 0 ((xRun pa pe st bn hc hm (nI cN) (nI rN) lo (nI i1) 99).1 : Int32).toInt64))))]) (W2 := (fun u : MJ => (wX x a b ++ wM cI a pa pe st bn hc hm (nI cN) (nI rN) lo ++ wM cI b u_1.1 u_1.2.1 u_1.2.2.1 u_1.2.2.2.1 u_1.2.2.2.2.1 u_1.2.2.2.2.2.1 u_1.2.2.2.2.2.2.1 u_1.2.2.2.2.2.2.2.1 u_1.2.2.2.2.2.2.2.2 ++ wN cI v pt pd ab nw u.1 u.2.1 0 (nI cN) (nI rN) u.2.2 ++ wL cL o 1 ((vp_updL ov 0 ((xRun pa pe st bn hc hm (nI cN) (nI rN) lo (nI i1) 99).1 : Int32).toInt64))))) ⟨hx, hb, hml, hown, hts⟩ (mX2_wouldRun_0 l D cI v pt pd ab nw kp wy th cN rN tn (nI i1) hI (hT hp) _) (cwV 1 hts gL_law_X2_wouldRun rfl rfl rfl (by decide +kernel) ⟨Nat.le_of_ble_eq_true rfl, Nat.le_of_ble_eq_true rfl⟩) hP hD hK hN hS hA [15, 16, 17, 18, 19, 20, 21] (by decide) rfl [0, 1, 2, 3, 4, 5, 6, 7, 8, 9, 10, 11, 12, 13, 14, 22] (by decide) rfl (by decide) [0, 1, 2, 3, 4, 5, 6, 7, 8, 9, 10, 11, 12, 13, 14, 16, 17, 18, 19, 20, 21, 22, 15] (by decide) (fun _ => rfl) [0] rfl rfl rfl rfl hl.1 rfl (Nat.le_of_ble_eq_true rfl) dL_law_1495 ⟨by omega, by omega⟩ (fun r_2 u_2 H locs hr_2 hP hD hS => ?_)
    subst r_2
    have hP : va_P D vwCl (wX x a b ++ wM cI a pa pe st bn hc hm (nI cN) (nI rN) lo ++ wM cI b u_1.1 u_1.2.1 u_1.2.2.1 u_1.2.2.2.1 u_1.2.2.2.2.1 u_1.2.2.2.2.2.1 u_1.2.2.2.2.2.2.1 u_1.2.2.2.2.2.2.2.1 u_1.2.2.2.2.2.2.2.2 ++ wN cI v pt pd ab nw u_2.1 u_2.2.1 0 (nI cN) (nI rN) u_2.2.2 ++ wL cL o 1 ((vp_updL ov 0 ((xRun pa pe st bn hc hm (nI cN) (nI rN) lo (nI i1) 99).1 : Int32).toInt64))) H := hP
    have hD : va_D A (wX x a b ++ wM cI a pa pe st bn hc hm (nI cN) (nI rN) lo ++ wM cI b u_1.1 u_1.2.1 u_1.2.2.1 u_1.2.2.2.1 u_1.2.2.2.2.1 u_1.2.2.2.2.2.1 u_1.2.2.2.2.2.2.1 u_1.2.2.2.2.2.2.2.1 u_1.2.2.2.2.2.2.2.2 ++ wN cI v pt pd ab nw u_2.1 u_2.2.1 0 (nI cN) (nI rN) u_2.2.2 ++ wL cL o 1 ((vp_updL ov 0 ((xRun pa pe st bn hc hm (nI cN) (nI rN) lo (nI i1) 99).1 : Int32).toInt64))) := hD
    refine lv_istore (lv' := [(6, .int (mRuns pt pd ab cN rN nw (nI i1))), (5, .int 0), (4, .int (nI (4 * k))), (3, .ref o), (2, .ref (v 0)), (1, .ref x), (0, .ref b0)]) hx hb dL_law_1498 hl (by decide) rfl (fun ls hl => ?_)
    refine lv_aload_n hx hb dL_law_1500 rfl (lv_at hl 4 rfl) ?_
    refine kRVi (As := []) (rest := []) ⟨hx, hb, hml, hown, hts⟩ (mX2_thrown l D cI v pt pd ab nw u_2.1 u_2.2.1 0 cN rN u_2.2.2) (cwV 0 hts gL_law_X2_thrown rfl rfl rfl (by decide +kernel) ⟨Nat.le_of_ble_eq_true rfl, Nat.le_of_ble_eq_true rfl⟩) hP hK hN [15, 16, 17, 18, 19, 20, 21] rfl [0] rfl rfl rfl rfl hl.1 rfl (Nat.le_of_ble_eq_true rfl) dL_law_1501 ⟨by omega, by omega⟩ (fun r_3 hr_3 => ?_)
    subst r_3
    refine lv_iload hx hb dL_law_1504 (lv_at hl 1 rfl) ?_
    refine lv_icmp_eq (tgt := 1511) hx hb dL_law_1506 (by decide) (fun _ => ?_) (fun c9 => absurd (by decide) c9)
    refine lv_iload hx hb dL_law_1511 (lv_at hl 1 rfl) ?_
    refine lv_if_ne (tgt := 1528) hx hb dL_law_1513 (by decide) (fun c9 => absurd c9 (by decide)) (fun _ => ?_)
    refine lv_aload_n hx hb dL_law_1516 rfl (lv_at hl 3 rfl) ?_
    refine lv_iconst (v := 0) hx hb dL_law_1517 (by decide) ?_
    refine va_lald hx hb hK hP 22 1 rfl rfl (vp_in_nI (n := 0) (by decide) (by decide)) dL_law_1518 ?_
    rw [show (0 : Int32).toNatClampNeg = 0 from by decide, updL_0]
    refine lv_iload hx hb dL_law_1519 (lv_at hl 0 rfl) ?_
    refine lv_i2l (v := (mRuns pt pd ab cN rN nw (nI i1) : Int32).toInt64) hx hb dL_law_1521 rfl ?_
    refine W.lcmp hx hb dL_law_1522 ?_
    refine lv_if_eq (tgt := 1528) hx hb dL_law_1523 (by decide) (fun _ => ?_) (fun c9 => absurd ((lg_cmp_eq _ _).mpr (congrArg Int32.toInt64 (hR.runs hi1).symm)) c9)
    refine lv_goto (tgt := 1599) hx hb dL_law_1528 (by decide) ?_
    refine W.widen (k := cells + 10) (n := slots + 41) (by omega) (by omega) ?_
    exact K cN rN pa pe st bn hc hm lo u_1.1 u_1.2.1 u_1.2.2.1 u_1.2.2.2.1 u_1.2.2.2.2.1 u_1.2.2.2.2.2.1 u_1.2.2.2.2.2.2.1 u_1.2.2.2.2.2.2.2.1 u_1.2.2.2.2.2.2.2.2 pt pd ab nw u_2.1 u_2.2.1 0 u_2.2.2 (vp_updL ov 0 ((xRun pa pe st bn hc hm (nI cN) (nI rN) lo (nI i1) 99).1 : Int32).toInt64) _ _ _ hR hP hD hS (lv_sub hl [2, 3, 4, 5, 6] rfl)
  · have hp : xhas 2 v1 = false := Bool.eq_false_iff.mpr hp
    refine lv_aload_n hx hb dL_law_1475 rfl (lv_at hl 3 rfl) ?_
    refine lv_aload_n hx hb dL_law_1476 rfl (lv_at hl 4 rfl) ?_
    refine lv_iload hx hb dL_law_1477 (lv_at hl 0 rfl) ?_
    refine lv_iconst (v := 1) hx hb dL_law_1479 (by decide) ?_
    refine lv_iadd hx hb dL_law_1480 ?_
    refine va_sld hx hb hX hbl hbA hS (sx_in hL (j := 1) (by omega)) dL_law_1481 ?_
    rw [hv1]
    refine lv_aload_n hx hb dL_law_1482 rfl (lv_at hl 1 rfl) ?_
    refine kQWi (As := [.ref x, .int v1, .ref o]) (rest := []) (wr := [(v 0, .inr (2, [.int th, .int (nI cN), .int (nI rN), .ref (v 1), .ref (v 2), .ref (v 3), .ref (v 4), .ref (v 5), .int tn, .ref (v 6)])), (v 1, .inl (cI, 72, .inl pt)), (v 2, .inl (cI, 72, .inl pd)), (v 3, .inl (cI, 2, .inl ab)), (v 4, .inl (cI, 84, .inl nw)), (v 5, .inl (cI, 84, .inl kp)), (v 6, .inl (cI, 8, .inl wy))]) (W2 := (fun _ => (wX x a b ++ wM cI a pa pe st bn hc hm (nI cN) (nI rN) lo ++ wM cI b pa2 pe2 st2 bn2 hc2 hm2 C2 R2 lo2 ++ wN cI v pt pd ab nw kp wy th (nI cN) (nI rN) tn ++ wL cL o 1 ov))) ⟨hx, hb, hml, hown, hts⟩ (mL_wouldRun_h l hst D cI cL x a pa pe st bn hc hm (nI cN) (nI rN) lo b pa2 pe2 st2 bn2 hc2 hm2 C2 R2 lo2 o ov v1 hp _) (vx_cwSW 3 hts gL_law_L_wouldRun rfl rfl rfl (by decide +kernel) ⟨Nat.le_of_ble_eq_true rfl, Nat.le_of_ble_eq_true rfl⟩) hP hD hK hN hKX (hZ.now hS hA) hS hA [0, 1, 2, 3, 4, 5, 6, 7, 8, 9, 10, 11, 12, 13, 14, 22] (by decide) rfl [15, 16, 17, 18, 19, 20, 21] (by decide) rfl (by decide) [7, 8, 9, 10, 11, 12, 13, 14, 15, 16, 17, 18, 19, 20, 21, 0, 1, 2, 3, 4, 5, 6, 22] (by decide) (fun _ => rfl) [0, 1] rfl rfl hl.1 rfl (Nat.le_of_ble_eq_true rfl) dL_law_1483 ⟨by omega, by omega⟩ (fun r_6 u_6 H locs hr_6 hP hD hS => ?_)
    subst r_6
    have hP : va_P D vwCl (wX x a b ++ wM cI a pa pe st bn hc hm (nI cN) (nI rN) lo ++ wM cI b pa2 pe2 st2 bn2 hc2 hm2 C2 R2 lo2 ++ wN cI v pt pd ab nw kp wy th (nI cN) (nI rN) tn ++ wL cL o 1 ov) H := hP
    have hD : va_D A (wX x a b ++ wM cI a pa pe st bn hc hm (nI cN) (nI rN) lo ++ wM cI b pa2 pe2 st2 bn2 hc2 hm2 C2 R2 lo2 ++ wN cI v pt pd ab nw kp wy th (nI cN) (nI rN) tn ++ wL cL o 1 ov) := hD
    refine lv_istore (lv' := [(5, .int 1), (4, .int (nI (4 * k))), (3, .ref o), (2, .ref (v 0)), (1, .ref x), (0, .ref b0)]) hx hb dL_law_1486 hl (by decide) rfl (fun ls hl => ?_)
    refine lv_aload_n hx hb dL_law_1488 rfl (lv_at hl 3 rfl) ?_
    refine lv_aload_n hx hb dL_law_1489 rfl (lv_at hl 5 rfl) ?_
    refine lv_iload hx hb dL_law_1490 (lv_at hl 1 rfl) ?_
    refine lv_iconst (v := 1) hx hb dL_law_1492 (by decide) ?_
    refine lv_iadd hx hb dL_law_1493 ?_
    refine va_sld hx hb hX hbl hbA hS (sx_in hL (j := 1) (by omega)) dL_law_1494 ?_
    rw [hv1]
    refine kQVi (As := [.int v1]) (rest := []) (wr := [(x, .inr (1, [.ref (a 0), .ref (b 0)])), (a 0, .inr (0, [.ref (a 1), .ref (a 2), .ref (a 3), .ref (a 4), .ref (a 5), .ref (a 6), .int (nI cN), .int (nI rN), .int lo])), (a 1, .inl (cI, 72, .inl pa)), (a 2, .inl (cI, 72, .inl pe)), (a 3, .inl (cI, 72, .inl st)), (a 4, .inl (cI, 9, .inl bn)), (a 5, .inl (cI, 2, .inl hc)), (a 6, .inl (cI, 2, .inl hm)), (b 0, .inr (0, [.ref (b 1), .ref (b 2), .ref (b 3), .ref (b 4), .ref (b 5), .ref (b 6), .int C2, .int R2, .int lo2])), (b 1, .inl (cI, 72, .inl pa2)), (b 2, .inl (cI, 72, .inl pe2)), (b 3, .inl (cI, 72, .inl st2)), (b 4, .inl (cI, 9, .inl bn2)), (b 5, .inl (cI, 2, .inl hc2)), (b 6, .inl (cI, 2, .inl hm2)), (o, .inl (cL, 1, .inr (.inl ov)))]) (W2 := (fun _ => (wX x a b ++ wM cI a pa pe st bn hc hm (nI cN) (nI rN) lo ++ wM cI b pa2 pe2 st2 bn2 hc2 hm2 C2 R2 lo2 ++ wN cI v pt pd ab nw kp wy 1 (nI cN) (nI rN) tn ++ wL cL o 1 ov))) ⟨hx, hb, hml, hown, hts⟩ (mX2_wouldRun_1 l D cI v pt pd ab nw kp wy th cN rN tn v1 (hT hp) _) (cwV 1 hts gL_law_X2_wouldRun rfl rfl rfl (by decide +kernel) ⟨Nat.le_of_ble_eq_true rfl, Nat.le_of_ble_eq_true rfl⟩) hP hD hK hN hS hA [15, 16, 17, 18, 19, 20, 21] (by decide) rfl [0, 1, 2, 3, 4, 5, 6, 7, 8, 9, 10, 11, 12, 13, 14, 22] (by decide) rfl (by decide) [0, 1, 2, 3, 4, 5, 6, 7, 8, 9, 10, 11, 12, 13, 14, 16, 17, 18, 19, 20, 21, 22, 15] (by decide) (fun _ => rfl) [0] rfl rfl rfl rfl hl.1 rfl (Nat.le_of_ble_eq_true rfl) dL_law_1495 ⟨by omega, by omega⟩ (fun r_7 u_7 H locs hr_7 hP hD hS => ?_)
    subst r_7
    have hP : va_P D vwCl (wX x a b ++ wM cI a pa pe st bn hc hm (nI cN) (nI rN) lo ++ wM cI b pa2 pe2 st2 bn2 hc2 hm2 C2 R2 lo2 ++ wN cI v pt pd ab nw kp wy 1 (nI cN) (nI rN) tn ++ wL cL o 1 ov) H := hP
    have hD : va_D A (wX x a b ++ wM cI a pa pe st bn hc hm (nI cN) (nI rN) lo ++ wM cI b pa2 pe2 st2 bn2 hc2 hm2 C2 R2 lo2 ++ wN cI v pt pd ab nw kp wy 1 (nI cN) (nI rN) tn ++ wL cL o 1 ov) := hD
    refine lv_istore (lv' := [(6, .int 0), (5, .int 1), (4, .int (nI (4 * k))), (3, .ref o), (2, .ref (v 0)), (1, .ref x), (0, .ref b0)]) hx hb dL_law_1498 hl (by decide) rfl (fun ls hl => ?_)
    refine lv_aload_n hx hb dL_law_1500 rfl (lv_at hl 4 rfl) ?_
    refine kRVi (As := []) (rest := []) ⟨hx, hb, hml, hown, hts⟩ (mX2_thrown l D cI v pt pd ab nw kp wy 1 cN rN tn) (cwV 0 hts gL_law_X2_thrown rfl rfl rfl (by decide +kernel) ⟨Nat.le_of_ble_eq_true rfl, Nat.le_of_ble_eq_true rfl⟩) hP hK hN [15, 16, 17, 18, 19, 20, 21] rfl [0] rfl rfl rfl rfl hl.1 rfl (Nat.le_of_ble_eq_true rfl) dL_law_1501 ⟨by omega, by omega⟩ (fun r_8 hr_8 => ?_)
    subst r_8
    refine lv_iload hx hb dL_law_1504 (lv_at hl 1 rfl) ?_
    refine lv_icmp_eq (tgt := 1511) hx hb dL_law_1506 (by decide) (fun _ => ?_) (fun c9 => absurd (by decide) c9)
    refine lv_iload hx hb dL_law_1511 (lv_at hl 1 rfl) ?_
    refine lv_if_ne (tgt := 1528) hx hb dL_law_1513 (by decide) (fun _ => ?_) (fun c9 => absurd c9 (by decide))
    refine lv_goto (tgt := 1599) hx hb dL_law_1528 (by decide) ?_
    refine W.widen (k := cells + 10) (n := slots + 41) (by omega) (by omega) ?_
    exact K cN rN pa pe st bn hc hm lo pa2 pe2 st2 bn2 hc2 hm2 C2 R2 lo2 pt pd ab nw kp wy 1 tn ov _ _ _ hR hP hD hS (lv_sub hl [2, 3, 4, 5, 6] rfl)
set_option maxHeartbeats 4000000 in
set_option maxRecDepth 100000 in
theorem cs_19 {p : Program} {l : Launch} {e : Env} {s : State} {m : MethodId} {below : List Frame} {meth : Method} {c : Code} {Q : State → Prop} {D : va_G} {cI cL : ClassId} {x o b0 L k : Nat} {a b v : Nat → Nat} {xs : Nat → Int32} {A : Nat → Prop} {cells slots : Nat} {cN rN : Nat} {pa pe st bn hc hm : Nat → Int32} {lo : Int32} {pa2 pe2 st2 bn2 hc2 hm2 : Nat → Int32} {C2 R2 lo2 : Int32} {pt pd ab nw kp wy : Nat → Int32} {th tn : Int32} {ov : Nat → Int64} {H : Heap} {locs : List Loc} {ls : Array Slot} (F : LF p l s m b0 c D cI cL L xs A) (hR : Rel cN rN pa pe st bn hc hm lo pt pd ab nw) (hk : 4 * k + 3 < L) (h1 : cells + 10 ≤ room_1.cells) (h2 : slots + 41 ≤ room_1.slots) (hP : va_P D vwCl (wX x a b ++ wM cI a pa pe st bn hc hm (nI cN) (nI rN) lo ++ wM cI b pa2 pe2 st2 bn2 hc2 hm2 C2 R2 lo2 ++ wN cI v pt pd ab nw kp wy th (nI cN) (nI rN) tn ++ wL cL o 1 ov) H) (hD : va_D A (wX x a b ++ wM cI a pa pe st bn hc hm (nI cN) (nI rN) lo ++ wM cI b pa2 pe2 st2 bn2 hc2 hm2 C2 R2 lo2 ++ wN cI v pt pd ab nw kp wy th (nI cN) (nI rN) tn ++ wL cL o 1 ov)) (hS : va_S A s.heap H locs) (hl : lv_has ls 9 [(4, .int (nI (4 * k))), (3, .ref o), (2, .ref (v 0)), (1, .ref x), (0, .ref b0)]) (K : LK p l e s m b0 below meth c D cI cL x o k a b v A cells slots Q) : W p l e room_1 s m #[Value.ref b0] below meth c H locs cells slots Q (F0 m 1171 ls []) := by
  obtain ⟨hx, hb, hml, hown, hts, hK, hN, hKX, hZ, hA, hX, hbl, hbA, hst, hL⟩ := F
  have hI := hR.inv
  obtain ⟨v1, hv1⟩ : ∃ z, xs (nI (4 * k) + 1).toNatClampNeg = z := ⟨_, rfl⟩
  by_cases hq : xhas (nI cN) v1 = true
  · obtain ⟨c1, hc1, rfl⟩ := hR.cE hq
    obtain ⟨d1, d2, d3, d4⟩ := hR.drop hc1
    refine lv_aload_n hx hb dL_law_1171 rfl (lv_at hl 3 rfl) ?_
    refine lv_aload_n hx hb dL_law_1172 rfl (lv_at hl 4 rfl) ?_
    refine lv_iload hx hb dL_law_1173 (lv_at hl 0 rfl) ?_
    refine lv_iconst (v := 1) hx hb dL_law_1175 (by decide) ?_
    refine lv_iadd hx hb dL_law_1176 ?_
    refine va_sld hx hb hX hbl hbA hS (sx_in hL (j := 1) (by omega)) dL_law_1177 ?_
    rw [hv1]
    refine lv_aload_n hx hb dL_law_1178 rfl (lv_at hl 1 rfl) ?_
    refine kQWi (As := [.ref x, .int (nI c1), .ref o]) (rest := []) (wr := [(v 0, .inr (2, [.int th, .int (nI cN), .int (nI rN), .ref (v 1), .ref (v 2), .ref (v 3), .ref (v 4), .ref (v 5), .int tn, .ref (v 6)])), (v 1, .inl (cI, 72, .inl pt)), (v 2, .inl (cI, 72, .inl pd)), (v 3, .inl (cI, 2, .inl ab)), (v 4, .inl (cI, 84, .inl nw)), (v 5, .inl (cI, 84, .inl kp)), (v 6, .inl (cI, 8, .inl wy))]) (W2 := (fun u : MS => (wX x a b ++ wM cI a pa pe st bn hc hm (nI cN) (nI rN) lo ++ wM cI b u.1 u.2.1 u.2.2.1 u.2.2.2.1 u.2.2.2.2.1 u.2.2.2.2.2.1 u.2.2.2.2.2.2.1 u.2.2.2.2.2.2.2.1 u.2.2.2.2.2.2.2.2 ++ wN cI v pt pd ab nw kp wy th (nI cN) (nI rN) tn ++ wL cL o 1 ((vp_updL ov 0 ((xFall pa pe st (nI cN) (nI c1) (nI rN)).1 : Int32).toInt64))))) ⟨hx, hb, hml, hown, hts⟩ (mL_wouldLand_0 l D cI cL x a pa pe st bn hc hm (nI cN) (nI rN) lo b pa2 pe2 st2 bn2 hc2 hm2 C2 R2 lo2 o ov (nI c1) hq _) (vx_cwSW 3 hts gL_law_L_wouldLand rfl rfl rfl (by decide +kernel) ⟨Nat.le_of_ble_eq_true rfl, Nat.le_of_ble_eq_true rfl⟩) hP hD hK hN hKX (hZ.now hS hA) hS hA [0, 1, 2, 3, 4, 5, 6, 7, 8, 9, 10, 11, 12, 13, 14, 22] (by decide) rfl [15, 16, 17, 18, 19, 20, 21] (by decide) rfl (by decide) [7, 8, 9, 10, 11, 12, 13, 14, 15, 16, 17, 18, 19, 20, 21, 0, 1, 2, 3, 4, 5, 6, 22] (by decide) (fun _ => rfl) [0, 1] rfl rfl hl.1 rfl (Nat.le_of_ble_eq_true rfl) dL_law_1179 ⟨by omega, by omega⟩ (fun r_1 u_1 H locs hr_1 hP hD hS => ?_)
    subst r_1
    have hP : va_P D vwCl (wX x a b ++ wM cI a pa pe st bn hc hm (nI cN) (nI rN) lo ++ wM cI b u_1.1 u_1.2.1 u_1.2.2.1 u_1.2.2.2.1 u_1.2.2.2.2.1 u_1.2.2.2.2.2.1 u_1.2.2.2.2.2.2.1 u_1.2.2.2.2.2.2.2.1 u_1.2.2.2.2.2.2.2.2 ++ wN cI v pt pd ab nw kp wy th (nI cN) (nI rN) tn ++ wL cL o 1 ((vp_updL ov 0 ((xFall pa pe st (nI cN) (nI c1) (nI rN)).1 : Int32).toInt64))) H := hP
    have hD : va_D A (wX x a b ++ wM cI a pa pe st bn hc hm (nI cN) (nI rN) lo ++ wM cI b u_1.1 u_1.2.1 u_1.2.2.1 u_1.2.2.2.1 u_1.2.2.2.2.1 u_1.2.2.2.2.2.1 u_1.2.2.2.2.2.2.1 u_1.2.2.2.2.2.2.2.1 u_1.2.2.2.2.2.2.2.2 ++ wN cI v pt pd ab nw kp wy th (nI cN) (nI rN) tn ++ wL cL o 1 ((vp_updL ov 0 ((xFall pa pe st (nI cN) (nI c1) (nI rN)).1 : Int32).toInt64))) := hD
    refine lv_istore (lv' := [(5, .int 0), (4, .int (nI (4 * k))), (3, .ref o), (2, .ref (v 0)), (1, .ref x), (0, .ref b0)]) hx hb dL_law_1182 hl (by decide) rfl (fun ls hl => ?_)
    refine lv_aload_n hx hb dL_law_1184 rfl (lv_at hl 3 rfl) ?_
    refine lv_aload_n hx hb dL_law_1185 rfl (lv_at hl 5 rfl) ?_
    refine lv_iload hx hb dL_law_1186 (lv_at hl 1 rfl) ?_
    refine lv_iconst (v := 1) hx hb dL_law_1188 (by decide) ?_
    refine lv_iadd hx hb dL_law_1189 ?_
    refine va_sld hx hb hX hbl hbA hS (sx_in hL (j := 1) (by omega)) dL_law_1190 ?_
    rw [hv1]
    refine kQVi (As := [.int (nI c1)]) (rest := []) (wr := [(x, .inr (1, [.ref (a 0), .ref (b 0)])), (a 0, .inr (0, [.ref (a 1), .ref (a 2), .ref (a 3), .ref (a 4), .ref (a 5), .ref (a 6), .int (nI cN), .int (nI rN), .int lo])), (a 1, .inl (cI, 72, .inl pa)), (a 2, .inl (cI, 72, .inl pe)), (a 3, .inl (cI, 72, .inl st)), (a 4, .inl (cI, 9, .inl bn)), (a 5, .inl (cI, 2, .inl hc)), (a 6, .inl (cI, 2, .inl hm)), (b 0, .inr (0, [.ref (b 1), .ref (b 2), .ref (b 3), .ref (b 4), .ref (b 5), .ref (b 6), .int u_1.2.2.2.2.2.2.1, .int u_1.2.2.2.2.2.2.2.1, .int u_1.2.2.2.2.2.2.2.2])), (b 1, .inl (cI, 72, .inl u_1.1)), (b 2, .inl (cI, 72, .inl u_1.2.1)), (b 3, .inl (cI, 72, .inl u_1.2.2.1)), (b 4, .inl (cI, 9, .inl u_1.2.2.2.1)), (b 5, .inl (cI, 2, .inl u_1.2.2.2.2.1)), (b 6, .inl (cI, 2, .inl u_1.2.2.2.2.2.1)), (o, .inl (cL, 1, .inr (.inl (vp_updL ov 0 ((xFall pa pe st (nI cN) (nI c1) (nI rN)).1 : Int32).toInt64))))]) (W2 := (fun u : MJ => (wX x a b ++ wM cI a pa pe st bn hc hm (nI cN) (nI rN) lo ++ wM cI b u_1.1 u_1.2.1 u_1.2.2.1 u_1.2.2.2.1 u_1.2.2.2.2.1 u_1.2.2.2.2.2.1 u_1.2.2.2.2.2.2.1 u_1.2.2.2.2.2.2.2.1 u_1.2.2.2.2.2.2.2.2 ++ wN cI v pt pd ab nw u.1 u.2.1 0 (nI cN) (nI rN) u.2.2 ++ wL cL o 1 ((vp_updL ov 0 ((xFall pa pe st (nI cN) (nI c1) (nI rN)).1 : Int32).toInt64))))) ⟨hx, hb, hml, hown, hts⟩ (mX2_wouldLand_0 l D cI v pt pd ab nw kp wy th cN rN tn (nI c1) hI (hR.cT hq) _) (cwV 1 hts gL_law_X2_wouldLand rfl rfl rfl (by decide +kernel) ⟨Nat.le_of_ble_eq_true rfl, Nat.le_of_ble_eq_true rfl⟩) hP hD hK hN hS hA [15, 16, 17, 18, 19, 20, 21] (by decide) rfl [0, 1, 2, 3, 4, 5, 6, 7, 8, 9, 10, 11, 12, 13, 14, 22] (by decide) rfl (by decide) [0, 1, 2, 3, 4, 5, 6, 7, 8, 9, 10, 11, 12, 13, 14, 16, 17, 18, 19, 20, 21, 22, 15] (by decide) (fun _ => rfl) [0] rfl rfl rfl rfl hl.1 rfl (Nat.le_of_ble_eq_true rfl) dL_law_1191 ⟨by omega, by omega⟩ (fun r_2 u_2 H locs hr_2 hP hD hS => ?_)
    subst r_2
    have hP : va_P D vwCl (wX x a b ++ wM cI a pa pe st bn hc hm (nI cN) (nI rN) lo ++ wM cI b u_1.1 u_1.2.1 u_1.2.2.1 u_1.2.2.2.1 u_1.2.2.2.2.1 u_1.2.2.2.2.2.1 u_1.2.2.2.2.2.2.1 u_1.2.2.2.2.2.2.2.1 u_1.2.2.2.2.2.2.2.2 ++ wN cI v pt pd ab nw u_2.1 u_2.2.1 0 (nI cN) (nI rN) u_2.2.2 ++ wL cL o 1 ((vp_updL ov 0 ((xFall pa pe st (nI cN) (nI c1) (nI rN)).1 : Int32).toInt64))) H := hP
    have hD : va_D A (wX x a b ++ wM cI a pa pe st bn hc hm (nI cN) (nI rN) lo ++ wM cI b u_1.1 u_1.2.1 u_1.2.2.1 u_1.2.2.2.1 u_1.2.2.2.2.1 u_1.2.2.2.2.2.1 u_1.2.2.2.2.2.2.1 u_1.2.2.2.2.2.2.2.1 u_1.2.2.2.2.2.2.2.2 ++ wN cI v pt pd ab nw u_2.1 u_2.2.1 0 (nI cN) (nI rN) u_2.2.2 ++ wL cL o 1 ((vp_updL ov 0 ((xFall pa pe st (nI cN) (nI c1) (nI rN)).1 : Int32).toInt64))) := hD
    refine lv_istore (lv' := [(6, .int ((mFall pt pd cN rN nw (nI c1)).1)), (5, .int 0), (4, .int (nI (4 * k))), (3, .ref o), (2, .ref (v 0)), (1, .ref x), (0, .ref b0)]) hx hb dL_law_1194 hl (by decide) rfl (fun ls hl => ?_)
    refine lv_aload_n hx hb dL_law_1196 rfl (lv_at hl 4 rfl) ?_
    refine kRVi (As := []) (rest := []) ⟨hx, hb, hml, hown, hts⟩ (mX2_thrown l D cI v pt pd ab nw u_2.1 u_2.2.1 0 cN rN u_2.2.2) (cwV 0 hts gL_law_X2_thrown rfl rfl rfl (by decide +kernel) ⟨Nat.le_of_ble_eq_true rfl, Nat.le_of_ble_eq_true rfl⟩) hP hK hN [15, 16, 17, 18, 19, 20, 21] rfl [0] rfl rfl rfl rfl hl.1 rfl (Nat.le_of_ble_eq_true rfl) dL_law_1197 ⟨by omega, by omega⟩ (fun r_3 hr_3 => ?_)
    subst r_3
    refine lv_iload hx hb dL_law_1200 (lv_at hl 1 rfl) ?_
    refine lv_icmp_eq (tgt := 1207) hx hb dL_law_1202 (by decide) (fun _ => ?_) (fun c9 => absurd (by decide) c9)
    refine lv_iload hx hb dL_law_1207 (lv_at hl 1 rfl) ?_
    refine lv_if_ne (tgt := 1224) hx hb dL_law_1209 (by decide) (fun c9 => absurd c9 (by decide)) (fun _ => ?_)
    refine lv_aload_n hx hb dL_law_1212 rfl (lv_at hl 3 rfl) ?_
    refine lv_iconst (v := 0) hx hb dL_law_1213 (by decide) ?_
    refine va_lald hx hb hK hP 22 1 rfl rfl (vp_in_nI (n := 0) (by decide) (by decide)) dL_law_1214 ?_
    rw [show (0 : Int32).toNatClampNeg = 0 from by decide, updL_0]
    refine lv_iload hx hb dL_law_1215 (lv_at hl 0 rfl) ?_
    refine lv_i2l (v := ((mFall pt pd cN rN nw (nI c1)).1 : Int32).toInt64) hx hb dL_law_1217 rfl ?_
    refine W.lcmp hx hb dL_law_1218 ?_
    refine lv_if_eq (tgt := 1224) hx hb dL_law_1219 (by decide) (fun _ => ?_) (fun c9 => absurd ((lg_cmp_eq _ _).mpr (congrArg Int32.toInt64 d1.symm)) c9)
    refine lv_goto (tgt := 1599) hx hb dL_law_1224 (by decide) ?_
    refine W.widen (k := cells + 10) (n := slots + 41) (by omega) (by omega) ?_
    exact K cN rN pa pe st bn hc hm lo u_1.1 u_1.2.1 u_1.2.2.1 u_1.2.2.2.1 u_1.2.2.2.2.1 u_1.2.2.2.2.2.1 u_1.2.2.2.2.2.2.1 u_1.2.2.2.2.2.2.2.1 u_1.2.2.2.2.2.2.2.2 pt pd ab nw u_2.1 u_2.2.1 0 u_2.2.2 (vp_updL ov 0 ((xFall pa pe st (nI cN) (nI c1) (nI rN)).1 : Int32).toInt64) _ _ _ hR hP hD hS (lv_sub hl [2, 3, 4, 5, 6] rfl)
  · have hq : xhas (nI cN) v1 = false := Bool.eq_false_iff.mpr hq
    refine lv_aload_n hx hb dL_law_1171 rfl (lv_at hl 3 rfl) ?_
    refine lv_aload_n hx hb dL_law_1172 rfl (lv_at hl 4 rfl) ?_
    refine lv_iload hx hb dL_law_1173 (lv_at hl 0 rfl) ?_
    refine lv_iconst (v := 1) hx hb dL_law_1175 (by decide) ?_
    refine lv_iadd hx hb dL_law_1176 ?_
    refine va_sld hx hb hX hbl hbA hS (sx_in hL (j := 1) (by omega)) dL_law_1177 ?_
    rw [hv1]
    refine lv_aload_n hx hb dL_law_1178 rfl (lv_at hl 1 rfl) ?_
    refine kQWi (As := [.ref x, .int v1, .ref o]) (rest := []) (wr := [(v 0, .inr (2, [.int th, .int (nI cN), .int (nI rN), .ref (v 1), .ref (v 2), .ref (v 3), .ref (v 4), .ref (v 5), .int tn, .ref (v 6)])), (v 1, .inl (cI, 72, .inl pt)), (v 2, .inl (cI, 72, .inl pd)), (v 3, .inl (cI, 2, .inl ab)), (v 4, .inl (cI, 84, .inl nw)), (v 5, .inl (cI, 84, .inl kp)), (v 6, .inl (cI, 8, .inl wy))]) (W2 := (fun _ => (wX x a b ++ wM cI a pa pe st bn hc hm (nI cN) (nI rN) lo ++ wM cI b pa2 pe2 st2 bn2 hc2 hm2 C2 R2 lo2 ++ wN cI v pt pd ab nw kp wy th (nI cN) (nI rN) tn ++ wL cL o 1 ov))) ⟨hx, hb, hml, hown, hts⟩ (mL_wouldLand_c l hst D cI cL x a pa pe st bn hc hm (nI cN) (nI rN) lo b pa2 pe2 st2 bn2 hc2 hm2 C2 R2 lo2 o ov v1 hq _) (vx_cwSW 3 hts gL_law_L_wouldLand rfl rfl rfl (by decide +kernel) ⟨Nat.le_of_ble_eq_true rfl, Nat.le_of_ble_eq_true rfl⟩) hP hD hK hN hKX (hZ.now hS hA) hS hA [0, 1, 2, 3, 4, 5, 6, 7, 8, 9, 10, 11, 12, 13, 14, 22] (by decide) rfl [15, 16, 17, 18, 19, 20, 21] (by decide) rfl (by decide) [7, 8, 9, 10, 11, 12, 13, 14, 15, 16, 17, 18, 19, 20, 21, 0, 1, 2, 3, 4, 5, 6, 22] (by decide) (fun _ => rfl) [0, 1] rfl rfl hl.1 rfl (Nat.le_of_ble_eq_true rfl) dL_law_1179 ⟨by omega, by omega⟩ (fun r_6 u_6 H locs hr_6 hP hD hS => ?_)
    subst r_6
    have hP : va_P D vwCl (wX x a b ++ wM cI a pa pe st bn hc hm (nI cN) (nI rN) lo ++ wM cI b pa2 pe2 st2 bn2 hc2 hm2 C2 R2 lo2 ++ wN cI v pt pd ab nw kp wy th (nI cN) (nI rN) tn ++ wL cL o 1 ov) H := hP
    have hD : va_D A (wX x a b ++ wM cI a pa pe st bn hc hm (nI cN) (nI rN) lo ++ wM cI b pa2 pe2 st2 bn2 hc2 hm2 C2 R2 lo2 ++ wN cI v pt pd ab nw kp wy th (nI cN) (nI rN) tn ++ wL cL o 1 ov) := hD
    refine lv_istore (lv' := [(5, .int 1), (4, .int (nI (4 * k))), (3, .ref o), (2, .ref (v 0)), (1, .ref x), (0, .ref b0)]) hx hb dL_law_1182 hl (by decide) rfl (fun ls hl => ?_)
    refine lv_aload_n hx hb dL_law_1184 rfl (lv_at hl 3 rfl) ?_
    refine lv_aload_n hx hb dL_law_1185 rfl (lv_at hl 5 rfl) ?_
    refine lv_iload hx hb dL_law_1186 (lv_at hl 1 rfl) ?_
    refine lv_iconst (v := 1) hx hb dL_law_1188 (by decide) ?_
    refine lv_iadd hx hb dL_law_1189 ?_
    refine va_sld hx hb hX hbl hbA hS (sx_in hL (j := 1) (by omega)) dL_law_1190 ?_
    rw [hv1]
    refine kQVi (As := [.int v1]) (rest := []) (wr := [(x, .inr (1, [.ref (a 0), .ref (b 0)])), (a 0, .inr (0, [.ref (a 1), .ref (a 2), .ref (a 3), .ref (a 4), .ref (a 5), .ref (a 6), .int (nI cN), .int (nI rN), .int lo])), (a 1, .inl (cI, 72, .inl pa)), (a 2, .inl (cI, 72, .inl pe)), (a 3, .inl (cI, 72, .inl st)), (a 4, .inl (cI, 9, .inl bn)), (a 5, .inl (cI, 2, .inl hc)), (a 6, .inl (cI, 2, .inl hm)), (b 0, .inr (0, [.ref (b 1), .ref (b 2), .ref (b 3), .ref (b 4), .ref (b 5), .ref (b 6), .int C2, .int R2, .int lo2])), (b 1, .inl (cI, 72, .inl pa2)), (b 2, .inl (cI, 72, .inl pe2)), (b 3, .inl (cI, 72, .inl st2)), (b 4, .inl (cI, 9, .inl bn2)), (b 5, .inl (cI, 2, .inl hc2)), (b 6, .inl (cI, 2, .inl hm2)), (o, .inl (cL, 1, .inr (.inl ov)))]) (W2 := (fun _ => (wX x a b ++ wM cI a pa pe st bn hc hm (nI cN) (nI rN) lo ++ wM cI b pa2 pe2 st2 bn2 hc2 hm2 C2 R2 lo2 ++ wN cI v pt pd ab nw kp wy 1 (nI cN) (nI rN) tn ++ wL cL o 1 ov))) ⟨hx, hb, hml, hown, hts⟩ (mX2_wouldLand_1 l D cI v pt pd ab nw kp wy th cN rN tn v1 (hR.cF hq) _) (cwV 1 hts gL_law_X2_wouldLand rfl rfl rfl (by decide +kernel) ⟨Nat.le_of_ble_eq_true rfl, Nat.le_of_ble_eq_true rfl⟩) hP hD hK hN hS hA [15, 16, 17, 18, 19, 20, 21] (by decide) rfl [0, 1, 2, 3, 4, 5, 6, 7, 8, 9, 10, 11, 12, 13, 14, 22] (by decide) rfl (by decide) [0, 1, 2, 3, 4, 5, 6, 7, 8, 9, 10, 11, 12, 13, 14, 16, 17, 18, 19, 20, 21, 22, 15] (by decide) (fun _ => rfl) [0] rfl rfl rfl rfl hl.1 rfl (Nat.le_of_ble_eq_true rfl) dL_law_1191 ⟨by omega, by omega⟩ (fun r_7 u_7 H locs hr_7 hP hD hS => ?_)
    subst r_7
    have hP : va_P D vwCl (wX x a b ++ wM cI a pa pe st bn hc hm (nI cN) (nI rN) lo ++ wM cI b pa2 pe2 st2 bn2 hc2 hm2 C2 R2 lo2 ++ wN cI v pt pd ab nw kp wy 1 (nI cN) (nI rN) tn ++ wL cL o 1 ov) H := hP
    have hD : va_D A (wX x a b ++ wM cI a pa pe st bn hc hm (nI cN) (nI rN) lo ++ wM cI b pa2 pe2 st2 bn2 hc2 hm2 C2 R2 lo2 ++ wN cI v pt pd ab nw kp wy 1 (nI cN) (nI rN) tn ++ wL cL o 1 ov) := hD
    refine lv_istore (lv' := [(6, .int 0), (5, .int 1), (4, .int (nI (4 * k))), (3, .ref o), (2, .ref (v 0)), (1, .ref x), (0, .ref b0)]) hx hb dL_law_1194 hl (by decide) rfl (fun ls hl => ?_)
    refine lv_aload_n hx hb dL_law_1196 rfl (lv_at hl 4 rfl) ?_
    refine kRVi (As := []) (rest := []) ⟨hx, hb, hml, hown, hts⟩ (mX2_thrown l D cI v pt pd ab nw kp wy 1 cN rN tn) (cwV 0 hts gL_law_X2_thrown rfl rfl rfl (by decide +kernel) ⟨Nat.le_of_ble_eq_true rfl, Nat.le_of_ble_eq_true rfl⟩) hP hK hN [15, 16, 17, 18, 19, 20, 21] rfl [0] rfl rfl rfl rfl hl.1 rfl (Nat.le_of_ble_eq_true rfl) dL_law_1197 ⟨by omega, by omega⟩ (fun r_8 hr_8 => ?_)
    subst r_8
    refine lv_iload hx hb dL_law_1200 (lv_at hl 1 rfl) ?_
    refine lv_icmp_eq (tgt := 1207) hx hb dL_law_1202 (by decide) (fun _ => ?_) (fun c9 => absurd (by decide) c9)
    refine lv_iload hx hb dL_law_1207 (lv_at hl 1 rfl) ?_
    refine lv_if_ne (tgt := 1224) hx hb dL_law_1209 (by decide) (fun _ => ?_) (fun c9 => absurd c9 (by decide))
    refine lv_goto (tgt := 1599) hx hb dL_law_1224 (by decide) ?_
    refine W.widen (k := cells + 10) (n := slots + 41) (by omega) (by omega) ?_
    exact K cN rN pa pe st bn hc hm lo pa2 pe2 st2 bn2 hc2 hm2 C2 R2 lo2 pt pd ab nw kp wy 1 tn ov _ _ _ hR hP hD hS (lv_sub hl [2, 3, 4, 5, 6] rfl)
set_option maxHeartbeats 4000000 in
set_option maxRecDepth 100000 in
theorem cs_21 {p : Program} {l : Launch} {e : Env} {s : State} {m : MethodId} {below : List Frame} {meth : Method} {c : Code} {Q : State → Prop} {D : va_G} {cI cL : ClassId} {x o b0 L k : Nat} {a b v : Nat → Nat} {xs : Nat → Int32} {A : Nat → Prop} {cells slots : Nat} {cN rN : Nat} {pa pe st bn hc hm : Nat → Int32} {lo : Int32} {pa2 pe2 st2 bn2 hc2 hm2 : Nat → Int32} {C2 R2 lo2 : Int32} {pt pd ab nw kp wy : Nat → Int32} {th tn : Int32} {ov : Nat → Int64} {H : Heap} {locs : List Loc} {ls : Array Slot} (F : LF p l s m b0 c D cI cL L xs A) (hR : Rel cN rN pa pe st bn hc hm lo pt pd ab nw) (hk : 4 * k + 3 < L) (h1 : cells + 10 ≤ room_1.cells) (h2 : slots + 41 ≤ room_1.slots) (hP : va_P D vwCl (wX x a b ++ wM cI a pa pe st bn hc hm (nI cN) (nI rN) lo ++ wM cI b pa2 pe2 st2 bn2 hc2 hm2 C2 R2 lo2 ++ wN cI v pt pd ab nw kp wy th (nI cN) (nI rN) tn ++ wL cL o 1 ov) H) (hD : va_D A (wX x a b ++ wM cI a pa pe st bn hc hm (nI cN) (nI rN) lo ++ wM cI b pa2 pe2 st2 bn2 hc2 hm2 C2 R2 lo2 ++ wN cI v pt pd ab nw kp wy th (nI cN) (nI rN) tn ++ wL cL o 1 ov)) (hS : va_S A s.heap H locs) (hl : lv_has ls 9 [(4, .int (nI (4 * k))), (3, .ref o), (2, .ref (v 0)), (1, .ref x), (0, .ref b0)]) (K : LK p l e s m b0 below meth c D cI cL x o k a b v A cells slots Q) : W p l e room_1 s m #[Value.ref b0] below meth c H locs cells slots Q (F0 m 1295 ls []) := by
  obtain ⟨hx, hb, hml, hown, hts, hK, hN, hKX, hZ, hA, hX, hbl, hbA, hst, hL⟩ := F
  have hI := hR.inv
  obtain ⟨v1, hv1⟩ : ∃ z, xs (nI (4 * k) + 1).toNatClampNeg = z := ⟨_, rfl⟩
  by_cases hq : xhas (nI cN) v1 = true
  · obtain ⟨c1, hc1, rfl⟩ := hR.cE hq
    obtain ⟨d1, d2, d3, d4⟩ := hR.drop hc1
    refine lv_aload_n hx hb dL_law_1295 rfl (lv_at hl 3 rfl) ?_
    refine lv_aload_n hx hb dL_law_1296 rfl (lv_at hl 4 rfl) ?_
    refine lv_iload hx hb dL_law_1297 (lv_at hl 0 rfl) ?_
    refine lv_iconst (v := 1) hx hb dL_law_1299 (by decide) ?_
    refine lv_iadd hx hb dL_law_1300 ?_
    refine va_sld hx hb hX hbl hbA hS (sx_in hL (j := 1) (by omega)) dL_law_1301 ?_
    rw [hv1]
    refine lv_aload_n hx hb dL_law_1302 rfl (lv_at hl 1 rfl) ?_
    refine kQWi (As := [.ref x, .int (nI c1), .ref o]) (rest := []) (wr := [(v 0, .inr (2, [.int th, .int (nI cN), .int (nI rN), .ref (v 1), .ref (v 2), .ref (v 3), .ref (v 4), .ref (v 5), .int tn, .ref (v 6)])), (v 1, .inl (cI, 72, .inl pt)), (v 2, .inl (cI, 72, .inl pd)), (v 3, .inl (cI, 2, .inl ab)), (v 4, .inl (cI, 84, .inl nw)), (v 5, .inl (cI, 84, .inl kp)), (v 6, .inl (cI, 8, .inl wy))]) (W2 := (fun u : MS => (wX x a b ++ wM cI a pa pe st bn hc hm (nI cN) (nI rN) lo ++ wM cI b u.1 u.2.1 u.2.2.1 u.2.2.2.1 u.2.2.2.2.1 u.2.2.2.2.2.1 u.2.2.2.2.2.2.1 u.2.2.2.2.2.2.2.1 u.2.2.2.2.2.2.2.2 ++ wN cI v pt pd ab nw kp wy th (nI cN) (nI rN) tn ++ wL cL o 1 ((vp_updL ov 0 ((xWTurn pa pe st (nI cN) (nI rN) (nI c1)) : Int32).toInt64))))) ⟨hx, hb, hml, hown, hts⟩ (mL_wouldTurn_0 l D cI cL x a pa pe st bn hc hm (nI cN) (nI rN) lo b pa2 pe2 st2 bn2 hc2 hm2 C2 R2 lo2 o ov (nI c1) hq _) (vx_cwSW 3 hts gL_law_L_wouldTurn rfl rfl rfl (by decide +kernel) ⟨Nat.le_of_ble_eq_true rfl, Nat.le_of_ble_eq_true rfl⟩) hP hD hK hN hKX (hZ.now hS hA) hS hA [0, 1, 2, 3, 4, 5, 6, 7, 8, 9, 10, 11, 12, 13, 14, 22] (by decide) rfl [15, 16, 17, 18, 19, 20, 21] (by decide) rfl (by decide) [7, 8, 9, 10, 11, 12, 13, 14, 15, 16, 17, 18, 19, 20, 21, 0, 1, 2, 3, 4, 5, 6, 22] (by decide) (fun _ => rfl) [0, 1] rfl rfl hl.1 rfl (Nat.le_of_ble_eq_true rfl) dL_law_1303 ⟨by omega, by omega⟩ (fun r_1 u_1 H locs hr_1 hP hD hS => ?_)
    subst r_1
    have hP : va_P D vwCl (wX x a b ++ wM cI a pa pe st bn hc hm (nI cN) (nI rN) lo ++ wM cI b u_1.1 u_1.2.1 u_1.2.2.1 u_1.2.2.2.1 u_1.2.2.2.2.1 u_1.2.2.2.2.2.1 u_1.2.2.2.2.2.2.1 u_1.2.2.2.2.2.2.2.1 u_1.2.2.2.2.2.2.2.2 ++ wN cI v pt pd ab nw kp wy th (nI cN) (nI rN) tn ++ wL cL o 1 ((vp_updL ov 0 ((xWTurn pa pe st (nI cN) (nI rN) (nI c1)) : Int32).toInt64))) H := hP
    have hD : va_D A (wX x a b ++ wM cI a pa pe st bn hc hm (nI cN) (nI rN) lo ++ wM cI b u_1.1 u_1.2.1 u_1.2.2.1 u_1.2.2.2.1 u_1.2.2.2.2.1 u_1.2.2.2.2.2.1 u_1.2.2.2.2.2.2.1 u_1.2.2.2.2.2.2.2.1 u_1.2.2.2.2.2.2.2.2 ++ wN cI v pt pd ab nw kp wy th (nI cN) (nI rN) tn ++ wL cL o 1 ((vp_updL ov 0 ((xWTurn pa pe st (nI cN) (nI rN) (nI c1)) : Int32).toInt64))) := hD
    refine lv_istore (lv' := [(5, .int 0), (4, .int (nI (4 * k))), (3, .ref o), (2, .ref (v 0)), (1, .ref x), (0, .ref b0)]) hx hb dL_law_1306 hl (by decide) rfl (fun ls hl => ?_)
    refine lv_aload_n hx hb dL_law_1308 rfl (lv_at hl 3 rfl) ?_
    refine lv_aload_n hx hb dL_law_1309 rfl (lv_at hl 5 rfl) ?_
    refine lv_iload hx hb dL_law_1310 (lv_at hl 1 rfl) ?_
    refine lv_iconst (v := 1) hx hb dL_law_1312 (by decide) ?_
    refine lv_iadd hx hb dL_law_1313 ?_
    refine va_sld hx hb hX hbl hbA hS (sx_in hL (j := 1) (by omega)) dL_law_1314 ?_
    rw [hv1]
    refine kQVi (As := [.int (nI c1)]) (rest := []) (wr := [(x, .inr (1, [.ref (a 0), .ref (b 0)])), (a 0, .inr (0, [.ref (a 1), .ref (a 2), .ref (a 3), .ref (a 4), .ref (a 5), .ref (a 6), .int (nI cN), .int (nI rN), .int lo])), (a 1, .inl (cI, 72, .inl pa)), (a 2, .inl (cI, 72, .inl pe)), (a 3, .inl (cI, 72, .inl st)), (a 4, .inl (cI, 9, .inl bn)), (a 5, .inl (cI, 2, .inl hc)), (a 6, .inl (cI, 2, .inl hm)), (b 0, .inr (0, [.ref (b 1), .ref (b 2), .ref (b 3), .ref (b 4), .ref (b 5), .ref (b 6), .int u_1.2.2.2.2.2.2.1, .int u_1.2.2.2.2.2.2.2.1, .int u_1.2.2.2.2.2.2.2.2])), (b 1, .inl (cI, 72, .inl u_1.1)), (b 2, .inl (cI, 72, .inl u_1.2.1)), (b 3, .inl (cI, 72, .inl u_1.2.2.1)), (b 4, .inl (cI, 9, .inl u_1.2.2.2.1)), (b 5, .inl (cI, 2, .inl u_1.2.2.2.2.1)), (b 6, .inl (cI, 2, .inl u_1.2.2.2.2.2.1)), (o, .inl (cL, 1, .inr (.inl (vp_updL ov 0 ((xWTurn pa pe st (nI cN) (nI rN) (nI c1)) : Int32).toInt64))))]) (W2 := (fun u : MJ => (wX x a b ++ wM cI a pa pe st bn hc hm (nI cN) (nI rN) lo ++ wM cI b u_1.1 u_1.2.1 u_1.2.2.1 u_1.2.2.2.1 u_1.2.2.2.2.1 u_1.2.2.2.2.2.1 u_1.2.2.2.2.2.2.1 u_1.2.2.2.2.2.2.2.1 u_1.2.2.2.2.2.2.2.2 ++ wN cI v pt pd ab nw u.1 u.2.1 0 (nI cN) (nI rN) u.2.2 ++ wL cL o 1 ((vp_updL ov 0 ((xWTurn pa pe st (nI cN) (nI rN) (nI c1)) : Int32).toInt64))))) ⟨hx, hb, hml, hown, hts⟩ (mX2_wouldTurn_0 l D cI v pt pd ab nw kp wy th cN rN tn (nI c1) hI (hR.cT hq) _) (cwV 1 hts gL_law_X2_wouldTurn rfl rfl rfl (by decide +kernel) ⟨Nat.le_of_ble_eq_true rfl, Nat.le_of_ble_eq_true rfl⟩) hP hD hK hN hS hA [15, 16, 17, 18, 19, 20, 21] (by decide) rfl [0, 1, 2, 3, 4, 5, 6, 7, 8, 9, 10, 11, 12, 13, 14, 22] (by decide) rfl (by decide) [0, 1, 2, 3, 4, 5, 6, 7, 8, 9, 10, 11, 12, 13, 14, 16, 17, 18, 19, 20, 21, 22, 15] (by decide) (fun _ => rfl) [0] rfl rfl rfl rfl hl.1 rfl (Nat.le_of_ble_eq_true rfl) dL_law_1315 ⟨by omega, by omega⟩ (fun r_2 u_2 H locs hr_2 hP hD hS => ?_)
    subst r_2
    have hP : va_P D vwCl (wX x a b ++ wM cI a pa pe st bn hc hm (nI cN) (nI rN) lo ++ wM cI b u_1.1 u_1.2.1 u_1.2.2.1 u_1.2.2.2.1 u_1.2.2.2.2.1 u_1.2.2.2.2.2.1 u_1.2.2.2.2.2.2.1 u_1.2.2.2.2.2.2.2.1 u_1.2.2.2.2.2.2.2.2 ++ wN cI v pt pd ab nw u_2.1 u_2.2.1 0 (nI cN) (nI rN) u_2.2.2 ++ wL cL o 1 ((vp_updL ov 0 ((xWTurn pa pe st (nI cN) (nI rN) (nI c1)) : Int32).toInt64))) H := hP
    have hD : va_D A (wX x a b ++ wM cI a pa pe st bn hc hm (nI cN) (nI rN) lo ++ wM cI b u_1.1 u_1.2.1 u_1.2.2.1 u_1.2.2.2.1 u_1.2.2.2.2.1 u_1.2.2.2.2.2.1 u_1.2.2.2.2.2.2.1 u_1.2.2.2.2.2.2.2.1 u_1.2.2.2.2.2.2.2.2 ++ wN cI v pt pd ab nw u_2.1 u_2.2.1 0 (nI cN) (nI rN) u_2.2.2 ++ wL cL o 1 ((vp_updL ov 0 ((xWTurn pa pe st (nI cN) (nI rN) (nI c1)) : Int32).toInt64))) := hD
    refine lv_istore (lv' := [(6, .int ((mFall pt pd cN rN nw (nI c1)).2.2.1)), (5, .int 0), (4, .int (nI (4 * k))), (3, .ref o), (2, .ref (v 0)), (1, .ref x), (0, .ref b0)]) hx hb dL_law_1318 hl (by decide) rfl (fun ls hl => ?_)
    refine lv_aload_n hx hb dL_law_1320 rfl (lv_at hl 4 rfl) ?_
    refine kRVi (As := []) (rest := []) ⟨hx, hb, hml, hown, hts⟩ (mX2_thrown l D cI v pt pd ab nw u_2.1 u_2.2.1 0 cN rN u_2.2.2) (cwV 0 hts gL_law_X2_thrown rfl rfl rfl (by decide +kernel) ⟨Nat.le_of_ble_eq_true rfl, Nat.le_of_ble_eq_true rfl⟩) hP hK hN [15, 16, 17, 18, 19, 20, 21] rfl [0] rfl rfl rfl rfl hl.1 rfl (Nat.le_of_ble_eq_true rfl) dL_law_1321 ⟨by omega, by omega⟩ (fun r_3 hr_3 => ?_)
    subst r_3
    refine lv_iload hx hb dL_law_1324 (lv_at hl 1 rfl) ?_
    refine lv_icmp_eq (tgt := 1331) hx hb dL_law_1326 (by decide) (fun _ => ?_) (fun c9 => absurd (by decide) c9)
    refine lv_iload hx hb dL_law_1331 (lv_at hl 1 rfl) ?_
    refine lv_if_ne (tgt := 1348) hx hb dL_law_1333 (by decide) (fun c9 => absurd c9 (by decide)) (fun _ => ?_)
    refine lv_aload_n hx hb dL_law_1336 rfl (lv_at hl 3 rfl) ?_
    refine lv_iconst (v := 0) hx hb dL_law_1337 (by decide) ?_
    refine va_lald hx hb hK hP 22 1 rfl rfl (vp_in_nI (n := 0) (by decide) (by decide)) dL_law_1338 ?_
    rw [show (0 : Int32).toNatClampNeg = 0 from by decide, updL_0]
    refine lv_iload hx hb dL_law_1339 (lv_at hl 0 rfl) ?_
    refine lv_i2l (v := ((mFall pt pd cN rN nw (nI c1)).2.2.1 : Int32).toInt64) hx hb dL_law_1341 rfl ?_
    refine W.lcmp hx hb dL_law_1342 ?_
    refine lv_if_eq (tgt := 1348) hx hb dL_law_1343 (by decide) (fun _ => ?_) (fun c9 => absurd ((lg_cmp_eq _ _).mpr (congrArg Int32.toInt64 d2.symm)) c9)
    refine lv_goto (tgt := 1599) hx hb dL_law_1348 (by decide) ?_
    refine W.widen (k := cells + 10) (n := slots + 41) (by omega) (by omega) ?_
    exact K cN rN pa pe st bn hc hm lo u_1.1 u_1.2.1 u_1.2.2.1 u_1.2.2.2.1 u_1.2.2.2.2.1 u_1.2.2.2.2.2.1 u_1.2.2.2.2.2.2.1 u_1.2.2.2.2.2.2.2.1 u_1.2.2.2.2.2.2.2.2 pt pd ab nw u_2.1 u_2.2.1 0 u_2.2.2 (vp_updL ov 0 ((xWTurn pa pe st (nI cN) (nI rN) (nI c1)) : Int32).toInt64) _ _ _ hR hP hD hS (lv_sub hl [2, 3, 4, 5, 6] rfl)
  · have hq : xhas (nI cN) v1 = false := Bool.eq_false_iff.mpr hq
    refine lv_aload_n hx hb dL_law_1295 rfl (lv_at hl 3 rfl) ?_
    refine lv_aload_n hx hb dL_law_1296 rfl (lv_at hl 4 rfl) ?_
    refine lv_iload hx hb dL_law_1297 (lv_at hl 0 rfl) ?_
    refine lv_iconst (v := 1) hx hb dL_law_1299 (by decide) ?_
    refine lv_iadd hx hb dL_law_1300 ?_
    refine va_sld hx hb hX hbl hbA hS (sx_in hL (j := 1) (by omega)) dL_law_1301 ?_
    rw [hv1]
    refine lv_aload_n hx hb dL_law_1302 rfl (lv_at hl 1 rfl) ?_
    refine kQWi (As := [.ref x, .int v1, .ref o]) (rest := []) (wr := [(v 0, .inr (2, [.int th, .int (nI cN), .int (nI rN), .ref (v 1), .ref (v 2), .ref (v 3), .ref (v 4), .ref (v 5), .int tn, .ref (v 6)])), (v 1, .inl (cI, 72, .inl pt)), (v 2, .inl (cI, 72, .inl pd)), (v 3, .inl (cI, 2, .inl ab)), (v 4, .inl (cI, 84, .inl nw)), (v 5, .inl (cI, 84, .inl kp)), (v 6, .inl (cI, 8, .inl wy))]) (W2 := (fun _ => (wX x a b ++ wM cI a pa pe st bn hc hm (nI cN) (nI rN) lo ++ wM cI b pa2 pe2 st2 bn2 hc2 hm2 C2 R2 lo2 ++ wN cI v pt pd ab nw kp wy th (nI cN) (nI rN) tn ++ wL cL o 1 ov))) ⟨hx, hb, hml, hown, hts⟩ (mL_wouldTurn_c l hst D cI cL x a pa pe st bn hc hm (nI cN) (nI rN) lo b pa2 pe2 st2 bn2 hc2 hm2 C2 R2 lo2 o ov v1 hq _) (vx_cwSW 3 hts gL_law_L_wouldTurn rfl rfl rfl (by decide +kernel) ⟨Nat.le_of_ble_eq_true rfl, Nat.le_of_ble_eq_true rfl⟩) hP hD hK hN hKX (hZ.now hS hA) hS hA [0, 1, 2, 3, 4, 5, 6, 7, 8, 9, 10, 11, 12, 13, 14, 22] (by decide) rfl [15, 16, 17, 18, 19, 20, 21] (by decide) rfl (by decide) [7, 8, 9, 10, 11, 12, 13, 14, 15, 16, 17, 18, 19, 20, 21, 0, 1, 2, 3, 4, 5, 6, 22] (by decide) (fun _ => rfl) [0, 1] rfl rfl hl.1 rfl (Nat.le_of_ble_eq_true rfl) dL_law_1303 ⟨by omega, by omega⟩ (fun r_6 u_6 H locs hr_6 hP hD hS => ?_)
    subst r_6
    have hP : va_P D vwCl (wX x a b ++ wM cI a pa pe st bn hc hm (nI cN) (nI rN) lo ++ wM cI b pa2 pe2 st2 bn2 hc2 hm2 C2 R2 lo2 ++ wN cI v pt pd ab nw kp wy th (nI cN) (nI rN) tn ++ wL cL o 1 ov) H := hP
    have hD : va_D A (wX x a b ++ wM cI a pa pe st bn hc hm (nI cN) (nI rN) lo ++ wM cI b pa2 pe2 st2 bn2 hc2 hm2 C2 R2 lo2 ++ wN cI v pt pd ab nw kp wy th (nI cN) (nI rN) tn ++ wL cL o 1 ov) := hD
    refine lv_istore (lv' := [(5, .int 1), (4, .int (nI (4 * k))), (3, .ref o), (2, .ref (v 0)), (1, .ref x), (0, .ref b0)]) hx hb dL_law_1306 hl (by decide) rfl (fun ls hl => ?_)
    refine lv_aload_n hx hb dL_law_1308 rfl (lv_at hl 3 rfl) ?_
    refine lv_aload_n hx hb dL_law_1309 rfl (lv_at hl 5 rfl) ?_
    refine lv_iload hx hb dL_law_1310 (lv_at hl 1 rfl) ?_
    refine lv_iconst (v := 1) hx hb dL_law_1312 (by decide) ?_
    refine lv_iadd hx hb dL_law_1313 ?_
    refine va_sld hx hb hX hbl hbA hS (sx_in hL (j := 1) (by omega)) dL_law_1314 ?_
    rw [hv1]
    refine kQVi (As := [.int v1]) (rest := []) (wr := [(x, .inr (1, [.ref (a 0), .ref (b 0)])), (a 0, .inr (0, [.ref (a 1), .ref (a 2), .ref (a 3), .ref (a 4), .ref (a 5), .ref (a 6), .int (nI cN), .int (nI rN), .int lo])), (a 1, .inl (cI, 72, .inl pa)), (a 2, .inl (cI, 72, .inl pe)), (a 3, .inl (cI, 72, .inl st)), (a 4, .inl (cI, 9, .inl bn)), (a 5, .inl (cI, 2, .inl hc)), (a 6, .inl (cI, 2, .inl hm)), (b 0, .inr (0, [.ref (b 1), .ref (b 2), .ref (b 3), .ref (b 4), .ref (b 5), .ref (b 6), .int C2, .int R2, .int lo2])), (b 1, .inl (cI, 72, .inl pa2)), (b 2, .inl (cI, 72, .inl pe2)), (b 3, .inl (cI, 72, .inl st2)), (b 4, .inl (cI, 9, .inl bn2)), (b 5, .inl (cI, 2, .inl hc2)), (b 6, .inl (cI, 2, .inl hm2)), (o, .inl (cL, 1, .inr (.inl ov)))]) (W2 := (fun _ => (wX x a b ++ wM cI a pa pe st bn hc hm (nI cN) (nI rN) lo ++ wM cI b pa2 pe2 st2 bn2 hc2 hm2 C2 R2 lo2 ++ wN cI v pt pd ab nw kp wy 1 (nI cN) (nI rN) tn ++ wL cL o 1 ov))) ⟨hx, hb, hml, hown, hts⟩ (mX2_wouldTurn_1 l D cI v pt pd ab nw kp wy th cN rN tn v1 (hR.cF hq) _) (cwV 1 hts gL_law_X2_wouldTurn rfl rfl rfl (by decide +kernel) ⟨Nat.le_of_ble_eq_true rfl, Nat.le_of_ble_eq_true rfl⟩) hP hD hK hN hS hA [15, 16, 17, 18, 19, 20, 21] (by decide) rfl [0, 1, 2, 3, 4, 5, 6, 7, 8, 9, 10, 11, 12, 13, 14, 22] (by decide) rfl (by decide) [0, 1, 2, 3, 4, 5, 6, 7, 8, 9, 10, 11, 12, 13, 14, 16, 17, 18, 19, 20, 21, 22, 15] (by decide) (fun _ => rfl) [0] rfl rfl rfl rfl hl.1 rfl (Nat.le_of_ble_eq_true rfl) dL_law_1315 ⟨by omega, by omega⟩ (fun r_7 u_7 H locs hr_7 hP hD hS => ?_)
    subst r_7
    have hP : va_P D vwCl (wX x a b ++ wM cI a pa pe st bn hc hm (nI cN) (nI rN) lo ++ wM cI b pa2 pe2 st2 bn2 hc2 hm2 C2 R2 lo2 ++ wN cI v pt pd ab nw kp wy 1 (nI cN) (nI rN) tn ++ wL cL o 1 ov) H := hP
    have hD : va_D A (wX x a b ++ wM cI a pa pe st bn hc hm (nI cN) (nI rN) lo ++ wM cI b pa2 pe2 st2 bn2 hc2 hm2 C2 R2 lo2 ++ wN cI v pt pd ab nw kp wy 1 (nI cN) (nI rN) tn ++ wL cL o 1 ov) := hD
    refine lv_istore (lv' := [(6, .int 0), (5, .int 1), (4, .int (nI (4 * k))), (3, .ref o), (2, .ref (v 0)), (1, .ref x), (0, .ref b0)]) hx hb dL_law_1318 hl (by decide) rfl (fun ls hl => ?_)
    refine lv_aload_n hx hb dL_law_1320 rfl (lv_at hl 4 rfl) ?_
    refine kRVi (As := []) (rest := []) ⟨hx, hb, hml, hown, hts⟩ (mX2_thrown l D cI v pt pd ab nw kp wy 1 cN rN tn) (cwV 0 hts gL_law_X2_thrown rfl rfl rfl (by decide +kernel) ⟨Nat.le_of_ble_eq_true rfl, Nat.le_of_ble_eq_true rfl⟩) hP hK hN [15, 16, 17, 18, 19, 20, 21] rfl [0] rfl rfl rfl rfl hl.1 rfl (Nat.le_of_ble_eq_true rfl) dL_law_1321 ⟨by omega, by omega⟩ (fun r_8 hr_8 => ?_)
    subst r_8
    refine lv_iload hx hb dL_law_1324 (lv_at hl 1 rfl) ?_
    refine lv_icmp_eq (tgt := 1331) hx hb dL_law_1326 (by decide) (fun _ => ?_) (fun c9 => absurd (by decide) c9)
    refine lv_iload hx hb dL_law_1331 (lv_at hl 1 rfl) ?_
    refine lv_if_ne (tgt := 1348) hx hb dL_law_1333 (by decide) (fun _ => ?_) (fun c9 => absurd c9 (by decide))
    refine lv_goto (tgt := 1599) hx hb dL_law_1348 (by decide) ?_
    refine W.widen (k := cells + 10) (n := slots + 41) (by omega) (by omega) ?_
    exact K cN rN pa pe st bn hc hm lo pa2 pe2 st2 bn2 hc2 hm2 C2 R2 lo2 pt pd ab nw kp wy 1 tn ov _ _ _ hR hP hD hS (lv_sub hl [2, 3, 4, 5, 6] rfl)
set_option maxHeartbeats 4000000 in
set_option maxRecDepth 100000 in
theorem cs_23 {p : Program} {l : Launch} {e : Env} {s : State} {m : MethodId} {below : List Frame} {meth : Method} {c : Code} {Q : State → Prop} {D : va_G} {cI cL : ClassId} {x o b0 L k : Nat} {a b v : Nat → Nat} {xs : Nat → Int32} {A : Nat → Prop} {cells slots : Nat} {cN rN : Nat} {pa pe st bn hc hm : Nat → Int32} {lo : Int32} {pa2 pe2 st2 bn2 hc2 hm2 : Nat → Int32} {C2 R2 lo2 : Int32} {pt pd ab nw kp wy : Nat → Int32} {th tn : Int32} {ov : Nat → Int64} {H : Heap} {locs : List Loc} {ls : Array Slot} (F : LF p l s m b0 c D cI cL L xs A) (hR : Rel cN rN pa pe st bn hc hm lo pt pd ab nw) (hk : 4 * k + 3 < L) (h1 : cells + 10 ≤ room_1.cells) (h2 : slots + 41 ≤ room_1.slots) (hP : va_P D vwCl (wX x a b ++ wM cI a pa pe st bn hc hm (nI cN) (nI rN) lo ++ wM cI b pa2 pe2 st2 bn2 hc2 hm2 C2 R2 lo2 ++ wN cI v pt pd ab nw kp wy th (nI cN) (nI rN) tn ++ wL cL o 1 ov) H) (hD : va_D A (wX x a b ++ wM cI a pa pe st bn hc hm (nI cN) (nI rN) lo ++ wM cI b pa2 pe2 st2 bn2 hc2 hm2 C2 R2 lo2 ++ wN cI v pt pd ab nw kp wy th (nI cN) (nI rN) tn ++ wL cL o 1 ov)) (hS : va_S A s.heap H locs) (hl : lv_has ls 9 [(4, .int (nI (4 * k))), (3, .ref o), (2, .ref (v 0)), (1, .ref x), (0, .ref b0)]) (K : LK p l e s m b0 below meth c D cI cL x o k a b v A cells slots Q) : W p l e room_1 s m #[Value.ref b0] below meth c H locs cells slots Q (F0 m 1419 ls []) := by
  obtain ⟨hx, hb, hml, hown, hts, hK, hN, hKX, hZ, hA, hX, hbl, hbA, hst, hL⟩ := F
  have hI := hR.inv
  obtain ⟨v1, hv1⟩ : ∃ z, xs (nI (4 * k) + 1).toNatClampNeg = z := ⟨_, rfl⟩
  by_cases hq : xhas (nI cN) v1 = true
  · obtain ⟨c1, hc1, rfl⟩ := hR.cE hq
    refine lv_aload_n hx hb dL_law_1419 rfl (lv_at hl 3 rfl) ?_
    refine lv_aload_n hx hb dL_law_1420 rfl (lv_at hl 4 rfl) ?_
    refine lv_iload hx hb dL_law_1421 (lv_at hl 0 rfl) ?_
    refine lv_iconst (v := 1) hx hb dL_law_1423 (by decide) ?_
    refine lv_iadd hx hb dL_law_1424 ?_
    refine va_sld hx hb hX hbl hbA hS (sx_in hL (j := 1) (by omega)) dL_law_1425 ?_
    rw [hv1]
    refine lv_aload_n hx hb dL_law_1426 rfl (lv_at hl 1 rfl) ?_
    refine kQWi (As := [.ref x, .int (nI c1), .ref o]) (rest := []) (wr := [(v 0, .inr (2, [.int th, .int (nI cN), .int (nI rN), .ref (v 1), .ref (v 2), .ref (v 3), .ref (v 4), .ref (v 5), .int tn, .ref (v 6)])), (v 1, .inl (cI, 72, .inl pt)), (v 2, .inl (cI, 72, .inl pd)), (v 3, .inl (cI, 2, .inl ab)), (v 4, .inl (cI, 84, .inl nw)), (v 5, .inl (cI, 84, .inl kp)), (v 6, .inl (cI, 8, .inl wy))]) (W2 := (fun u : MS => (wX x a b ++ wM cI a pa pe st bn hc hm (nI cN) (nI rN) lo ++ wM cI b u.1 u.2.1 u.2.2.1 u.2.2.2.1 u.2.2.2.2.1 u.2.2.2.2.2.1 u.2.2.2.2.2.2.1 u.2.2.2.2.2.2.2.1 u.2.2.2.2.2.2.2.2 ++ wN cI v pt pd ab nw kp wy th (nI cN) (nI rN) tn ++ wL cL o 1 ((vp_updL ov 0 ((xAsb pa pe st (nI cN) (nI rN) (nI c1)) : Int32).toInt64))))) ⟨hx, hb, hml, hown, hts⟩ (mL_asBeforeIn_0 l D cI cL x a pa pe st bn hc hm (nI cN) (nI rN) lo b pa2 pe2 st2 bn2 hc2 hm2 C2 R2 lo2 o ov (nI c1) hq _) (vx_cwSW 3 hts gL_law_L_asBeforeIn rfl rfl rfl (by decide +kernel) ⟨Nat.le_of_ble_eq_true rfl, Nat.le_of_ble_eq_true rfl⟩) hP hD hK hN hKX (hZ.now hS hA) hS hA [0, 1, 2, 3, 4, 5, 6, 7, 8, 9, 10, 11, 12, 13, 14, 22] (by decide) rfl [15, 16, 17, 18, 19, 20, 21] (by decide) rfl (by decide) [7, 8, 9, 10, 11, 12, 13, 14, 15, 16, 17, 18, 19, 20, 21, 0, 1, 2, 3, 4, 5, 6, 22] (by decide) (fun _ => rfl) [0, 1] rfl rfl hl.1 rfl (Nat.le_of_ble_eq_true rfl) dL_law_1427 ⟨by omega, by omega⟩ (fun r_1 u_1 H locs hr_1 hP hD hS => ?_)
    subst r_1
    have hP : va_P D vwCl (wX x a b ++ wM cI a pa pe st bn hc hm (nI cN) (nI rN) lo ++ wM cI b u_1.1 u_1.2.1 u_1.2.2.1 u_1.2.2.2.1 u_1.2.2.2.2.1 u_1.2.2.2.2.2.1 u_1.2.2.2.2.2.2.1 u_1.2.2.2.2.2.2.2.1 u_1.2.2.2.2.2.2.2.2 ++ wN cI v pt pd ab nw kp wy th (nI cN) (nI rN) tn ++ wL cL o 1 ((vp_updL ov 0 ((xAsb pa pe st (nI cN) (nI rN) (nI c1)) : Int32).toInt64))) H := hP
    have hD : va_D A (wX x a b ++ wM cI a pa pe st bn hc hm (nI cN) (nI rN) lo ++ wM cI b u_1.1 u_1.2.1 u_1.2.2.1 u_1.2.2.2.1 u_1.2.2.2.2.1 u_1.2.2.2.2.2.1 u_1.2.2.2.2.2.2.1 u_1.2.2.2.2.2.2.2.1 u_1.2.2.2.2.2.2.2.2 ++ wN cI v pt pd ab nw kp wy th (nI cN) (nI rN) tn ++ wL cL o 1 ((vp_updL ov 0 ((xAsb pa pe st (nI cN) (nI rN) (nI c1)) : Int32).toInt64))) := hD
    refine lv_istore (lv' := [(5, .int 0), (4, .int (nI (4 * k))), (3, .ref o), (2, .ref (v 0)), (1, .ref x), (0, .ref b0)]) hx hb dL_law_1430 hl (by decide) rfl (fun ls hl => ?_)
    refine lv_aload_n hx hb dL_law_1432 rfl (lv_at hl 3 rfl) ?_
    refine lv_aload_n hx hb dL_law_1433 rfl (lv_at hl 5 rfl) ?_
    refine lv_iload hx hb dL_law_1434 (lv_at hl 1 rfl) ?_
    refine lv_iconst (v := 1) hx hb dL_law_1436 (by decide) ?_
    refine lv_iadd hx hb dL_law_1437 ?_
    refine va_sld hx hb hX hbl hbA hS (sx_in hL (j := 1) (by omega)) dL_law_1438 ?_
    rw [hv1]
    refine kQVi (As := [.int (nI c1)]) (rest := []) (wr := [(x, .inr (1, [.ref (a 0), .ref (b 0)])), (a 0, .inr (0, [.ref (a 1), .ref (a 2), .ref (a 3), .ref (a 4), .ref (a 5), .ref (a 6), .int (nI cN), .int (nI rN), .int lo])), (a 1, .inl (cI, 72, .inl pa)), (a 2, .inl (cI, 72, .inl pe)), (a 3, .inl (cI, 72, .inl st)), (a 4, .inl (cI, 9, .inl bn)), (a 5, .inl (cI, 2, .inl hc)), (a 6, .inl (cI, 2, .inl hm)), (b 0, .inr (0, [.ref (b 1), .ref (b 2), .ref (b 3), .ref (b 4), .ref (b 5), .ref (b 6), .int u_1.2.2.2.2.2.2.1, .int u_1.2.2.2.2.2.2.2.1, .int u_1.2.2.2.2.2.2.2.2])), (b 1, .inl (cI, 72, .inl u_1.1)), (b 2, .inl (cI, 72, .inl u_1.2.1)), (b 3, .inl (cI, 72, .inl u_1.2.2.1)), (b 4, .inl (cI, 9, .inl u_1.2.2.2.1)), (b 5, .inl (cI, 2, .inl u_1.2.2.2.2.1)), (b 6, .inl (cI, 2, .inl u_1.2.2.2.2.2.1)), (o, .inl (cL, 1, .inr (.inl (vp_updL ov 0 ((xAsb pa pe st (nI cN) (nI rN) (nI c1)) : Int32).toInt64))))]) (W2 := (fun u : MJ => (wX x a b ++ wM cI a pa pe st bn hc hm (nI cN) (nI rN) lo ++ wM cI b u_1.1 u_1.2.1 u_1.2.2.1 u_1.2.2.2.1 u_1.2.2.2.2.1 u_1.2.2.2.2.2.1 u_1.2.2.2.2.2.2.1 u_1.2.2.2.2.2.2.2.1 u_1.2.2.2.2.2.2.2.2 ++ wN cI v pt pd ab nw u.1 u.2.1 0 (nI cN) (nI rN) u.2.2 ++ wL cL o 1 ((vp_updL ov 0 ((xAsb pa pe st (nI cN) (nI rN) (nI c1)) : Int32).toInt64))))) ⟨hx, hb, hml, hown, hts⟩ (mX2_asBeforeIn_0 l D cI v pt pd ab nw kp wy th cN rN tn (nI c1) hI (hR.cT hq) _) (cwV 1 hts gL_law_X2_asBeforeIn rfl rfl rfl (by decide +kernel) ⟨Nat.le_of_ble_eq_true rfl, Nat.le_of_ble_eq_true rfl⟩) hP hD hK hN hS hA [15, 16, 17, 18, 19, 20, 21] (by decide) rfl [0, 1, 2, 3, 4, 5, 6, 7, 8, 9, 10, 11, 12, 13, 14, 22] (by decide) rfl (by decide) [0, 1, 2, 3, 4, 5, 6, 7, 8, 9, 10, 11, 12, 13, 14, 16, 17, 18, 19, 20, 21, 22, 15] (by decide) (fun _ => rfl) [0] rfl rfl rfl rfl hl.1 rfl (Nat.le_of_ble_eq_true rfl) dL_law_1439 ⟨by omega, by omega⟩ (fun r_2 u_2 H locs hr_2 hP hD hS => ?_)
    subst r_2
    have hP : va_P D vwCl (wX x a b ++ wM cI a pa pe st bn hc hm (nI cN) (nI rN) lo ++ wM cI b u_1.1 u_1.2.1 u_1.2.2.1 u_1.2.2.2.1 u_1.2.2.2.2.1 u_1.2.2.2.2.2.1 u_1.2.2.2.2.2.2.1 u_1.2.2.2.2.2.2.2.1 u_1.2.2.2.2.2.2.2.2 ++ wN cI v pt pd ab nw u_2.1 u_2.2.1 0 (nI cN) (nI rN) u_2.2.2 ++ wL cL o 1 ((vp_updL ov 0 ((xAsb pa pe st (nI cN) (nI rN) (nI c1)) : Int32).toInt64))) H := hP
    have hD : va_D A (wX x a b ++ wM cI a pa pe st bn hc hm (nI cN) (nI rN) lo ++ wM cI b u_1.1 u_1.2.1 u_1.2.2.1 u_1.2.2.2.1 u_1.2.2.2.2.1 u_1.2.2.2.2.2.1 u_1.2.2.2.2.2.2.1 u_1.2.2.2.2.2.2.2.1 u_1.2.2.2.2.2.2.2.2 ++ wN cI v pt pd ab nw u_2.1 u_2.2.1 0 (nI cN) (nI rN) u_2.2.2 ++ wL cL o 1 ((vp_updL ov 0 ((xAsb pa pe st (nI cN) (nI rN) (nI c1)) : Int32).toInt64))) := hD
    refine lv_istore (lv' := [(6, .int (mAsb pt pd cN rN nw (nI c1))), (5, .int 0), (4, .int (nI (4 * k))), (3, .ref o), (2, .ref (v 0)), (1, .ref x), (0, .ref b0)]) hx hb dL_law_1442 hl (by decide) rfl (fun ls hl => ?_)
    refine lv_aload_n hx hb dL_law_1444 rfl (lv_at hl 4 rfl) ?_
    refine kRVi (As := []) (rest := []) ⟨hx, hb, hml, hown, hts⟩ (mX2_thrown l D cI v pt pd ab nw u_2.1 u_2.2.1 0 cN rN u_2.2.2) (cwV 0 hts gL_law_X2_thrown rfl rfl rfl (by decide +kernel) ⟨Nat.le_of_ble_eq_true rfl, Nat.le_of_ble_eq_true rfl⟩) hP hK hN [15, 16, 17, 18, 19, 20, 21] rfl [0] rfl rfl rfl rfl hl.1 rfl (Nat.le_of_ble_eq_true rfl) dL_law_1445 ⟨by omega, by omega⟩ (fun r_3 hr_3 => ?_)
    subst r_3
    refine lv_iload hx hb dL_law_1448 (lv_at hl 1 rfl) ?_
    refine lv_icmp_eq (tgt := 1455) hx hb dL_law_1450 (by decide) (fun _ => ?_) (fun c9 => absurd (by decide) c9)
    refine lv_iload hx hb dL_law_1455 (lv_at hl 1 rfl) ?_
    refine lv_if_ne (tgt := 1472) hx hb dL_law_1457 (by decide) (fun c9 => absurd c9 (by decide)) (fun _ => ?_)
    refine lv_aload_n hx hb dL_law_1460 rfl (lv_at hl 3 rfl) ?_
    refine lv_iconst (v := 0) hx hb dL_law_1461 (by decide) ?_
    refine va_lald hx hb hK hP 22 1 rfl rfl (vp_in_nI (n := 0) (by decide) (by decide)) dL_law_1462 ?_
    rw [show (0 : Int32).toNatClampNeg = 0 from by decide, updL_0]
    refine lv_iload hx hb dL_law_1463 (lv_at hl 0 rfl) ?_
    refine lv_i2l (v := (mAsb pt pd cN rN nw (nI c1) : Int32).toInt64) hx hb dL_law_1465 rfl ?_
    refine W.lcmp hx hb dL_law_1466 ?_
    refine lv_if_eq (tgt := 1472) hx hb dL_law_1467 (by decide) (fun _ => ?_) (fun c9 => absurd ((lg_cmp_eq _ _).mpr (congrArg Int32.toInt64 (hR.asb hc1).symm)) c9)
    refine lv_goto (tgt := 1599) hx hb dL_law_1472 (by decide) ?_
    refine W.widen (k := cells + 10) (n := slots + 41) (by omega) (by omega) ?_
    exact K cN rN pa pe st bn hc hm lo u_1.1 u_1.2.1 u_1.2.2.1 u_1.2.2.2.1 u_1.2.2.2.2.1 u_1.2.2.2.2.2.1 u_1.2.2.2.2.2.2.1 u_1.2.2.2.2.2.2.2.1 u_1.2.2.2.2.2.2.2.2 pt pd ab nw u_2.1 u_2.2.1 0 u_2.2.2 (vp_updL ov 0 ((xAsb pa pe st (nI cN) (nI rN) (nI c1)) : Int32).toInt64) _ _ _ hR hP hD hS (lv_sub hl [2, 3, 4, 5, 6] rfl)
  · have hq : xhas (nI cN) v1 = false := Bool.eq_false_iff.mpr hq
    refine lv_aload_n hx hb dL_law_1419 rfl (lv_at hl 3 rfl) ?_
    refine lv_aload_n hx hb dL_law_1420 rfl (lv_at hl 4 rfl) ?_
    refine lv_iload hx hb dL_law_1421 (lv_at hl 0 rfl) ?_
    refine lv_iconst (v := 1) hx hb dL_law_1423 (by decide) ?_
    refine lv_iadd hx hb dL_law_1424 ?_
    refine va_sld hx hb hX hbl hbA hS (sx_in hL (j := 1) (by omega)) dL_law_1425 ?_
    rw [hv1]
    refine lv_aload_n hx hb dL_law_1426 rfl (lv_at hl 1 rfl) ?_
    refine kQWi (As := [.ref x, .int v1, .ref o]) (rest := []) (wr := [(v 0, .inr (2, [.int th, .int (nI cN), .int (nI rN), .ref (v 1), .ref (v 2), .ref (v 3), .ref (v 4), .ref (v 5), .int tn, .ref (v 6)])), (v 1, .inl (cI, 72, .inl pt)), (v 2, .inl (cI, 72, .inl pd)), (v 3, .inl (cI, 2, .inl ab)), (v 4, .inl (cI, 84, .inl nw)), (v 5, .inl (cI, 84, .inl kp)), (v 6, .inl (cI, 8, .inl wy))]) (W2 := (fun _ => (wX x a b ++ wM cI a pa pe st bn hc hm (nI cN) (nI rN) lo ++ wM cI b pa2 pe2 st2 bn2 hc2 hm2 C2 R2 lo2 ++ wN cI v pt pd ab nw kp wy th (nI cN) (nI rN) tn ++ wL cL o 1 ov))) ⟨hx, hb, hml, hown, hts⟩ (mL_asBeforeIn_c l hst D cI cL x a pa pe st bn hc hm (nI cN) (nI rN) lo b pa2 pe2 st2 bn2 hc2 hm2 C2 R2 lo2 o ov v1 hq _) (vx_cwSW 3 hts gL_law_L_asBeforeIn rfl rfl rfl (by decide +kernel) ⟨Nat.le_of_ble_eq_true rfl, Nat.le_of_ble_eq_true rfl⟩) hP hD hK hN hKX (hZ.now hS hA) hS hA [0, 1, 2, 3, 4, 5, 6, 7, 8, 9, 10, 11, 12, 13, 14, 22] (by decide) rfl [15, 16, 17, 18, 19, 20, 21] (by decide) rfl (by decide) [7, 8, 9, 10, 11, 12, 13, 14, 15, 16, 17, 18, 19, 20, 21, 0, 1, 2, 3, 4, 5, 6, 22] (by decide) (fun _ => rfl) [0, 1] rfl rfl hl.1 rfl (Nat.le_of_ble_eq_true rfl) dL_law_1427 ⟨by omega, by omega⟩ (fun r_6 u_6 H locs hr_6 hP hD hS => ?_)
    subst r_6
    have hP : va_P D vwCl (wX x a b ++ wM cI a pa pe st bn hc hm (nI cN) (nI rN) lo ++ wM cI b pa2 pe2 st2 bn2 hc2 hm2 C2 R2 lo2 ++ wN cI v pt pd ab nw kp wy th (nI cN) (nI rN) tn ++ wL cL o 1 ov) H := hP
    have hD : va_D A (wX x a b ++ wM cI a pa pe st bn hc hm (nI cN) (nI rN) lo ++ wM cI b pa2 pe2 st2 bn2 hc2 hm2 C2 R2 lo2 ++ wN cI v pt pd ab nw kp wy th (nI cN) (nI rN) tn ++ wL cL o 1 ov) := hD
    refine lv_istore (lv' := [(5, .int 1), (4, .int (nI (4 * k))), (3, .ref o), (2, .ref (v 0)), (1, .ref x), (0, .ref b0)]) hx hb dL_law_1430 hl (by decide) rfl (fun ls hl => ?_)
    refine lv_aload_n hx hb dL_law_1432 rfl (lv_at hl 3 rfl) ?_
    refine lv_aload_n hx hb dL_law_1433 rfl (lv_at hl 5 rfl) ?_
    refine lv_iload hx hb dL_law_1434 (lv_at hl 1 rfl) ?_
    refine lv_iconst (v := 1) hx hb dL_law_1436 (by decide) ?_
    refine lv_iadd hx hb dL_law_1437 ?_
    refine va_sld hx hb hX hbl hbA hS (sx_in hL (j := 1) (by omega)) dL_law_1438 ?_
    rw [hv1]
    refine kQVi (As := [.int v1]) (rest := []) (wr := [(x, .inr (1, [.ref (a 0), .ref (b 0)])), (a 0, .inr (0, [.ref (a 1), .ref (a 2), .ref (a 3), .ref (a 4), .ref (a 5), .ref (a 6), .int (nI cN), .int (nI rN), .int lo])), (a 1, .inl (cI, 72, .inl pa)), (a 2, .inl (cI, 72, .inl pe)), (a 3, .inl (cI, 72, .inl st)), (a 4, .inl (cI, 9, .inl bn)), (a 5, .inl (cI, 2, .inl hc)), (a 6, .inl (cI, 2, .inl hm)), (b 0, .inr (0, [.ref (b 1), .ref (b 2), .ref (b 3), .ref (b 4), .ref (b 5), .ref (b 6), .int C2, .int R2, .int lo2])), (b 1, .inl (cI, 72, .inl pa2)), (b 2, .inl (cI, 72, .inl pe2)), (b 3, .inl (cI, 72, .inl st2)), (b 4, .inl (cI, 9, .inl bn2)), (b 5, .inl (cI, 2, .inl hc2)), (b 6, .inl (cI, 2, .inl hm2)), (o, .inl (cL, 1, .inr (.inl ov)))]) (W2 := (fun _ => (wX x a b ++ wM cI a pa pe st bn hc hm (nI cN) (nI rN) lo ++ wM cI b pa2 pe2 st2 bn2 hc2 hm2 C2 R2 lo2 ++ wN cI v pt pd ab nw kp wy 1 (nI cN) (nI rN) tn ++ wL cL o 1 ov))) ⟨hx, hb, hml, hown, hts⟩ (mX2_asBeforeIn_1 l D cI v pt pd ab nw kp wy th cN rN tn v1 (hR.cF hq) _) (cwV 1 hts gL_law_X2_asBeforeIn rfl rfl rfl (by decide +kernel) ⟨Nat.le_of_ble_eq_true rfl, Nat.le_of_ble_eq_true rfl⟩) hP hD hK hN hS hA [15, 16, 17, 18, 19, 20, 21] (by decide) rfl [0, 1, 2, 3, 4, 5, 6, 7, 8, 9, 10, 11, 12, 13, 14, 22] (by decide) rfl (by decide) [0, 1, 2, 3, 4, 5, 6, 7, 8, 9, 10, 11, 12, 13, 14, 16, 17, 18, 19, 20, 21, 22, 15] (by decide) (fun _ => rfl) [0] rfl rfl rfl rfl hl.1 rfl (Nat.le_of_ble_eq_true rfl) dL_law_1439 ⟨by omega, by omega⟩ (fun r_7 u_7 H locs hr_7 hP hD hS => ?_)
    subst r_7
    have hP : va_P D vwCl (wX x a b ++ wM cI a pa pe st bn hc hm (nI cN) (nI rN) lo ++ wM cI b pa2 pe2 st2 bn2 hc2 hm2 C2 R2 lo2 ++ wN cI v pt pd ab nw kp wy 1 (nI cN) (nI rN) tn ++ wL cL o 1 ov) H := hP
    have hD : va_D A (wX x a b ++ wM cI a pa pe st bn hc hm (nI cN) (nI rN) lo ++ wM cI b pa2 pe2 st2 bn2 hc2 hm2 C2 R2 lo2 ++ wN cI v pt pd ab nw kp wy 1 (nI cN) (nI rN) tn ++ wL cL o 1 ov) := hD
    refine lv_istore (lv' := [(6, .int 0), (5, .int 1), (4, .int (nI (4 * k))), (3, .ref o), (2, .ref (v 0)), (1, .ref x), (0, .ref b0)]) hx hb dL_law_1442 hl (by decide) rfl (fun ls hl => ?_)
    refine lv_aload_n hx hb dL_law_1444 rfl (lv_at hl 4 rfl) ?_
    refine kRVi (As := []) (rest := []) ⟨hx, hb, hml, hown, hts⟩ (mX2_thrown l D cI v pt pd ab nw kp wy 1 cN rN tn) (cwV 0 hts gL_law_X2_thrown rfl rfl rfl (by decide +kernel) ⟨Nat.le_of_ble_eq_true rfl, Nat.le_of_ble_eq_true rfl⟩) hP hK hN [15, 16, 17, 18, 19, 20, 21] rfl [0] rfl rfl rfl rfl hl.1 rfl (Nat.le_of_ble_eq_true rfl) dL_law_1445 ⟨by omega, by omega⟩ (fun r_8 hr_8 => ?_)
    subst r_8
    refine lv_iload hx hb dL_law_1448 (lv_at hl 1 rfl) ?_
    refine lv_icmp_eq (tgt := 1455) hx hb dL_law_1450 (by decide) (fun _ => ?_) (fun c9 => absurd (by decide) c9)
    refine lv_iload hx hb dL_law_1455 (lv_at hl 1 rfl) ?_
    refine lv_if_ne (tgt := 1472) hx hb dL_law_1457 (by decide) (fun _ => ?_) (fun c9 => absurd c9 (by decide))
    refine lv_goto (tgt := 1599) hx hb dL_law_1472 (by decide) ?_
    refine W.widen (k := cells + 10) (n := slots + 41) (by omega) (by omega) ?_
    exact K cN rN pa pe st bn hc hm lo pa2 pe2 st2 bn2 hc2 hm2 C2 R2 lo2 pt pd ab nw kp wy 1 tn ov _ _ _ hR hP hD hS (lv_sub hl [2, 3, 4, 5, 6] rfl)
