set_option maxHeartbeats 4000000 in
set_option maxRecDepth 100000 in
theorem cs_10 {p : Program} {l : Launch} {e : Env} {s : State} {m : MethodId} {below : List Frame} {meth : Method} {c : Code} {Q : State → Prop} {D : va_G} {cI cL : ClassId} {x o b0 L k : Nat} {a b v : Nat → Nat} {xs : Nat → Int32} {A : Nat → Prop} {cells slots : Nat} {cN rN : Nat} {pa pe st bn hc hm : Nat → Int32} {lo : Int32} {pa2 pe2 st2 bn2 hc2 hm2 : Nat → Int32} {C2 R2 lo2 : Int32} {pt pd ab nw kp wy : Nat → Int32} {th tn : Int32} {ov : Nat → Int64} {H : Heap} {locs : List Loc} {ls : Array Slot} (F : LF p l s m b0 c D cI cL L xs A) (hR : Rel cN rN pa pe st bn hc hm lo pt pd ab nw) (hk : 4 * k + 3 < L) (h1 : cells + 10 ≤ room_1.cells) (h2 : slots + 41 ≤ room_1.slots) (hP : va_P D vwCl (wX x a b ++ wM cI a pa pe st bn hc hm (nI cN) (nI rN) lo ++ wM cI b pa2 pe2 st2 bn2 hc2 hm2 C2 R2 lo2 ++ wN cI v pt pd ab nw kp wy th (nI cN) (nI rN) tn ++ wL cL o 1 ov) H) (hD : va_D A (wX x a b ++ wM cI a pa pe st bn hc hm (nI cN) (nI rN) lo ++ wM cI b pa2 pe2 st2 bn2 hc2 hm2 C2 R2 lo2 ++ wN cI v pt pd ab nw kp wy th (nI cN) (nI rN) tn ++ wL cL o 1 ov)) (hS : va_S A s.heap H locs) (hl : lv_has ls 9 [(4, .int (nI (4 * k))), (3, .ref o), (2, .ref (v 0)), (1, .ref x), (0, .ref b0)]) (K : LK p l e s m b0 below meth c D cI cL x o k a b v A cells slots Q) : W p l e room_1 s m #[Value.ref b0] below meth c H locs cells slots Q (F0 m 710 ls []) := by
  obtain ⟨hx, hb, hml, hown, hts, hK, hN, hKX, hZ, hA, hX, hbl, hbA, hst, hL⟩ := F
  have hI := hR.inv
  obtain ⟨v1, hv1⟩ : ∃ z, xs (nI (4 * k) + 1).toNatClampNeg = z := ⟨_, rfl⟩
  obtain ⟨v2, hv2⟩ : ∃ z, xs (nI (4 * k) + 2).toNatClampNeg = z := ⟨_, rfl⟩
  by_cases hp : xhas (nI rN) v1 = true
  · by_cases hq : xhas (nI cN) v2 = true
    · obtain ⟨r1, hr1, rfl⟩ := hR.rE hp
      obtain ⟨c1, hc1, rfl⟩ := hR.cE hq
      obtain ⟨o1, o2, o3⟩ := hR.one hr1 hc1
      refine lv_aload_n hx hb dL_law_710 rfl (lv_at hl 3 rfl) ?_
      refine lv_aload_n hx hb dL_law_711 rfl (lv_at hl 4 rfl) ?_
      refine lv_iload hx hb dL_law_712 (lv_at hl 0 rfl) ?_
      refine lv_iconst (v := 1) hx hb dL_law_714 (by decide) ?_
      refine lv_iadd hx hb dL_law_715 ?_
      refine va_sld hx hb hX hbl hbA hS (sx_in hL (j := 1) (by omega)) dL_law_716 ?_
      rw [hv1]
      refine lv_aload_n hx hb dL_law_717 rfl (lv_at hl 4 rfl) ?_
      refine lv_iload hx hb dL_law_718 (lv_at hl 0 rfl) ?_
      refine lv_iconst (v := 2) hx hb dL_law_720 (by decide) ?_
      refine lv_iadd hx hb dL_law_721 ?_
      refine va_sld hx hb hX hbl hbA hS (sx_in hL (j := 2) (by omega)) dL_law_722 ?_
      rw [hv2]
      refine lv_aload_n hx hb dL_law_723 rfl (lv_at hl 1 rfl) ?_
      refine kQWi (As := [.ref x, .int (nI r1), .int (nI c1), .ref o]) (rest := []) (wr := [(v 0, .inr (2, [.int th, .int (nI cN), .int (nI rN), .ref (v 1), .ref (v 2), .ref (v 3), .ref (v 4), .ref (v 5), .int tn, .ref (v 6)])), (v 1, .inl (cI, 72, .inl pt)), (v 2, .inl (cI, 72, .inl pd)), (v 3, .inl (cI, 2, .inl ab)), (v 4, .inl (cI, 84, .inl nw)), (v 5, .inl (cI, 84, .inl kp)), (v 6, .inl (cI, 8, .inl wy))]) (W2 := (fun _ => (wX x a b ++ wM cI a pa pe st bn hc hm (nI cN) (nI rN) lo ++ wM cI b pa2 pe2 st2 bn2 hc2 hm2 C2 R2 lo2 ++ wN cI v pt pd ab nw kp wy th (nI cN) (nI rN) tn ++ wL cL o 1 ((vp_updL ov 0 ((xcl 72 pa ((nI r1) * (nI cN) + (nI c1))) : Int32).toInt64))))) ⟨hx, hb, hml, hown, hts⟩ (mL_partAt_0 l D cI cL x a pa pe st bn hc hm (nI cN) (nI rN) lo b pa2 pe2 st2 bn2 hc2 hm2 C2 R2 lo2 o ov (nI r1) (nI c1) hp hq _) (vx_cwSW 4 hts gL_law_L_partAt rfl rfl rfl (by decide +kernel) ⟨Nat.le_of_ble_eq_true rfl, Nat.le_of_ble_eq_true rfl⟩) hP hD hK hN hKX (hZ.now hS hA) hS hA [0, 1, 2, 3, 4, 5, 6, 7, 8, 9, 10, 11, 12, 13, 14, 22] (by decide) rfl [15, 16, 17, 18, 19, 20, 21] (by decide) rfl (by decide) [7, 8, 9, 10, 11, 12, 13, 14, 15, 16, 17, 18, 19, 20, 21, 0, 1, 2, 3, 4, 5, 6, 22] (by decide) (fun _ => rfl) [0, 1] rfl rfl hl.1 rfl (Nat.le_of_ble_eq_true rfl) dL_law_724 ⟨by omega, by omega⟩ (fun r_1 u_1 H locs hr_1 hP hD hS => ?_)
      subst r_1
      have hP : va_P D vwCl (wX x a b ++ wM cI a pa pe st bn hc hm (nI cN) (nI rN) lo ++ wM cI b pa2 pe2 st2 bn2 hc2 hm2 C2 R2 lo2 ++ wN cI v pt pd ab nw kp wy th (nI cN) (nI rN) tn ++ wL cL o 1 ((vp_updL ov 0 ((xcl 72 pa ((nI r1) * (nI cN) + (nI c1))) : Int32).toInt64))) H := hP
      have hD : va_D A (wX x a b ++ wM cI a pa pe st bn hc hm (nI cN) (nI rN) lo ++ wM cI b pa2 pe2 st2 bn2 hc2 hm2 C2 R2 lo2 ++ wN cI v pt pd ab nw kp wy th (nI cN) (nI rN) tn ++ wL cL o 1 ((vp_updL ov 0 ((xcl 72 pa ((nI r1) * (nI cN) + (nI c1))) : Int32).toInt64))) := hD
      refine lv_istore (lv' := [(5, .int 0), (4, .int (nI (4 * k))), (3, .ref o), (2, .ref (v 0)), (1, .ref x), (0, .ref b0)]) hx hb dL_law_727 hl (by decide) rfl (fun ls hl => ?_)
      refine lv_aload_n hx hb dL_law_729 rfl (lv_at hl 3 rfl) ?_
      refine lv_aload_n hx hb dL_law_730 rfl (lv_at hl 5 rfl) ?_
      refine lv_iload hx hb dL_law_731 (lv_at hl 1 rfl) ?_
      refine lv_iconst (v := 1) hx hb dL_law_733 (by decide) ?_
      refine lv_iadd hx hb dL_law_734 ?_
      refine va_sld hx hb hX hbl hbA hS (sx_in hL (j := 1) (by omega)) dL_law_735 ?_
      rw [hv1]
      refine lv_aload_n hx hb dL_law_736 rfl (lv_at hl 5 rfl) ?_
      refine lv_iload hx hb dL_law_737 (lv_at hl 1 rfl) ?_
      refine lv_iconst (v := 2) hx hb dL_law_739 (by decide) ?_
      refine lv_iadd hx hb dL_law_740 ?_
      refine va_sld hx hb hX hbl hbA hS (sx_in hL (j := 2) (by omega)) dL_law_741 ?_
      rw [hv2]
      refine kQVi (As := [.int (nI r1), .int (nI c1)]) (rest := []) (wr := [(x, .inr (1, [.ref (a 0), .ref (b 0)])), (a 0, .inr (0, [.ref (a 1), .ref (a 2), .ref (a 3), .ref (a 4), .ref (a 5), .ref (a 6), .int (nI cN), .int (nI rN), .int lo])), (a 1, .inl (cI, 72, .inl pa)), (a 2, .inl (cI, 72, .inl pe)), (a 3, .inl (cI, 72, .inl st)), (a 4, .inl (cI, 9, .inl bn)), (a 5, .inl (cI, 2, .inl hc)), (a 6, .inl (cI, 2, .inl hm)), (b 0, .inr (0, [.ref (b 1), .ref (b 2), .ref (b 3), .ref (b 4), .ref (b 5), .ref (b 6), .int C2, .int R2, .int lo2])), (b 1, .inl (cI, 72, .inl pa2)), (b 2, .inl (cI, 72, .inl pe2)), (b 3, .inl (cI, 72, .inl st2)), (b 4, .inl (cI, 9, .inl bn2)), (b 5, .inl (cI, 2, .inl hc2)), (b 6, .inl (cI, 2, .inl hm2)), (o, .inl (cL, 1, .inr (.inl (vp_updL ov 0 ((xcl 72 pa ((nI r1) * (nI cN) + (nI c1))) : Int32).toInt64))))]) (W2 := (fun _ => (wX x a b ++ wM cI a pa pe st bn hc hm (nI cN) (nI rN) lo ++ wM cI b pa2 pe2 st2 bn2 hc2 hm2 C2 R2 lo2 ++ wN cI v pt pd ab nw kp wy 0 (nI cN) (nI rN) tn ++ wL cL o 1 ((vp_updL ov 0 ((xcl 72 pa ((nI r1) * (nI cN) + (nI c1))) : Int32).toInt64))))) ⟨hx, hb, hml, hown, hts⟩ (mX2_partAt_0 l D cI v pt pd ab nw kp wy th cN rN tn (nI r1) (nI c1) hI (hR.pT hp hq) _) (cwV 2 hts gL_law_X2_partAt rfl rfl rfl (by decide +kernel) ⟨Nat.le_of_ble_eq_true rfl, Nat.le_of_ble_eq_true rfl⟩) hP hD hK hN hS hA [15, 16, 17, 18, 19, 20, 21] (by decide) rfl [0, 1, 2, 3, 4, 5, 6, 7, 8, 9, 10, 11, 12, 13, 14, 22] (by decide) rfl (by decide) [0, 1, 2, 3, 4, 5, 6, 7, 8, 9, 10, 11, 12, 13, 14, 16, 17, 18, 19, 20, 21, 22, 15] (by decide) (fun _ => rfl) [0] rfl rfl rfl rfl hl.1 rfl (Nat.le_of_ble_eq_true rfl) dL_law_742 ⟨by omega, by omega⟩ (fun r_2 u_2 H locs hr_2 hP hD hS => ?_)
      subst r_2
      have hP : va_P D vwCl (wX x a b ++ wM cI a pa pe st bn hc hm (nI cN) (nI rN) lo ++ wM cI b pa2 pe2 st2 bn2 hc2 hm2 C2 R2 lo2 ++ wN cI v pt pd ab nw kp wy 0 (nI cN) (nI rN) tn ++ wL cL o 1 ((vp_updL ov 0 ((xcl 72 pa ((nI r1) * (nI cN) + (nI c1))) : Int32).toInt64))) H := hP
      have hD : va_D A (wX x a b ++ wM cI a pa pe st bn hc hm (nI cN) (nI rN) lo ++ wM cI b pa2 pe2 st2 bn2 hc2 hm2 C2 R2 lo2 ++ wN cI v pt pd ab nw kp wy 0 (nI cN) (nI rN) tn ++ wL cL o 1 ((vp_updL ov 0 ((xcl 72 pa ((nI r1) * (nI cN) + (nI c1))) : Int32).toInt64))) := hD
      refine lv_istore (lv' := [(6, .int (pt (9 * (nI r1) + (nI c1)).toNatClampNeg)), (5, .int 0), (4, .int (nI (4 * k))), (3, .ref o), (2, .ref (v 0)), (1, .ref x), (0, .ref b0)]) hx hb dL_law_745 hl (by decide) rfl (fun ls hl => ?_)
      refine lv_aload_n hx hb dL_law_747 rfl (lv_at hl 4 rfl) ?_
      refine kRVi (As := []) (rest := []) ⟨hx, hb, hml, hown, hts⟩ (mX2_thrown l D cI v pt pd ab nw kp wy 0 cN rN tn) (cwV 0 hts gL_law_X2_thrown rfl rfl rfl (by decide +kernel) ⟨Nat.le_of_ble_eq_true rfl, Nat.le_of_ble_eq_true rfl⟩) hP hK hN [15, 16, 17, 18, 19, 20, 21] rfl [0] rfl rfl rfl rfl hl.1 rfl (Nat.le_of_ble_eq_true rfl) dL_law_748 ⟨by omega, by omega⟩ (fun r_3 hr_3 => ?_)
      subst r_3
      refine lv_iload hx hb dL_law_751 (lv_at hl 1 rfl) ?_
      refine lv_icmp_eq (tgt := 758) hx hb dL_law_753 (by decide) (fun _ => ?_) (fun c9 => absurd (by decide) c9)
      refine lv_iload hx hb dL_law_758 (lv_at hl 1 rfl) ?_
      refine lv_if_ne (tgt := 775) hx hb dL_law_760 (by decide) (fun c9 => absurd c9 (by decide)) (fun _ => ?_)
      refine lv_aload_n hx hb dL_law_763 rfl (lv_at hl 3 rfl) ?_
      refine lv_iconst (v := 0) hx hb dL_law_764 (by decide) ?_
      refine va_lald hx hb hK hP 22 1 rfl rfl (vp_in_nI (n := 0) (by decide) (by decide)) dL_law_765 ?_
      rw [show (0 : Int32).toNatClampNeg = 0 from by decide, updL_0]
      refine lv_iload hx hb dL_law_766 (lv_at hl 0 rfl) ?_
      refine lv_i2l (v := (pt (9 * (nI r1) + (nI c1)).toNatClampNeg : Int32).toInt64) hx hb dL_law_768 rfl ?_
      refine W.lcmp hx hb dL_law_769 ?_
      refine lv_if_eq (tgt := 775) hx hb dL_law_770 (by decide) (fun _ => ?_) (fun c9 => absurd ((lg_cmp_eq _ _).mpr (congrArg Int32.toInt64 o1)) c9)
      refine lv_goto (tgt := 1599) hx hb dL_law_775 (by decide) ?_
      refine W.widen (k := cells + 10) (n := slots + 41) (by omega) (by omega) ?_
      exact K cN rN pa pe st bn hc hm lo pa2 pe2 st2 bn2 hc2 hm2 C2 R2 lo2 pt pd ab nw kp wy 0 tn (vp_updL ov 0 ((xcl 72 pa ((nI r1) * (nI cN) + (nI c1))) : Int32).toInt64) _ _ _ hR hP hD hS (lv_sub hl [2, 3, 4, 5, 6] rfl)
    · have hq : xhas (nI cN) v2 = false := Bool.eq_false_iff.mpr hq
      refine lv_aload_n hx hb dL_law_710 rfl (lv_at hl 3 rfl) ?_
      refine lv_aload_n hx hb dL_law_711 rfl (lv_at hl 4 rfl) ?_
      refine lv_iload hx hb dL_law_712 (lv_at hl 0 rfl) ?_
      refine lv_iconst (v := 1) hx hb dL_law_714 (by decide) ?_
      refine lv_iadd hx hb dL_law_715 ?_
      refine va_sld hx hb hX hbl hbA hS (sx_in hL (j := 1) (by omega)) dL_law_716 ?_
      rw [hv1]
      refine lv_aload_n hx hb dL_law_717 rfl (lv_at hl 4 rfl) ?_
      refine lv_iload hx hb dL_law_718 (lv_at hl 0 rfl) ?_
      refine lv_iconst (v := 2) hx hb dL_law_720 (by decide) ?_
      refine lv_iadd hx hb dL_law_721 ?_
      refine va_sld hx hb hX hbl hbA hS (sx_in hL (j := 2) (by omega)) dL_law_722 ?_
      rw [hv2]
      refine lv_aload_n hx hb dL_law_723 rfl (lv_at hl 1 rfl) ?_
      refine kQWi (As := [.ref x, .int v1, .int v2, .ref o]) (rest := []) (wr := [(v 0, .inr (2, [.int th, .int (nI cN), .int (nI rN), .ref (v 1), .ref (v 2), .ref (v 3), .ref (v 4), .ref (v 5), .int tn, .ref (v 6)])), (v 1, .inl (cI, 72, .inl pt)), (v 2, .inl (cI, 72, .inl pd)), (v 3, .inl (cI, 2, .inl ab)), (v 4, .inl (cI, 84, .inl nw)), (v 5, .inl (cI, 84, .inl kp)), (v 6, .inl (cI, 8, .inl wy))]) (W2 := (fun _ => (wX x a b ++ wM cI a pa pe st bn hc hm (nI cN) (nI rN) lo ++ wM cI b pa2 pe2 st2 bn2 hc2 hm2 C2 R2 lo2 ++ wN cI v pt pd ab nw kp wy th (nI cN) (nI rN) tn ++ wL cL o 1 ov))) ⟨hx, hb, hml, hown, hts⟩ (mL_partAt_c l hst D cI cL x a pa pe st bn hc hm (nI cN) (nI rN) lo b pa2 pe2 st2 bn2 hc2 hm2 C2 R2 lo2 o ov v1 v2 hp hq _) (vx_cwSW 4 hts gL_law_L_partAt rfl rfl rfl (by decide +kernel) ⟨Nat.le_of_ble_eq_true rfl, Nat.le_of_ble_eq_true rfl⟩) hP hD hK hN hKX (hZ.now hS hA) hS hA [0, 1, 2, 3, 4, 5, 6, 7, 8, 9, 10, 11, 12, 13, 14, 22] (by decide) rfl [15, 16, 17, 18, 19, 20, 21] (by decide) rfl (by decide) [7, 8, 9, 10, 11, 12, 13, 14, 15, 16, 17, 18, 19, 20, 21, 0, 1, 2, 3, 4, 5, 6, 22] (by decide) (fun _ => rfl) [0, 1] rfl rfl hl.1 rfl (Nat.le_of_ble_eq_true rfl) dL_law_724 ⟨by omega, by omega⟩ (fun r_6 u_6 H locs hr_6 hP hD hS => ?_)
      subst r_6
      have hP : va_P D vwCl (wX x a b ++ wM cI a pa pe st bn hc hm (nI cN) (nI rN) lo ++ wM cI b pa2 pe2 st2 bn2 hc2 hm2 C2 R2 lo2 ++ wN cI v pt pd ab nw kp wy th (nI cN) (nI rN) tn ++ wL cL o 1 ov) H := hP
      have hD : va_D A (wX x a b ++ wM cI a pa pe st bn hc hm (nI cN) (nI rN) lo ++ wM cI b pa2 pe2 st2 bn2 hc2 hm2 C2 R2 lo2 ++ wN cI v pt pd ab nw kp wy th (nI cN) (nI rN) tn ++ wL cL o 1 ov) := hD
      refine lv_istore (lv' := [(5, .int 1), (4, .int (nI (4 * k))), (3, .ref o), (2, .ref (v 0)), (1, .ref x), (0, .ref b0)]) hx hb dL_law_727 hl (by decide) rfl (fun ls hl => ?_)
      refine lv_aload_n hx hb dL_law_729 rfl (lv_at hl 3 rfl) ?_
      refine lv_aload_n hx hb dL_law_730 rfl (lv_at hl 5 rfl) ?_
      refine lv_iload hx hb dL_law_731 (lv_at hl 1 rfl) ?_
      refine lv_iconst (v := 1) hx hb dL_law_733 (by decide) ?_
      refine lv_iadd hx hb dL_law_734 ?_
      refine va_sld hx hb hX hbl hbA hS (sx_in hL (j := 1) (by omega)) dL_law_735 ?_
      rw [hv1]
      refine lv_aload_n hx hb dL_law_736 rfl (lv_at hl 5 rfl) ?_
      refine lv_iload hx hb dL_law_737 (lv_at hl 1 rfl) ?_
      refine lv_iconst (v := 2) hx hb dL_law_739 (by decide) ?_
      refine lv_iadd hx hb dL_law_740 ?_
      refine va_sld hx hb hX hbl hbA hS (sx_in hL (j := 2) (by omega)) dL_law_741 ?_
      rw [hv2]
      refine kQVi (As := [.int v1, .int v2]) (rest := []) (wr := [(x, .inr (1, [.ref (a 0), .ref (b 0)])), (a 0, .inr (0, [.ref (a 1), .ref (a 2), .ref (a 3), .ref (a 4), .ref (a 5), .ref (a 6), .int (nI cN), .int (nI rN), .int lo])), (a 1, .inl (cI, 72, .inl pa)), (a 2, .inl (cI, 72, .inl pe)), (a 3, .inl (cI, 72, .inl st)), (a 4, .inl (cI, 9, .inl bn)), (a 5, .inl (cI, 2, .inl hc)), (a 6, .inl (cI, 2, .inl hm)), (b 0, .inr (0, [.ref (b 1), .ref (b 2), .ref (b 3), .ref (b 4), .ref (b 5), .ref (b 6), .int C2, .int R2, .int lo2])), (b 1, .inl (cI, 72, .inl pa2)), (b 2, .inl (cI, 72, .inl pe2)), (b 3, .inl (cI, 72, .inl st2)), (b 4, .inl (cI, 9, .inl bn2)), (b 5, .inl (cI, 2, .inl hc2)), (b 6, .inl (cI, 2, .inl hm2)), (o, .inl (cL, 1, .inr (.inl ov)))]) (W2 := (fun _ => (wX x a b ++ wM cI a pa pe st bn hc hm (nI cN) (nI rN) lo ++ wM cI b pa2 pe2 st2 bn2 hc2 hm2 C2 R2 lo2 ++ wN cI v pt pd ab nw kp wy 1 (nI cN) (nI rN) tn ++ wL cL o 1 ov))) ⟨hx, hb, hml, hown, hts⟩ (mX2_partAt_1 l D cI v pt pd ab nw kp wy th cN rN tn v1 v2 (hR.pC hq) _) (cwV 2 hts gL_law_X2_partAt rfl rfl rfl (by decide +kernel) ⟨Nat.le_of_ble_eq_true rfl, Nat.le_of_ble_eq_true rfl⟩) hP hD hK hN hS hA [15, 16, 17, 18, 19, 20, 21] (by decide) rfl [0, 1, 2, 3, 4, 5, 6, 7, 8, 9, 10, 11, 12, 13, 14, 22] (by decide) rfl (by decide) [0, 1, 2, 3, 4, 5, 6, 7, 8, 9, 10, 11, 12, 13, 14, 16, 17, 18, 19, 20, 21, 22, 15] (by decide) (fun _ => rfl) [0] rfl rfl rfl rfl hl.1 rfl (Nat.le_of_ble_eq_true rfl) dL_law_742 ⟨by omega, by omega⟩ (fun r_7 u_7 H locs hr_7 hP hD hS => ?_)
      subst r_7
      have hP : va_P D vwCl (wX x a b ++ wM cI a pa pe st bn hc hm (nI cN) (nI rN) lo ++ wM cI b pa2 pe2 st2 bn2 hc2 hm2 C2 R2 lo2 ++ wN cI v pt pd ab nw kp wy 1 (nI cN) (nI rN) tn ++ wL cL o 1 ov) H := hP
      have hD : va_D A (wX x a b ++ wM cI a pa pe st bn hc hm (nI cN) (nI rN) lo ++ wM cI b pa2 pe2 st2 bn2 hc2 hm2 C2 R2 lo2 ++ wN cI v pt pd ab nw kp wy 1 (nI cN) (nI rN) tn ++ wL cL o 1 ov) := hD
      refine lv_istore (lv' := [(6, .int 0), (5, .int 1), (4, .int (nI (4 * k))), (3, .ref o), (2, .ref (v 0)), (1, .ref x), (0, .ref b0)]) hx hb dL_law_745 hl (by decide) rfl (fun ls hl => ?_)
      refine lv_aload_n hx hb dL_law_747 rfl (lv_at hl 4 rfl) ?_
      refine kRVi (As := []) (rest := []) ⟨hx, hb, hml, hown, hts⟩ (mX2_thrown l D cI v pt pd ab nw kp wy 1 cN rN tn) (cwV 0 hts gL_law_X2_thrown rfl rfl rfl (by decide +kernel) ⟨Nat.le_of_ble_eq_true rfl, Nat.le_of_ble_eq_true rfl⟩) hP hK hN [15, 16, 17, 18, 19, 20, 21] rfl [0] rfl rfl rfl rfl hl.1 rfl (Nat.le_of_ble_eq_true rfl) dL_law_748 ⟨by omega, by omega⟩ (fun r_8 hr_8 => ?_)
      subst r_8
      refine lv_iload hx hb dL_law_751 (lv_at hl 1 rfl) ?_
      refine lv_icmp_eq (tgt := 758) hx hb dL_law_753 (by decide) (fun _ => ?_) (fun c9 => absurd (by decide) c9)
      refine lv_iload hx hb dL_law_758 (lv_at hl 1 rfl) ?_
      refine lv_if_ne (tgt := 775) hx hb dL_law_760 (by decide) (fun _ => ?_) (fun c9 => absurd c9 (by decide))
      refine lv_goto (tgt := 1599) hx hb dL_law_775 (by decide) ?_
      refine W.widen (k := cells + 10) (n := slots + 41) (by omega) (by omega) ?_
      exact K cN rN pa pe st bn hc hm lo pa2 pe2 st2 bn2 hc2 hm2 C2 R2 lo2 pt pd ab nw kp wy 1 tn ov _ _ _ hR hP hD hS (lv_sub hl [2, 3, 4, 5, 6] rfl)
  · have hp : xhas (nI rN) v1 = false := Bool.eq_false_iff.mpr hp
    refine lv_aload_n hx hb dL_law_710 rfl (lv_at hl 3 rfl) ?_
    refine lv_aload_n hx hb dL_law_711 rfl (lv_at hl 4 rfl) ?_
    refine lv_iload hx hb dL_law_712 (lv_at hl 0 rfl) ?_
    refine lv_iconst (v := 1) hx hb dL_law_714 (by decide) ?_
    refine lv_iadd hx hb dL_law_715 ?_
    refine va_sld hx hb hX hbl hbA hS (sx_in hL (j := 1) (by omega)) dL_law_716 ?_
    rw [hv1]
    refine lv_aload_n hx hb dL_law_717 rfl (lv_at hl 4 rfl) ?_
    refine lv_iload hx hb dL_law_718 (lv_at hl 0 rfl) ?_
    refine lv_iconst (v := 2) hx hb dL_law_720 (by decide) ?_
    refine lv_iadd hx hb dL_law_721 ?_
    refine va_sld hx hb hX hbl hbA hS (sx_in hL (j := 2) (by omega)) dL_law_722 ?_
    rw [hv2]
    refine lv_aload_n hx hb dL_law_723 rfl (lv_at hl 1 rfl) ?_
    refine kQWi (As := [.ref x, .int v1, .int v2, .ref o]) (rest := []) (wr := [(v 0, .inr (2, [.int th, .int (nI cN), .int (nI rN), .ref (v 1), .ref (v 2), .ref (v 3), .ref (v 4), .ref (v 5), .int tn, .ref (v 6)])), (v 1, .inl (cI, 72, .inl pt)), (v 2, .inl (cI, 72, .inl pd)), (v 3, .inl (cI, 2, .inl ab)), (v 4, .inl (cI, 84, .inl nw)), (v 5, .inl (cI, 84, .inl kp)), (v 6, .inl (cI, 8, .inl wy))]) (W2 := (fun _ => (wX x a b ++ wM cI a pa pe st bn hc hm (nI cN) (nI rN) lo ++ wM cI b pa2 pe2 st2 bn2 hc2 hm2 C2 R2 lo2 ++ wN cI v pt pd ab nw kp wy th (nI cN) (nI rN) tn ++ wL cL o 1 ov))) ⟨hx, hb, hml, hown, hts⟩ (mL_partAt_r l hst D cI cL x a pa pe st bn hc hm (nI cN) (nI rN) lo b pa2 pe2 st2 bn2 hc2 hm2 C2 R2 lo2 o ov v1 v2 hp _) (vx_cwSW 4 hts gL_law_L_partAt rfl rfl rfl (by decide +kernel) ⟨Nat.le_of_ble_eq_true rfl, Nat.le_of_ble_eq_true rfl⟩) hP hD hK hN hKX (hZ.now hS hA) hS hA [0, 1, 2, 3, 4, 5, 6, 7, 8, 9, 10, 11, 12, 13, 14, 22] (by decide) rfl [15, 16, 17, 18, 19, 20, 21] (by decide) rfl (by decide) [7, 8, 9, 10, 11, 12, 13, 14, 15, 16, 17, 18, 19, 20, 21, 0, 1, 2, 3, 4, 5, 6, 22] (by decide) (fun _ => rfl) [0, 1] rfl rfl hl.1 rfl (Nat.le_of_ble_eq_true rfl) dL_law_724 ⟨by omega, by omega⟩ (fun r_10 u_10 H locs hr_10 hP hD hS => ?_)
    subst r_10
    have hP : va_P D vwCl (wX x a b ++ wM cI a pa pe st bn hc hm (nI cN) (nI rN) lo ++ wM cI b pa2 pe2 st2 bn2 hc2 hm2 C2 R2 lo2 ++ wN cI v pt pd ab nw kp wy th (nI cN) (nI rN) tn ++ wL cL o 1 ov) H := hP
    have hD : va_D A (wX x a b ++ wM cI a pa pe st bn hc hm (nI cN) (nI rN) lo ++ wM cI b pa2 pe2 st2 bn2 hc2 hm2 C2 R2 lo2 ++ wN cI v pt pd ab nw kp wy th (nI cN) (nI rN) tn ++ wL cL o 1 ov) := hD
    refine lv_istore (lv' := [(5, .int 1), (4, .int (nI (4 * k))), (3, .ref o), (2, .ref (v 0)), (1, .ref x), (0, .ref b0)]) hx hb dL_law_727 hl (by decide) rfl (fun ls hl => ?_)
    refine lv_aload_n hx hb dL_law_729 rfl (lv_at hl 3 rfl) ?_
    refine lv_aload_n hx hb dL_law_730 rfl (lv_at hl 5 rfl) ?_
    refine lv_iload hx hb dL_law_731 (lv_at hl 1 rfl) ?_
    refine lv_iconst (v := 1) hx hb dL_law_733 (by decide) ?_
    refine lv_iadd hx hb dL_law_734 ?_
    refine va_sld hx hb hX hbl hbA hS (sx_in hL (j := 1) (by omega)) dL_law_735 ?_
    rw [hv1]
    refine lv_aload_n hx hb dL_law_736 rfl (lv_at hl 5 rfl) ?_
    refine lv_iload hx hb dL_law_737 (lv_at hl 1 rfl) ?_
    refine lv_iconst (v := 2) hx hb dL_law_739 (by decide) ?_
    refine lv_iadd hx hb dL_law_740 ?_
    refine va_sld hx hb hX hbl hbA hS (sx_in hL (j := 2) (by omega)) dL_law_741 ?_
    rw [hv2]
    refine kQVi (As := [.int v1, .int v2]) (rest := []) (wr := [(x, .inr (1, [.ref (a 0), .ref (b 0)])), (a 0, .inr (0, [.ref (a 1), .ref (a 2), .ref (a 3), .ref (a 4), .ref (a 5), .ref (a 6), .int (nI cN), .int (nI rN), .int lo])), (a 1, .inl (cI, 72, .inl pa)), (a 2, .inl (cI, 72, .inl pe)), (a 3, .inl (cI, 72, .inl st)), (a 4, .inl (cI, 9, .inl bn)), (a 5, .inl (cI, 2, .inl hc)), (a 6, .inl (cI, 2, .inl hm)), (b 0, .inr (0, [.ref (b 1), .ref (b 2), .ref (b 3), .ref (b 4), .ref (b 5), .ref (b 6), .int C2, .int R2, .int lo2])), (b 1, .inl (cI, 72, .inl pa2)), (b 2, .inl (cI, 72, .inl pe2)), (b 3, .inl (cI, 72, .inl st2)), (b 4, .inl (cI, 9, .inl bn2)), (b 5, .inl (cI, 2, .inl hc2)), (b 6, .inl (cI, 2, .inl hm2)), (o, .inl (cL, 1, .inr (.inl ov)))]) (W2 := (fun _ => (wX x a b ++ wM cI a pa pe st bn hc hm (nI cN) (nI rN) lo ++ wM cI b pa2 pe2 st2 bn2 hc2 hm2 C2 R2 lo2 ++ wN cI v pt pd ab nw kp wy 1 (nI cN) (nI rN) tn ++ wL cL o 1 ov))) ⟨hx, hb, hml, hown, hts⟩ (mX2_partAt_1 l D cI v pt pd ab nw kp wy th cN rN tn v1 v2 (hR.pR hp) _) (cwV 2 hts gL_law_X2_partAt rfl rfl rfl (by decide +kernel) ⟨Nat.le_of_ble_eq_true rfl, Nat.le_of_ble_eq_true rfl⟩) hP hD hK hN hS hA [15, 16, 17, 18, 19, 20, 21] (by decide) rfl [0, 1, 2, 3, 4, 5, 6, 7, 8, 9, 10, 11, 12, 13, 14, 22] (by decide) rfl (by decide) [0, 1, 2, 3, 4, 5, 6, 7, 8, 9, 10, 11, 12, 13, 14, 16, 17, 18, 19, 20, 21, 22, 15] (by decide) (fun _ => rfl) [0] rfl rfl rfl rfl hl.1 rfl (Nat.le_of_ble_eq_true rfl) dL_law_742 ⟨by omega, by omega⟩ (fun r_11 u_11 H locs hr_11 hP hD hS => ?_)
    subst r_11
    have hP : va_P D vwCl (wX x a b ++ wM cI a pa pe st bn hc hm (nI cN) (nI rN) lo ++ wM cI b pa2 pe2 st2 bn2 hc2 hm2 C2 R2 lo2 ++ wN cI v pt pd ab nw kp wy 1 (nI cN) (nI rN) tn ++ wL cL o 1 ov) H := hP
    have hD : va_D A (wX x a b ++ wM cI a pa pe st bn hc hm (nI cN) (nI rN) lo ++ wM cI b pa2 pe2 st2 bn2 hc2 hm2 C2 R2 lo2 ++ wN cI v pt pd ab nw kp wy 1 (nI cN) (nI rN) tn ++ wL cL o 1 ov) := hD
    refine lv_istore (lv' := [(6, .int 0), (5, .int 1), (4, .int (nI (4 * k))), (3, .ref o), (2, .ref (v 0)), (1, .ref x), (0, .ref b0)]) hx hb dL_law_745 hl (by decide) rfl (fun ls hl => ?_)
    refine lv_aload_n hx hb dL_law_747 rfl (lv_at hl 4 rfl) ?_
    refine kRVi (As := []) (rest := []) ⟨hx, hb, hml, hown, hts⟩ (mX2_thrown l D cI v pt pd ab nw kp wy 1 cN rN tn) (cwV 0 hts gL_law_X2_thrown rfl rfl rfl (by decide +kernel) ⟨Nat.le_of_ble_eq_true rfl, Nat.le_of_ble_eq_true rfl⟩) hP hK hN [15, 16, 17, 18, 19, 20, 21] rfl [0] rfl rfl rfl rfl hl.1 rfl (Nat.le_of_ble_eq_true rfl) dL_law_748 ⟨by omega, by omega⟩ (fun r_12 hr_12 => ?_)
    subst r_12
    refine lv_iload hx hb dL_law_751 (lv_at hl 1 rfl) ?_
    refine lv_icmp_eq (tgt := 758) hx hb dL_law_753 (by decide) (fun _ => ?_) (fun c9 => absurd (by decide) c9)
    refine lv_iload hx hb dL_law_758 (lv_at hl 1 rfl) ?_
    refine lv_if_ne (tgt := 775) hx hb dL_law_760 (by decide) (fun _ => ?_) (fun c9 => absurd c9 (by decide))
    refine lv_goto (tgt := 1599) hx hb dL_law_775 (by decide) ?_
    refine W.widen (k := cells + 10) (n := slots + 41) (by omega) (by omega) ?_
    exact K cN rN pa pe st bn hc hm lo pa2 pe2 st2 bn2 hc2 hm2 C2 R2 lo2 pt pd ab nw kp wy 1 tn ov _ _ _ hR hP hD hS (lv_sub hl [2, 3, 4, 5, 6] rfl)
set_option maxHeartbeats 4000000 in
set_option maxRecDepth 100000 in
theorem cs_12 {p : Program} {l : Launch} {e : Env} {s : State} {m : MethodId} {below : List Frame} {meth : Method} {c : Code} {Q : State → Prop} {D : va_G} {cI cL : ClassId} {x o b0 L k : Nat} {a b v : Nat → Nat} {xs : Nat → Int32} {A : Nat → Prop} {cells slots : Nat} {cN rN : Nat} {pa pe st bn hc hm : Nat → Int32} {lo : Int32} {pa2 pe2 st2 bn2 hc2 hm2 : Nat → Int32} {C2 R2 lo2 : Int32} {pt pd ab nw kp wy : Nat → Int32} {th tn : Int32} {ov : Nat → Int64} {H : Heap} {locs : List Loc} {ls : Array Slot} (F : LF p l s m b0 c D cI cL L xs A) (hR : Rel cN rN pa pe st bn hc hm lo pt pd ab nw) (hk : 4 * k + 3 < L) (h1 : cells + 10 ≤ room_1.cells) (h2 : slots + 41 ≤ room_1.slots) (hP : va_P D vwCl (wX x a b ++ wM cI a pa pe st bn hc hm (nI cN) (nI rN) lo ++ wM cI b pa2 pe2 st2 bn2 hc2 hm2 C2 R2 lo2 ++ wN cI v pt pd ab nw kp wy th (nI cN) (nI rN) tn ++ wL cL o 1 ov) H) (hD : va_D A (wX x a b ++ wM cI a pa pe st bn hc hm (nI cN) (nI rN) lo ++ wM cI b pa2 pe2 st2 bn2 hc2 hm2 C2 R2 lo2 ++ wN cI v pt pd ab nw kp wy th (nI cN) (nI rN) tn ++ wL cL o 1 ov)) (hS : va_S A s.heap H locs) (hl : lv_has ls 9 [(4, .int (nI (4 * k))), (3, .ref o), (2, .ref (v 0)), (1, .ref x), (0, .ref b0)]) (K : LK p l e s m b0 below meth c D cI cL x o k a b v A cells slots Q) : W p l e room_1 s m #[Value.ref b0] below meth c H locs cells slots Q (F0 m 853 ls []) := by
  obtain ⟨hx, hb, hml, hown, hts, hK, hN, hKX, hZ, hA, hX, hbl, hbA, hst, hL⟩ := F
  have hI := hR.inv
  obtain ⟨v1, hv1⟩ : ∃ z, xs (nI (4 * k) + 1).toNatClampNeg = z := ⟨_, rfl⟩
  obtain ⟨v2, hv2⟩ : ∃ z, xs (nI (4 * k) + 2).toNatClampNeg = z := ⟨_, rfl⟩
  by_cases hp : xhas (nI rN) v1 = true
  · by_cases hq : xhas (nI cN) v2 = true
    · obtain ⟨r1, hr1, rfl⟩ := hR.rE hp
      obtain ⟨c1, hc1, rfl⟩ := hR.cE hq
      obtain ⟨o1, o2, o3⟩ := hR.one hr1 hc1
      refine lv_aload_n hx hb dL_law_853 rfl (lv_at hl 3 rfl) ?_
      refine lv_aload_n hx hb dL_law_854 rfl (lv_at hl 4 rfl) ?_
      refine lv_iload hx hb dL_law_855 (lv_at hl 0 rfl) ?_
      refine lv_iconst (v := 1) hx hb dL_law_857 (by decide) ?_
      refine lv_iadd hx hb dL_law_858 ?_
      refine va_sld hx hb hX hbl hbA hS (sx_in hL (j := 1) (by omega)) dL_law_859 ?_
      rw [hv1]
      refine lv_aload_n hx hb dL_law_860 rfl (lv_at hl 4 rfl) ?_
      refine lv_iload hx hb dL_law_861 (lv_at hl 0 rfl) ?_
      refine lv_iconst (v := 2) hx hb dL_law_863 (by decide) ?_
      refine lv_iadd hx hb dL_law_864 ?_
      refine va_sld hx hb hX hbl hbA hS (sx_in hL (j := 2) (by omega)) dL_law_865 ?_
      rw [hv2]
      refine lv_aload_n hx hb dL_law_866 rfl (lv_at hl 1 rfl) ?_
      refine kQWi (As := [.ref x, .int (nI r1), .int (nI c1), .ref o]) (rest := []) (wr := [(v 0, .inr (2, [.int th, .int (nI cN), .int (nI rN), .ref (v 1), .ref (v 2), .ref (v 3), .ref (v 4), .ref (v 5), .int tn, .ref (v 6)])), (v 1, .inl (cI, 72, .inl pt)), (v 2, .inl (cI, 72, .inl pd)), (v 3, .inl (cI, 2, .inl ab)), (v 4, .inl (cI, 84, .inl nw)), (v 5, .inl (cI, 84, .inl kp)), (v 6, .inl (cI, 8, .inl wy))]) (W2 := (fun _ => (wX x a b ++ wM cI a pa pe st bn hc hm (nI cN) (nI rN) lo ++ wM cI b pa2 pe2 st2 bn2 hc2 hm2 C2 R2 lo2 ++ wN cI v pt pd ab nw kp wy th (nI cN) (nI rN) tn ++ wL cL o 1 ((vp_updL ov 0 ((xCnt pa st ((nI r1) * (nI cN) + (nI c1))) : Int32).toInt64))))) ⟨hx, hb, hml, hown, hts⟩ (mL_countAt_0 l D cI cL x a pa pe st bn hc hm (nI cN) (nI rN) lo b pa2 pe2 st2 bn2 hc2 hm2 C2 R2 lo2 o ov (nI r1) (nI c1) hp hq _) (vx_cwSW 4 hts gL_law_L_countAt rfl rfl rfl (by decide +kernel) ⟨Nat.le_of_ble_eq_true rfl, Nat.le_of_ble_eq_true rfl⟩) hP hD hK hN hKX (hZ.now hS hA) hS hA [0, 1, 2, 3, 4, 5, 6, 7, 8, 9, 10, 11, 12, 13, 14, 22] (by decide) rfl [15, 16, 17, 18, 19, 20, 21] (by decide) rfl (by decide) [7, 8, 9, 10, 11, 12, 13, 14, 15, 16, 17, 18, 19, 20, 21, 0, 1, 2, 3, 4, 5, 6, 22] (by decide) (fun _ => rfl) [0, 1] rfl rfl hl.1 rfl (Nat.le_of_ble_eq_true rfl) dL_law_867 ⟨by omega, by omega⟩ (fun r_1 u_1 H locs hr_1 hP hD hS => ?_)
      subst r_1
      have hP : va_P D vwCl (wX x a b ++ wM cI a pa pe st bn hc hm (nI cN) (nI rN) lo ++ wM cI b pa2 pe2 st2 bn2 hc2 hm2 C2 R2 lo2 ++ wN cI v pt pd ab nw kp wy th (nI cN) (nI rN) tn ++ wL cL o 1 ((vp_updL ov 0 ((xCnt pa st ((nI r1) * (nI cN) + (nI c1))) : Int32).toInt64))) H := hP
      have hD : va_D A (wX x a b ++ wM cI a pa pe st bn hc hm (nI cN) (nI rN) lo ++ wM cI b pa2 pe2 st2 bn2 hc2 hm2 C2 R2 lo2 ++ wN cI v pt pd ab nw kp wy th (nI cN) (nI rN) tn ++ wL cL o 1 ((vp_updL ov 0 ((xCnt pa st ((nI r1) * (nI cN) + (nI c1))) : Int32).toInt64))) := hD
      refine lv_istore (lv' := [(5, .int 0), (4, .int (nI (4 * k))), (3, .ref o), (2, .ref (v 0)), (1, .ref x), (0, .ref b0)]) hx hb dL_law_870 hl (by decide) rfl (fun ls hl => ?_)
      refine lv_aload_n hx hb dL_law_872 rfl (lv_at hl 3 rfl) ?_
      refine lv_aload_n hx hb dL_law_873 rfl (lv_at hl 5 rfl) ?_
      refine lv_iload hx hb dL_law_874 (lv_at hl 1 rfl) ?_
      refine lv_iconst (v := 1) hx hb dL_law_876 (by decide) ?_
      refine lv_iadd hx hb dL_law_877 ?_
      refine va_sld hx hb hX hbl hbA hS (sx_in hL (j := 1) (by omega)) dL_law_878 ?_
      rw [hv1]
      refine lv_aload_n hx hb dL_law_879 rfl (lv_at hl 5 rfl) ?_
      refine lv_iload hx hb dL_law_880 (lv_at hl 1 rfl) ?_
      refine lv_iconst (v := 2) hx hb dL_law_882 (by decide) ?_
      refine lv_iadd hx hb dL_law_883 ?_
      refine va_sld hx hb hX hbl hbA hS (sx_in hL (j := 2) (by omega)) dL_law_884 ?_
      rw [hv2]
      refine kQVi (As := [.int (nI r1), .int (nI c1)]) (rest := []) (wr := [(x, .inr (1, [.ref (a 0), .ref (b 0)])), (a 0, .inr (0, [.ref (a 1), .ref (a 2), .ref (a 3), .ref (a 4), .ref (a 5), .ref (a 6), .int (nI cN), .int (nI rN), .int lo])), (a 1, .inl (cI, 72, .inl pa)), (a 2, .inl (cI, 72, .inl pe)), (a 3, .inl (cI, 72, .inl st)), (a 4, .inl (cI, 9, .inl bn)), (a 5, .inl (cI, 2, .inl hc)), (a 6, .inl (cI, 2, .inl hm)), (b 0, .inr (0, [.ref (b 1), .ref (b 2), .ref (b 3), .ref (b 4), .ref (b 5), .ref (b 6), .int C2, .int R2, .int lo2])), (b 1, .inl (cI, 72, .inl pa2)), (b 2, .inl (cI, 72, .inl pe2)), (b 3, .inl (cI, 72, .inl st2)), (b 4, .inl (cI, 9, .inl bn2)), (b 5, .inl (cI, 2, .inl hc2)), (b 6, .inl (cI, 2, .inl hm2)), (o, .inl (cL, 1, .inr (.inl (vp_updL ov 0 ((xCnt pa st ((nI r1) * (nI cN) + (nI c1))) : Int32).toInt64))))]) (W2 := (fun _ => (wX x a b ++ wM cI a pa pe st bn hc hm (nI cN) (nI rN) lo ++ wM cI b pa2 pe2 st2 bn2 hc2 hm2 C2 R2 lo2 ++ wN cI v pt pd ab nw kp wy 0 (nI cN) (nI rN) tn ++ wL cL o 1 ((vp_updL ov 0 ((xCnt pa st ((nI r1) * (nI cN) + (nI c1))) : Int32).toInt64))))) ⟨hx, hb, hml, hown, hts⟩ (mX2_countAt_0 l D cI v pt pd ab nw kp wy th cN rN tn (nI r1) (nI c1) hI (hR.pT hp hq) _) (cwV 2 hts gL_law_X2_countAt rfl rfl rfl (by decide +kernel) ⟨Nat.le_of_ble_eq_true rfl, Nat.le_of_ble_eq_true rfl⟩) hP hD hK hN hS hA [15, 16, 17, 18, 19, 20, 21] (by decide) rfl [0, 1, 2, 3, 4, 5, 6, 7, 8, 9, 10, 11, 12, 13, 14, 22] (by decide) rfl (by decide) [0, 1, 2, 3, 4, 5, 6, 7, 8, 9, 10, 11, 12, 13, 14, 16, 17, 18, 19, 20, 21, 22, 15] (by decide) (fun _ => rfl) [0] rfl rfl rfl rfl hl.1 rfl (Nat.le_of_ble_eq_true rfl) dL_law_885 ⟨by omega, by omega⟩ (fun r_2 u_2 H locs hr_2 hP hD hS => ?_)
      subst r_2
      have hP : va_P D vwCl (wX x a b ++ wM cI a pa pe st bn hc hm (nI cN) (nI rN) lo ++ wM cI b pa2 pe2 st2 bn2 hc2 hm2 C2 R2 lo2 ++ wN cI v pt pd ab nw kp wy 0 (nI cN) (nI rN) tn ++ wL cL o 1 ((vp_updL ov 0 ((xCnt pa st ((nI r1) * (nI cN) + (nI c1))) : Int32).toInt64))) H := hP
      have hD : va_D A (wX x a b ++ wM cI a pa pe st bn hc hm (nI cN) (nI rN) lo ++ wM cI b pa2 pe2 st2 bn2 hc2 hm2 C2 R2 lo2 ++ wN cI v pt pd ab nw kp wy 0 (nI cN) (nI rN) tn ++ wL cL o 1 ((vp_updL ov 0 ((xCnt pa st ((nI r1) * (nI cN) + (nI c1))) : Int32).toInt64))) := hD
      refine lv_istore (lv' := [(6, .int (mCnt pt nw (9 * (nI r1) + (nI c1)))), (5, .int 0), (4, .int (nI (4 * k))), (3, .ref o), (2, .ref (v 0)), (1, .ref x), (0, .ref b0)]) hx hb dL_law_888 hl (by decide) rfl (fun ls hl => ?_)
      refine lv_aload_n hx hb dL_law_890 rfl (lv_at hl 4 rfl) ?_
      refine kRVi (As := []) (rest := []) ⟨hx, hb, hml, hown, hts⟩ (mX2_thrown l D cI v pt pd ab nw kp wy 0 cN rN tn) (cwV 0 hts gL_law_X2_thrown rfl rfl rfl (by decide +kernel) ⟨Nat.le_of_ble_eq_true rfl, Nat.le_of_ble_eq_true rfl⟩) hP hK hN [15, 16, 17, 18, 19, 20, 21] rfl [0] rfl rfl rfl rfl hl.1 rfl (Nat.le_of_ble_eq_true rfl) dL_law_891 ⟨by omega, by omega⟩ (fun r_3 hr_3 => ?_)
      subst r_3
      refine lv_iload hx hb dL_law_894 (lv_at hl 1 rfl) ?_
      refine lv_icmp_eq (tgt := 901) hx hb dL_law_896 (by decide) (fun _ => ?_) (fun c9 => absurd (by decide) c9)
      refine lv_iload hx hb dL_law_901 (lv_at hl 1 rfl) ?_
      refine lv_if_ne (tgt := 918) hx hb dL_law_903 (by decide) (fun c9 => absurd c9 (by decide)) (fun _ => ?_)
      refine lv_aload_n hx hb dL_law_906 rfl (lv_at hl 3 rfl) ?_
      refine lv_iconst (v := 0) hx hb dL_law_907 (by decide) ?_
      refine va_lald hx hb hK hP 22 1 rfl rfl (vp_in_nI (n := 0) (by decide) (by decide)) dL_law_908 ?_
      rw [show (0 : Int32).toNatClampNeg = 0 from by decide, updL_0]
      refine lv_iload hx hb dL_law_909 (lv_at hl 0 rfl) ?_
      refine lv_i2l (v := (mCnt pt nw (9 * (nI r1) + (nI c1)) : Int32).toInt64) hx hb dL_law_911 rfl ?_
      refine W.lcmp hx hb dL_law_912 ?_
      refine lv_if_eq (tgt := 918) hx hb dL_law_913 (by decide) (fun _ => ?_) (fun c9 => absurd ((lg_cmp_eq _ _).mpr (congrArg Int32.toInt64 o3)) c9)
      refine lv_goto (tgt := 1599) hx hb dL_law_918 (by decide) ?_
      refine W.widen (k := cells + 10) (n := slots + 41) (by omega) (by omega) ?_
      exact K cN rN pa pe st bn hc hm lo pa2 pe2 st2 bn2 hc2 hm2 C2 R2 lo2 pt pd ab nw kp wy 0 tn (vp_updL ov 0 ((xCnt pa st ((nI r1) * (nI cN) + (nI c1))) : Int32).toInt64) _ _ _ hR hP hD hS (lv_sub hl [2, 3, 4, 5, 6] rfl)
    · have hq : xhas (nI cN) v2 = false := Bool.eq_false_iff.mpr hq
      refine lv_aload_n hx hb dL_law_853 rfl (lv_at hl 3 rfl) ?_
      refine lv_aload_n hx hb dL_law_854 rfl (lv_at hl 4 rfl) ?_
      refine lv_iload hx hb dL_law_855 (lv_at hl 0 rfl) ?_
      refine lv_iconst (v := 1) hx hb dL_law_857 (by decide) ?_
      refine lv_iadd hx hb dL_law_858 ?_
      refine va_sld hx hb hX hbl hbA hS (sx_in hL (j := 1) (by omega)) dL_law_859 ?_
      rw [hv1]
      refine lv_aload_n hx hb dL_law_860 rfl (lv_at hl 4 rfl) ?_
      refine lv_iload hx hb dL_law_861 (lv_at hl 0 rfl) ?_
      refine lv_iconst (v := 2) hx hb dL_law_863 (by decide) ?_
      refine lv_iadd hx hb dL_law_864 ?_
      refine va_sld hx hb hX hbl hbA hS (sx_in hL (j := 2) (by omega)) dL_law_865 ?_
      rw [hv2]
      refine lv_aload_n hx hb dL_law_866 rfl (lv_at hl 1 rfl) ?_
      refine kQWi (As := [.ref x, .int v1, .int v2, .ref o]) (rest := []) (wr := [(v 0, .inr (2, [.int th, .int (nI cN), .int (nI rN), .ref (v 1), .ref (v 2), .ref (v 3), .ref (v 4), .ref (v 5), .int tn, .ref (v 6)])), (v 1, .inl (cI, 72, .inl pt)), (v 2, .inl (cI, 72, .inl pd)), (v 3, .inl (cI, 2, .inl ab)), (v 4, .inl (cI, 84, .inl nw)), (v 5, .inl (cI, 84, .inl kp)), (v 6, .inl (cI, 8, .inl wy))]) (W2 := (fun _ => (wX x a b ++ wM cI a pa pe st bn hc hm (nI cN) (nI rN) lo ++ wM cI b pa2 pe2 st2 bn2 hc2 hm2 C2 R2 lo2 ++ wN cI v pt pd ab nw kp wy th (nI cN) (nI rN) tn ++ wL cL o 1 ov))) ⟨hx, hb, hml, hown, hts⟩ (mL_countAt_c l hst D cI cL x a pa pe st bn hc hm (nI cN) (nI rN) lo b pa2 pe2 st2 bn2 hc2 hm2 C2 R2 lo2 o ov v1 v2 hp hq _) (vx_cwSW 4 hts gL_law_L_countAt rfl rfl rfl (by decide +kernel) ⟨Nat.le_of_ble_eq_true rfl, Nat.le_of_ble_eq_true rfl⟩) hP hD hK hN hKX (hZ.now hS hA) hS hA [0, 1, 2, 3, 4, 5, 6, 7, 8, 9, 10, 11, 12, 13, 14, 22] (by decide) rfl [15, 16, 17, 18, 19, 20, 21] (by decide) rfl (by decide) [7, 8, 9, 10, 11, 12, 13, 14, 15, 16, 17, 18, 19, 20, 21, 0, 1, 2, 3, 4, 5, 6, 22] (by decide) (fun _ => rfl) [0, 1] rfl rfl hl.1 rfl (Nat.le_of_ble_eq_true rfl) dL_law_867 ⟨by omega, by omega⟩ (fun r_6 u_6 H locs hr_6 hP hD hS => ?_)
      subst r_6
      have hP : va_P D vwCl (wX x a b ++ wM cI a pa pe st bn hc hm (nI cN) (nI rN) lo ++ wM cI b pa2 pe2 st2 bn2 hc2 hm2 C2 R2 lo2 ++ wN cI v pt pd ab nw kp wy th (nI cN) (nI rN) tn ++ wL cL o 1 ov) H := hP
      have hD : va_D A (wX x a b ++ wM cI a pa pe st bn hc hm (nI cN) (nI rN) lo ++ wM cI b pa2 pe2 st2 bn2 hc2 hm2 C2 R2 lo2 ++ wN cI v pt pd ab nw kp wy th (nI cN) (nI rN) tn ++ wL cL o 1 ov) := hD
      refine lv_istore (lv' := [(5, .int 1), (4, .int (nI (4 * k))), (3, .ref o), (2, .ref (v 0)), (1, .ref x), (0, .ref b0)]) hx hb dL_law_870 hl (by decide) rfl (fun ls hl => ?_)
      refine lv_aload_n hx hb dL_law_872 rfl (lv_at hl 3 rfl) ?_
      refine lv_aload_n hx hb dL_law_873 rfl (lv_at hl 5 rfl) ?_
      refine lv_iload hx hb dL_law_874 (lv_at hl 1 rfl) ?_
      refine lv_iconst (v := 1) hx hb dL_law_876 (by decide) ?_
      refine lv_iadd hx hb dL_law_877 ?_
      refine va_sld hx hb hX hbl hbA hS (sx_in hL (j := 1) (by omega)) dL_law_878 ?_
      rw [hv1]
      refine lv_aload_n hx hb dL_law_879 rfl (lv_at hl 5 rfl) ?_
      refine lv_iload hx hb dL_law_880 (lv_at hl 1 rfl) ?_
      refine lv_iconst (v := 2) hx hb dL_law_882 (by decide) ?_
      refine lv_iadd hx hb dL_law_883 ?_
      refine va_sld hx hb hX hbl hbA hS (sx_in hL (j := 2) (by omega)) dL_law_884 ?_
      rw [hv2]
      refine kQVi (As := [.int v1, .int v2]) (rest := []) (wr := [(x, .inr (1, [.ref (a 0), .ref (b 0)])), (a 0, .inr (0, [.ref (a 1), .ref (a 2), .ref (a 3), .ref (a 4), .ref (a 5), .ref (a 6), .int (nI cN), .int (nI rN), .int lo])), (a 1, .inl (cI, 72, .inl pa)), (a 2, .inl (cI, 72, .inl pe)), (a 3, .inl (cI, 72, .inl st)), (a 4, .inl (cI, 9, .inl bn)), (a 5, .inl (cI, 2, .inl hc)), (a 6, .inl (cI, 2, .inl hm)), (b 0, .inr (0, [.ref (b 1), .ref (b 2), .ref (b 3), .ref (b 4), .ref (b 5), .ref (b 6), .int C2, .int R2, .int lo2])), (b 1, .inl (cI, 72, .inl pa2)), (b 2, .inl (cI, 72, .inl pe2)), (b 3, .inl (cI, 72, .inl st2)), (b 4, .inl (cI, 9, .inl bn2)), (b 5, .inl (cI, 2, .inl hc2)), (b 6, .inl (cI, 2, .inl hm2)), (o, .inl (cL, 1, .inr (.inl ov)))]) (W2 := (fun _ => (wX x a b ++ wM cI a pa pe st bn hc hm (nI cN) (nI rN) lo ++ wM cI b pa2 pe2 st2 bn2 hc2 hm2 C2 R2 lo2 ++ wN cI v pt pd ab nw kp wy 1 (nI cN) (nI rN) tn ++ wL cL o 1 ov))) ⟨hx, hb, hml, hown, hts⟩ (mX2_countAt_1 l D cI v pt pd ab nw kp wy th cN rN tn v1 v2 (hR.pC hq) _) (cwV 2 hts gL_law_X2_countAt rfl rfl rfl (by decide +kernel) ⟨Nat.le_of_ble_eq_true rfl, Nat.le_of_ble_eq_true rfl⟩) hP hD hK hN hS hA [15, 16, 17, 18, 19, 20, 21] (by decide) rfl [0, 1, 2, 3, 4, 5, 6, 7, 8, 9, 10, 11, 12, 13, 14, 22] (by decide) rfl (by decide) [0, 1, 2, 3, 4, 5, 6, 7, 8, 9, 10, 11, 12, 13, 14, 16, 17, 18, 19, 20, 21, 22, 15] (by decide) (fun _ => rfl) [0] rfl rfl rfl rfl hl.1 rfl (Nat.le_of_ble_eq_true rfl) dL_law_885 ⟨by omega, by omega⟩ (fun r_7 u_7 H locs hr_7 hP hD hS => ?_)
      subst r_7
      have hP : va_P D vwCl (wX x a b ++ wM cI a pa pe st bn hc hm (nI cN) (nI rN) lo ++ wM cI b pa2 pe2 st2 bn2 hc2 hm2 C2 R2 lo2 ++ wN cI v pt pd ab nw kp wy 1 (nI cN) (nI rN) tn ++ wL cL o 1 ov) H := hP
      have hD : va_D A (wX x a b ++ wM cI a pa pe st bn hc hm (nI cN) (nI rN) lo ++ wM cI b pa2 pe2 st2 bn2 hc2 hm2 C2 R2 lo2 ++ wN cI v pt pd ab nw kp wy 1 (nI cN) (nI rN) tn ++ wL cL o 1 ov) := hD
      refine lv_istore (lv' := [(6, .int 0), (5, .int 1), (4, .int (nI (4 * k))), (3, .ref o), (2, .ref (v 0)), (1, .ref x), (0, .ref b0)]) hx hb dL_law_888 hl (by decide) rfl (fun ls hl => ?_)
      refine lv_aload_n hx hb dL_law_890 rfl (lv_at hl 4 rfl) ?_
      refine kRVi (As := []) (rest := []) ⟨hx, hb, hml, hown, hts⟩ (mX2_thrown l D cI v pt pd ab nw kp wy 1 cN rN tn) (cwV 0 hts gL_law_X2_thrown rfl rfl rfl (by decide +kernel) ⟨Nat.le_of_ble_eq_true rfl, Nat.le_of_ble_eq_true rfl⟩) hP hK hN [15, 16, 17, 18, 19, 20, 21] rfl [0] rfl rfl rfl rfl hl.1 rfl (Nat.le_of_ble_eq_true rfl) dL_law_891 ⟨by omega, by omega⟩ (fun r_8 hr_8 => ?_)
      subst r_8
      refine lv_iload hx hb dL_law_894 (lv_at hl 1 rfl) ?_
      refine lv_icmp_eq (tgt := 901) hx hb dL_law_896 (by decide) (fun _ => ?_) (fun c9 => absurd (by decide) c9)
      refine lv_iload hx hb dL_law_901 (lv_at hl 1 rfl) ?_
      refine lv_if_ne (tgt := 918) hx hb dL_law_903 (by decide) (fun _ => ?_) (fun c9 => absurd c9 (by decide))
      refine lv_goto (tgt := 1599) hx hb dL_law_918 (by decide) ?_
      refine W.widen (k := cells + 10) (n := slots + 41) (by omega) (by omega) ?_
      exact K cN rN pa pe st bn hc hm lo pa2 pe2 st2 bn2 hc2 hm2 C2 R2 lo2 pt pd ab nw kp wy 1 tn ov _ _ _ hR hP hD hS (lv_sub hl [2, 3, 4, 5, 6] rfl)
  · have hp : xhas (nI rN) v1 = false := Bool.eq_false_iff.mpr hp
    refine lv_aload_n hx hb dL_law_853 rfl (lv_at hl 3 rfl) ?_
    refine lv_aload_n hx hb dL_law_854 rfl (lv_at hl 4 rfl) ?_
    refine lv_iload hx hb dL_law_855 (lv_at hl 0 rfl) ?_
    refine lv_iconst (v := 1) hx hb dL_law_857 (by decide) ?_
    refine lv_iadd hx hb dL_law_858 ?_
    refine va_sld hx hb hX hbl hbA hS (sx_in hL (j := 1) (by omega)) dL_law_859 ?_
    rw [hv1]
    refine lv_aload_n hx hb dL_law_860 rfl (lv_at hl 4 rfl) ?_
    refine lv_iload hx hb dL_law_861 (lv_at hl 0 rfl) ?_
    refine lv_iconst (v := 2) hx hb dL_law_863 (by decide) ?_
    refine lv_iadd hx hb dL_law_864 ?_
    refine va_sld hx hb hX hbl hbA hS (sx_in hL (j := 2) (by omega)) dL_law_865 ?_
    rw [hv2]
    refine lv_aload_n hx hb dL_law_866 rfl (lv_at hl 1 rfl) ?_
    refine kQWi (As := [.ref x, .int v1, .int v2, .ref o]) (rest := []) (wr := [(v 0, .inr (2, [.int th, .int (nI cN), .int (nI rN), .ref (v 1), .ref (v 2), .ref (v 3), .ref (v 4), .ref (v 5), .int tn, .ref (v 6)])), (v 1, .inl (cI, 72, .inl pt)), (v 2, .inl (cI, 72, .inl pd)), (v 3, .inl (cI, 2, .inl ab)), (v 4, .inl (cI, 84, .inl nw)), (v 5, .inl (cI, 84, .inl kp)), (v 6, .inl (cI, 8, .inl wy))]) (W2 := (fun _ => (wX x a b ++ wM cI a pa pe st bn hc hm (nI cN) (nI rN) lo ++ wM cI b pa2 pe2 st2 bn2 hc2 hm2 C2 R2 lo2 ++ wN cI v pt pd ab nw kp wy th (nI cN) (nI rN) tn ++ wL cL o 1 ov))) ⟨hx, hb, hml, hown, hts⟩ (mL_countAt_r l hst D cI cL x a pa pe st bn hc hm (nI cN) (nI rN) lo b pa2 pe2 st2 bn2 hc2 hm2 C2 R2 lo2 o ov v1 v2 hp _) (vx_cwSW 4 hts gL_law_L_countAt rfl rfl rfl (by decide +kernel) ⟨Nat.le_of_ble_eq_true rfl, Nat.le_of_ble_eq_true rfl⟩) hP hD hK hN hKX (hZ.now hS hA) hS hA [0, 1, 2, 3, 4, 5, 6, 7, 8, 9, 10, 11, 12, 13, 14, 22] (by decide) rfl [15, 16, 17, 18, 19, 20, 21] (by decide) rfl (by decide) [7, 8, 9, 10, 11, 12, 13, 14, 15, 16, 17, 18, 19, 20, 21, 0, 1, 2, 3, 4, 5, 6, 22] (by decide) (fun _ => rfl) [0, 1] rfl rfl hl.1 rfl (Nat.le_of_ble_eq_true rfl) dL_law_867 ⟨by omega, by omega⟩ (fun r_10 u_10 H locs hr_10 hP hD hS => ?_)
    subst r_10
    have hP : va_P D vwCl (wX x a b ++ wM cI a pa pe st bn hc hm (nI cN) (nI rN) lo ++ wM cI b pa2 pe2 st2 bn2 hc2 hm2 C2 R2 lo2 ++ wN cI v pt pd ab nw kp wy th (nI cN) (nI rN) tn ++ wL cL o 1 ov) H := hP
    have hD : va_D A (wX x a b ++ wM cI a pa pe st bn hc hm (nI cN) (nI rN) lo ++ wM cI b pa2 pe2 st2 bn2 hc2 hm2 C2 R2 lo2 ++ wN cI v pt pd ab nw kp wy th (nI cN) (nI rN) tn ++ wL cL o 1 ov) := hD
    refine lv_istore (lv' := [(5, .int 1), (4, .int (nI (4 * k))), (3, .ref o), (2, .ref (v 0)), (1, .ref x), (0, .ref b0)]) hx hb dL_law_870 hl (by decide) rfl (fun ls hl => ?_)
    refine lv_aload_n hx hb dL_law_872 rfl (lv_at hl 3 rfl) ?_
    refine lv_aload_n hx hb dL_law_873 rfl (lv_at hl 5 rfl) ?_
    refine lv_iload hx hb dL_law_874 (lv_at hl 1 rfl) ?_
    refine lv_iconst (v := 1) hx hb dL_law_876 (by decide) ?_
    refine lv_iadd hx hb dL_law_877 ?_
    refine va_sld hx hb hX hbl hbA hS (sx_in hL (j := 1) (by omega)) dL_law_878 ?_
    rw [hv1]
    refine lv_aload_n hx hb dL_law_879 rfl (lv_at hl 5 rfl) ?_
    refine lv_iload hx hb dL_law_880 (lv_at hl 1 rfl) ?_
    refine lv_iconst (v := 2) hx hb dL_law_882 (by decide) ?_
    refine lv_iadd hx hb dL_law_883 ?_
    refine va_sld hx hb hX hbl hbA hS (sx_in hL (j := 2) (by omega)) dL_law_884 ?_
    rw [hv2]
    refine kQVi (As := [.int v1, .int v2]) (rest := []) (wr := [(x, .inr (1, [.ref (a 0), .ref (b 0)])), (a 0, .inr (0, [.ref (a 1), .ref (a 2), .ref (a 3), .ref (a 4), .ref (a 5), .ref (a 6), .int (nI cN), .int (nI rN), .int lo])), (a 1, .inl (cI, 72, .inl pa)), (a 2, .inl (cI, 72, .inl pe)), (a 3, .inl (cI, 72, .inl st)), (a 4, .inl (cI, 9, .inl bn)), (a 5, .inl (cI, 2, .inl hc)), (a 6, .inl (cI, 2, .inl hm)), (b 0, .inr (0, [.ref (b 1), .ref (b 2), .ref (b 3), .ref (b 4), .ref (b 5), .ref (b 6), .int C2, .int R2, .int lo2])), (b 1, .inl (cI, 72, .inl pa2)), (b 2, .inl (cI, 72, .inl pe2)), (b 3, .inl (cI, 72, .inl st2)), (b 4, .inl (cI, 9, .inl bn2)), (b 5, .inl (cI, 2, .inl hc2)), (b 6, .inl (cI, 2, .inl hm2)), (o, .inl (cL, 1, .inr (.inl ov)))]) (W2 := (fun _ => (wX x a b ++ wM cI a pa pe st bn hc hm (nI cN) (nI rN) lo ++ wM cI b pa2 pe2 st2 bn2 hc2 hm2 C2 R2 lo2 ++ wN cI v pt pd ab nw kp wy 1 (nI cN) (nI rN) tn ++ wL cL o 1 ov))) ⟨hx, hb, hml, hown, hts⟩ (mX2_countAt_1 l D cI v pt pd ab nw kp wy th cN rN tn v1 v2 (hR.pR hp) _) (cwV 2 hts gL_law_X2_countAt rfl rfl rfl (by decide +kernel) ⟨Nat.le_of_ble_eq_true rfl, Nat.le_of_ble_eq_true rfl⟩) hP hD hK hN hS hA [15, 16, 17, 18, 19, 20, 21] (by decide) rfl [0, 1, 2, 3, 4, 5, 6, 7, 8, 9, 10, 11, 12, 13, 14, 22] (by decide) rfl (by decide) [0, 1, 2, 3, 4, 5, 6, 7, 8, 9, 10, 11, 12, 13, 14, 16, 17, 18, 19, 20, 21, 22, 15] (by decide) (fun _ => rfl) [0] rfl rfl rfl rfl hl.1 rfl (Nat.le_of_ble_eq_true rfl) dL_law_885 ⟨by omega, by omega⟩ (fun r_11 u_11 H locs hr_11 hP hD hS => ?_)
    subst r_11
    have hP : va_P D vwCl (wX x a b ++ wM cI a pa pe st bn hc hm (nI cN) (nI rN) lo ++ wM cI b pa2 pe2 st2 bn2 hc2 hm2 C2 R2 lo2 ++ wN cI v pt pd ab nw kp wy 1 (nI cN) (nI rN) tn ++ wL cL o 1 ov) H := hP
    have hD : va_D A (wX x a b ++ wM cI a pa pe st bn hc hm (nI cN) (nI rN) lo ++ wM cI b pa2 pe2 st2 bn2 hc2 hm2 C2 R2 lo2 ++ wN cI v pt pd ab nw kp wy 1 (nI cN) (nI rN) tn ++ wL cL o 1 ov) := hD
    refine lv_istore (lv' := [(6, .int 0), (5, .int 1), (4, .int (nI (4 * k))), (3, .ref o), (2, .ref (v 0)), (1, .ref x), (0, .ref b0)]) hx hb dL_law_888 hl (by decide) rfl (fun ls hl => ?_)
    refine lv_aload_n hx hb dL_law_890 rfl (lv_at hl 4 rfl) ?_
    refine kRVi (As := []) (rest := []) ⟨hx, hb, hml, hown, hts⟩ (mX2_thrown l D cI v pt pd ab nw kp wy 1 cN rN tn) (cwV 0 hts gL_law_X2_thrown rfl rfl rfl (by decide +kernel) ⟨Nat.le_of_ble_eq_true rfl, Nat.le_of_ble_eq_true rfl⟩) hP hK hN [15, 16, 17, 18, 19, 20, 21] rfl [0] rfl rfl rfl rfl hl.1 rfl (Nat.le_of_ble_eq_true rfl) dL_law_891 ⟨by omega, by omega⟩ (fun r_12 hr_12 => ?_)
    subst r_12
    refine lv_iload hx hb dL_law_894 (lv_at hl 1 rfl) ?_
    refine lv_icmp_eq (tgt := 901) hx hb dL_law_896 (by decide) (fun _ => ?_) (fun c9 => absurd (by decide) c9)
    refine lv_iload hx hb dL_law_901 (lv_at hl 1 rfl) ?_
    refine lv_if_ne (tgt := 918) hx hb dL_law_903 (by decide) (fun _ => ?_) (fun c9 => absurd c9 (by decide))
    refine lv_goto (tgt := 1599) hx hb dL_law_918 (by decide) ?_
    refine W.widen (k := cells + 10) (n := slots + 41) (by omega) (by omega) ?_
    exact K cN rN pa pe st bn hc hm lo pa2 pe2 st2 bn2 hc2 hm2 C2 R2 lo2 pt pd ab nw kp wy 1 tn ov _ _ _ hR hP hD hS (lv_sub hl [2, 3, 4, 5, 6] rfl)
set_option maxHeartbeats 4000000 in
set_option maxRecDepth 100000 in
theorem cs_11 {p : Program} {l : Launch} {e : Env} {s : State} {m : MethodId} {below : List Frame} {meth : Method} {c : Code} {Q : State → Prop} {D : va_G} {cI cL : ClassId} {x o b0 L k : Nat} {a b v : Nat → Nat} {xs : Nat → Int32} {A : Nat → Prop} {cells slots : Nat} {cN rN : Nat} {pa pe st bn hc hm : Nat → Int32} {lo : Int32} {pa2 pe2 st2 bn2 hc2 hm2 : Nat → Int32} {C2 R2 lo2 : Int32} {pt pd ab nw kp wy : Nat → Int32} {th tn : Int32} {ov : Nat → Int64} {H : Heap} {locs : List Loc} {ls : Array Slot} (F : LF p l s m b0 c D cI cL L xs A) (hR : Rel cN rN pa pe st bn hc hm lo pt pd ab nw) (hk : 4 * k + 3 < L) (h1 : cells + 10 ≤ room_1.cells) (h2 : slots + 41 ≤ room_1.slots) (hP : va_P D vwCl (wX x a b ++ wM cI a pa pe st bn hc hm (nI cN) (nI rN) lo ++ wM cI b pa2 pe2 st2 bn2 hc2 hm2 C2 R2 lo2 ++ wN cI v pt pd ab nw kp wy th (nI cN) (nI rN) tn ++ wL cL o 1 ov) H) (hD : va_D A (wX x a b ++ wM cI a pa pe st bn hc hm (nI cN) (nI rN) lo ++ wM cI b pa2 pe2 st2 bn2 hc2 hm2 C2 R2 lo2 ++ wN cI v pt pd ab nw kp wy th (nI cN) (nI rN) tn ++ wL cL o 1 ov)) (hS : va_S A s.heap H locs) (hl : lv_has ls 9 [(4, .int (nI (4 * k))), (3, .ref o), (2, .ref (v 0)), (1, .ref x), (0, .ref b0)]) (K : LK p l e s m b0 below meth c D cI cL x o k a b v A cells slots Q) : W p l e room_1 s m #[Value.ref b0] below meth c H locs cells slots Q (F0 m 778 ls []) := by
  obtain ⟨hx, hb, hml, hown, hts, hK, hN, hKX, hZ, hA, hX, hbl, hbA, hst, hL⟩ := F
  have hI := hR.inv
  obtain ⟨v1, hv1⟩ : ∃ z, xs (nI (4 * k) + 1).toNatClampNeg = z := ⟨_, rfl⟩
  obtain ⟨v2, hv2⟩ : ∃ z, xs (nI (4 * k) + 2).toNatClampNeg = z := ⟨_, rfl⟩
  by_cases hp : xhas (nI rN) v1 = true
  · by_cases hq : xhas (nI cN) v2 = true
    · obtain ⟨r1, hr1, rfl⟩ := hR.rE hp
      obtain ⟨c1, hc1, rfl⟩ := hR.cE hq
      obtain ⟨o1, o2, o3⟩ := hR.one hr1 hc1
      refine lv_aload_n hx hb dL_law_778 rfl (lv_at hl 3 rfl) ?_
      refine lv_aload_n hx hb dL_law_779 rfl (lv_at hl 4 rfl) ?_
      refine lv_iload hx hb dL_law_780 (lv_at hl 0 rfl) ?_
      refine lv_iconst (v := 1) hx hb dL_law_782 (by decide) ?_
      refine lv_iadd hx hb dL_law_783 ?_
      refine va_sld hx hb hX hbl hbA hS (sx_in hL (j := 1) (by omega)) dL_law_784 ?_
      rw [hv1]
      refine lv_aload_n hx hb dL_law_785 rfl (lv_at hl 4 rfl) ?_
      refine lv_iload hx hb dL_law_786 (lv_at hl 0 rfl) ?_
      refine lv_iconst (v := 2) hx hb dL_law_788 (by decide) ?_
      refine lv_iadd hx hb dL_law_789 ?_
      refine va_sld hx hb hX hbl hbA hS (sx_in hL (j := 2) (by omega)) dL_law_790 ?_
      rw [hv2]
      refine lv_aload_n hx hb dL_law_791 rfl (lv_at hl 1 rfl) ?_
      refine kQWi (As := [.ref x, .int (nI r1), .int (nI c1), .ref o]) (rest := []) (wr := [(v 0, .inr (2, [.int th, .int (nI cN), .int (nI rN), .ref (v 1), .ref (v 2), .ref (v 3), .ref (v 4), .ref (v 5), .int tn, .ref (v 6)])), (v 1, .inl (cI, 72, .inl pt)), (v 2, .inl (cI, 72, .inl pd)), (v 3, .inl (cI, 2, .inl ab)), (v 4, .inl (cI, 84, .inl nw)), (v 5, .inl (cI, 84, .inl kp)), (v 6, .inl (cI, 8, .inl wy))]) (W2 := (fun _ => (wX x a b ++ wM cI a pa pe st bn hc hm (nI cN) (nI rN) lo ++ wM cI b pa2 pe2 st2 bn2 hc2 hm2 C2 R2 lo2 ++ wN cI v pt pd ab nw kp wy th (nI cN) (nI rN) tn ++ wL cL o 1 ((vp_updL ov 0 (if xRight pa st ((nI r1) * (nI cN) + (nI c1)) = true then (1 : Int64) else 0)))))) ⟨hx, hb, hml, hown, hts⟩ (mL_leadsRight_0 l D cI cL x a pa pe st bn hc hm (nI cN) (nI rN) lo b pa2 pe2 st2 bn2 hc2 hm2 C2 R2 lo2 o ov (nI r1) (nI c1) hp hq _) (vx_cwSW 4 hts gL_law_L_leadsRight rfl rfl rfl (by decide +kernel) ⟨Nat.le_of_ble_eq_true rfl, Nat.le_of_ble_eq_true rfl⟩) hP hD hK hN hKX (hZ.now hS hA) hS hA [0, 1, 2, 3, 4, 5, 6, 7, 8, 9, 10, 11, 12, 13, 14, 22] (by decide) rfl [15, 16, 17, 18, 19, 20, 21] (by decide) rfl (by decide) [7, 8, 9, 10, 11, 12, 13, 14, 15, 16, 17, 18, 19, 20, 21, 0, 1, 2, 3, 4, 5, 6, 22] (by decide) (fun _ => rfl) [0, 1] rfl rfl hl.1 rfl (Nat.le_of_ble_eq_true rfl) dL_law_792 ⟨by omega, by omega⟩ (fun r_1 u_1 H locs hr_1 hP hD hS => ?_)
      subst r_1
      have hP : va_P D vwCl (wX x a b ++ wM cI a pa pe st bn hc hm (nI cN) (nI rN) lo ++ wM cI b pa2 pe2 st2 bn2 hc2 hm2 C2 R2 lo2 ++ wN cI v pt pd ab nw kp wy th (nI cN) (nI rN) tn ++ wL cL o 1 ((vp_updL ov 0 (if xRight pa st ((nI r1) * (nI cN) + (nI c1)) = true then (1 : Int64) else 0)))) H := hP
      have hD : va_D A (wX x a b ++ wM cI a pa pe st bn hc hm (nI cN) (nI rN) lo ++ wM cI b pa2 pe2 st2 bn2 hc2 hm2 C2 R2 lo2 ++ wN cI v pt pd ab nw kp wy th (nI cN) (nI rN) tn ++ wL cL o 1 ((vp_updL ov 0 (if xRight pa st ((nI r1) * (nI cN) + (nI c1)) = true then (1 : Int64) else 0)))) := hD
      refine lv_istore (lv' := [(5, .int 0), (4, .int (nI (4 * k))), (3, .ref o), (2, .ref (v 0)), (1, .ref x), (0, .ref b0)]) hx hb dL_law_795 hl (by decide) rfl (fun ls hl => ?_)
      refine lv_aload_n hx hb dL_law_797 rfl (lv_at hl 3 rfl) ?_
      refine lv_aload_n hx hb dL_law_798 rfl (lv_at hl 5 rfl) ?_
      refine lv_iload hx hb dL_law_799 (lv_at hl 1 rfl) ?_
      refine lv_iconst (v := 1) hx hb dL_law_801 (by decide) ?_
      refine lv_iadd hx hb dL_law_802 ?_
      refine va_sld hx hb hX hbl hbA hS (sx_in hL (j := 1) (by omega)) dL_law_803 ?_
      rw [hv1]
      refine lv_aload_n hx hb dL_law_804 rfl (lv_at hl 5 rfl) ?_
      refine lv_iload hx hb dL_law_805 (lv_at hl 1 rfl) ?_
      refine lv_iconst (v := 2) hx hb dL_law_807 (by decide) ?_
      refine lv_iadd hx hb dL_law_808 ?_
      refine va_sld hx hb hX hbl hbA hS (sx_in hL (j := 2) (by omega)) dL_law_809 ?_
      rw [hv2]
      refine kQVi (As := [.int (nI r1), .int (nI c1)]) (rest := []) (wr := [(x, .inr (1, [.ref (a 0), .ref (b 0)])), (a 0, .inr (0, [.ref (a 1), .ref (a 2), .ref (a 3), .ref (a 4), .ref (a 5), .ref (a 6), .int (nI cN), .int (nI rN), .int lo])), (a 1, .inl (cI, 72, .inl pa)), (a 2, .inl (cI, 72, .inl pe)), (a 3, .inl (cI, 72, .inl st)), (a 4, .inl (cI, 9, .inl bn)), (a 5, .inl (cI, 2, .inl hc)), (a 6, .inl (cI, 2, .inl hm)), (b 0, .inr (0, [.ref (b 1), .ref (b 2), .ref (b 3), .ref (b 4), .ref (b 5), .ref (b 6), .int C2, .int R2, .int lo2])), (b 1, .inl (cI, 72, .inl pa2)), (b 2, .inl (cI, 72, .inl pe2)), (b 3, .inl (cI, 72, .inl st2)), (b 4, .inl (cI, 9, .inl bn2)), (b 5, .inl (cI, 2, .inl hc2)), (b 6, .inl (cI, 2, .inl hm2)), (o, .inl (cL, 1, .inr (.inl (vp_updL ov 0 (if xRight pa st ((nI r1) * (nI cN) + (nI c1)) = true then (1 : Int64) else 0)))))]) (W2 := (fun _ => (wX x a b ++ wM cI a pa pe st bn hc hm (nI cN) (nI rN) lo ++ wM cI b pa2 pe2 st2 bn2 hc2 hm2 C2 R2 lo2 ++ wN cI v pt pd ab nw kp wy 0 (nI cN) (nI rN) tn ++ wL cL o 1 ((vp_updL ov 0 (if xRight pa st ((nI r1) * (nI cN) + (nI c1)) = true then (1 : Int64) else 0)))))) ⟨hx, hb, hml, hown, hts⟩ (mX2_leadsRight_0 l D cI v pt pd ab nw kp wy th cN rN tn (nI r1) (nI c1) hI (hR.pT hp hq) _) (cwV 2 hts gL_law_X2_leadsRight rfl rfl rfl (by decide +kernel) ⟨Nat.le_of_ble_eq_true rfl, Nat.le_of_ble_eq_true rfl⟩) hP hD hK hN hS hA [15, 16, 17, 18, 19, 20, 21] (by decide) rfl [0, 1, 2, 3, 4, 5, 6, 7, 8, 9, 10, 11, 12, 13, 14, 22] (by decide) rfl (by decide) [0, 1, 2, 3, 4, 5, 6, 7, 8, 9, 10, 11, 12, 13, 14, 16, 17, 18, 19, 20, 21, 22, 15] (by decide) (fun _ => rfl) [0] rfl rfl rfl rfl hl.1 rfl (Nat.le_of_ble_eq_true rfl) dL_law_810 ⟨by omega, by omega⟩ (fun r_2 u_2 H locs hr_2 hP hD hS => ?_)
      subst r_2
      have hP : va_P D vwCl (wX x a b ++ wM cI a pa pe st bn hc hm (nI cN) (nI rN) lo ++ wM cI b pa2 pe2 st2 bn2 hc2 hm2 C2 R2 lo2 ++ wN cI v pt pd ab nw kp wy 0 (nI cN) (nI rN) tn ++ wL cL o 1 ((vp_updL ov 0 (if xRight pa st ((nI r1) * (nI cN) + (nI c1)) = true then (1 : Int64) else 0)))) H := hP
      have hD : va_D A (wX x a b ++ wM cI a pa pe st bn hc hm (nI cN) (nI rN) lo ++ wM cI b pa2 pe2 st2 bn2 hc2 hm2 C2 R2 lo2 ++ wN cI v pt pd ab nw kp wy 0 (nI cN) (nI rN) tn ++ wL cL o 1 ((vp_updL ov 0 (if xRight pa st ((nI r1) * (nI cN) + (nI c1)) = true then (1 : Int64) else 0)))) := hD
      refine lv_istore (lv' := [(6, .int (bi (mRight pt nw (9 * (nI r1) + (nI c1))))), (5, .int 0), (4, .int (nI (4 * k))), (3, .ref o), (2, .ref (v 0)), (1, .ref x), (0, .ref b0)]) hx hb dL_law_813 hl (by decide) rfl (fun ls hl => ?_)
      refine lv_aload_n hx hb dL_law_815 rfl (lv_at hl 4 rfl) ?_
      refine kRVi (As := []) (rest := []) ⟨hx, hb, hml, hown, hts⟩ (mX2_thrown l D cI v pt pd ab nw kp wy 0 cN rN tn) (cwV 0 hts gL_law_X2_thrown rfl rfl rfl (by decide +kernel) ⟨Nat.le_of_ble_eq_true rfl, Nat.le_of_ble_eq_true rfl⟩) hP hK hN [15, 16, 17, 18, 19, 20, 21] rfl [0] rfl rfl rfl rfl hl.1 rfl (Nat.le_of_ble_eq_true rfl) dL_law_816 ⟨by omega, by omega⟩ (fun r_3 hr_3 => ?_)
      subst r_3
      refine lv_iload hx hb dL_law_819 (lv_at hl 1 rfl) ?_
      refine lv_icmp_eq (tgt := 826) hx hb dL_law_821 (by decide) (fun _ => ?_) (fun c9 => absurd (by decide) c9)
      refine lv_iload hx hb dL_law_826 (lv_at hl 1 rfl) ?_
      refine lv_if_ne (tgt := 850) hx hb dL_law_828 (by decide) (fun c9 => absurd c9 (by decide)) (fun _ => ?_)
      refine lv_aload_n hx hb dL_law_831 rfl (lv_at hl 3 rfl) ?_
      refine lv_iconst (v := 0) hx hb dL_law_832 (by decide) ?_
      refine va_lald hx hb hK hP 22 1 rfl rfl (vp_in_nI (n := 0) (by decide) (by decide)) dL_law_833 ?_
      rw [show (0 : Int32).toNatClampNeg = 0 from by decide, updL_0]
      refine lv_iload hx hb dL_law_834 (lv_at hl 0 rfl) ?_
      refine lv_if_eq (tgt := 843) hx hb dL_law_836 (by decide) (fun c_6 => ?_) (fun c_6 => ?_)
      · simp only [ne_eq, bi_e0, Bool.not_eq_false] at c_6
        refine lv_lconst (v := 0) hx hb dL_law_843 (by decide) ?_
        refine W.lcmp hx hb dL_law_844 ?_
        refine lv_if_eq (tgt := 850) hx hb dL_law_845 (by decide) (fun _ => ?_) (fun c9 => absurd ((lg_cmp_eq _ _).mpr (by rw [o2, c_6]; decide)) c9)
        refine lv_goto (tgt := 1599) hx hb dL_law_850 (by decide) ?_
        refine W.widen (k := cells + 10) (n := slots + 41) (by omega) (by omega) ?_
        exact K cN rN pa pe st bn hc hm lo pa2 pe2 st2 bn2 hc2 hm2 C2 R2 lo2 pt pd ab nw kp wy 0 tn (vp_updL ov 0 (if xRight pa st ((nI r1) * (nI cN) + (nI c1)) = true then (1 : Int64) else 0)) _ _ _ hR hP hD hS (lv_sub hl [2, 3, 4, 5, 6] rfl)
      · simp only [ne_eq, bi_e0, Bool.not_eq_false] at c_6
        refine lv_lconst (v := 1) hx hb dL_law_839 (by decide) ?_
        refine lv_goto (tgt := 844) hx hb dL_law_840 (by decide) ?_
        refine W.lcmp hx hb dL_law_844 ?_
        refine lv_if_eq (tgt := 850) hx hb dL_law_845 (by decide) (fun _ => ?_) (fun c9 => absurd ((lg_cmp_eq _ _).mpr (by rw [o2, c_6]; decide)) c9)
        refine lv_goto (tgt := 1599) hx hb dL_law_850 (by decide) ?_
        refine W.widen (k := cells + 10) (n := slots + 41) (by omega) (by omega) ?_
        exact K cN rN pa pe st bn hc hm lo pa2 pe2 st2 bn2 hc2 hm2 C2 R2 lo2 pt pd ab nw kp wy 0 tn (vp_updL ov 0 (if xRight pa st ((nI r1) * (nI cN) + (nI c1)) = true then (1 : Int64) else 0)) _ _ _ hR hP hD hS (lv_sub hl [2, 3, 4, 5, 6] rfl)
    · have hq : xhas (nI cN) v2 = false := Bool.eq_false_iff.mpr hq
      refine lv_aload_n hx hb dL_law_778 rfl (lv_at hl 3 rfl) ?_
      refine lv_aload_n hx hb dL_law_779 rfl (lv_at hl 4 rfl) ?_
      refine lv_iload hx hb dL_law_780 (lv_at hl 0 rfl) ?_
      refine lv_iconst (v := 1) hx hb dL_law_782 (by decide) ?_
      refine lv_iadd hx hb dL_law_783 ?_
      refine va_sld hx hb hX hbl hbA hS (sx_in hL (j := 1) (by omega)) dL_law_784 ?_
      rw [hv1]
      refine lv_aload_n hx hb dL_law_785 rfl (lv_at hl 4 rfl) ?_
      refine lv_iload hx hb dL_law_786 (lv_at hl 0 rfl) ?_
      refine lv_iconst (v := 2) hx hb dL_law_788 (by decide) ?_
      refine lv_iadd hx hb dL_law_789 ?_
      refine va_sld hx hb hX hbl hbA hS (sx_in hL (j := 2) (by omega)) dL_law_790 ?_
      rw [hv2]
      refine lv_aload_n hx hb dL_law_791 rfl (lv_at hl 1 rfl) ?_
      refine kQWi (As := [.ref x, .int v1, .int v2, .ref o]) (rest := []) (wr := [(v 0, .inr (2, [.int th, .int (nI cN), .int (nI rN), .ref (v 1), .ref (v 2), .ref (v 3), .ref (v 4), .ref (v 5), .int tn, .ref (v 6)])), (v 1, .inl (cI, 72, .inl pt)), (v 2, .inl (cI, 72, .inl pd)), (v 3, .inl (cI, 2, .inl ab)), (v 4, .inl (cI, 84, .inl nw)), (v 5, .inl (cI, 84, .inl kp)), (v 6, .inl (cI, 8, .inl wy))]) (W2 := (fun _ => (wX x a b ++ wM cI a pa pe st bn hc hm (nI cN) (nI rN) lo ++ wM cI b pa2 pe2 st2 bn2 hc2 hm2 C2 R2 lo2 ++ wN cI v pt pd ab nw kp wy th (nI cN) (nI rN) tn ++ wL cL o 1 ov))) ⟨hx, hb, hml, hown, hts⟩ (mL_leadsRight_c l hst D cI cL x a pa pe st bn hc hm (nI cN) (nI rN) lo b pa2 pe2 st2 bn2 hc2 hm2 C2 R2 lo2 o ov v1 v2 hp hq _) (vx_cwSW 4 hts gL_law_L_leadsRight rfl rfl rfl (by decide +kernel) ⟨Nat.le_of_ble_eq_true rfl, Nat.le_of_ble_eq_true rfl⟩) hP hD hK hN hKX (hZ.now hS hA) hS hA [0, 1, 2, 3, 4, 5, 6, 7, 8, 9, 10, 11, 12, 13, 14, 22] (by decide) rfl [15, 16, 17, 18, 19, 20, 21] (by decide) rfl (by decide) [7, 8, 9, 10, 11, 12, 13, 14, 15, 16, 17, 18, 19, 20, 21, 0, 1, 2, 3, 4, 5, 6, 22] (by decide) (fun _ => rfl) [0, 1] rfl rfl hl.1 rfl (Nat.le_of_ble_eq_true rfl) dL_law_792 ⟨by omega, by omega⟩ (fun r_7 u_7 H locs hr_7 hP hD hS => ?_)
      subst r_7
      have hP : va_P D vwCl (wX x a b ++ wM cI a pa pe st bn hc hm (nI cN) (nI rN) lo ++ wM cI b pa2 pe2 st2 bn2 hc2 hm2 C2 R2 lo2 ++ wN cI v pt pd ab nw kp wy th (nI cN) (nI rN) tn ++ wL cL o 1 ov) H := hP
      have hD : va_D A (wX x a b ++ wM cI a pa pe st bn hc hm (nI cN) (nI rN) lo ++ wM cI b pa2 pe2 st2 bn2 hc2 hm2 C2 R2 lo2 ++ wN cI v pt pd ab nw kp wy th (nI cN) (nI rN) tn ++ wL cL o 1 ov) := hD
      refine lv_istore (lv' := [(5, .int 1), (4, .int (nI (4 * k))), (3, .ref o), (2, .ref (v 0)), (1, .ref x), (0, .ref b0)]) hx hb dL_law_795 hl (by decide) rfl (fun ls hl => ?_)
      refine lv_aload_n hx hb dL_law_797 rfl (lv_at hl 3 rfl) ?_
      refine lv_aload_n hx hb dL_law_798 rfl (lv_at hl 5 rfl) ?_
      refine lv_iload hx hb dL_law_799 (lv_at hl 1 rfl) ?_
      refine lv_iconst (v := 1) hx hb dL_law_801 (by decide) ?_
      refine lv_iadd hx hb dL_law_802 ?_
      refine va_sld hx hb hX hbl hbA hS (sx_in hL (j := 1) (by omega)) dL_law_803 ?_
      rw [hv1]
      refine lv_aload_n hx hb dL_law_804 rfl (lv_at hl 5 rfl) ?_
      refine lv_iload hx hb dL_law_805 (lv_at hl 1 rfl) ?_
      refine lv_iconst (v := 2) hx hb dL_law_807 (by decide) ?_
      refine lv_iadd hx hb dL_law_808 ?_
      refine va_sld hx hb hX hbl hbA hS (sx_in hL (j := 2) (by omega)) dL_law_809 ?_
      rw [hv2]
      refine kQVi (As := [.int v1, .int v2]) (rest := []) (wr := [(x, .inr (1, [.ref (a 0), .ref (b 0)])), (a 0, .inr (0, [.ref (a 1), .ref (a 2), .ref (a 3), .ref (a 4), .ref (a 5), .ref (a 6), .int (nI cN), .int (nI rN), .int lo])), (a 1, .inl (cI, 72, .inl pa)), (a 2, .inl (cI, 72, .inl pe)), (a 3, .inl (cI, 72, .inl st)), (a 4, .inl (cI, 9, .inl bn)), (a 5, .inl (cI, 2, .inl hc)), (a 6, .inl (cI, 2, .inl hm)), (b 0, .inr (0, [.ref (b 1), .ref (b 2), .ref (b 3), .ref (b 4), .ref (b 5), .ref (b 6), .int C2, .int R2, .int lo2])), (b 1, .inl (cI, 72, .inl pa2)), (b 2, .inl (cI, 72, .inl pe2)), (b 3, .inl (cI, 72, .inl st2)), (b 4, .inl (cI, 9, .inl bn2)), (b 5, .inl (cI, 2, .inl hc2)), (b 6, .inl (cI, 2, .inl hm2)), (o, .inl (cL, 1, .inr (.inl ov)))]) (W2 := (fun _ => (wX x a b ++ wM cI a pa pe st bn hc hm (nI cN) (nI rN) lo ++ wM cI b pa2 pe2 st2 bn2 hc2 hm2 C2 R2 lo2 ++ wN cI v pt pd ab nw kp wy 1 (nI cN) (nI rN) tn ++ wL cL o 1 ov))) ⟨hx, hb, hml, hown, hts⟩ (mX2_leadsRight_1 l D cI v pt pd ab nw kp wy th cN rN tn v1 v2 (hR.pC hq) _) (cwV 2 hts gL_law_X2_leadsRight rfl rfl rfl (by decide +kernel) ⟨Nat.le_of_ble_eq_true rfl, Nat.le_of_ble_eq_true rfl⟩) hP hD hK hN hS hA [15, 16, 17, 18, 19, 20, 21] (by decide) rfl [0, 1, 2, 3, 4, 5, 6, 7, 8, 9, 10, 11, 12, 13, 14, 22] (by decide) rfl (by decide) [0, 1, 2, 3, 4, 5, 6, 7, 8, 9, 10, 11, 12, 13, 14, 16, 17, 18, 19, 20, 21, 22, 15] (by decide) (fun _ => rfl) [0] rfl rfl rfl rfl hl.1 rfl (Nat.le_of_ble_eq_true rfl) dL_law_810 ⟨by omega, by omega⟩ (fun r_8 u_8 H locs hr_8 hP hD hS => ?_)
      subst r_8
      have hP : va_P D vwCl (wX x a b ++ wM cI a pa pe st bn hc hm (nI cN) (nI rN) lo ++ wM cI b pa2 pe2 st2 bn2 hc2 hm2 C2 R2 lo2 ++ wN cI v pt pd ab nw kp wy 1 (nI cN) (nI rN) tn ++ wL cL o 1 ov) H := hP
      have hD : va_D A (wX x a b ++ wM cI a pa pe st bn hc hm (nI cN) (nI rN) lo ++ wM cI b pa2 pe2 st2 bn2 hc2 hm2 C2 R2 lo2 ++ wN cI v pt pd ab nw kp wy 1 (nI cN) (nI rN) tn ++ wL cL o 1 ov) := hD
      refine lv_istore (lv' := [(6, .int 0), (5, .int 1), (4, .int (nI (4 * k))), (3, .ref o), (2, .ref (v 0)), (1, .ref x), (0, .ref b0)]) hx hb dL_law_813 hl (by decide) rfl (fun ls hl => ?_)
      refine lv_aload_n hx hb dL_law_815 rfl (lv_at hl 4 rfl) ?_
      refine kRVi (As := []) (rest := []) ⟨hx, hb, hml, hown, hts⟩ (mX2_thrown l D cI v pt pd ab nw kp wy 1 cN rN tn) (cwV 0 hts gL_law_X2_thrown rfl rfl rfl (by decide +kernel) ⟨Nat.le_of_ble_eq_true rfl, Nat.le_of_ble_eq_true rfl⟩) hP hK hN [15, 16, 17, 18, 19, 20, 21] rfl [0] rfl rfl rfl rfl hl.1 rfl (Nat.le_of_ble_eq_true rfl) dL_law_816 ⟨by omega, by omega⟩ (fun r_9 hr_9 => ?_)
      subst r_9
      refine lv_iload hx hb dL_law_819 (lv_at hl 1 rfl) ?_
      refine lv_icmp_eq (tgt := 826) hx hb dL_law_821 (by decide) (fun _ => ?_) (fun c9 => absurd (by decide) c9)
      refine lv_iload hx hb dL_law_826 (lv_at hl 1 rfl) ?_
      refine lv_if_ne (tgt := 850) hx hb dL_law_828 (by decide) (fun _ => ?_) (fun c9 => absurd c9 (by decide))
      refine lv_goto (tgt := 1599) hx hb dL_law_850 (by decide) ?_
      refine W.widen (k := cells + 10) (n := slots + 41) (by omega) (by omega) ?_
      exact K cN rN pa pe st bn hc hm lo pa2 pe2 st2 bn2 hc2 hm2 C2 R2 lo2 pt pd ab nw kp wy 1 tn ov _ _ _ hR hP hD hS (lv_sub hl [2, 3, 4, 5, 6] rfl)
  · have hp : xhas (nI rN) v1 = false := Bool.eq_false_iff.mpr hp
    refine lv_aload_n hx hb dL_law_778 rfl (lv_at hl 3 rfl) ?_
    refine lv_aload_n hx hb dL_law_779 rfl (lv_at hl 4 rfl) ?_
    refine lv_iload hx hb dL_law_780 (lv_at hl 0 rfl) ?_
    refine lv_iconst (v := 1) hx hb dL_law_782 (by decide) ?_
    refine lv_iadd hx hb dL_law_783 ?_
    refine va_sld hx hb hX hbl hbA hS (sx_in hL (j := 1) (by omega)) dL_law_784 ?_
    rw [hv1]
    refine lv_aload_n hx hb dL_law_785 rfl (lv_at hl 4 rfl) ?_
    refine lv_iload hx hb dL_law_786 (lv_at hl 0 rfl) ?_
    refine lv_iconst (v := 2) hx hb dL_law_788 (by decide) ?_
    refine lv_iadd hx hb dL_law_789 ?_
    refine va_sld hx hb hX hbl hbA hS (sx_in hL (j := 2) (by omega)) dL_law_790 ?_
    rw [hv2]
    refine lv_aload_n hx hb dL_law_791 rfl (lv_at hl 1 rfl) ?_
    refine kQWi (As := [.ref x, .int v1, .int v2, .ref o]) (rest := []) (wr := [(v 0, .inr (2, [.int th, .int (nI cN), .int (nI rN), .ref (v 1), .ref (v 2), .ref (v 3), .ref (v 4), .ref (v 5), .int tn, .ref (v 6)])), (v 1, .inl (cI, 72, .inl pt)), (v 2, .inl (cI, 72, .inl pd)), (v 3, .inl (cI, 2, .inl ab)), (v 4, .inl (cI, 84, .inl nw)), (v 5, .inl (cI, 84, .inl kp)), (v 6, .inl (cI, 8, .inl wy))]) (W2 := (fun _ => (wX x a b ++ wM cI a pa pe st bn hc hm (nI cN) (nI rN) lo ++ wM cI b pa2 pe2 st2 bn2 hc2 hm2 C2 R2 lo2 ++ wN cI v pt pd ab nw kp wy th (nI cN) (nI rN) tn ++ wL cL o 1 ov))) ⟨hx, hb, hml, hown, hts⟩ (mL_leadsRight_r l hst D cI cL x a pa pe st bn hc hm (nI cN) (nI rN) lo b pa2 pe2 st2 bn2 hc2 hm2 C2 R2 lo2 o ov v1 v2 hp _) (vx_cwSW 4 hts gL_law_L_leadsRight rfl rfl rfl (by decide +kernel) ⟨Nat.le_of_ble_eq_true rfl, Nat.le_of_ble_eq_true rfl⟩) hP hD hK hN hKX (hZ.now hS hA) hS hA [0, 1, 2, 3, 4, 5, 6, 7, 8, 9, 10, 11, 12, 13, 14, 22] (by decide) rfl [15, 16, 17, 18, 19, 20, 21] (by decide) rfl (by decide) [7, 8, 9, 10, 11, 12, 13, 14, 15, 16, 17, 18, 19, 20, 21, 0, 1, 2, 3, 4, 5, 6, 22] (by decide) (fun _ => rfl) [0, 1] rfl rfl hl.1 rfl (Nat.le_of_ble_eq_true rfl) dL_law_792 ⟨by omega, by omega⟩ (fun r_11 u_11 H locs hr_11 hP hD hS => ?_)
    subst r_11
    have hP : va_P D vwCl (wX x a b ++ wM cI a pa pe st bn hc hm (nI cN) (nI rN) lo ++ wM cI b pa2 pe2 st2 bn2 hc2 hm2 C2 R2 lo2 ++ wN cI v pt pd ab nw kp wy th (nI cN) (nI rN) tn ++ wL cL o 1 ov) H := hP
    have hD : va_D A (wX x a b ++ wM cI a pa pe st bn hc hm (nI cN) (nI rN) lo ++ wM cI b pa2 pe2 st2 bn2 hc2 hm2 C2 R2 lo2 ++ wN cI v pt pd ab nw kp wy th (nI cN) (nI rN) tn ++ wL cL o 1 ov) := hD
    refine lv_istore (lv' := [(5, .int 1), (4, .int (nI (4 * k))), (3, .ref o), (2, .ref (v 0)), (1, .ref x), (0, .ref b0)]) hx hb dL_law_795 hl (by decide) rfl (fun ls hl => ?_)
    refine lv_aload_n hx hb dL_law_797 rfl (lv_at hl 3 rfl) ?_
    refine lv_aload_n hx hb dL_law_798 rfl (lv_at hl 5 rfl) ?_
    refine lv_iload hx hb dL_law_799 (lv_at hl 1 rfl) ?_
    refine lv_iconst (v := 1) hx hb dL_law_801 (by decide) ?_
    refine lv_iadd hx hb dL_law_802 ?_
    refine va_sld hx hb hX hbl hbA hS (sx_in hL (j := 1) (by omega)) dL_law_803 ?_
    rw [hv1]
    refine lv_aload_n hx hb dL_law_804 rfl (lv_at hl 5 rfl) ?_
    refine lv_iload hx hb dL_law_805 (lv_at hl 1 rfl) ?_
    refine lv_iconst (v := 2) hx hb dL_law_807 (by decide) ?_
    refine lv_iadd hx hb dL_law_808 ?_
    refine va_sld hx hb hX hbl hbA hS (sx_in hL (j := 2) (by omega)) dL_law_809 ?_
    rw [hv2]
    refine kQVi (As := [.int v1, .int v2]) (rest := []) (wr := [(x, .inr (1, [.ref (a 0), .ref (b 0)])), (a 0, .inr (0, [.ref (a 1), .ref (a 2), .ref (a 3), .ref (a 4), .ref (a 5), .ref (a 6), .int (nI cN), .int (nI rN), .int lo])), (a 1, .inl (cI, 72, .inl pa)), (a 2, .inl (cI, 72, .inl pe)), (a 3, .inl (cI, 72, .inl st)), (a 4, .inl (cI, 9, .inl bn)), (a 5, .inl (cI, 2, .inl hc)), (a 6, .inl (cI, 2, .inl hm)), (b 0, .inr (0, [.ref (b 1), .ref (b 2), .ref (b 3), .ref (b 4), .ref (b 5), .ref (b 6), .int C2, .int R2, .int lo2])), (b 1, .inl (cI, 72, .inl pa2)), (b 2, .inl (cI, 72, .inl pe2)), (b 3, .inl (cI, 72, .inl st2)), (b 4, .inl (cI, 9, .inl bn2)), (b 5, .inl (cI, 2, .inl hc2)), (b 6, .inl (cI, 2, .inl hm2)), (o, .inl (cL, 1, .inr (.inl ov)))]) (W2 := (fun _ => (wX x a b ++ wM cI a pa pe st bn hc hm (nI cN) (nI rN) lo ++ wM cI b pa2 pe2 st2 bn2 hc2 hm2 C2 R2 lo2 ++ wN cI v pt pd ab nw kp wy 1 (nI cN) (nI rN) tn ++ wL cL o 1 ov))) ⟨hx, hb, hml, hown, hts⟩ (mX2_leadsRight_1 l D cI v pt pd ab nw kp wy th cN rN tn v1 v2 (hR.pR hp) _) (cwV 2 hts gL_law_X2_leadsRight rfl rfl rfl (by decide +kernel) ⟨Nat.le_of_ble_eq_true rfl, Nat.le_of_ble_eq_true rfl⟩) hP hD hK hN hS hA [15, 16, 17, 18, 19, 20, 21] (by decide) rfl [0, 1, 2, 3, 4, 5, 6, 7, 8, 9, 10, 11, 12, 13, 14, 22] (by decide) rfl (by decide) [0, 1, 2, 3, 4, 5, 6, 7, 8, 9, 10, 11, 12, 13, 14, 16, 17, 18, 19, 20, 21, 22, 15] (by decide) (fun _ => rfl) [0] rfl rfl rfl rfl hl.1 rfl (Nat.le_of_ble_eq_true rfl) dL_law_810 ⟨by omega, by omega⟩ (fun r_12 u_12 H locs hr_12 hP hD hS => ?_)
    subst r_12
    have hP : va_P D vwCl (wX x a b ++ wM cI a pa pe st bn hc hm (nI cN) (nI rN) lo ++ wM cI b pa2 pe2 st2 bn2 hc2 hm2 C2 R2 lo2 ++ wN cI v pt pd ab nw kp wy 1 (nI cN) (nI rN) tn ++ wL cL o 1 ov) H := hP
    have hD : va_D A (wX x a b ++ wM cI a pa pe st bn hc hm (nI cN) (nI rN) lo ++ wM cI b pa2 pe2 st2 bn2 hc2 hm2 C2 R2 lo2 ++ wN cI v pt pd ab nw kp wy 1 (nI cN) (nI rN) tn ++ wL cL o 1 ov) := hD
    refine lv_istore (lv' := [(6, .int 0), (5, .int 1), (4, .int (nI (4 * k))), (3, .ref o), (2, .ref (v 0)), (1, .ref x), (0, .ref b0)]) hx hb dL_law_813 hl (by decide) rfl (fun ls hl => ?_)
    refine lv_aload_n hx hb dL_law_815 rfl (lv_at hl 4 rfl) ?_
    refine kRVi (As := []) (rest := []) ⟨hx, hb, hml, hown, hts⟩ (mX2_thrown l D cI v pt pd ab nw kp wy 1 cN rN tn) (cwV 0 hts gL_law_X2_thrown rfl rfl rfl (by decide +kernel) ⟨Nat.le_of_ble_eq_true rfl, Nat.le_of_ble_eq_true rfl⟩) hP hK hN [15, 16, 17, 18, 19, 20, 21] rfl [0] rfl rfl rfl rfl hl.1 rfl (Nat.le_of_ble_eq_true rfl) dL_law_816 ⟨by omega, by omega⟩ (fun r_13 hr_13 => ?_)
    subst r_13
    refine lv_iload hx hb dL_law_819 (lv_at hl 1 rfl) ?_
    refine lv_icmp_eq (tgt := 826) hx hb dL_law_821 (by decide) (fun _ => ?_) (fun c9 => absurd (by decide) c9)
    refine lv_iload hx hb dL_law_826 (lv_at hl 1 rfl) ?_
    refine lv_if_ne (tgt := 850) hx hb dL_law_828 (by decide) (fun _ => ?_) (fun c9 => absurd c9 (by decide))
    refine lv_goto (tgt := 1599) hx hb dL_law_850 (by decide) ?_
    refine W.widen (k := cells + 10) (n := slots + 41) (by omega) (by omega) ?_
    exact K cN rN pa pe st bn hc hm lo pa2 pe2 st2 bn2 hc2 hm2 C2 R2 lo2 pt pd ab nw kp wy 1 tn ov _ _ _ hR hP hD hS (lv_sub hl [2, 3, 4, 5, 6] rfl)
