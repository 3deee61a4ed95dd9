set_option maxHeartbeats 4000000 in
set_option maxRecDepth 100000 in
theorem cs_20 {p : Program} {l : Launch} {e : Env} {s : State} {m : MethodId} {below : List Frame} {meth : Method} {c : Code} {Q : State → Prop} {D : va_G} {cI cL : ClassId} {x o b0 L k : Nat} {a b v : Nat → Nat} {xs : Nat → Int32} {A : Nat → Prop} {cells slots : Nat} {cN rN : Nat} {pa pe st bn hc hm : Nat → Int32} {lo : Int32} {pa2 pe2 st2 bn2 hc2 hm2 : Nat → Int32} {C2 R2 lo2 : Int32} {pt pd ab nw kp wy : Nat → Int32} {th tn : Int32} {ov : Nat → Int64} {H : Heap} {locs : List Loc} {ls : Array Slot} (F : LF p l s m b0 c D cI cL L xs A) (hR : Rel cN rN pa pe st bn hc hm lo pt pd ab nw) (hk : 4 * k + 3 < L) (h1 : cells + 10 ≤ room_1.cells) (h2 : slots + 41 ≤ room_1.slots) (hP : va_P D vwCl (wX x a b ++ wM cI a pa pe st bn hc hm (nI cN) (nI rN) lo ++ wM cI b pa2 pe2 st2 bn2 hc2 hm2 C2 R2 lo2 ++ wN cI v pt pd ab nw kp wy th (nI cN) (nI rN) tn ++ wL cL o 1 ov) H) (hD : va_D A (wX x a b ++ wM cI a pa pe st bn hc hm (nI cN) (nI rN) lo ++ wM cI b pa2 pe2 st2 bn2 hc2 hm2 C2 R2 lo2 ++ wN cI v pt pd ab nw kp wy th (nI cN) (nI rN) tn ++ wL cL o 1 ov)) (hS : va_S A s.heap H locs) (hl : lv_has ls 9 [(4, .int (nI (4 * k))), (3, .ref o), (2, .ref (v 0)), (1, .ref x), (0, .ref b0)]) (K : LK p l e s m b0 below meth c D cI cL x o k a b v A cells slots Q) : W p l e room_1 s m #[Value.ref b0] below meth c H locs cells slots Q (F0 m 1227 ls []) := by
  obtain ⟨hx, hb, hml, hown, hts, hK, hN, hKX, hZ, hA, hX, hbl, hbA, hst, hL⟩ := F
  have hI := hR.inv
  obtain ⟨v1, hv1⟩ : ∃ z, xs (nI (4 * k) + 1).toNatClampNeg = z := ⟨_, rfl⟩
  obtain ⟨v2, hv2⟩ : ∃ z, xs (nI (4 * k) + 2).toNatClampNeg = z := ⟨_, rfl⟩
  by_cases hq : xhas (nI cN) v1 = true
  · by_cases hp : xhas (nI rN) v2 = true
    · obtain ⟨c1, hc1, rfl⟩ := hR.cE hq
      obtain ⟨r1, hr1, rfl⟩ := hR.rE hp
      obtain ⟨d1, d2, d3, d4⟩ := hR.drop hc1
      refine lv_aload_n hx hb dL_law_1227 rfl (lv_at hl 3 rfl) ?_
      refine lv_aload_n hx hb dL_law_1228 rfl (lv_at hl 4 rfl) ?_
      refine lv_iload hx hb dL_law_1229 (lv_at hl 0 rfl) ?_
      refine lv_iconst (v := 1) hx hb dL_law_1231 (by decide) ?_
      refine lv_iadd hx hb dL_law_1232 ?_
      refine va_sld hx hb hX hbl hbA hS (sx_in hL (j := 1) (by omega)) dL_law_1233 ?_
      rw [hv1]
      refine lv_aload_n hx hb dL_law_1234 rfl (lv_at hl 4 rfl) ?_
      refine lv_iload hx hb dL_law_1235 (lv_at hl 0 rfl) ?_
      refine lv_iconst (v := 2) hx hb dL_law_1237 (by decide) ?_
      refine lv_iadd hx hb dL_law_1238 ?_
      refine va_sld hx hb hX hbl hbA hS (sx_in hL (j := 2) (by omega)) dL_law_1239 ?_
      rw [hv2]
      refine lv_aload_n hx hb dL_law_1240 rfl (lv_at hl 1 rfl) ?_
      refine kQWi (As := [.ref x, .int (nI c1), .int (nI r1), .ref o]) (rest := []) (wr := [(v 0, .inr (2, [.int th, .int (nI cN), .int (nI rN), .ref (v 1), .ref (v 2), .ref (v 3), .ref (v 4), .ref (v 5), .int tn, .ref (v 6)])), (v 1, .inl (cI, 72, .inl pt)), (v 2, .inl (cI, 72, .inl pd)), (v 3, .inl (cI, 2, .inl ab)), (v 4, .inl (cI, 84, .inl nw)), (v 5, .inl (cI, 84, .inl kp)), (v 6, .inl (cI, 8, .inl wy))]) (W2 := (fun u : MS => (wX x a b ++ wM cI a pa pe st bn hc hm (nI cN) (nI rN) lo ++ wM cI b u.1 u.2.1 u.2.2.1 u.2.2.2.1 u.2.2.2.2.1 u.2.2.2.2.2.1 u.2.2.2.2.2.2.1 u.2.2.2.2.2.2.2.1 u.2.2.2.2.2.2.2.2 ++ wN cI v pt pd ab nw kp wy th (nI cN) (nI rN) tn ++ wL cL o 1 ((vp_updL ov 0 ((xFall pa pe st (nI cN) (nI c1) (nI r1)).1 : Int32).toInt64))))) ⟨hx, hb, hml, hown, hts⟩ (mL_wouldBeIn_0 l D cI cL x a pa pe st bn hc hm (nI cN) (nI rN) lo b pa2 pe2 st2 bn2 hc2 hm2 C2 R2 lo2 o ov (nI c1) (nI r1) hq hp _) (vx_cwSW 4 hts gL_law_L_wouldBeIn rfl rfl rfl (by decide +kernel) ⟨Nat.le_of_ble_eq_true rfl, Nat.le_of_ble_eq_true rfl⟩) hP hD hK hN hKX (hZ.now hS hA) hS hA [0, 1, 2, 3, 4, 5, 6, 7, 8, 9, 10, 11, 12, 13, 14, 22] (by decide) rfl [15, 16, 17, 18, 19, 20, 21] (by decide) rfl (by decide) [7, 8, 9, 10, 11, 12, 13, 14, 15, 16, 17, 18, 19, 20, 21, 0, 1, 2, 3, 4, 5, 6, 22] (by decide) (fun _ => rfl) [0, 1] rfl rfl hl.1 rfl (Nat.le_of_ble_eq_true rfl) dL_law_1241 ⟨by omega, by omega⟩ (fun r_1 u_1 H locs hr_1 hP hD hS => ?_)
      subst r_1
      have hP : va_P D vwCl (wX x a b ++ wM cI a pa pe st bn hc hm (nI cN) (nI rN) lo ++ wM cI b u_1.1 u_1.2.1 u_1.2.2.1 u_1.2.2.2.1 u_1.2.2.2.2.1 u_1.2.2.2.2.2.1 u_1.2.2.2.2.2.2.1 u_1.2.2.2.2.2.2.2.1 u_1.2.2.2.2.2.2.2.2 ++ wN cI v pt pd ab nw kp wy th (nI cN) (nI rN) tn ++ wL cL o 1 ((vp_updL ov 0 ((xFall pa pe st (nI cN) (nI c1) (nI r1)).1 : Int32).toInt64))) H := hP
      have hD : va_D A (wX x a b ++ wM cI a pa pe st bn hc hm (nI cN) (nI rN) lo ++ wM cI b u_1.1 u_1.2.1 u_1.2.2.1 u_1.2.2.2.1 u_1.2.2.2.2.1 u_1.2.2.2.2.2.1 u_1.2.2.2.2.2.2.1 u_1.2.2.2.2.2.2.2.1 u_1.2.2.2.2.2.2.2.2 ++ wN cI v pt pd ab nw kp wy th (nI cN) (nI rN) tn ++ wL cL o 1 ((vp_updL ov 0 ((xFall pa pe st (nI cN) (nI c1) (nI r1)).1 : Int32).toInt64))) := hD
      refine lv_istore (lv' := [(5, .int 0), (4, .int (nI (4 * k))), (3, .ref o), (2, .ref (v 0)), (1, .ref x), (0, .ref b0)]) hx hb dL_law_1244 hl (by decide) rfl (fun ls hl => ?_)
      refine lv_aload_n hx hb dL_law_1246 rfl (lv_at hl 3 rfl) ?_
      refine lv_aload_n hx hb dL_law_1247 rfl (lv_at hl 5 rfl) ?_
      refine lv_iload hx hb dL_law_1248 (lv_at hl 1 rfl) ?_
      refine lv_iconst (v := 1) hx hb dL_law_1250 (by decide) ?_
      refine lv_iadd hx hb dL_law_1251 ?_
      refine va_sld hx hb hX hbl hbA hS (sx_in hL (j := 1) (by omega)) dL_law_1252 ?_
      rw [hv1]
      refine lv_aload_n hx hb dL_law_1253 rfl (lv_at hl 5 rfl) ?_
      refine lv_iload hx hb dL_law_1254 (lv_at hl 1 rfl) ?_
      refine lv_iconst (v := 2) hx hb dL_law_1256 (by decide) ?_
      refine lv_iadd hx hb dL_law_1257 ?_
      refine va_sld hx hb hX hbl hbA hS (sx_in hL (j := 2) (by omega)) dL_law_1258 ?_
      rw [hv2]
      refine kQVi (As := [.int (nI c1), .int (nI r1)]) (rest := []) (wr := [(x, .inr (1, [.ref (a 0), .ref (b 0)])), (a 0, .inr (0, [.ref (a 1), .ref (a 2), .ref (a 3), .ref (a 4), .ref (a 5), .ref (a 6), .int (nI cN), .int (nI rN), .int lo])), (a 1, .inl (cI, 72, .inl pa)), (a 2, .inl (cI, 72, .inl pe)), (a 3, .inl (cI, 72, .inl st)), (a 4, .inl (cI, 9, .inl bn)), (a 5, .inl (cI, 2, .inl hc)), (a 6, .inl (cI, 2, .inl hm)), (b 0, .inr (0, [.ref (b 1), .ref (b 2), .ref (b 3), .ref (b 4), .ref (b 5), .ref (b 6), .int u_1.2.2.2.2.2.2.1, .int u_1.2.2.2.2.2.2.2.1, .int u_1.2.2.2.2.2.2.2.2])), (b 1, .inl (cI, 72, .inl u_1.1)), (b 2, .inl (cI, 72, .inl u_1.2.1)), (b 3, .inl (cI, 72, .inl u_1.2.2.1)), (b 4, .inl (cI, 9, .inl u_1.2.2.2.1)), (b 5, .inl (cI, 2, .inl u_1.2.2.2.2.1)), (b 6, .inl (cI, 2, .inl u_1.2.2.2.2.2.1)), (o, .inl (cL, 1, .inr (.inl (vp_updL ov 0 ((xFall pa pe st (nI cN) (nI c1) (nI r1)).1 : Int32).toInt64))))]) (W2 := (fun u : MJ => (wX x a b ++ wM cI a pa pe st bn hc hm (nI cN) (nI rN) lo ++ wM cI b u_1.1 u_1.2.1 u_1.2.2.1 u_1.2.2.2.1 u_1.2.2.2.2.1 u_1.2.2.2.2.2.1 u_1.2.2.2.2.2.2.1 u_1.2.2.2.2.2.2.2.1 u_1.2.2.2.2.2.2.2.2 ++ wN cI v pt pd ab nw u.1 u.2.1 0 (nI cN) (nI rN) u.2.2 ++ wL cL o 1 ((vp_updL ov 0 ((xFall pa pe st (nI cN) (nI c1) (nI r1)).1 : Int32).toInt64))))) ⟨hx, hb, hml, hown, hts⟩ (mX2_wouldBeIn_0 l D cI v pt pd ab nw kp wy th cN rN tn (nI c1) (nI r1) hI (hR.cT hq) (hR.rT hp) hR.r1 _) (cwV 2 hts gL_law_X2_wouldBeIn rfl rfl rfl (by decide +kernel) ⟨Nat.le_of_ble_eq_true rfl, Nat.le_of_ble_eq_true rfl⟩) hP hD hK hN hS hA [15, 16, 17, 18, 19, 20, 21] (by decide) rfl [0, 1, 2, 3, 4, 5, 6, 7, 8, 9, 10, 11, 12, 13, 14, 22] (by decide) rfl (by decide) [0, 1, 2, 3, 4, 5, 6, 7, 8, 9, 10, 11, 12, 13, 14, 16, 17, 18, 19, 20, 21, 22, 15] (by decide) (fun _ => rfl) [0] rfl rfl rfl rfl hl.1 rfl (Nat.le_of_ble_eq_true rfl) dL_law_1259 ⟨by omega, by omega⟩ (fun r_2 u_2 H locs hr_2 hP hD hS => ?_)
      subst r_2
      have hP : va_P D vwCl (wX x a b ++ wM cI a pa pe st bn hc hm (nI cN) (nI rN) lo ++ wM cI b u_1.1 u_1.2.1 u_1.2.2.1 u_1.2.2.2.1 u_1.2.2.2.2.1 u_1.2.2.2.2.2.1 u_1.2.2.2.2.2.2.1 u_1.2.2.2.2.2.2.2.1 u_1.2.2.2.2.2.2.2.2 ++ wN cI v pt pd ab nw u_2.1 u_2.2.1 0 (nI cN) (nI rN) u_2.2.2 ++ wL cL o 1 ((vp_updL ov 0 ((xFall pa pe st (nI cN) (nI c1) (nI r1)).1 : Int32).toInt64))) H := hP
      have hD : va_D A (wX x a b ++ wM cI a pa pe st bn hc hm (nI cN) (nI rN) lo ++ wM cI b u_1.1 u_1.2.1 u_1.2.2.1 u_1.2.2.2.1 u_1.2.2.2.2.1 u_1.2.2.2.2.2.1 u_1.2.2.2.2.2.2.1 u_1.2.2.2.2.2.2.2.1 u_1.2.2.2.2.2.2.2.2 ++ wN cI v pt pd ab nw u_2.1 u_2.2.1 0 (nI cN) (nI rN) u_2.2.2 ++ wL cL o 1 ((vp_updL ov 0 ((xFall pa pe st (nI cN) (nI c1) (nI r1)).1 : Int32).toInt64))) := hD
      refine lv_istore (lv' := [(6, .int ((mFall pt pd cN rN nw (nI c1)).2.2.2 (nI r1).toNatClampNeg)), (5, .int 0), (4, .int (nI (4 * k))), (3, .ref o), (2, .ref (v 0)), (1, .ref x), (0, .ref b0)]) hx hb dL_law_1262 hl (by decide) rfl (fun ls hl => ?_)
      refine lv_aload_n hx hb dL_law_1264 rfl (lv_at hl 4 rfl) ?_
      refine kRVi (As := []) (rest := []) ⟨hx, hb, hml, hown, hts⟩ (mX2_thrown l D cI v pt pd ab nw u_2.1 u_2.2.1 0 cN rN u_2.2.2) (cwV 0 hts gL_law_X2_thrown rfl rfl rfl (by decide +kernel) ⟨Nat.le_of_ble_eq_true rfl, Nat.le_of_ble_eq_true rfl⟩) hP hK hN [15, 16, 17, 18, 19, 20, 21] rfl [0] rfl rfl rfl rfl hl.1 rfl (Nat.le_of_ble_eq_true rfl) dL_law_1265 ⟨by omega, by omega⟩ (fun r_3 hr_3 => ?_)
      subst r_3
      refine lv_iload hx hb dL_law_1268 (lv_at hl 1 rfl) ?_
      refine lv_icmp_eq (tgt := 1275) hx hb dL_law_1270 (by decide) (fun _ => ?_) (fun c9 => absurd (by decide) c9)
      refine lv_iload hx hb dL_law_1275 (lv_at hl 1 rfl) ?_
      refine lv_if_ne (tgt := 1292) hx hb dL_law_1277 (by decide) (fun c9 => absurd c9 (by decide)) (fun _ => ?_)
      refine lv_aload_n hx hb dL_law_1280 rfl (lv_at hl 3 rfl) ?_
      refine lv_iconst (v := 0) hx hb dL_law_1281 (by decide) ?_
      refine va_lald hx hb hK hP 22 1 rfl rfl (vp_in_nI (n := 0) (by decide) (by decide)) dL_law_1282 ?_
      rw [show (0 : Int32).toNatClampNeg = 0 from by decide, updL_0]
      refine lv_iload hx hb dL_law_1283 (lv_at hl 0 rfl) ?_
      refine lv_i2l (v := ((mFall pt pd cN rN nw (nI c1)).2.2.2 (nI r1).toNatClampNeg : Int32).toInt64) hx hb dL_law_1285 rfl ?_
      refine W.lcmp hx hb dL_law_1286 ?_
      refine lv_if_eq (tgt := 1292) hx hb dL_law_1287 (by decide) (fun _ => ?_) (fun c9 => absurd ((lg_cmp_eq _ _).mpr (congrArg Int32.toInt64 (by rw [← d3 r1 hr1, nI_clamp (show r1 < 2 ^ 31 by have := hR.r8; omega)]))) c9)
      refine lv_goto (tgt := 1599) hx hb dL_law_1292 (by decide) ?_
      refine W.widen (k := cells + 10) (n := slots + 41) (by omega) (by omega) ?_
      exact K cN rN pa pe st bn hc hm lo u_1.1 u_1.2.1 u_1.2.2.1 u_1.2.2.2.1 u_1.2.2.2.2.1 u_1.2.2.2.2.2.1 u_1.2.2.2.2.2.2.1 u_1.2.2.2.2.2.2.2.1 u_1.2.2.2.2.2.2.2.2 pt pd ab nw u_2.1 u_2.2.1 0 u_2.2.2 (vp_updL ov 0 ((xFall pa pe st (nI cN) (nI c1) (nI r1)).1 : Int32).toInt64) _ _ _ hR hP hD hS (lv_sub hl [2, 3, 4, 5, 6] rfl)
    · have hp : xhas (nI rN) v2 = false := Bool.eq_false_iff.mpr hp
      refine lv_aload_n hx hb dL_law_1227 rfl (lv_at hl 3 rfl) ?_
      refine lv_aload_n hx hb dL_law_1228 rfl (lv_at hl 4 rfl) ?_
      refine lv_iload hx hb dL_law_1229 (lv_at hl 0 rfl) ?_
      refine lv_iconst (v := 1) hx hb dL_law_1231 (by decide) ?_
      refine lv_iadd hx hb dL_law_1232 ?_
      refine va_sld hx hb hX hbl hbA hS (sx_in hL (j := 1) (by omega)) dL_law_1233 ?_
      rw [hv1]
      refine lv_aload_n hx hb dL_law_1234 rfl (lv_at hl 4 rfl) ?_
      refine lv_iload hx hb dL_law_1235 (lv_at hl 0 rfl) ?_
      refine lv_iconst (v := 2) hx hb dL_law_1237 (by decide) ?_
      refine lv_iadd hx hb dL_law_1238 ?_
      refine va_sld hx hb hX hbl hbA hS (sx_in hL (j := 2) (by omega)) dL_law_1239 ?_
      rw [hv2]
      refine lv_aload_n hx hb dL_law_1240 rfl (lv_at hl 1 rfl) ?_
      refine kQWi (As := [.ref x, .int v1, .int v2, .ref o]) (rest := []) (wr := [(v 0, .inr (2, [.int th, .int (nI cN), .int (nI rN), .ref (v 1), .ref (v 2), .ref (v 3), .ref (v 4), .ref (v 5), .int tn, .ref (v 6)])), (v 1, .inl (cI, 72, .inl pt)), (v 2, .inl (cI, 72, .inl pd)), (v 3, .inl (cI, 2, .inl ab)), (v 4, .inl (cI, 84, .inl nw)), (v 5, .inl (cI, 84, .inl kp)), (v 6, .inl (cI, 8, .inl wy))]) (W2 := (fun _ => (wX x a b ++ wM cI a pa pe st bn hc hm (nI cN) (nI rN) lo ++ wM cI b pa2 pe2 st2 bn2 hc2 hm2 C2 R2 lo2 ++ wN cI v pt pd ab nw kp wy th (nI cN) (nI rN) tn ++ wL cL o 1 ov))) ⟨hx, hb, hml, hown, hts⟩ (mL_wouldBeIn_r l hst D cI cL x a pa pe st bn hc hm (nI cN) (nI rN) lo b pa2 pe2 st2 bn2 hc2 hm2 C2 R2 lo2 o ov v1 v2 hq hp _) (vx_cwSW 4 hts gL_law_L_wouldBeIn rfl rfl rfl (by decide +kernel) ⟨Nat.le_of_ble_eq_true rfl, Nat.le_of_ble_eq_true rfl⟩) hP hD hK hN hKX (hZ.now hS hA) hS hA [0, 1, 2, 3, 4, 5, 6, 7, 8, 9, 10, 11, 12, 13, 14, 22] (by decide) rfl [15, 16, 17, 18, 19, 20, 21] (by decide) rfl (by decide) [7, 8, 9, 10, 11, 12, 13, 14, 15, 16, 17, 18, 19, 20, 21, 0, 1, 2, 3, 4, 5, 6, 22] (by decide) (fun _ => rfl) [0, 1] rfl rfl hl.1 rfl (Nat.le_of_ble_eq_true rfl) dL_law_1241 ⟨by omega, by omega⟩ (fun r_6 u_6 H locs hr_6 hP hD hS => ?_)
      subst r_6
      have hP : va_P D vwCl (wX x a b ++ wM cI a pa pe st bn hc hm (nI cN) (nI rN) lo ++ wM cI b pa2 pe2 st2 bn2 hc2 hm2 C2 R2 lo2 ++ wN cI v pt pd ab nw kp wy th (nI cN) (nI rN) tn ++ wL cL o 1 ov) H := hP
      have hD : va_D A (wX x a b ++ wM cI a pa pe st bn hc hm (nI cN) (nI rN) lo ++ wM cI b pa2 pe2 st2 bn2 hc2 hm2 C2 R2 lo2 ++ wN cI v pt pd ab nw kp wy th (nI cN) (nI rN) tn ++ wL cL o 1 ov) := hD
      refine lv_istore (lv' := [(5, .int 1), (4, .int (nI (4 * k))), (3, .ref o), (2, .ref (v 0)), (1, .ref x), (0, .ref b0)]) hx hb dL_law_1244 hl (by decide) rfl (fun ls hl => ?_)
      refine lv_aload_n hx hb dL_law_1246 rfl (lv_at hl 3 rfl) ?_
      refine lv_aload_n hx hb dL_law_1247 rfl (lv_at hl 5 rfl) ?_
      refine lv_iload hx hb dL_law_1248 (lv_at hl 1 rfl) ?_
      refine lv_iconst (v := 1) hx hb dL_law_1250 (by decide) ?_
      refine lv_iadd hx hb dL_law_1251 ?_
      refine va_sld hx hb hX hbl hbA hS (sx_in hL (j := 1) (by omega)) dL_law_1252 ?_
      rw [hv1]
      refine lv_aload_n hx hb dL_law_1253 rfl (lv_at hl 5 rfl) ?_
      refine lv_iload hx hb dL_law_1254 (lv_at hl 1 rfl) ?_
      refine lv_iconst (v := 2) hx hb dL_law_1256 (by decide) ?_
      refine lv_iadd hx hb dL_law_1257 ?_
      refine va_sld hx hb hX hbl hbA hS (sx_in hL (j := 2) (by omega)) dL_law_1258 ?_
      rw [hv2]
      refine kQVi (As := [.int v1, .int v2]) (rest := []) (wr := [(x, .inr (1, [.ref (a 0), .ref (b 0)])), (a 0, .inr (0, [.ref (a 1), .ref (a 2), .ref (a 3), .ref (a 4), .ref (a 5), .ref (a 6), .int (nI cN), .int (nI rN), .int lo])), (a 1, .inl (cI, 72, .inl pa)), (a 2, .inl (cI, 72, .inl pe)), (a 3, .inl (cI, 72, .inl st)), (a 4, .inl (cI, 9, .inl bn)), (a 5, .inl (cI, 2, .inl hc)), (a 6, .inl (cI, 2, .inl hm)), (b 0, .inr (0, [.ref (b 1), .ref (b 2), .ref (b 3), .ref (b 4), .ref (b 5), .ref (b 6), .int C2, .int R2, .int lo2])), (b 1, .inl (cI, 72, .inl pa2)), (b 2, .inl (cI, 72, .inl pe2)), (b 3, .inl (cI, 72, .inl st2)), (b 4, .inl (cI, 9, .inl bn2)), (b 5, .inl (cI, 2, .inl hc2)), (b 6, .inl (cI, 2, .inl hm2)), (o, .inl (cL, 1, .inr (.inl ov)))]) (W2 := (fun _ => (wX x a b ++ wM cI a pa pe st bn hc hm (nI cN) (nI rN) lo ++ wM cI b pa2 pe2 st2 bn2 hc2 hm2 C2 R2 lo2 ++ wN cI v pt pd ab nw kp wy 1 (nI cN) (nI rN) tn ++ wL cL o 1 ov))) ⟨hx, hb, hml, hown, hts⟩ (mX2_wouldBeIn_1r l D cI v pt pd ab nw kp wy th cN rN tn v1 v2 (hR.cT hq) (hR.rF hp) _) (cwV 2 hts gL_law_X2_wouldBeIn rfl rfl rfl (by decide +kernel) ⟨Nat.le_of_ble_eq_true rfl, Nat.le_of_ble_eq_true rfl⟩) hP hD hK hN hS hA [15, 16, 17, 18, 19, 20, 21] (by decide) rfl [0, 1, 2, 3, 4, 5, 6, 7, 8, 9, 10, 11, 12, 13, 14, 22] (by decide) rfl (by decide) [0, 1, 2, 3, 4, 5, 6, 7, 8, 9, 10, 11, 12, 13, 14, 16, 17, 18, 19, 20, 21, 22, 15] (by decide) (fun _ => rfl) [0] rfl rfl rfl rfl hl.1 rfl (Nat.le_of_ble_eq_true rfl) dL_law_1259 ⟨by omega, by omega⟩ (fun r_7 u_7 H locs hr_7 hP hD hS => ?_)
      subst r_7
      have hP : va_P D vwCl (wX x a b ++ wM cI a pa pe st bn hc hm (nI cN) (nI rN) lo ++ wM cI b pa2 pe2 st2 bn2 hc2 hm2 C2 R2 lo2 ++ wN cI v pt pd ab nw kp wy 1 (nI cN) (nI rN) tn ++ wL cL o 1 ov) H := hP
      have hD : va_D A (wX x a b ++ wM cI a pa pe st bn hc hm (nI cN) (nI rN) lo ++ wM cI b pa2 pe2 st2 bn2 hc2 hm2 C2 R2 lo2 ++ wN cI v pt pd ab nw kp wy 1 (nI cN) (nI rN) tn ++ wL cL o 1 ov) := hD
      refine lv_istore (lv' := [(6, .int 0), (5, .int 1), (4, .int (nI (4 * k))), (3, .ref o), (2, .ref (v 0)), (1, .ref x), (0, .ref b0)]) hx hb dL_law_1262 hl (by decide) rfl (fun ls hl => ?_)
      refine lv_aload_n hx hb dL_law_1264 rfl (lv_at hl 4 rfl) ?_
      refine kRVi (As := []) (rest := []) ⟨hx, hb, hml, hown, hts⟩ (mX2_thrown l D cI v pt pd ab nw kp wy 1 cN rN tn) (cwV 0 hts gL_law_X2_thrown rfl rfl rfl (by decide +kernel) ⟨Nat.le_of_ble_eq_true rfl, Nat.le_of_ble_eq_true rfl⟩) hP hK hN [15, 16, 17, 18, 19, 20, 21] rfl [0] rfl rfl rfl rfl hl.1 rfl (Nat.le_of_ble_eq_true rfl) dL_law_1265 ⟨by omega, by omega⟩ (fun r_8 hr_8 => ?_)
      subst r_8
      refine lv_iload hx hb dL_law_1268 (lv_at hl 1 rfl) ?_
      refine lv_icmp_eq (tgt := 1275) hx hb dL_law_1270 (by decide) (fun _ => ?_) (fun c9 => absurd (by decide) c9)
      refine lv_iload hx hb dL_law_1275 (lv_at hl 1 rfl) ?_
      refine lv_if_ne (tgt := 1292) hx hb dL_law_1277 (by decide) (fun _ => ?_) (fun c9 => absurd c9 (by decide))
      refine lv_goto (tgt := 1599) hx hb dL_law_1292 (by decide) ?_
      refine W.widen (k := cells + 10) (n := slots + 41) (by omega) (by omega) ?_
      exact K cN rN pa pe st bn hc hm lo pa2 pe2 st2 bn2 hc2 hm2 C2 R2 lo2 pt pd ab nw kp wy 1 tn ov _ _ _ hR hP hD hS (lv_sub hl [2, 3, 4, 5, 6] rfl)
  · have hq : xhas (nI cN) v1 = false := Bool.eq_false_iff.mpr hq
    refine lv_aload_n hx hb dL_law_1227 rfl (lv_at hl 3 rfl) ?_
    refine lv_aload_n hx hb dL_law_1228 rfl (lv_at hl 4 rfl) ?_
    refine lv_iload hx hb dL_law_1229 (lv_at hl 0 rfl) ?_
    refine lv_iconst (v := 1) hx hb dL_law_1231 (by decide) ?_
    refine lv_iadd hx hb dL_law_1232 ?_
    refine va_sld hx hb hX hbl hbA hS (sx_in hL (j := 1) (by omega)) dL_law_1233 ?_
    rw [hv1]
    refine lv_aload_n hx hb dL_law_1234 rfl (lv_at hl 4 rfl) ?_
    refine lv_iload hx hb dL_law_1235 (lv_at hl 0 rfl) ?_
    refine lv_iconst (v := 2) hx hb dL_law_1237 (by decide) ?_
    refine lv_iadd hx hb dL_law_1238 ?_
    refine va_sld hx hb hX hbl hbA hS (sx_in hL (j := 2) (by omega)) dL_law_1239 ?_
    rw [hv2]
    refine lv_aload_n hx hb dL_law_1240 rfl (lv_at hl 1 rfl) ?_
    refine kQWi (As := [.ref x, .int v1, .int v2, .ref o]) (rest := []) (wr := [(v 0, .inr (2, [.int th, .int (nI cN), .int (nI rN), .ref (v 1), .ref (v 2), .ref (v 3), .ref (v 4), .ref (v 5), .int tn, .ref (v 6)])), (v 1, .inl (cI, 72, .inl pt)), (v 2, .inl (cI, 72, .inl pd)), (v 3, .inl (cI, 2, .inl ab)), (v 4, .inl (cI, 84, .inl nw)), (v 5, .inl (cI, 84, .inl kp)), (v 6, .inl (cI, 8, .inl wy))]) (W2 := (fun _ => (wX x a b ++ wM cI a pa pe st bn hc hm (nI cN) (nI rN) lo ++ wM cI b pa2 pe2 st2 bn2 hc2 hm2 C2 R2 lo2 ++ wN cI v pt pd ab nw kp wy th (nI cN) (nI rN) tn ++ wL cL o 1 ov))) ⟨hx, hb, hml, hown, hts⟩ (mL_wouldBeIn_c l hst D cI cL x a pa pe st bn hc hm (nI cN) (nI rN) lo b pa2 pe2 st2 bn2 hc2 hm2 C2 R2 lo2 o ov v1 v2 hq _) (vx_cwSW 4 hts gL_law_L_wouldBeIn rfl rfl rfl (by decide +kernel) ⟨Nat.le_of_ble_eq_true rfl, Nat.le_of_ble_eq_true rfl⟩) hP hD hK hN hKX (hZ.now hS hA) hS hA [0, 1, 2, 3, 4, 5, 6, 7, 8, 9, 10, 11, 12, 13, 14, 22] (by decide) rfl [15, 16, 17, 18, 19, 20, 21] (by decide) rfl (by decide) [7, 8, 9, 10, 11, 12, 13, 14, 15, 16, 17, 18, 19, 20, 21, 0, 1, 2, 3, 4, 5, 6, 22] (by decide) (fun _ => rfl) [0, 1] rfl rfl hl.1 rfl (Nat.le_of_ble_eq_true rfl) dL_law_1241 ⟨by omega, by omega⟩ (fun r_10 u_10 H locs hr_10 hP hD hS => ?_)
    subst r_10
    have hP : va_P D vwCl (wX x a b ++ wM cI a pa pe st bn hc hm (nI cN) (nI rN) lo ++ wM cI b pa2 pe2 st2 bn2 hc2 hm2 C2 R2 lo2 ++ wN cI v pt pd ab nw kp wy th (nI cN) (nI rN) tn ++ wL cL o 1 ov) H := hP
    have hD : va_D A (wX x a b ++ wM cI a pa pe st bn hc hm (nI cN) (nI rN) lo ++ wM cI b pa2 pe2 st2 bn2 hc2 hm2 C2 R2 lo2 ++ wN cI v pt pd ab nw kp wy th (nI cN) (nI rN) tn ++ wL cL o 1 ov) := hD
    refine lv_istore (lv' := [(5, .int 1), (4, .int (nI (4 * k))), (3, .ref o), (2, .ref (v 0)), (1, .ref x), (0, .ref b0)]) hx hb dL_law_1244 hl (by decide) rfl (fun ls hl => ?_)
    refine lv_aload_n hx hb dL_law_1246 rfl (lv_at hl 3 rfl) ?_
    refine lv_aload_n hx hb dL_law_1247 rfl (lv_at hl 5 rfl) ?_
    refine lv_iload hx hb dL_law_1248 (lv_at hl 1 rfl) ?_
    refine lv_iconst (v := 1) hx hb dL_law_1250 (by decide) ?_
    refine lv_iadd hx hb dL_law_1251 ?_
    refine va_sld hx hb hX hbl hbA hS (sx_in hL (j := 1) (by omega)) dL_law_1252 ?_
    rw [hv1]
    refine lv_aload_n hx hb dL_law_1253 rfl (lv_at hl 5 rfl) ?_
    refine lv_iload hx hb dL_law_1254 (lv_at hl 1 rfl) ?_
    refine lv_iconst (v := 2) hx hb dL_law_1256 (by decide) ?_
    refine lv_iadd hx hb dL_law_1257 ?_
    refine va_sld hx hb hX hbl hbA hS (sx_in hL (j := 2) (by omega)) dL_law_1258 ?_
    rw [hv2]
    refine kQVi (As := [.int v1, .int v2]) (rest := []) (wr := [(x, .inr (1, [.ref (a 0), .ref (b 0)])), (a 0, .inr (0, [.ref (a 1), .ref (a 2), .ref (a 3), .ref (a 4), .ref (a 5), .ref (a 6), .int (nI cN), .int (nI rN), .int lo])), (a 1, .inl (cI, 72, .inl pa)), (a 2, .inl (cI, 72, .inl pe)), (a 3, .inl (cI, 72, .inl st)), (a 4, .inl (cI, 9, .inl bn)), (a 5, .inl (cI, 2, .inl hc)), (a 6, .inl (cI, 2, .inl hm)), (b 0, .inr (0, [.ref (b 1), .ref (b 2), .ref (b 3), .ref (b 4), .ref (b 5), .ref (b 6), .int C2, .int R2, .int lo2])), (b 1, .inl (cI, 72, .inl pa2)), (b 2, .inl (cI, 72, .inl pe2)), (b 3, .inl (cI, 72, .inl st2)), (b 4, .inl (cI, 9, .inl bn2)), (b 5, .inl (cI, 2, .inl hc2)), (b 6, .inl (cI, 2, .inl hm2)), (o, .inl (cL, 1, .inr (.inl ov)))]) (W2 := (fun _ => (wX x a b ++ wM cI a pa pe st bn hc hm (nI cN) (nI rN) lo ++ wM cI b pa2 pe2 st2 bn2 hc2 hm2 C2 R2 lo2 ++ wN cI v pt pd ab nw kp wy 1 (nI cN) (nI rN) tn ++ wL cL o 1 ov))) ⟨hx, hb, hml, hown, hts⟩ (mX2_wouldBeIn_1 l D cI v pt pd ab nw kp wy th cN rN tn v1 v2 (hR.cF hq) _) (cwV 2 hts gL_law_X2_wouldBeIn rfl rfl rfl (by decide +kernel) ⟨Nat.le_of_ble_eq_true rfl, Nat.le_of_ble_eq_true rfl⟩) hP hD hK hN hS hA [15, 16, 17, 18, 19, 20, 21] (by decide) rfl [0, 1, 2, 3, 4, 5, 6, 7, 8, 9, 10, 11, 12, 13, 14, 22] (by decide) rfl (by decide) [0, 1, 2, 3, 4, 5, 6, 7, 8, 9, 10, 11, 12, 13, 14, 16, 17, 18, 19, 20, 21, 22, 15] (by decide) (fun _ => rfl) [0] rfl rfl rfl rfl hl.1 rfl (Nat.le_of_ble_eq_true rfl) dL_law_1259 ⟨by omega, by omega⟩ (fun r_11 u_11 H locs hr_11 hP hD hS => ?_)
    subst r_11
    have hP : va_P D vwCl (wX x a b ++ wM cI a pa pe st bn hc hm (nI cN) (nI rN) lo ++ wM cI b pa2 pe2 st2 bn2 hc2 hm2 C2 R2 lo2 ++ wN cI v pt pd ab nw kp wy 1 (nI cN) (nI rN) tn ++ wL cL o 1 ov) H := hP
    have hD : va_D A (wX x a b ++ wM cI a pa pe st bn hc hm (nI cN) (nI rN) lo ++ wM cI b pa2 pe2 st2 bn2 hc2 hm2 C2 R2 lo2 ++ wN cI v pt pd ab nw kp wy 1 (nI cN) (nI rN) tn ++ wL cL o 1 ov) := hD
    refine lv_istore (lv' := [(6, .int 0), (5, .int 1), (4, .int (nI (4 * k))), (3, .ref o), (2, .ref (v 0)), (1, .ref x), (0, .ref b0)]) hx hb dL_law_1262 hl (by decide) rfl (fun ls hl => ?_)
    refine lv_aload_n hx hb dL_law_1264 rfl (lv_at hl 4 rfl) ?_
    refine kRVi (As := []) (rest := []) ⟨hx, hb, hml, hown, hts⟩ (mX2_thrown l D cI v pt pd ab nw kp wy 1 cN rN tn) (cwV 0 hts gL_law_X2_thrown rfl rfl rfl (by decide +kernel) ⟨Nat.le_of_ble_eq_true rfl, Nat.le_of_ble_eq_true rfl⟩) hP hK hN [15, 16, 17, 18, 19, 20, 21] rfl [0] rfl rfl rfl rfl hl.1 rfl (Nat.le_of_ble_eq_true rfl) dL_law_1265 ⟨by omega, by omega⟩ (fun r_12 hr_12 => ?_)
    subst r_12
    refine lv_iload hx hb dL_law_1268 (lv_at hl 1 rfl) ?_
    refine lv_icmp_eq (tgt := 1275) hx hb dL_law_1270 (by decide) (fun _ => ?_) (fun c9 => absurd (by decide) c9)
    refine lv_iload hx hb dL_law_1275 (lv_at hl 1 rfl) ?_
    refine lv_if_ne (tgt := 1292) hx hb dL_law_1277 (by decide) (fun _ => ?_) (fun c9 => absurd c9 (by decide))
    refine lv_goto (tgt := 1599) hx hb dL_law_1292 (by decide) ?_
    refine W.widen (k := cells + 10) (n := slots + 41) (by omega) (by omega) ?_
    exact K cN rN pa pe st bn hc hm lo pa2 pe2 st2 bn2 hc2 hm2 C2 R2 lo2 pt pd ab nw kp wy 1 tn ov _ _ _ hR hP hD hS (lv_sub hl [2, 3, 4, 5, 6] rfl)
set_option maxHeartbeats 4000000 in
set_option maxRecDepth 100000 in
theorem cs_22 {p : Program} {l : Launch} {e : Env} {s : State} {m : MethodId} {below : List Frame} {meth : Method} {c : Code} {Q : State → Prop} {D : va_G} {cI cL : ClassId} {x o b0 L k : Nat} {a b v : Nat → Nat} {xs : Nat → Int32} {A : Nat → Prop} {cells slots : Nat} {cN rN : Nat} {pa pe st bn hc hm : Nat → Int32} {lo : Int32} {pa2 pe2 st2 bn2 hc2 hm2 : Nat → Int32} {C2 R2 lo2 : Int32} {pt pd ab nw kp wy : Nat → Int32} {th tn : Int32} {ov : Nat → Int64} {H : Heap} {locs : List Loc} {ls : Array Slot} (F : LF p l s m b0 c D cI cL L xs A) (hR : Rel cN rN pa pe st bn hc hm lo pt pd ab nw) (hk : 4 * k + 3 < L) (h1 : cells + 10 ≤ room_1.cells) (h2 : slots + 41 ≤ room_1.slots) (hP : va_P D vwCl (wX x a b ++ wM cI a pa pe st bn hc hm (nI cN) (nI rN) lo ++ wM cI b pa2 pe2 st2 bn2 hc2 hm2 C2 R2 lo2 ++ wN cI v pt pd ab nw kp wy th (nI cN) (nI rN) tn ++ wL cL o 1 ov) H) (hD : va_D A (wX x a b ++ wM cI a pa pe st bn hc hm (nI cN) (nI rN) lo ++ wM cI b pa2 pe2 st2 bn2 hc2 hm2 C2 R2 lo2 ++ wN cI v pt pd ab nw kp wy th (nI cN) (nI rN) tn ++ wL cL o 1 ov)) (hS : va_S A s.heap H locs) (hl : lv_has ls 9 [(4, .int (nI (4 * k))), (3, .ref o), (2, .ref (v 0)), (1, .ref x), (0, .ref b0)]) (K : LK p l e s m b0 below meth c D cI cL x o k a b v A cells slots Q) : W p l e room_1 s m #[Value.ref b0] below meth c H locs cells slots Q (F0 m 1351 ls []) := by
  obtain ⟨hx, hb, hml, hown, hts, hK, hN, hKX, hZ, hA, hX, hbl, hbA, hst, hL⟩ := F
  have hI := hR.inv
  obtain ⟨v1, hv1⟩ : ∃ z, xs (nI (4 * k) + 1).toNatClampNeg = z := ⟨_, rfl⟩
  obtain ⟨v2, hv2⟩ : ∃ z, xs (nI (4 * k) + 2).toNatClampNeg = z := ⟨_, rfl⟩
  by_cases hq : xhas (nI cN) v1 = true
  · by_cases hr3 : xin v2 1 60 = true
    · obtain ⟨c1, hc1, rfl⟩ := hR.cE hq
      refine lv_aload_n hx hb dL_law_1351 rfl (lv_at hl 3 rfl) ?_
      refine lv_aload_n hx hb dL_law_1352 rfl (lv_at hl 4 rfl) ?_
      refine lv_iload hx hb dL_law_1353 (lv_at hl 0 rfl) ?_
      refine lv_iconst (v := 1) hx hb dL_law_1355 (by decide) ?_
      refine lv_iadd hx hb dL_law_1356 ?_
      refine va_sld hx hb hX hbl hbA hS (sx_in hL (j := 1) (by omega)) dL_law_1357 ?_
      rw [hv1]
      refine lv_aload_n hx hb dL_law_1358 rfl (lv_at hl 4 rfl) ?_
      refine lv_iload hx hb dL_law_1359 (lv_at hl 0 rfl) ?_
      refine lv_iconst (v := 2) hx hb dL_law_1361 (by decide) ?_
      refine lv_iadd hx hb dL_law_1362 ?_
      refine va_sld hx hb hX hbl hbA hS (sx_in hL (j := 2) (by omega)) dL_law_1363 ?_
      rw [hv2]
      refine lv_aload_n hx hb dL_law_1364 rfl (lv_at hl 1 rfl) ?_
      refine kQWi (As := [.ref x, .int (nI c1), .int v2, .ref o]) (rest := []) (wr := [(v 0, .inr (2, [.int th, .int (nI cN), .int (nI rN), .ref (v 1), .ref (v 2), .ref (v 3), .ref (v 4), .ref (v 5), .int tn, .ref (v 6)])), (v 1, .inl (cI, 72, .inl pt)), (v 2, .inl (cI, 72, .inl pd)), (v 3, .inl (cI, 2, .inl ab)), (v 4, .inl (cI, 84, .inl nw)), (v 5, .inl (cI, 84, .inl kp)), (v 6, .inl (cI, 8, .inl wy))]) (W2 := (fun u : MS => (wX x a b ++ wM cI a pa pe st bn hc hm (nI cN) (nI rN) lo ++ wM cI b u.1 u.2.1 u.2.2.1 u.2.2.2.1 u.2.2.2.2.1 u.2.2.2.2.2.1 u.2.2.2.2.2.2.1 u.2.2.2.2.2.2.2.1 u.2.2.2.2.2.2.2.2 ++ wN cI v pt pd ab nw kp wy th (nI cN) (nI rN) tn ++ wL cL o 1 ((vp_updL ov 0 ((xLast pa pe st (nI cN) (nI rN) (nI c1) v2) : Int32).toInt64))))) ⟨hx, hb, hml, hown, hts⟩ (mL_lastLands_0 l D cI cL x a pa pe st bn hc hm (nI cN) (nI rN) lo b pa2 pe2 st2 bn2 hc2 hm2 C2 R2 lo2 o ov (nI c1) v2 hq hr3 _) (vx_cwSW 4 hts gL_law_L_lastLands rfl rfl rfl (by decide +kernel) ⟨Nat.le_of_ble_eq_true rfl, Nat.le_of_ble_eq_true rfl⟩) hP hD hK hN hKX (hZ.now hS hA) hS hA [0, 1, 2, 3, 4, 5, 6, 7, 8, 9, 10, 11, 12, 13, 14, 22] (by decide) rfl [15, 16, 17, 18, 19, 20, 21] (by decide) rfl (by decide) [7, 8, 9, 10, 11, 12, 13, 14, 15, 16, 17, 18, 19, 20, 21, 0, 1, 2, 3, 4, 5, 6, 22] (by decide) (fun _ => rfl) [0, 1] rfl rfl hl.1 rfl (Nat.le_of_ble_eq_true rfl) dL_law_1365 ⟨by omega, by omega⟩ (fun r_1 u_1 H locs hr_1 hP hD hS => ?_)
      subst r_1
      have hP : va_P D vwCl (wX x a b ++ wM cI a pa pe st bn hc hm (nI cN) (nI rN) lo ++ wM cI b u_1.1 u_1.2.1 u_1.2.2.1 u_1.2.2.2.1 u_1.2.2.2.2.1 u_1.2.2.2.2.2.1 u_1.2.2.2.2.2.2.1 u_1.2.2.2.2.2.2.2.1 u_1.2.2.2.2.2.2.2.2 ++ wN cI v pt pd ab nw kp wy th (nI cN) (nI rN) tn ++ wL cL o 1 ((vp_updL ov 0 ((xLast pa pe st (nI cN) (nI rN) (nI c1) v2) : Int32).toInt64))) H := hP
      have hD : va_D A (wX x a b ++ wM cI a pa pe st bn hc hm (nI cN) (nI rN) lo ++ wM cI b u_1.1 u_1.2.1 u_1.2.2.1 u_1.2.2.2.1 u_1.2.2.2.2.1 u_1.2.2.2.2.2.1 u_1.2.2.2.2.2.2.1 u_1.2.2.2.2.2.2.2.1 u_1.2.2.2.2.2.2.2.2 ++ wN cI v pt pd ab nw kp wy th (nI cN) (nI rN) tn ++ wL cL o 1 ((vp_updL ov 0 ((xLast pa pe st (nI cN) (nI rN) (nI c1) v2) : Int32).toInt64))) := hD
      refine lv_istore (lv' := [(5, .int 0), (4, .int (nI (4 * k))), (3, .ref o), (2, .ref (v 0)), (1, .ref x), (0, .ref b0)]) hx hb dL_law_1368 hl (by decide) rfl (fun ls hl => ?_)
      refine lv_aload_n hx hb dL_law_1370 rfl (lv_at hl 3 rfl) ?_
      refine lv_aload_n hx hb dL_law_1371 rfl (lv_at hl 5 rfl) ?_
      refine lv_iload hx hb dL_law_1372 (lv_at hl 1 rfl) ?_
      refine lv_iconst (v := 1) hx hb dL_law_1374 (by decide) ?_
      refine lv_iadd hx hb dL_law_1375 ?_
      refine va_sld hx hb hX hbl hbA hS (sx_in hL (j := 1) (by omega)) dL_law_1376 ?_
      rw [hv1]
      refine lv_aload_n hx hb dL_law_1377 rfl (lv_at hl 5 rfl) ?_
      refine lv_iload hx hb dL_law_1378 (lv_at hl 1 rfl) ?_
      refine lv_iconst (v := 2) hx hb dL_law_1380 (by decide) ?_
      refine lv_iadd hx hb dL_law_1381 ?_
      refine va_sld hx hb hX hbl hbA hS (sx_in hL (j := 2) (by omega)) dL_law_1382 ?_
      rw [hv2]
      refine kQVi (As := [.int (nI c1), .int v2]) (rest := []) (wr := [(x, .inr (1, [.ref (a 0), .ref (b 0)])), (a 0, .inr (0, [.ref (a 1), .ref (a 2), .ref (a 3), .ref (a 4), .ref (a 5), .ref (a 6), .int (nI cN), .int (nI rN), .int lo])), (a 1, .inl (cI, 72, .inl pa)), (a 2, .inl (cI, 72, .inl pe)), (a 3, .inl (cI, 72, .inl st)), (a 4, .inl (cI, 9, .inl bn)), (a 5, .inl (cI, 2, .inl hc)), (a 6, .inl (cI, 2, .inl hm)), (b 0, .inr (0, [.ref (b 1), .ref (b 2), .ref (b 3), .ref (b 4), .ref (b 5), .ref (b 6), .int u_1.2.2.2.2.2.2.1, .int u_1.2.2.2.2.2.2.2.1, .int u_1.2.2.2.2.2.2.2.2])), (b 1, .inl (cI, 72, .inl u_1.1)), (b 2, .inl (cI, 72, .inl u_1.2.1)), (b 3, .inl (cI, 72, .inl u_1.2.2.1)), (b 4, .inl (cI, 9, .inl u_1.2.2.2.1)), (b 5, .inl (cI, 2, .inl u_1.2.2.2.2.1)), (b 6, .inl (cI, 2, .inl u_1.2.2.2.2.2.1)), (o, .inl (cL, 1, .inr (.inl (vp_updL ov 0 ((xLast pa pe st (nI cN) (nI rN) (nI c1) v2) : Int32).toInt64))))]) (W2 := (fun u : MJ => (wX x a b ++ wM cI a pa pe st bn hc hm (nI cN) (nI rN) lo ++ wM cI b u_1.1 u_1.2.1 u_1.2.2.1 u_1.2.2.2.1 u_1.2.2.2.2.1 u_1.2.2.2.2.2.1 u_1.2.2.2.2.2.2.1 u_1.2.2.2.2.2.2.2.1 u_1.2.2.2.2.2.2.2.2 ++ wN cI v pt pd ab nw u.1 u.2.1 0 (nI cN) (nI rN) u.2.2 ++ wL cL o 1 ((vp_updL ov 0 ((xLast pa pe st (nI cN) (nI rN) (nI c1) v2) : Int32).toInt64))))) ⟨hx, hb, hml, hown, hts⟩ (mX2_lastLands_0 l D cI v pt pd ab nw kp wy th cN rN tn (nI c1) v2 hI (hR.cT hq) (iT hr3) _) (cwV 2 hts gL_law_X2_lastLands rfl rfl rfl (by decide +kernel) ⟨Nat.le_of_ble_eq_true rfl, Nat.le_of_ble_eq_true rfl⟩) hP hD hK hN hS hA [15, 16, 17, 18, 19, 20, 21] (by decide) rfl [0, 1, 2, 3, 4, 5, 6, 7, 8, 9, 10, 11, 12, 13, 14, 22] (by decide) rfl (by decide) [0, 1, 2, 3, 4, 5, 6, 7, 8, 9, 10, 11, 12, 13, 14, 16, 17, 18, 19, 20, 21, 22, 15] (by decide) (fun _ => rfl) [0] rfl rfl rfl rfl hl.1 rfl (Nat.le_of_ble_eq_true rfl) dL_law_1383 ⟨by omega, by omega⟩ (fun r_2 u_2 H locs hr_2 hP hD hS => ?_)
      subst r_2
      have hP : va_P D vwCl (wX x a b ++ wM cI a pa pe st bn hc hm (nI cN) (nI rN) lo ++ wM cI b u_1.1 u_1.2.1 u_1.2.2.1 u_1.2.2.2.1 u_1.2.2.2.2.1 u_1.2.2.2.2.2.1 u_1.2.2.2.2.2.2.1 u_1.2.2.2.2.2.2.2.1 u_1.2.2.2.2.2.2.2.2 ++ wN cI v pt pd ab nw u_2.1 u_2.2.1 0 (nI cN) (nI rN) u_2.2.2 ++ wL cL o 1 ((vp_updL ov 0 ((xLast pa pe st (nI cN) (nI rN) (nI c1) v2) : Int32).toInt64))) H := hP
      have hD : va_D A (wX x a b ++ wM cI a pa pe st bn hc hm (nI cN) (nI rN) lo ++ wM cI b u_1.1 u_1.2.1 u_1.2.2.1 u_1.2.2.2.1 u_1.2.2.2.2.1 u_1.2.2.2.2.2.1 u_1.2.2.2.2.2.2.1 u_1.2.2.2.2.2.2.2.1 u_1.2.2.2.2.2.2.2.2 ++ wN cI v pt pd ab nw u_2.1 u_2.2.1 0 (nI cN) (nI rN) u_2.2.2 ++ wL cL o 1 ((vp_updL ov 0 ((xLast pa pe st (nI cN) (nI rN) (nI c1) v2) : Int32).toInt64))) := hD
      refine lv_istore (lv' := [(6, .int ((mLook pt pd cN rN nw tn wy (nI c1) v2).1)), (5, .int 0), (4, .int (nI (4 * k))), (3, .ref o), (2, .ref (v 0)), (1, .ref x), (0, .ref b0)]) hx hb dL_law_1386 hl (by decide) rfl (fun ls hl => ?_)
      refine lv_aload_n hx hb dL_law_1388 rfl (lv_at hl 4 rfl) ?_
      refine kRVi (As := []) (rest := []) ⟨hx, hb, hml, hown, hts⟩ (mX2_thrown l D cI v pt pd ab nw u_2.1 u_2.2.1 0 cN rN u_2.2.2) (cwV 0 hts gL_law_X2_thrown rfl rfl rfl (by decide +kernel) ⟨Nat.le_of_ble_eq_true rfl, Nat.le_of_ble_eq_true rfl⟩) hP hK hN [15, 16, 17, 18, 19, 20, 21] rfl [0] rfl rfl rfl rfl hl.1 rfl (Nat.le_of_ble_eq_true rfl) dL_law_1389 ⟨by omega, by omega⟩ (fun r_3 hr_3 => ?_)
      subst r_3
      refine lv_iload hx hb dL_law_1392 (lv_at hl 1 rfl) ?_
      refine lv_icmp_eq (tgt := 1399) hx hb dL_law_1394 (by decide) (fun _ => ?_) (fun c9 => absurd (by decide) c9)
      refine lv_iload hx hb dL_law_1399 (lv_at hl 1 rfl) ?_
      refine lv_if_ne (tgt := 1416) hx hb dL_law_1401 (by decide) (fun c9 => absurd c9 (by decide)) (fun _ => ?_)
      refine lv_aload_n hx hb dL_law_1404 rfl (lv_at hl 3 rfl) ?_
      refine lv_iconst (v := 0) hx hb dL_law_1405 (by decide) ?_
      refine va_lald hx hb hK hP 22 1 rfl rfl (vp_in_nI (n := 0) (by decide) (by decide)) dL_law_1406 ?_
      rw [show (0 : Int32).toNatClampNeg = 0 from by decide, updL_0]
      refine lv_iload hx hb dL_law_1407 (lv_at hl 0 rfl) ?_
      refine lv_i2l (v := ((mLook pt pd cN rN nw tn wy (nI c1) v2).1 : Int32).toInt64) hx hb dL_law_1409 rfl ?_
      refine W.lcmp hx hb dL_law_1410 ?_
      refine lv_if_eq (tgt := 1416) hx hb dL_law_1411 (by decide) (fun _ => ?_) (fun c9 => absurd ((lg_cmp_eq _ _).mpr (congrArg Int32.toInt64 (hR.last hc1 _ _ _).symm)) c9)
      refine lv_goto (tgt := 1599) hx hb dL_law_1416 (by decide) ?_
      refine W.widen (k := cells + 10) (n := slots + 41) (by omega) (by omega) ?_
      exact K cN rN pa pe st bn hc hm lo u_1.1 u_1.2.1 u_1.2.2.1 u_1.2.2.2.1 u_1.2.2.2.2.1 u_1.2.2.2.2.2.1 u_1.2.2.2.2.2.2.1 u_1.2.2.2.2.2.2.2.1 u_1.2.2.2.2.2.2.2.2 pt pd ab nw u_2.1 u_2.2.1 0 u_2.2.2 (vp_updL ov 0 ((xLast pa pe st (nI cN) (nI rN) (nI c1) v2) : Int32).toInt64) _ _ _ hR hP hD hS (lv_sub hl [2, 3, 4, 5, 6] rfl)
    · have hr3 : xin v2 1 60 = false := Bool.eq_false_iff.mpr hr3
      refine lv_aload_n hx hb dL_law_1351 rfl (lv_at hl 3 rfl) ?_
      refine lv_aload_n hx hb dL_law_1352 rfl (lv_at hl 4 rfl) ?_
      refine lv_iload hx hb dL_law_1353 (lv_at hl 0 rfl) ?_
      refine lv_iconst (v := 1) hx hb dL_law_1355 (by decide) ?_
      refine lv_iadd hx hb dL_law_1356 ?_
      refine va_sld hx hb hX hbl hbA hS (sx_in hL (j := 1) (by omega)) dL_law_1357 ?_
      rw [hv1]
      refine lv_aload_n hx hb dL_law_1358 rfl (lv_at hl 4 rfl) ?_
      refine lv_iload hx hb dL_law_1359 (lv_at hl 0 rfl) ?_
      refine lv_iconst (v := 2) hx hb dL_law_1361 (by decide) ?_
      refine lv_iadd hx hb dL_law_1362 ?_
      refine va_sld hx hb hX hbl hbA hS (sx_in hL (j := 2) (by omega)) dL_law_1363 ?_
      rw [hv2]
      refine lv_aload_n hx hb dL_law_1364 rfl (lv_at hl 1 rfl) ?_
      refine kQWi (As := [.ref x, .int v1, .int v2, .ref o]) (rest := []) (wr := [(v 0, .inr (2, [.int th, .int (nI cN), .int (nI rN), .ref (v 1), .ref (v 2), .ref (v 3), .ref (v 4), .ref (v 5), .int tn, .ref (v 6)])), (v 1, .inl (cI, 72, .inl pt)), (v 2, .inl (cI, 72, .inl pd)), (v 3, .inl (cI, 2, .inl ab)), (v 4, .inl (cI, 84, .inl nw)), (v 5, .inl (cI, 84, .inl kp)), (v 6, .inl (cI, 8, .inl wy))]) (W2 := (fun _ => (wX x a b ++ wM cI a pa pe st bn hc hm (nI cN) (nI rN) lo ++ wM cI b pa2 pe2 st2 bn2 hc2 hm2 C2 R2 lo2 ++ wN cI v pt pd ab nw kp wy th (nI cN) (nI rN) tn ++ wL cL o 1 ov))) ⟨hx, hb, hml, hown, hts⟩ (mL_lastLands_a l hst D cI cL x a pa pe st bn hc hm (nI cN) (nI rN) lo b pa2 pe2 st2 bn2 hc2 hm2 C2 R2 lo2 o ov v1 v2 hq hr3 _) (vx_cwSW 4 hts gL_law_L_lastLands rfl rfl rfl (by decide +kernel) ⟨Nat.le_of_ble_eq_true rfl, Nat.le_of_ble_eq_true rfl⟩) hP hD hK hN hKX (hZ.now hS hA) hS hA [0, 1, 2, 3, 4, 5, 6, 7, 8, 9, 10, 11, 12, 13, 14, 22] (by decide) rfl [15, 16, 17, 18, 19, 20, 21] (by decide) rfl (by decide) [7, 8, 9, 10, 11, 12, 13, 14, 15, 16, 17, 18, 19, 20, 21, 0, 1, 2, 3, 4, 5, 6, 22] (by decide) (fun _ => rfl) [0, 1] rfl rfl hl.1 rfl (Nat.le_of_ble_eq_true rfl) dL_law_1365 ⟨by omega, by omega⟩ (fun r_6 u_6 H locs hr_6 hP hD hS => ?_)
      subst r_6
      have hP : va_P D vwCl (wX x a b ++ wM cI a pa pe st bn hc hm (nI cN) (nI rN) lo ++ wM cI b pa2 pe2 st2 bn2 hc2 hm2 C2 R2 lo2 ++ wN cI v pt pd ab nw kp wy th (nI cN) (nI rN) tn ++ wL cL o 1 ov) H := hP
      have hD : va_D A (wX x a b ++ wM cI a pa pe st bn hc hm (nI cN) (nI rN) lo ++ wM cI b pa2 pe2 st2 bn2 hc2 hm2 C2 R2 lo2 ++ wN cI v pt pd ab nw kp wy th (nI cN) (nI rN) tn ++ wL cL o 1 ov) := hD
      refine lv_istore (lv' := [(5, .int 2), (4, .int (nI (4 * k))), (3, .ref o), (2, .ref (v 0)), (1, .ref x), (0, .ref b0)]) hx hb dL_law_1368 hl (by decide) rfl (fun ls hl => ?_)
      refine lv_aload_n hx hb dL_law_1370 rfl (lv_at hl 3 rfl) ?_
      refine lv_aload_n hx hb dL_law_1371 rfl (lv_at hl 5 rfl) ?_
      refine lv_iload hx hb dL_law_1372 (lv_at hl 1 rfl) ?_
      refine lv_iconst (v := 1) hx hb dL_law_1374 (by decide) ?_
      refine lv_iadd hx hb dL_law_1375 ?_
      refine va_sld hx hb hX hbl hbA hS (sx_in hL (j := 1) (by omega)) dL_law_1376 ?_
      rw [hv1]
      refine lv_aload_n hx hb dL_law_1377 rfl (lv_at hl 5 rfl) ?_
      refine lv_iload hx hb dL_law_1378 (lv_at hl 1 rfl) ?_
      refine lv_iconst (v := 2) hx hb dL_law_1380 (by decide) ?_
      refine lv_iadd hx hb dL_law_1381 ?_
      refine va_sld hx hb hX hbl hbA hS (sx_in hL (j := 2) (by omega)) dL_law_1382 ?_
      rw [hv2]
      refine kQVi (As := [.int v1, .int v2]) (rest := []) (wr := [(x, .inr (1, [.ref (a 0), .ref (b 0)])), (a 0, .inr (0, [.ref (a 1), .ref (a 2), .ref (a 3), .ref (a 4), .ref (a 5), .ref (a 6), .int (nI cN), .int (nI rN), .int lo])), (a 1, .inl (cI, 72, .inl pa)), (a 2, .inl (cI, 72, .inl pe)), (a 3, .inl (cI, 72, .inl st)), (a 4, .inl (cI, 9, .inl bn)), (a 5, .inl (cI, 2, .inl hc)), (a 6, .inl (cI, 2, .inl hm)), (b 0, .inr (0, [.ref (b 1), .ref (b 2), .ref (b 3), .ref (b 4), .ref (b 5), .ref (b 6), .int C2, .int R2, .int lo2])), (b 1, .inl (cI, 72, .inl pa2)), (b 2, .inl (cI, 72, .inl pe2)), (b 3, .inl (cI, 72, .inl st2)), (b 4, .inl (cI, 9, .inl bn2)), (b 5, .inl (cI, 2, .inl hc2)), (b 6, .inl (cI, 2, .inl hm2)), (o, .inl (cL, 1, .inr (.inl ov)))]) (W2 := (fun _ => (wX x a b ++ wM cI a pa pe st bn hc hm (nI cN) (nI rN) lo ++ wM cI b pa2 pe2 st2 bn2 hc2 hm2 C2 R2 lo2 ++ wN cI v pt pd ab nw kp wy 2 (nI cN) (nI rN) tn ++ wL cL o 1 ov))) ⟨hx, hb, hml, hown, hts⟩ (mX2_lastLands_2 l D cI v pt pd ab nw kp wy th cN rN tn v1 v2 (hR.cT hq) (iT hr3) _) (cwV 2 hts gL_law_X2_lastLands rfl rfl rfl (by decide +kernel) ⟨Nat.le_of_ble_eq_true rfl, Nat.le_of_ble_eq_true rfl⟩) hP hD hK hN hS hA [15, 16, 17, 18, 19, 20, 21] (by decide) rfl [0, 1, 2, 3, 4, 5, 6, 7, 8, 9, 10, 11, 12, 13, 14, 22] (by decide) rfl (by decide) [0, 1, 2, 3, 4, 5, 6, 7, 8, 9, 10, 11, 12, 13, 14, 16, 17, 18, 19, 20, 21, 22, 15] (by decide) (fun _ => rfl) [0] rfl rfl rfl rfl hl.1 rfl (Nat.le_of_ble_eq_true rfl) dL_law_1383 ⟨by omega, by omega⟩ (fun r_7 u_7 H locs hr_7 hP hD hS => ?_)
      subst r_7
      have hP : va_P D vwCl (wX x a b ++ wM cI a pa pe st bn hc hm (nI cN) (nI rN) lo ++ wM cI b pa2 pe2 st2 bn2 hc2 hm2 C2 R2 lo2 ++ wN cI v pt pd ab nw kp wy 2 (nI cN) (nI rN) tn ++ wL cL o 1 ov) H := hP
      have hD : va_D A (wX x a b ++ wM cI a pa pe st bn hc hm (nI cN) (nI rN) lo ++ wM cI b pa2 pe2 st2 bn2 hc2 hm2 C2 R2 lo2 ++ wN cI v pt pd ab nw kp wy 2 (nI cN) (nI rN) tn ++ wL cL o 1 ov) := hD
      refine lv_istore (lv' := [(6, .int 0), (5, .int 2), (4, .int (nI (4 * k))), (3, .ref o), (2, .ref (v 0)), (1, .ref x), (0, .ref b0)]) hx hb dL_law_1386 hl (by decide) rfl (fun ls hl => ?_)
      refine lv_aload_n hx hb dL_law_1388 rfl (lv_at hl 4 rfl) ?_
      refine kRVi (As := []) (rest := []) ⟨hx, hb, hml, hown, hts⟩ (mX2_thrown l D cI v pt pd ab nw kp wy 2 cN rN tn) (cwV 0 hts gL_law_X2_thrown rfl rfl rfl (by decide +kernel) ⟨Nat.le_of_ble_eq_true rfl, Nat.le_of_ble_eq_true rfl⟩) hP hK hN [15, 16, 17, 18, 19, 20, 21] rfl [0] rfl rfl rfl rfl hl.1 rfl (Nat.le_of_ble_eq_true rfl) dL_law_1389 ⟨by omega, by omega⟩ (fun r_8 hr_8 => ?_)
      subst r_8
      refine lv_iload hx hb dL_law_1392 (lv_at hl 1 rfl) ?_
      refine lv_icmp_eq (tgt := 1399) hx hb dL_law_1394 (by decide) (fun _ => ?_) (fun c9 => absurd (by decide) c9)
      refine lv_iload hx hb dL_law_1399 (lv_at hl 1 rfl) ?_
      refine lv_if_ne (tgt := 1416) hx hb dL_law_1401 (by decide) (fun _ => ?_) (fun c9 => absurd c9 (by decide))
      refine lv_goto (tgt := 1599) hx hb dL_law_1416 (by decide) ?_
      refine W.widen (k := cells + 10) (n := slots + 41) (by omega) (by omega) ?_
      exact K cN rN pa pe st bn hc hm lo pa2 pe2 st2 bn2 hc2 hm2 C2 R2 lo2 pt pd ab nw kp wy 2 tn ov _ _ _ hR hP hD hS (lv_sub hl [2, 3, 4, 5, 6] rfl)
  · have hq : xhas (nI cN) v1 = false := Bool.eq_false_iff.mpr hq
    refine lv_aload_n hx hb dL_law_1351 rfl (lv_at hl 3 rfl) ?_
    refine lv_aload_n hx hb dL_law_1352 rfl (lv_at hl 4 rfl) ?_
    refine lv_iload hx hb dL_law_1353 (lv_at hl 0 rfl) ?_
    refine lv_iconst (v := 1) hx hb dL_law_1355 (by decide) ?_
    refine lv_iadd hx hb dL_law_1356 ?_
    refine va_sld hx hb hX hbl hbA hS (sx_in hL (j := 1) (by omega)) dL_law_1357 ?_
    rw [hv1]
    refine lv_aload_n hx hb dL_law_1358 rfl (lv_at hl 4 rfl) ?_
    refine lv_iload hx hb dL_law_1359 (lv_at hl 0 rfl) ?_
    refine lv_iconst (v := 2) hx hb dL_law_1361 (by decide) ?_
    refine lv_iadd hx hb dL_law_1362 ?_
    refine va_sld hx hb hX hbl hbA hS (sx_in hL (j := 2) (by omega)) dL_law_1363 ?_
    rw [hv2]
    refine lv_aload_n hx hb dL_law_1364 rfl (lv_at hl 1 rfl) ?_
    refine kQWi (As := [.ref x, .int v1, .int v2, .ref o]) (rest := []) (wr := [(v 0, .inr (2, [.int th, .int (nI cN), .int (nI rN), .ref (v 1), .ref (v 2), .ref (v 3), .ref (v 4), .ref (v 5), .int tn, .ref (v 6)])), (v 1, .inl (cI, 72, .inl pt)), (v 2, .inl (cI, 72, .inl pd)), (v 3, .inl (cI, 2, .inl ab)), (v 4, .inl (cI, 84, .inl nw)), (v 5, .inl (cI, 84, .inl kp)), (v 6, .inl (cI, 8, .inl wy))]) (W2 := (fun _ => (wX x a b ++ wM cI a pa pe st bn hc hm (nI cN) (nI rN) lo ++ wM cI b pa2 pe2 st2 bn2 hc2 hm2 C2 R2 lo2 ++ wN cI v pt pd ab nw kp wy th (nI cN) (nI rN) tn ++ wL cL o 1 ov))) ⟨hx, hb, hml, hown, hts⟩ (mL_lastLands_c l hst D cI cL x a pa pe st bn hc hm (nI cN) (nI rN) lo b pa2 pe2 st2 bn2 hc2 hm2 C2 R2 lo2 o ov v1 v2 hq _) (vx_cwSW 4 hts gL_law_L_lastLands rfl rfl rfl (by decide +kernel) ⟨Nat.le_of_ble_eq_true rfl, Nat.le_of_ble_eq_true rfl⟩) hP hD hK hN hKX (hZ.now hS hA) hS hA [0, 1, 2, 3, 4, 5, 6, 7, 8, 9, 10, 11, 12, 13, 14, 22] (by decide) rfl [15, 16, 17, 18, 19, 20, 21] (by decide) rfl (by decide) [7, 8, 9, 10, 11, 12, 13, 14, 15, 16, 17, 18, 19, 20, 21, 0, 1, 2, 3, 4, 5, 6, 22] (by decide) (fun _ => rfl) [0, 1] rfl rfl hl.1 rfl (Nat.le_of_ble_eq_true rfl) dL_law_1365 ⟨by omega, by omega⟩ (fun r_10 u_10 H locs hr_10 hP hD hS => ?_)
    subst r_10
    have hP : va_P D vwCl (wX x a b ++ wM cI a pa pe st bn hc hm (nI cN) (nI rN) lo ++ wM cI b pa2 pe2 st2 bn2 hc2 hm2 C2 R2 lo2 ++ wN cI v pt pd ab nw kp wy th (nI cN) (nI rN) tn ++ wL cL o 1 ov) H := hP
    have hD : va_D A (wX x a b ++ wM cI a pa pe st bn hc hm (nI cN) (nI rN) lo ++ wM cI b pa2 pe2 st2 bn2 hc2 hm2 C2 R2 lo2 ++ wN cI v pt pd ab nw kp wy th (nI cN) (nI rN) tn ++ wL cL o 1 ov) := hD
    refine lv_istore (lv' := [(5, .int 1), (4, .int (nI (4 * k))), (3, .ref o), (2, .ref (v 0)), (1, .ref x), (0, .ref b0)]) hx hb dL_law_1368 hl (by decide) rfl (fun ls hl => ?_)
    refine lv_aload_n hx hb dL_law_1370 rfl (lv_at hl 3 rfl) ?_
    refine lv_aload_n hx hb dL_law_1371 rfl (lv_at hl 5 rfl) ?_
    refine lv_iload hx hb dL_law_1372 (lv_at hl 1 rfl) ?_
    refine lv_iconst (v := 1) hx hb dL_law_1374 (by decide) ?_
    refine lv_iadd hx hb dL_law_1375 ?_
    refine va_sld hx hb hX hbl hbA hS (sx_in hL (j := 1) (by omega)) dL_law_1376 ?_
    rw [hv1]
    refine lv_aload_n hx hb dL_law_1377 rfl (lv_at hl 5 rfl) ?_
    refine lv_iload hx hb dL_law_1378 (lv_at hl 1 rfl) ?_
    refine lv_iconst (v := 2) hx hb dL_law_1380 (by decide) ?_
    refine lv_iadd hx hb dL_law_1381 ?_
    refine va_sld hx hb hX hbl hbA hS (sx_in hL (j := 2) (by omega)) dL_law_1382 ?_
    rw [hv2]
    refine kQVi (As := [.int v1, .int v2]) (rest := []) (wr := [(x, .inr (1, [.ref (a 0), .ref (b 0)])), (a 0, .inr (0, [.ref (a 1), .ref (a 2), .ref (a 3), .ref (a 4), .ref (a 5), .ref (a 6), .int (nI cN), .int (nI rN), .int lo])), (a 1, .inl (cI, 72, .inl pa)), (a 2, .inl (cI, 72, .inl pe)), (a 3, .inl (cI, 72, .inl st)), (a 4, .inl (cI, 9, .inl bn)), (a 5, .inl (cI, 2, .inl hc)), (a 6, .inl (cI, 2, .inl hm)), (b 0, .inr (0, [.ref (b 1), .ref (b 2), .ref (b 3), .ref (b 4), .ref (b 5), .ref (b 6), .int C2, .int R2, .int lo2])), (b 1, .inl (cI, 72, .inl pa2)), (b 2, .inl (cI, 72, .inl pe2)), (b 3, .inl (cI, 72, .inl st2)), (b 4, .inl (cI, 9, .inl bn2)), (b 5, .inl (cI, 2, .inl hc2)), (b 6, .inl (cI, 2, .inl hm2)), (o, .inl (cL, 1, .inr (.inl ov)))]) (W2 := (fun _ => (wX x a b ++ wM cI a pa pe st bn hc hm (nI cN) (nI rN) lo ++ wM cI b pa2 pe2 st2 bn2 hc2 hm2 C2 R2 lo2 ++ wN cI v pt pd ab nw kp wy 1 (nI cN) (nI rN) tn ++ wL cL o 1 ov))) ⟨hx, hb, hml, hown, hts⟩ (mX2_lastLands_1 l D cI v pt pd ab nw kp wy th cN rN tn v1 v2 (hR.cF hq) _) (cwV 2 hts gL_law_X2_lastLands rfl rfl rfl (by decide +kernel) ⟨Nat.le_of_ble_eq_true rfl, Nat.le_of_ble_eq_true rfl⟩) hP hD hK hN hS hA [15, 16, 17, 18, 19, 20, 21] (by decide) rfl [0, 1, 2, 3, 4, 5, 6, 7, 8, 9, 10, 11, 12, 13, 14, 22] (by decide) rfl (by decide) [0, 1, 2, 3, 4, 5, 6, 7, 8, 9, 10, 11, 12, 13, 14, 16, 17, 18, 19, 20, 21, 22, 15] (by decide) (fun _ => rfl) [0] rfl rfl rfl rfl hl.1 rfl (Nat.le_of_ble_eq_true rfl) dL_law_1383 ⟨by omega, by omega⟩ (fun r_11 u_11 H locs hr_11 hP hD hS => ?_)
    subst r_11
    have hP : va_P D vwCl (wX x a b ++ wM cI a pa pe st bn hc hm (nI cN) (nI rN) lo ++ wM cI b pa2 pe2 st2 bn2 hc2 hm2 C2 R2 lo2 ++ wN cI v pt pd ab nw kp wy 1 (nI cN) (nI rN) tn ++ wL cL o 1 ov) H := hP
    have hD : va_D A (wX x a b ++ wM cI a pa pe st bn hc hm (nI cN) (nI rN) lo ++ wM cI b pa2 pe2 st2 bn2 hc2 hm2 C2 R2 lo2 ++ wN cI v pt pd ab nw kp wy 1 (nI cN) (nI rN) tn ++ wL cL o 1 ov) := hD
    refine lv_istore (lv' := [(6, .int 0), (5, .int 1), (4, .int (nI (4 * k))), (3, .ref o), (2, .ref (v 0)), (1, .ref x), (0, .ref b0)]) hx hb dL_law_1386 hl (by decide) rfl (fun ls hl => ?_)
    refine lv_aload_n hx hb dL_law_1388 rfl (lv_at hl 4 rfl) ?_
    refine kRVi (As := []) (rest := []) ⟨hx, hb, hml, hown, hts⟩ (mX2_thrown l D cI v pt pd ab nw kp wy 1 cN rN tn) (cwV 0 hts gL_law_X2_thrown rfl rfl rfl (by decide +kernel) ⟨Nat.le_of_ble_eq_true rfl, Nat.le_of_ble_eq_true rfl⟩) hP hK hN [15, 16, 17, 18, 19, 20, 21] rfl [0] rfl rfl rfl rfl hl.1 rfl (Nat.le_of_ble_eq_true rfl) dL_law_1389 ⟨by omega, by omega⟩ (fun r_12 hr_12 => ?_)
    subst r_12
    refine lv_iload hx hb dL_law_1392 (lv_at hl 1 rfl) ?_
    refine lv_icmp_eq (tgt := 1399) hx hb dL_law_1394 (by decide) (fun _ => ?_) (fun c9 => absurd (by decide) c9)
    refine lv_iload hx hb dL_law_1399 (lv_at hl 1 rfl) ?_
    refine lv_if_ne (tgt := 1416) hx hb dL_law_1401 (by decide) (fun _ => ?_) (fun c9 => absurd c9 (by decide))
    refine lv_goto (tgt := 1599) hx hb dL_law_1416 (by decide) ?_
    refine W.widen (k := cells + 10) (n := slots + 41) (by omega) (by omega) ?_
    exact K cN rN pa pe st bn hc hm lo pa2 pe2 st2 bn2 hc2 hm2 C2 R2 lo2 pt pd ab nw kp wy 1 tn ov _ _ _ hR hP hD hS (lv_sub hl [2, 3, 4, 5, 6] rfl)
set_option maxHeartbeats 4000000 in
set_option maxRecDepth 100000 in
theorem cs_7 {p : Program} {l : Launch} {e : Env} {s : State} {m : MethodId} {below : List Frame} {meth : Method} {c : Code} {Q : State → Prop} {D : va_G} {cI cL : ClassId} {x o b0 L k : Nat} {a b v : Nat → Nat} {xs : Nat → Int32} {A : Nat → Prop} {cells slots : Nat} {cN rN : Nat} {pa pe st bn hc hm : Nat → Int32} {lo : Int32} {pa2 pe2 st2 bn2 hc2 hm2 : Nat → Int32} {C2 R2 lo2 : Int32} {pt pd ab nw kp wy : Nat → Int32} {th tn : Int32} {ov : Nat → Int64} {H : Heap} {locs : List Loc} {ls : Array Slot} (F : LF p l s m b0 c D cI cL L xs A) (hR : Rel cN rN pa pe st bn hc hm lo pt pd ab nw) (hk : 4 * k + 3 < L) (h1 : cells + 10 ≤ room_1.cells) (h2 : slots + 41 ≤ room_1.slots) (hP : va_P D vwCl (wX x a b ++ wM cI a pa pe st bn hc hm (nI cN) (nI rN) lo ++ wM cI b pa2 pe2 st2 bn2 hc2 hm2 C2 R2 lo2 ++ wN cI v pt pd ab nw kp wy th (nI cN) (nI rN) tn ++ wL cL o 1 ov) H) (hD : va_D A (wX x a b ++ wM cI a pa pe st bn hc hm (nI cN) (nI rN) lo ++ wM cI b pa2 pe2 st2 bn2 hc2 hm2 C2 R2 lo2 ++ wN cI v pt pd ab nw kp wy th (nI cN) (nI rN) tn ++ wL cL o 1 ov)) (hS : va_S A s.heap H locs) (hl : lv_has ls 9 [(4, .int (nI (4 * k))), (3, .ref o), (2, .ref (v 0)), (1, .ref x), (0, .ref b0)]) (K : LK p l e s m b0 below meth c D cI cL x o k a b v A cells slots Q) : W p l e room_1 s m #[Value.ref b0] below meth c H locs cells slots Q (F0 m 671 ls []) := by
  obtain ⟨hx, hb, hml, hown, hts, hK, hN, hKX, hZ, hA, hX, hbl, hbA, hst, hL⟩ := F
  have hI := hR.inv
  refine lv_aload_n hx hb dL_law_671 rfl (lv_at hl 3 rfl) ?_
  refine kQVi (As := []) (rest := []) (wr := [(b 0, .inr (0, [.ref (b 1), .ref (b 2), .ref (b 3), .ref (b 4), .ref (b 5), .ref (b 6), .int C2, .int R2, .int lo2])), (b 1, .inl (cI, 72, .inl pa2)), (b 2, .inl (cI, 72, .inl pe2)), (b 3, .inl (cI, 72, .inl st2)), (b 4, .inl (cI, 9, .inl bn2)), (b 5, .inl (cI, 2, .inl hc2)), (b 6, .inl (cI, 2, .inl hm2)), (v 0, .inr (2, [.int th, .int (nI cN), .int (nI rN), .ref (v 1), .ref (v 2), .ref (v 3), .ref (v 4), .ref (v 5), .int tn, .ref (v 6)])), (v 1, .inl (cI, 72, .inl pt)), (v 2, .inl (cI, 72, .inl pd)), (v 3, .inl (cI, 2, .inl ab)), (v 4, .inl (cI, 84, .inl nw)), (v 5, .inl (cI, 84, .inl kp)), (v 6, .inl (cI, 8, .inl wy)), (o, .inl (cL, 1, .inr (.inl ov)))]) (W2 := (fun _ => (wX x a b ++ wM cI a pa pe st ((fun _ => 0)) hc hm (nI cN) (nI rN) lo ++ wM cI b pa2 pe2 st2 bn2 hc2 hm2 C2 R2 lo2 ++ wN cI v pt pd ab nw kp wy th (nI cN) (nI rN) tn ++ wL cL o 1 ov))) ⟨hx, hb, hml, hown, hts⟩ (mX1_emptyBins l D cI x b a pa pe st bn hc hm (nI cN) (nI rN) lo _) (cwV 0 hts gL_law_X1_emptyBins rfl rfl rfl (by decide +kernel) ⟨Nat.le_of_ble_eq_true rfl, Nat.le_of_ble_eq_true rfl⟩) hP hD hK hN hS hA [0, 1, 2, 3, 4, 5, 6, 7] (by decide) rfl [8, 9, 10, 11, 12, 13, 14, 15, 16, 17, 18, 19, 20, 21, 22] (by decide) rfl (by decide) [15, 16, 17, 18, 19, 20, 21, 22, 0, 1, 2, 3, 4, 5, 6, 7, 8, 9, 10, 11, 12, 13, 14] (by decide) (fun _ => rfl) [0] rfl rfl rfl rfl hl.1 rfl (Nat.le_of_ble_eq_true rfl) dL_law_672 ⟨by omega, by omega⟩ (fun r_1 u_1 H locs hr_1 hP hD hS => ?_)
  subst r_1
  have hP : va_P D vwCl (wX x a b ++ wM cI a pa pe st ((fun _ => 0)) hc hm (nI cN) (nI rN) lo ++ wM cI b pa2 pe2 st2 bn2 hc2 hm2 C2 R2 lo2 ++ wN cI v pt pd ab nw kp wy th (nI cN) (nI rN) tn ++ wL cL o 1 ov) H := hP
  have hD : va_D A (wX x a b ++ wM cI a pa pe st ((fun _ => 0)) hc hm (nI cN) (nI rN) lo ++ wM cI b pa2 pe2 st2 bn2 hc2 hm2 C2 R2 lo2 ++ wN cI v pt pd ab nw kp wy th (nI cN) (nI rN) tn ++ wL cL o 1 ov) := hD
  refine lv_aload_n hx hb dL_law_675 rfl (lv_at hl 2 rfl) ?_
  refine kQVi (As := []) (rest := [.int (xSum bn)]) (wr := [(x, .inr (1, [.ref (a 0), .ref (b 0)])), (a 0, .inr (0, [.ref (a 1), .ref (a 2), .ref (a 3), .ref (a 4), .ref (a 5), .ref (a 6), .int (nI cN), .int (nI rN), .int lo])), (a 1, .inl (cI, 72, .inl pa)), (a 2, .inl (cI, 72, .inl pe)), (a 3, .inl (cI, 72, .inl st)), (a 4, .inl (cI, 9, .inl (fun _ => 0))), (a 5, .inl (cI, 2, .inl hc)), (a 6, .inl (cI, 2, .inl hm)), (b 0, .inr (0, [.ref (b 1), .ref (b 2), .ref (b 3), .ref (b 4), .ref (b 5), .ref (b 6), .int C2, .int R2, .int lo2])), (b 1, .inl (cI, 72, .inl pa2)), (b 2, .inl (cI, 72, .inl pe2)), (b 3, .inl (cI, 72, .inl st2)), (b 4, .inl (cI, 9, .inl bn2)), (b 5, .inl (cI, 2, .inl hc2)), (b 6, .inl (cI, 2, .inl hm2)), (o, .inl (cL, 1, .inr (.inl ov)))]) (W2 := (fun _ => (wX x a b ++ wM cI a pa pe st ((fun _ => 0)) hc hm (nI cN) (nI rN) lo ++ wM cI b pa2 pe2 st2 bn2 hc2 hm2 C2 R2 lo2 ++ wN cI v pt pd ab ((mE cN nw)) kp wy 0 (nI cN) (nI rN) tn ++ wL cL o 1 ov))) ⟨hx, hb, hml, hown, hts⟩ (mX2_emptyBins_0 l D cI v pt pd ab nw kp wy th cN rN tn hI _) (cwV 0 hts gL_law_X2_emptyBins rfl rfl rfl (by decide +kernel) ⟨Nat.le_of_ble_eq_true rfl, Nat.le_of_ble_eq_true rfl⟩) hP hD hK hN hS hA [15, 16, 17, 18, 19, 20, 21] (by decide) rfl [0, 1, 2, 3, 4, 5, 6, 7, 8, 9, 10, 11, 12, 13, 14, 22] (by decide) rfl (by decide) [0, 1, 2, 3, 4, 5, 6, 7, 8, 9, 10, 11, 12, 13, 14, 16, 17, 18, 19, 20, 21, 22, 15] (by decide) (fun _ => rfl) [0] rfl rfl rfl rfl hl.1 rfl (Nat.le_of_ble_eq_true rfl) dL_law_676 ⟨by omega, by omega⟩ (fun r_2 u_2 H locs hr_2 hP hD hS => ?_)
  subst r_2
  have hP : va_P D vwCl (wX x a b ++ wM cI a pa pe st ((fun _ => 0)) hc hm (nI cN) (nI rN) lo ++ wM cI b pa2 pe2 st2 bn2 hc2 hm2 C2 R2 lo2 ++ wN cI v pt pd ab ((mE cN nw)) kp wy 0 (nI cN) (nI rN) tn ++ wL cL o 1 ov) H := hP
  have hD : va_D A (wX x a b ++ wM cI a pa pe st ((fun _ => 0)) hc hm (nI cN) (nI rN) lo ++ wM cI b pa2 pe2 st2 bn2 hc2 hm2 C2 R2 lo2 ++ wN cI v pt pd ab ((mE cN nw)) kp wy 0 (nI cN) (nI rN) tn ++ wL cL o 1 ov) := hD
  refine lv_icmp_eq (tgt := 1599) hx hb dL_law_679 (by decide) (fun _ => ?_) (fun c9 => absurd hR.sum.symm c9)
  refine W.widen (k := cells + 10) (n := slots + 41) (by omega) (by omega) ?_
  exact K cN rN pa pe st (fun _ => 0) hc hm lo pa2 pe2 st2 bn2 hc2 hm2 C2 R2 lo2 pt pd ab (mE cN nw) kp wy 0 tn ov _ _ _ hR.empty hP hD hS (lv_sub hl [0, 1, 2, 3, 4] rfl)
set_option maxHeartbeats 4000000 in
set_option maxRecDepth 100000 in
theorem cs_8 {p : Program} {l : Launch} {e : Env} {s : State} {m : MethodId} {below : List Frame} {meth : Method} {c : Code} {Q : State → Prop} {D : va_G} {cI cL : ClassId} {x o b0 L k : Nat} {a b v : Nat → Nat} {xs : Nat → Int32} {A : Nat → Prop} {cells slots : Nat} {cN rN : Nat} {pa pe st bn hc hm : Nat → Int32} {lo : Int32} {pa2 pe2 st2 bn2 hc2 hm2 : Nat → Int32} {C2 R2 lo2 : Int32} {pt pd ab nw kp wy : Nat → Int32} {th tn : Int32} {ov : Nat → Int64} {H : Heap} {locs : List Loc} {ls : Array Slot} (F : LF p l s m b0 c D cI cL L xs A) (hR : Rel cN rN pa pe st bn hc hm lo pt pd ab nw) (hk : 4 * k + 3 < L) (h1 : cells + 10 ≤ room_1.cells) (h2 : slots + 41 ≤ room_1.slots) (hP : va_P D vwCl (wX x a b ++ wM cI a pa pe st bn hc hm (nI cN) (nI rN) lo ++ wM cI b pa2 pe2 st2 bn2 hc2 hm2 C2 R2 lo2 ++ wN cI v pt pd ab nw kp wy th (nI cN) (nI rN) tn ++ wL cL o 1 ov) H) (hD : va_D A (wX x a b ++ wM cI a pa pe st bn hc hm (nI cN) (nI rN) lo ++ wM cI b pa2 pe2 st2 bn2 hc2 hm2 C2 R2 lo2 ++ wN cI v pt pd ab nw kp wy th (nI cN) (nI rN) tn ++ wL cL o 1 ov)) (hS : va_S A s.heap H locs) (hl : lv_has ls 9 [(4, .int (nI (4 * k))), (3, .ref o), (2, .ref (v 0)), (1, .ref x), (0, .ref b0)]) (K : LK p l e s m b0 below meth c D cI cL x o k a b v A cells slots Q) : W p l e room_1 s m #[Value.ref b0] below meth c H locs cells slots Q (F0 m 684 ls []) := by
  obtain ⟨hx, hb, hml, hown, hts, hK, hN, hKX, hZ, hA, hX, hbl, hbA, hst, hL⟩ := F
  have hI := hR.inv
  refine lv_aload_n hx hb dL_law_684 rfl (lv_at hl 3 rfl) ?_
  refine kRVi (As := []) (rest := []) ⟨hx, hb, hml, hown, hts⟩ (mX1_columns l D cI x b a pa pe st bn hc hm (nI cN) (nI rN) lo) (cwV 0 hts gL_law_X1_columns rfl rfl rfl (by decide +kernel) ⟨Nat.le_of_ble_eq_true rfl, Nat.le_of_ble_eq_true rfl⟩) hP hK hN [0, 1, 2, 3, 4, 5, 6, 7] rfl [0] rfl rfl rfl rfl hl.1 rfl (Nat.le_of_ble_eq_true rfl) dL_law_685 ⟨by omega, by omega⟩ (fun r_1 hr_1 => ?_)
  subst r_1
  refine lv_aload_n hx hb dL_law_688 rfl (lv_at hl 2 rfl) ?_
  refine kQVi (As := []) (rest := [.int (nI cN)]) (wr := [(x, .inr (1, [.ref (a 0), .ref (b 0)])), (a 0, .inr (0, [.ref (a 1), .ref (a 2), .ref (a 3), .ref (a 4), .ref (a 5), .ref (a 6), .int (nI cN), .int (nI rN), .int lo])), (a 1, .inl (cI, 72, .inl pa)), (a 2, .inl (cI, 72, .inl pe)), (a 3, .inl (cI, 72, .inl st)), (a 4, .inl (cI, 9, .inl bn)), (a 5, .inl (cI, 2, .inl hc)), (a 6, .inl (cI, 2, .inl hm)), (b 0, .inr (0, [.ref (b 1), .ref (b 2), .ref (b 3), .ref (b 4), .ref (b 5), .ref (b 6), .int C2, .int R2, .int lo2])), (b 1, .inl (cI, 72, .inl pa2)), (b 2, .inl (cI, 72, .inl pe2)), (b 3, .inl (cI, 72, .inl st2)), (b 4, .inl (cI, 9, .inl bn2)), (b 5, .inl (cI, 2, .inl hc2)), (b 6, .inl (cI, 2, .inl hm2)), (o, .inl (cL, 1, .inr (.inl ov)))]) (W2 := (fun _ => (wX x a b ++ wM cI a pa pe st bn hc hm (nI cN) (nI rN) lo ++ wM cI b pa2 pe2 st2 bn2 hc2 hm2 C2 R2 lo2 ++ wN cI v pt pd ab nw kp wy 0 (nI cN) (nI rN) tn ++ wL cL o 1 ov))) ⟨hx, hb, hml, hown, hts⟩ (mX2_columns_0 l D cI v pt pd ab nw kp wy th cN rN tn _) (cwV 0 hts gL_law_X2_columns rfl rfl rfl (by decide +kernel) ⟨Nat.le_of_ble_eq_true rfl, Nat.le_of_ble_eq_true rfl⟩) hP hD hK hN hS hA [15, 16, 17, 18, 19, 20, 21] (by decide) rfl [0, 1, 2, 3, 4, 5, 6, 7, 8, 9, 10, 11, 12, 13, 14, 22] (by decide) rfl (by decide) [0, 1, 2, 3, 4, 5, 6, 7, 8, 9, 10, 11, 12, 13, 14, 16, 17, 18, 19, 20, 21, 22, 15] (by decide) (fun _ => rfl) [0] rfl rfl rfl rfl hl.1 rfl (Nat.le_of_ble_eq_true rfl) dL_law_689 ⟨by omega, by omega⟩ (fun r_2 u_2 H locs hr_2 hP hD hS => ?_)
  subst r_2
  have hP : va_P D vwCl (wX x a b ++ wM cI a pa pe st bn hc hm (nI cN) (nI rN) lo ++ wM cI b pa2 pe2 st2 bn2 hc2 hm2 C2 R2 lo2 ++ wN cI v pt pd ab nw kp wy 0 (nI cN) (nI rN) tn ++ wL cL o 1 ov) H := hP
  have hD : va_D A (wX x a b ++ wM cI a pa pe st bn hc hm (nI cN) (nI rN) lo ++ wM cI b pa2 pe2 st2 bn2 hc2 hm2 C2 R2 lo2 ++ wN cI v pt pd ab nw kp wy 0 (nI cN) (nI rN) tn ++ wL cL o 1 ov) := hD
  refine lv_icmp_eq (tgt := 1599) hx hb dL_law_692 (by decide) (fun _ => ?_) (fun c9 => absurd rfl c9)
  refine W.widen (k := cells + 10) (n := slots + 41) (by omega) (by omega) ?_
  exact K cN rN pa pe st bn hc hm lo pa2 pe2 st2 bn2 hc2 hm2 C2 R2 lo2 pt pd ab nw kp wy 0 tn ov _ _ _ hR hP hD hS (lv_sub hl [0, 1, 2, 3, 4] rfl)
set_option maxHeartbeats 4000000 in
set_option maxRecDepth 100000 in
theorem cs_9 {p : Program} {l : Launch} {e : Env} {s : State} {m : MethodId} {below : List Frame} {meth : Method} {c : Code} {Q : State → Prop} {D : va_G} {cI cL : ClassId} {x o b0 L k : Nat} {a b v : Nat → Nat} {xs : Nat → Int32} {A : Nat → Prop} {cells slots : Nat} {cN rN : Nat} {pa pe st bn hc hm : Nat → Int32} {lo : Int32} {pa2 pe2 st2 bn2 hc2 hm2 : Nat → Int32} {C2 R2 lo2 : Int32} {pt pd ab nw kp wy : Nat → Int32} {th tn : Int32} {ov : Nat → Int64} {H : Heap} {locs : List Loc} {ls : Array Slot} (F : LF p l s m b0 c D cI cL L xs A) (hR : Rel cN rN pa pe st bn hc hm lo pt pd ab nw) (hk : 4 * k + 3 < L) (h1 : cells + 10 ≤ room_1.cells) (h2 : slots + 41 ≤ room_1.slots) (hP : va_P D vwCl (wX x a b ++ wM cI a pa pe st bn hc hm (nI cN) (nI rN) lo ++ wM cI b pa2 pe2 st2 bn2 hc2 hm2 C2 R2 lo2 ++ wN cI v pt pd ab nw kp wy th (nI cN) (nI rN) tn ++ wL cL o 1 ov) H) (hD : va_D A (wX x a b ++ wM cI a pa pe st bn hc hm (nI cN) (nI rN) lo ++ wM cI b pa2 pe2 st2 bn2 hc2 hm2 C2 R2 lo2 ++ wN cI v pt pd ab nw kp wy th (nI cN) (nI rN) tn ++ wL cL o 1 ov)) (hS : va_S A s.heap H locs) (hl : lv_has ls 9 [(4, .int (nI (4 * k))), (3, .ref o), (2, .ref (v 0)), (1, .ref x), (0, .ref b0)]) (K : LK p l e s m b0 below meth c D cI cL x o k a b v A cells slots Q) : W p l e room_1 s m #[Value.ref b0] below meth c H locs cells slots Q (F0 m 697 ls []) := by
  obtain ⟨hx, hb, hml, hown, hts, hK, hN, hKX, hZ, hA, hX, hbl, hbA, hst, hL⟩ := F
  have hI := hR.inv
  refine lv_aload_n hx hb dL_law_697 rfl (lv_at hl 3 rfl) ?_
  refine kRVi (As := []) (rest := []) ⟨hx, hb, hml, hown, hts⟩ (mX1_rows l D cI x b a pa pe st bn hc hm (nI cN) (nI rN) lo) (cwV 0 hts gL_law_X1_rows rfl rfl rfl (by decide +kernel) ⟨Nat.le_of_ble_eq_true rfl, Nat.le_of_ble_eq_true rfl⟩) hP hK hN [0, 1, 2, 3, 4, 5, 6, 7] rfl [0] rfl rfl rfl rfl hl.1 rfl (Nat.le_of_ble_eq_true rfl) dL_law_698 ⟨by omega, by omega⟩ (fun r_1 hr_1 => ?_)
  subst r_1
  refine lv_aload_n hx hb dL_law_701 rfl (lv_at hl 2 rfl) ?_
  refine kQVi (As := []) (rest := [.int (nI rN)]) (wr := [(x, .inr (1, [.ref (a 0), .ref (b 0)])), (a 0, .inr (0, [.ref (a 1), .ref (a 2), .ref (a 3), .ref (a 4), .ref (a 5), .ref (a 6), .int (nI cN), .int (nI rN), .int lo])), (a 1, .inl (cI, 72, .inl pa)), (a 2, .inl (cI, 72, .inl pe)), (a 3, .inl (cI, 72, .inl st)), (a 4, .inl (cI, 9, .inl bn)), (a 5, .inl (cI, 2, .inl hc)), (a 6, .inl (cI, 2, .inl hm)), (b 0, .inr (0, [.ref (b 1), .ref (b 2), .ref (b 3), .ref (b 4), .ref (b 5), .ref (b 6), .int C2, .int R2, .int lo2])), (b 1, .inl (cI, 72, .inl pa2)), (b 2, .inl (cI, 72, .inl pe2)), (b 3, .inl (cI, 72, .inl st2)), (b 4, .inl (cI, 9, .inl bn2)), (b 5, .inl (cI, 2, .inl hc2)), (b 6, .inl (cI, 2, .inl hm2)), (o, .inl (cL, 1, .inr (.inl ov)))]) (W2 := (fun _ => (wX x a b ++ wM cI a pa pe st bn hc hm (nI cN) (nI rN) lo ++ wM cI b pa2 pe2 st2 bn2 hc2 hm2 C2 R2 lo2 ++ wN cI v pt pd ab nw kp wy 0 (nI cN) (nI rN) tn ++ wL cL o 1 ov))) ⟨hx, hb, hml, hown, hts⟩ (mX2_rows_0 l D cI v pt pd ab nw kp wy th cN rN tn _) (cwV 0 hts gL_law_X2_rows rfl rfl rfl (by decide +kernel) ⟨Nat.le_of_ble_eq_true rfl, Nat.le_of_ble_eq_true rfl⟩) hP hD hK hN hS hA [15, 16, 17, 18, 19, 20, 21] (by decide) rfl [0, 1, 2, 3, 4, 5, 6, 7, 8, 9, 10, 11, 12, 13, 14, 22] (by decide) rfl (by decide) [0, 1, 2, 3, 4, 5, 6, 7, 8, 9, 10, 11, 12, 13, 14, 16, 17, 18, 19, 20, 21, 22, 15] (by decide) (fun _ => rfl) [0] rfl rfl rfl rfl hl.1 rfl (Nat.le_of_ble_eq_true rfl) dL_law_702 ⟨by omega, by omega⟩ (fun r_2 u_2 H locs hr_2 hP hD hS => ?_)
  subst r_2
  have hP : va_P D vwCl (wX x a b ++ wM cI a pa pe st bn hc hm (nI cN) (nI rN) lo ++ wM cI b pa2 pe2 st2 bn2 hc2 hm2 C2 R2 lo2 ++ wN cI v pt pd ab nw kp wy 0 (nI cN) (nI rN) tn ++ wL cL o 1 ov) H := hP
  have hD : va_D A (wX x a b ++ wM cI a pa pe st bn hc hm (nI cN) (nI rN) lo ++ wM cI b pa2 pe2 st2 bn2 hc2 hm2 C2 R2 lo2 ++ wN cI v pt pd ab nw kp wy 0 (nI cN) (nI rN) tn ++ wL cL o 1 ov) := hD
  refine lv_icmp_eq (tgt := 1599) hx hb dL_law_705 (by decide) (fun _ => ?_) (fun c9 => absurd rfl c9)
  refine W.widen (k := cells + 10) (n := slots + 41) (by omega) (by omega) ?_
  exact K cN rN pa pe st bn hc hm lo pa2 pe2 st2 bn2 hc2 hm2 C2 R2 lo2 pt pd ab nw kp wy 0 tn ov _ _ _ hR hP hD hS (lv_sub hl [0, 1, 2, 3, 4] rfl)
set_option maxHeartbeats 4000000 in
set_option maxRecDepth 100000 in
theorem cs_14 {p : Program} {l : Launch} {e : Env} {s : State} {m : MethodId} {below : List Frame} {meth : Method} {c : Code} {Q : State → Prop} {D : va_G} {cI cL : ClassId} {x o b0 L k : Nat} {a b v : Nat → Nat} {xs : Nat → Int32} {A : Nat → Prop} {cells slots : Nat} {cN rN : Nat} {pa pe st bn hc hm : Nat → Int32} {lo : Int32} {pa2 pe2 st2 bn2 hc2 hm2 : Nat → Int32} {C2 R2 lo2 : Int32} {pt pd ab nw kp wy : Nat → Int32} {th tn : Int32} {ov : Nat → Int64} {H : Heap} {locs : List Loc} {ls : Array Slot} (F : LF p l s m b0 c D cI cL L xs A) (hR : Rel cN rN pa pe st bn hc hm lo pt pd ab nw) (hk : 4 * k + 3 < L) (h1 : cells + 10 ≤ room_1.cells) (h2 : slots + 41 ≤ room_1.slots) (hP : va_P D vwCl (wX x a b ++ wM cI a pa pe st bn hc hm (nI cN) (nI rN) lo ++ wM cI b pa2 pe2 st2 bn2 hc2 hm2 C2 R2 lo2 ++ wN cI v pt pd ab nw kp wy th (nI cN) (nI rN) tn ++ wL cL o 1 ov) H) (hD : va_D A (wX x a b ++ wM cI a pa pe st bn hc hm (nI cN) (nI rN) lo ++ wM cI b pa2 pe2 st2 bn2 hc2 hm2 C2 R2 lo2 ++ wN cI v pt pd ab nw kp wy th (nI cN) (nI rN) tn ++ wL cL o 1 ov)) (hS : va_S A s.heap H locs) (hl : lv_has ls 9 [(4, .int (nI (4 * k))), (3, .ref o), (2, .ref (v 0)), (1, .ref x), (0, .ref b0)]) (K : LK p l e s m b0 below meth c D cI cL x o k a b v A cells slots Q) : W p l e room_1 s m #[Value.ref b0] below meth c H locs cells slots Q (F0 m 977 ls []) := by
  obtain ⟨hx, hb, hml, hown, hts, hK, hN, hKX, hZ, hA, hX, hbl, hbA, hst, hL⟩ := F
  have hI := hR.inv
  refine lv_aload_n hx hb dL_law_977 rfl (lv_at hl 3 rfl) ?_
  refine kRVi (As := []) (rest := []) ⟨hx, hb, hml, hown, hts⟩ (mX1_lost l D cI x b a pa pe st bn hc hm (nI cN) (nI rN) lo) (cwV 0 hts gL_law_X1_lost rfl rfl rfl (by decide +kernel) ⟨Nat.le_of_ble_eq_true rfl, Nat.le_of_ble_eq_true rfl⟩) hP hK hN [0, 1, 2, 3, 4, 5, 6, 7] rfl [0] rfl rfl rfl rfl hl.1 rfl (Nat.le_of_ble_eq_true rfl) dL_law_978 ⟨by omega, by omega⟩ (fun r_1 hr_1 => ?_)
  subst r_1
  refine lv_aload_n hx hb dL_law_981 rfl (lv_at hl 2 rfl) ?_
  refine kQVi (As := []) (rest := [.int lo]) (wr := [(x, .inr (1, [.ref (a 0), .ref (b 0)])), (a 0, .inr (0, [.ref (a 1), .ref (a 2), .ref (a 3), .ref (a 4), .ref (a 5), .ref (a 6), .int (nI cN), .int (nI rN), .int lo])), (a 1, .inl (cI, 72, .inl pa)), (a 2, .inl (cI, 72, .inl pe)), (a 3, .inl (cI, 72, .inl st)), (a 4, .inl (cI, 9, .inl bn)), (a 5, .inl (cI, 2, .inl hc)), (a 6, .inl (cI, 2, .inl hm)), (b 0, .inr (0, [.ref (b 1), .ref (b 2), .ref (b 3), .ref (b 4), .ref (b 5), .ref (b 6), .int C2, .int R2, .int lo2])), (b 1, .inl (cI, 72, .inl pa2)), (b 2, .inl (cI, 72, .inl pe2)), (b 3, .inl (cI, 72, .inl st2)), (b 4, .inl (cI, 9, .inl bn2)), (b 5, .inl (cI, 2, .inl hc2)), (b 6, .inl (cI, 2, .inl hm2)), (o, .inl (cL, 1, .inr (.inl ov)))]) (W2 := (fun _ => (wX x a b ++ wM cI a pa pe st bn hc hm (nI cN) (nI rN) lo ++ wM cI b pa2 pe2 st2 bn2 hc2 hm2 C2 R2 lo2 ++ wN cI v pt pd ab nw kp wy 0 (nI cN) (nI rN) tn ++ wL cL o 1 ov))) ⟨hx, hb, hml, hown, hts⟩ (mX2_lost_0 l D cI v pt pd ab nw kp wy th cN rN tn _) (cwV 0 hts gL_law_X2_lost rfl rfl rfl (by decide +kernel) ⟨Nat.le_of_ble_eq_true rfl, Nat.le_of_ble_eq_true rfl⟩) hP hD hK hN hS hA [15, 16, 17, 18, 19, 20, 21] (by decide) rfl [0, 1, 2, 3, 4, 5, 6, 7, 8, 9, 10, 11, 12, 13, 14, 22] (by decide) rfl (by decide) [0, 1, 2, 3, 4, 5, 6, 7, 8, 9, 10, 11, 12, 13, 14, 16, 17, 18, 19, 20, 21, 22, 15] (by decide) (fun _ => rfl) [0] rfl rfl rfl rfl hl.1 rfl (Nat.le_of_ble_eq_true rfl) dL_law_982 ⟨by omega, by omega⟩ (fun r_2 u_2 H locs hr_2 hP hD hS => ?_)
  subst r_2
  have hP : va_P D vwCl (wX x a b ++ wM cI a pa pe st bn hc hm (nI cN) (nI rN) lo ++ wM cI b pa2 pe2 st2 bn2 hc2 hm2 C2 R2 lo2 ++ wN cI v pt pd ab nw kp wy 0 (nI cN) (nI rN) tn ++ wL cL o 1 ov) H := hP
  have hD : va_D A (wX x a b ++ wM cI a pa pe st bn hc hm (nI cN) (nI rN) lo ++ wM cI b pa2 pe2 st2 bn2 hc2 hm2 C2 R2 lo2 ++ wN cI v pt pd ab nw kp wy 0 (nI cN) (nI rN) tn ++ wL cL o 1 ov) := hD
  refine lv_icmp_eq (tgt := 1599) hx hb dL_law_985 (by decide) (fun _ => ?_) (fun c9 => absurd hR.tl.2.2.1 c9)
  refine W.widen (k := cells + 10) (n := slots + 41) (by omega) (by omega) ?_
  exact K cN rN pa pe st bn hc hm lo pa2 pe2 st2 bn2 hc2 hm2 C2 R2 lo2 pt pd ab nw kp wy 0 tn ov _ _ _ hR hP hD hS (lv_sub hl [0, 1, 2, 3, 4] rfl)
set_option maxHeartbeats 4000000 in
set_option maxRecDepth 100000 in
theorem cs_17 {p : Program} {l : Launch} {e : Env} {s : State} {m : MethodId} {below : List Frame} {meth : Method} {c : Code} {Q : State → Prop} {D : va_G} {cI cL : ClassId} {x o b0 L k : Nat} {a b v : Nat → Nat} {xs : Nat → Int32} {A : Nat → Prop} {cells slots : Nat} {cN rN : Nat} {pa pe st bn hc hm : Nat → Int32} {lo : Int32} {pa2 pe2 st2 bn2 hc2 hm2 : Nat → Int32} {C2 R2 lo2 : Int32} {pt pd ab nw kp wy : Nat → Int32} {th tn : Int32} {ov : Nat → Int64} {H : Heap} {locs : List Loc} {ls : Array Slot} (F : LF p l s m b0 c D cI cL L xs A) (hR : Rel cN rN pa pe st bn hc hm lo pt pd ab nw) (hk : 4 * k + 3 < L) (h1 : cells + 10 ≤ room_1.cells) (h2 : slots + 41 ≤ room_1.slots) (hP : va_P D vwCl (wX x a b ++ wM cI a pa pe st bn hc hm (nI cN) (nI rN) lo ++ wM cI b pa2 pe2 st2 bn2 hc2 hm2 C2 R2 lo2 ++ wN cI v pt pd ab nw kp wy th (nI cN) (nI rN) tn ++ wL cL o 1 ov) H) (hD : va_D A (wX x a b ++ wM cI a pa pe st bn hc hm (nI cN) (nI rN) lo ++ wM cI b pa2 pe2 st2 bn2 hc2 hm2 C2 R2 lo2 ++ wN cI v pt pd ab nw kp wy th (nI cN) (nI rN) tn ++ wL cL o 1 ov)) (hS : va_S A s.heap H locs) (hl : lv_has ls 9 [(4, .int (nI (4 * k))), (3, .ref o), (2, .ref (v 0)), (1, .ref x), (0, .ref b0)]) (K : LK p l e s m b0 below meth c D cI cL x o k a b v A cells slots Q) : W p l e room_1 s m #[Value.ref b0] below meth c H locs cells slots Q (F0 m 1102 ls []) := by
  obtain ⟨hx, hb, hml, hown, hts, hK, hN, hKX, hZ, hA, hX, hbl, hbA, hst, hL⟩ := F
  have hI := hR.inv
  refine lv_aload_n hx hb dL_law_1102 rfl (lv_at hl 3 rfl) ?_
  refine kRVi (As := []) (rest := []) ⟨hx, hb, hml, hown, hts⟩ (mX1_toggles l D cI x b a pa pe st bn hc hm (nI cN) (nI rN) lo) (cwV 0 hts gL_law_X1_toggles rfl rfl rfl (by decide +kernel) ⟨Nat.le_of_ble_eq_true rfl, Nat.le_of_ble_eq_true rfl⟩) hP hK hN [0, 1, 2, 3, 4, 5, 6, 7] rfl [0] rfl rfl rfl rfl hl.1 rfl (Nat.le_of_ble_eq_true rfl) dL_law_1103 ⟨by omega, by omega⟩ (fun r_1 hr_1 => ?_)
  subst r_1
  refine lv_aload_n hx hb dL_law_1106 rfl (lv_at hl 2 rfl) ?_
  refine kQVi (As := []) (rest := [.int (xTog pa)]) (wr := [(x, .inr (1, [.ref (a 0), .ref (b 0)])), (a 0, .inr (0, [.ref (a 1), .ref (a 2), .ref (a 3), .ref (a 4), .ref (a 5), .ref (a 6), .int (nI cN), .int (nI rN), .int lo])), (a 1, .inl (cI, 72, .inl pa)), (a 2, .inl (cI, 72, .inl pe)), (a 3, .inl (cI, 72, .inl st)), (a 4, .inl (cI, 9, .inl bn)), (a 5, .inl (cI, 2, .inl hc)), (a 6, .inl (cI, 2, .inl hm)), (b 0, .inr (0, [.ref (b 1), .ref (b 2), .ref (b 3), .ref (b 4), .ref (b 5), .ref (b 6), .int C2, .int R2, .int lo2])), (b 1, .inl (cI, 72, .inl pa2)), (b 2, .inl (cI, 72, .inl pe2)), (b 3, .inl (cI, 72, .inl st2)), (b 4, .inl (cI, 9, .inl bn2)), (b 5, .inl (cI, 2, .inl hc2)), (b 6, .inl (cI, 2, .inl hm2)), (o, .inl (cL, 1, .inr (.inl ov)))]) (W2 := (fun _ => (wX x a b ++ wM cI a pa pe st bn hc hm (nI cN) (nI rN) lo ++ wM cI b pa2 pe2 st2 bn2 hc2 hm2 C2 R2 lo2 ++ wN cI v pt pd ab nw kp wy 0 (nI cN) (nI rN) tn ++ wL cL o 1 ov))) ⟨hx, hb, hml, hown, hts⟩ (mX2_toggles_0 l D cI v pt pd ab nw kp wy th cN rN tn _) (cwV 0 hts gL_law_X2_toggles rfl rfl rfl (by decide +kernel) ⟨Nat.le_of_ble_eq_true rfl, Nat.le_of_ble_eq_true rfl⟩) hP hD hK hN hS hA [15, 16, 17, 18, 19, 20, 21] (by decide) rfl [0, 1, 2, 3, 4, 5, 6, 7, 8, 9, 10, 11, 12, 13, 14, 22] (by decide) rfl (by decide) [0, 1, 2, 3, 4, 5, 6, 7, 8, 9, 10, 11, 12, 13, 14, 16, 17, 18, 19, 20, 21, 22, 15] (by decide) (fun _ => rfl) [0] rfl rfl rfl rfl hl.1 rfl (Nat.le_of_ble_eq_true rfl) dL_law_1107 ⟨by omega, by omega⟩ (fun r_2 u_2 H locs hr_2 hP hD hS => ?_)
  subst r_2
  have hP : va_P D vwCl (wX x a b ++ wM cI a pa pe st bn hc hm (nI cN) (nI rN) lo ++ wM cI b pa2 pe2 st2 bn2 hc2 hm2 C2 R2 lo2 ++ wN cI v pt pd ab nw kp wy 0 (nI cN) (nI rN) tn ++ wL cL o 1 ov) H := hP
  have hD : va_D A (wX x a b ++ wM cI a pa pe st bn hc hm (nI cN) (nI rN) lo ++ wM cI b pa2 pe2 st2 bn2 hc2 hm2 C2 R2 lo2 ++ wN cI v pt pd ab nw kp wy 0 (nI cN) (nI rN) tn ++ wL cL o 1 ov) := hD
  refine lv_icmp_eq (tgt := 1599) hx hb dL_law_1110 (by decide) (fun _ => ?_) (fun c9 => absurd hR.tog.symm c9)
  refine W.widen (k := cells + 10) (n := slots + 41) (by omega) (by omega) ?_
  exact K cN rN pa pe st bn hc hm lo pa2 pe2 st2 bn2 hc2 hm2 C2 R2 lo2 pt pd ab nw kp wy 0 tn ov _ _ _ hR hP hD hS (lv_sub hl [0, 1, 2, 3, 4] rfl)
set_option maxHeartbeats 4000000 in
set_option maxRecDepth 100000 in
theorem cs_25 {p : Program} {l : Launch} {e : Env} {s : State} {m : MethodId} {below : List Frame} {meth : Method} {c : Code} {Q : State → Prop} {D : va_G} {cI cL : ClassId} {x o b0 L k : Nat} {a b v : Nat → Nat} {xs : Nat → Int32} {A : Nat → Prop} {cells slots : Nat} {cN rN : Nat} {pa pe st bn hc hm : Nat → Int32} {lo : Int32} {pa2 pe2 st2 bn2 hc2 hm2 : Nat → Int32} {C2 R2 lo2 : Int32} {pt pd ab nw kp wy : Nat → Int32} {th tn : Int32} {ov : Nat → Int64} {H : Heap} {locs : List Loc} {ls : Array Slot} (F : LF p l s m b0 c D cI cL L xs A) (hR : Rel cN rN pa pe st bn hc hm lo pt pd ab nw) (hk : 4 * k + 3 < L) (h1 : cells + 10 ≤ room_1.cells) (h2 : slots + 41 ≤ room_1.slots) (hP : va_P D vwCl (wX x a b ++ wM cI a pa pe st bn hc hm (nI cN) (nI rN) lo ++ wM cI b pa2 pe2 st2 bn2 hc2 hm2 C2 R2 lo2 ++ wN cI v pt pd ab nw kp wy th (nI cN) (nI rN) tn ++ wL cL o 1 ov) H) (hD : va_D A (wX x a b ++ wM cI a pa pe st bn hc hm (nI cN) (nI rN) lo ++ wM cI b pa2 pe2 st2 bn2 hc2 hm2 C2 R2 lo2 ++ wN cI v pt pd ab nw kp wy th (nI cN) (nI rN) tn ++ wL cL o 1 ov)) (hS : va_S A s.heap H locs) (hl : lv_has ls 9 [(4, .int (nI (4 * k))), (3, .ref o), (2, .ref (v 0)), (1, .ref x), (0, .ref b0)]) (K : LK p l e s m b0 below meth c D cI cL x o k a b v A cells slots Q) : W p l e room_1 s m #[Value.ref b0] below meth c H locs cells slots Q (F0 m 1531 ls []) := by
  obtain ⟨hx, hb, hml, hown, hts, hK, hN, hKX, hZ, hA, hX, hbl, hbA, hst, hL⟩ := F
  have hI := hR.inv
  refine lv_aload_n hx hb dL_law_1531 rfl (lv_at hl 3 rfl) ?_
  refine kQVi (As := []) (rest := []) (wr := [(v 0, .inr (2, [.int th, .int (nI cN), .int (nI rN), .ref (v 1), .ref (v 2), .ref (v 3), .ref (v 4), .ref (v 5), .int tn, .ref (v 6)])), (v 1, .inl (cI, 72, .inl pt)), (v 2, .inl (cI, 72, .inl pd)), (v 3, .inl (cI, 2, .inl ab)), (v 4, .inl (cI, 84, .inl nw)), (v 5, .inl (cI, 84, .inl kp)), (v 6, .inl (cI, 8, .inl wy)), (o, .inl (cL, 1, .inr (.inl ov)))]) (W2 := (fun u : MS => (wX x a b ++ wM cI a pa pe st bn hc hm (nI cN) (nI rN) lo ++ wM cI b u.1 u.2.1 u.2.2.1 u.2.2.2.1 u.2.2.2.2.1 u.2.2.2.2.2.1 u.2.2.2.2.2.2.1 u.2.2.2.2.2.2.2.1 u.2.2.2.2.2.2.2.2 ++ wN cI v pt pd ab nw kp wy th (nI cN) (nI rN) tn ++ wL cL o 1 ov))) ⟨hx, hb, hml, hown, hts⟩ (mX1_bestColumn l D cI x a pa pe st bn hc hm (nI cN) (nI rN) lo b pa2 pe2 st2 bn2 hc2 hm2 C2 R2 lo2 _) (cwV 0 hts gL_law_X1_bestColumn rfl rfl rfl (by decide +kernel) ⟨Nat.le_of_ble_eq_true rfl, Nat.le_of_ble_eq_true rfl⟩) hP hD hK hN hS hA [0, 1, 2, 3, 4, 5, 6, 7, 8, 9, 10, 11, 12, 13, 14] (by decide) rfl [15, 16, 17, 18, 19, 20, 21, 22] (by decide) rfl (by decide) [8, 9, 10, 11, 12, 13, 14, 15, 16, 17, 18, 19, 20, 21, 22, 0, 1, 2, 3, 4, 5, 6, 7] (by decide) (fun _ => rfl) [0] rfl rfl rfl rfl hl.1 rfl (Nat.le_of_ble_eq_true rfl) dL_law_1532 ⟨by omega, by omega⟩ (fun r_1 u_1 H locs hr_1 hP hD hS => ?_)
  subst r_1
  have hP : va_P D vwCl (wX x a b ++ wM cI a pa pe st bn hc hm (nI cN) (nI rN) lo ++ wM cI b u_1.1 u_1.2.1 u_1.2.2.1 u_1.2.2.2.1 u_1.2.2.2.2.1 u_1.2.2.2.2.2.1 u_1.2.2.2.2.2.2.1 u_1.2.2.2.2.2.2.2.1 u_1.2.2.2.2.2.2.2.2 ++ wN cI v pt pd ab nw kp wy th (nI cN) (nI rN) tn ++ wL cL o 1 ov) H := hP
  have hD : va_D A (wX x a b ++ wM cI a pa pe st bn hc hm (nI cN) (nI rN) lo ++ wM cI b u_1.1 u_1.2.1 u_1.2.2.1 u_1.2.2.2.1 u_1.2.2.2.2.1 u_1.2.2.2.2.2.1 u_1.2.2.2.2.2.2.1 u_1.2.2.2.2.2.2.2.1 u_1.2.2.2.2.2.2.2.2 ++ wN cI v pt pd ab nw kp wy th (nI cN) (nI rN) tn ++ wL cL o 1 ov) := hD
  refine lv_aload_n hx hb dL_law_1535 rfl (lv_at hl 2 rfl) ?_
  refine kQVi (As := []) (rest := [.int (xBest pa pe st (nI cN) (nI rN))]) (wr := [(x, .inr (1, [.ref (a 0), .ref (b 0)])), (a 0, .inr (0, [.ref (a 1), .ref (a 2), .ref (a 3), .ref (a 4), .ref (a 5), .ref (a 6), .int (nI cN), .int (nI rN), .int lo])), (a 1, .inl (cI, 72, .inl pa)), (a 2, .inl (cI, 72, .inl pe)), (a 3, .inl (cI, 72, .inl st)), (a 4, .inl (cI, 9, .inl bn)), (a 5, .inl (cI, 2, .inl hc)), (a 6, .inl (cI, 2, .inl hm)), (b 0, .inr (0, [.ref (b 1), .ref (b 2), .ref (b 3), .ref (b 4), .ref (b 5), .ref (b 6), .int u_1.2.2.2.2.2.2.1, .int u_1.2.2.2.2.2.2.2.1, .int u_1.2.2.2.2.2.2.2.2])), (b 1, .inl (cI, 72, .inl u_1.1)), (b 2, .inl (cI, 72, .inl u_1.2.1)), (b 3, .inl (cI, 72, .inl u_1.2.2.1)), (b 4, .inl (cI, 9, .inl u_1.2.2.2.1)), (b 5, .inl (cI, 2, .inl u_1.2.2.2.2.1)), (b 6, .inl (cI, 2, .inl u_1.2.2.2.2.2.1)), (o, .inl (cL, 1, .inr (.inl ov)))]) (W2 := (fun u : MJ => (wX x a b ++ wM cI a pa pe st bn hc hm (nI cN) (nI rN) lo ++ wM cI b u_1.1 u_1.2.1 u_1.2.2.1 u_1.2.2.2.1 u_1.2.2.2.2.1 u_1.2.2.2.2.2.1 u_1.2.2.2.2.2.2.1 u_1.2.2.2.2.2.2.2.1 u_1.2.2.2.2.2.2.2.2 ++ wN cI v pt pd ab nw u.1 u.2.1 0 (nI cN) (nI rN) u.2.2 ++ wL cL o 1 ov))) ⟨hx, hb, hml, hown, hts⟩ (mX2_bestColumn_0 l D cI v pt pd ab nw kp wy th cN rN tn hI _) (cwV 0 hts gL_law_X2_bestColumn rfl rfl rfl (by decide +kernel) ⟨Nat.le_of_ble_eq_true rfl, Nat.le_of_ble_eq_true rfl⟩) hP hD hK hN hS hA [15, 16, 17, 18, 19, 20, 21] (by decide) rfl [0, 1, 2, 3, 4, 5, 6, 7, 8, 9, 10, 11, 12, 13, 14, 22] (by decide) rfl (by decide) [0, 1, 2, 3, 4, 5, 6, 7, 8, 9, 10, 11, 12, 13, 14, 16, 17, 18, 19, 20, 21, 22, 15] (by decide) (fun _ => rfl) [0] rfl rfl rfl rfl hl.1 rfl (Nat.le_of_ble_eq_true rfl) dL_law_1536 ⟨by omega, by omega⟩ (fun r_2 u_2 H locs hr_2 hP hD hS => ?_)
  subst r_2
  have hP : va_P D vwCl (wX x a b ++ wM cI a pa pe st bn hc hm (nI cN) (nI rN) lo ++ wM cI b u_1.1 u_1.2.1 u_1.2.2.1 u_1.2.2.2.1 u_1.2.2.2.2.1 u_1.2.2.2.2.2.1 u_1.2.2.2.2.2.2.1 u_1.2.2.2.2.2.2.2.1 u_1.2.2.2.2.2.2.2.2 ++ wN cI v pt pd ab nw u_2.1 u_2.2.1 0 (nI cN) (nI rN) u_2.2.2 ++ wL cL o 1 ov) H := hP
  have hD : va_D A (wX x a b ++ wM cI a pa pe st bn hc hm (nI cN) (nI rN) lo ++ wM cI b u_1.1 u_1.2.1 u_1.2.2.1 u_1.2.2.2.1 u_1.2.2.2.2.1 u_1.2.2.2.2.2.1 u_1.2.2.2.2.2.2.1 u_1.2.2.2.2.2.2.2.1 u_1.2.2.2.2.2.2.2.2 ++ wN cI v pt pd ab nw u_2.1 u_2.2.1 0 (nI cN) (nI rN) u_2.2.2 ++ wL cL o 1 ov) := hD
  refine lv_icmp_eq (tgt := 1599) hx hb dL_law_1539 (by decide) (fun _ => ?_) (fun c9 => absurd hR.best.symm c9)
  refine W.widen (k := cells + 10) (n := slots + 41) (by omega) (by omega) ?_
  exact K cN rN pa pe st bn hc hm lo u_1.1 u_1.2.1 u_1.2.2.1 u_1.2.2.2.1 u_1.2.2.2.2.1 u_1.2.2.2.2.2.1 u_1.2.2.2.2.2.2.1 u_1.2.2.2.2.2.2.2.1 u_1.2.2.2.2.2.2.2.2 pt pd ab nw u_2.1 u_2.2.1 0 u_2.2.2 ov _ _ _ hR hP hD hS (lv_sub hl [0, 1, 2, 3, 4] rfl)
set_option maxHeartbeats 4000000 in
set_option maxRecDepth 100000 in
theorem cs_27 {p : Program} {l : Launch} {e : Env} {s : State} {m : MethodId} {below : List Frame} {meth : Method} {c : Code} {Q : State → Prop} {D : va_G} {cI cL : ClassId} {x o b0 L k : Nat} {a b v : Nat → Nat} {xs : Nat → Int32} {A : Nat → Prop} {cells slots : Nat} {cN rN : Nat} {pa pe st bn hc hm : Nat → Int32} {lo : Int32} {pa2 pe2 st2 bn2 hc2 hm2 : Nat → Int32} {C2 R2 lo2 : Int32} {pt pd ab nw kp wy : Nat → Int32} {th tn : Int32} {ov : Nat → Int64} {H : Heap} {locs : List Loc} {ls : Array Slot} (F : LF p l s m b0 c D cI cL L xs A) (hR : Rel cN rN pa pe st bn hc hm lo pt pd ab nw) (hk : 4 * k + 3 < L) (h1 : cells + 10 ≤ room_1.cells) (h2 : slots + 41 ≤ room_1.slots) (hP : va_P D vwCl (wX x a b ++ wM cI a pa pe st bn hc hm (nI cN) (nI rN) lo ++ wM cI b pa2 pe2 st2 bn2 hc2 hm2 C2 R2 lo2 ++ wN cI v pt pd ab nw kp wy th (nI cN) (nI rN) tn ++ wL cL o 1 ov) H) (hD : va_D A (wX x a b ++ wM cI a pa pe st bn hc hm (nI cN) (nI rN) lo ++ wM cI b pa2 pe2 st2 bn2 hc2 hm2 C2 R2 lo2 ++ wN cI v pt pd ab nw kp wy th (nI cN) (nI rN) tn ++ wL cL o 1 ov)) (hS : va_S A s.heap H locs) (hl : lv_has ls 9 [(4, .int (nI (4 * k))), (3, .ref o), (2, .ref (v 0)), (1, .ref x), (0, .ref b0)]) (K : LK p l e s m b0 below meth c D cI cL x o k a b v A cells slots Q) : W p l e room_1 s m #[Value.ref b0] below meth c H locs cells slots Q (F0 m 1585 ls []) := by
  obtain ⟨hx, hb, hml, hown, hts, hK, hN, hKX, hZ, hA, hX, hbl, hbA, hst, hL⟩ := F
  have hI := hR.inv
  refine lv_aload_n hx hb dL_law_1585 rfl (lv_at hl 3 rfl) ?_
  refine kQVl (As := []) (rest := []) (wr := [(v 0, .inr (2, [.int th, .int (nI cN), .int (nI rN), .ref (v 1), .ref (v 2), .ref (v 3), .ref (v 4), .ref (v 5), .int tn, .ref (v 6)])), (v 1, .inl (cI, 72, .inl pt)), (v 2, .inl (cI, 72, .inl pd)), (v 3, .inl (cI, 2, .inl ab)), (v 4, .inl (cI, 84, .inl nw)), (v 5, .inl (cI, 84, .inl kp)), (v 6, .inl (cI, 8, .inl wy)), (o, .inl (cL, 1, .inr (.inl ov)))]) (W2 := (fun u : MS => (wX x a b ++ wM cI a pa pe st bn hc hm (nI cN) (nI rN) lo ++ wM cI b u.1 u.2.1 u.2.2.1 u.2.2.2.1 u.2.2.2.2.1 u.2.2.2.2.2.1 u.2.2.2.2.2.2.1 u.2.2.2.2.2.2.2.1 u.2.2.2.2.2.2.2.2 ++ wN cI v pt pd ab nw kp wy th (nI cN) (nI rN) tn ++ wL cL o 1 ov))) ⟨hx, hb, hml, hown, hts⟩ (mX1_digest l D cI x a pa pe st bn hc hm (nI cN) (nI rN) lo b pa2 pe2 st2 bn2 hc2 hm2 C2 R2 lo2 _) (cwV 0 hts gL_law_X1_digest rfl rfl rfl (by decide +kernel) ⟨Nat.le_of_ble_eq_true rfl, Nat.le_of_ble_eq_true rfl⟩) hP hD hK hN hS hA [0, 1, 2, 3, 4, 5, 6, 7, 8, 9, 10, 11, 12, 13, 14] (by decide) rfl [15, 16, 17, 18, 19, 20, 21, 22] (by decide) rfl (by decide) [8, 9, 10, 11, 12, 13, 14, 15, 16, 17, 18, 19, 20, 21, 22, 0, 1, 2, 3, 4, 5, 6, 7] (by decide) (fun _ => rfl) [0] rfl rfl rfl rfl hl.1 rfl (Nat.le_of_ble_eq_true rfl) dL_law_1586 ⟨by omega, by omega⟩ (fun r_1 u_1 H locs hr_1 hP hD hS => ?_)
  subst r_1
  have hP : va_P D vwCl (wX x a b ++ wM cI a pa pe st bn hc hm (nI cN) (nI rN) lo ++ wM cI b u_1.1 u_1.2.1 u_1.2.2.1 u_1.2.2.2.1 u_1.2.2.2.2.1 u_1.2.2.2.2.2.1 u_1.2.2.2.2.2.2.1 u_1.2.2.2.2.2.2.2.1 u_1.2.2.2.2.2.2.2.2 ++ wN cI v pt pd ab nw kp wy th (nI cN) (nI rN) tn ++ wL cL o 1 ov) H := hP
  have hD : va_D A (wX x a b ++ wM cI a pa pe st bn hc hm (nI cN) (nI rN) lo ++ wM cI b u_1.1 u_1.2.1 u_1.2.2.1 u_1.2.2.2.1 u_1.2.2.2.2.1 u_1.2.2.2.2.2.1 u_1.2.2.2.2.2.2.1 u_1.2.2.2.2.2.2.2.1 u_1.2.2.2.2.2.2.2.2 ++ wN cI v pt pd ab nw kp wy th (nI cN) (nI rN) tn ++ wL cL o 1 ov) := hD
  refine lv_aload_n hx hb dL_law_1589 rfl (lv_at hl 2 rfl) ?_
  refine kQVl (As := []) (rest := [.long (xDig pa pe st bn hc hm (nI cN) (nI rN) lo)]) (wr := [(x, .inr (1, [.ref (a 0), .ref (b 0)])), (a 0, .inr (0, [.ref (a 1), .ref (a 2), .ref (a 3), .ref (a 4), .ref (a 5), .ref (a 6), .int (nI cN), .int (nI rN), .int lo])), (a 1, .inl (cI, 72, .inl pa)), (a 2, .inl (cI, 72, .inl pe)), (a 3, .inl (cI, 72, .inl st)), (a 4, .inl (cI, 9, .inl bn)), (a 5, .inl (cI, 2, .inl hc)), (a 6, .inl (cI, 2, .inl hm)), (b 0, .inr (0, [.ref (b 1), .ref (b 2), .ref (b 3), .ref (b 4), .ref (b 5), .ref (b 6), .int u_1.2.2.2.2.2.2.1, .int u_1.2.2.2.2.2.2.2.1, .int u_1.2.2.2.2.2.2.2.2])), (b 1, .inl (cI, 72, .inl u_1.1)), (b 2, .inl (cI, 72, .inl u_1.2.1)), (b 3, .inl (cI, 72, .inl u_1.2.2.1)), (b 4, .inl (cI, 9, .inl u_1.2.2.2.1)), (b 5, .inl (cI, 2, .inl u_1.2.2.2.2.1)), (b 6, .inl (cI, 2, .inl u_1.2.2.2.2.2.1)), (o, .inl (cL, 1, .inr (.inl ov)))]) (W2 := (fun u : MJ => (wX x a b ++ wM cI a pa pe st bn hc hm (nI cN) (nI rN) lo ++ wM cI b u_1.1 u_1.2.1 u_1.2.2.1 u_1.2.2.2.1 u_1.2.2.2.2.1 u_1.2.2.2.2.2.1 u_1.2.2.2.2.2.2.1 u_1.2.2.2.2.2.2.2.1 u_1.2.2.2.2.2.2.2.2 ++ wN cI v pt pd ab nw u.1 u.2.1 0 (nI cN) (nI rN) u.2.2 ++ wL cL o 1 ov))) ⟨hx, hb, hml, hown, hts⟩ (mX2_digest l D cI v pt pd ab nw kp wy th cN rN tn hI _) (cwV 0 hts gL_law_X2_digest rfl rfl rfl (by decide +kernel) ⟨Nat.le_of_ble_eq_true rfl, Nat.le_of_ble_eq_true rfl⟩) hP hD hK hN hS hA [15, 16, 17, 18, 19, 20, 21] (by decide) rfl [0, 1, 2, 3, 4, 5, 6, 7, 8, 9, 10, 11, 12, 13, 14, 22] (by decide) rfl (by decide) [0, 1, 2, 3, 4, 5, 6, 7, 8, 9, 10, 11, 12, 13, 14, 16, 17, 18, 19, 20, 21, 22, 15] (by decide) (fun _ => rfl) [0] rfl rfl rfl rfl hl.1 rfl (Nat.le_of_ble_eq_true rfl) dL_law_1590 ⟨by omega, by omega⟩ (fun r_2 u_2 H locs hr_2 hP hD hS => ?_)
  subst r_2
  have hP : va_P D vwCl (wX x a b ++ wM cI a pa pe st bn hc hm (nI cN) (nI rN) lo ++ wM cI b u_1.1 u_1.2.1 u_1.2.2.1 u_1.2.2.2.1 u_1.2.2.2.2.1 u_1.2.2.2.2.2.1 u_1.2.2.2.2.2.2.1 u_1.2.2.2.2.2.2.2.1 u_1.2.2.2.2.2.2.2.2 ++ wN cI v pt pd ab nw u_2.1 u_2.2.1 0 (nI cN) (nI rN) u_2.2.2 ++ wL cL o 1 ov) H := hP
  have hD : va_D A (wX x a b ++ wM cI a pa pe st bn hc hm (nI cN) (nI rN) lo ++ wM cI b u_1.1 u_1.2.1 u_1.2.2.1 u_1.2.2.2.1 u_1.2.2.2.2.1 u_1.2.2.2.2.2.1 u_1.2.2.2.2.2.2.1 u_1.2.2.2.2.2.2.2.1 u_1.2.2.2.2.2.2.2.2 ++ wN cI v pt pd ab nw u_2.1 u_2.2.1 0 (nI cN) (nI rN) u_2.2.2 ++ wL cL o 1 ov) := hD
  refine W.lcmp hx hb dL_law_1593 ?_
  refine lv_if_eq (tgt := 1599) hx hb dL_law_1594 (by decide) (fun _ => ?_) (fun c9 => absurd ((lg_cmp_eq _ _).mpr hR.dig.symm) c9)
  refine W.widen (k := cells + 10) (n := slots + 41) (by omega) (by omega) ?_
  exact K cN rN pa pe st bn hc hm lo u_1.1 u_1.2.1 u_1.2.2.1 u_1.2.2.2.1 u_1.2.2.2.2.1 u_1.2.2.2.2.2.1 u_1.2.2.2.2.2.2.1 u_1.2.2.2.2.2.2.2.1 u_1.2.2.2.2.2.2.2.2 pt pd ab nw u_2.1 u_2.2.1 0 u_2.2.2 ov _ _ _ hR hP hD hS (lv_sub hl [0, 1, 2, 3, 4] rfl)
