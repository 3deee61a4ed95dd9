set_option maxHeartbeats 4000000 in
set_option maxRecDepth 100000 in
theorem cs_1 {p : Program} {l : Launch} {e : Env} {s : State} {m : MethodId} {below : List Frame} {meth : Method} {c : Code} {Q : State → Prop} {D : va_G} {cI cL : ClassId} {x o b0 L k : Nat} {a b v : Nat → Nat} {xs : Nat → Int32} {A : Nat → Prop} {cells slots : Nat} {cN rN : Nat} {pa pe st bn hc hm : Nat → Int32} {lo : Int32} {pa2 pe2 st2 bn2 hc2 hm2 : Nat → Int32} {C2 R2 lo2 : Int32} {pt pd ab nw kp wy : Nat → Int32} {th tn : Int32} {ov : Nat → Int64} {H : Heap} {locs : List Loc} {ls : Array Slot} (F : LF p l s m b0 c D cI cL L xs A) (hR : Rel cN rN pa pe st bn hc hm lo pt pd ab nw) (hk : 4 * k + 3 < L) (h1 : cells + 10 ≤ room_1.cells) (h2 : slots + 41 ≤ room_1.slots) (hP : va_P D vwCl (wX x a b ++ wM cI a pa pe st bn hc hm (nI cN) (nI rN) lo ++ wM cI b pa2 pe2 st2 bn2 hc2 hm2 C2 R2 lo2 ++ wN cI v pt pd ab nw kp wy th (nI cN) (nI rN) tn ++ wL cL o 1 ov) H) (hD : va_D A (wX x a b ++ wM cI a pa pe st bn hc hm (nI cN) (nI rN) lo ++ wM cI b pa2 pe2 st2 bn2 hc2 hm2 C2 R2 lo2 ++ wN cI v pt pd ab nw kp wy th (nI cN) (nI rN) tn ++ wL cL o 1 ov)) (hS : va_S A s.heap H locs) (hl : lv_has ls 9 [(4, .int (nI (4 * k))), (3, .ref o), (2, .ref (v 0)), (1, .ref x), (0, .ref b0)]) (K : LK p l e s m b0 below meth c D cI cL x o k a b v A cells slots Q) : W p l e room_1 s m #[Value.ref b0] below meth c H locs cells slots Q (F0 m 232 ls []) := by
  obtain ⟨hx, hb, hml, hown, hts, hK, hN, hKX, hZ, hA, hX, hbl, hbA, hst, hL⟩ := F
  have hI := hR.inv
  obtain ⟨v1, hv1⟩ : ∃ z, xs (nI (4 * k) + 1).toNatClampNeg = z := ⟨_, rfl⟩
  obtain ⟨v2, hv2⟩ : ∃ z, xs (nI (4 * k) + 2).toNatClampNeg = z := ⟨_, rfl⟩
  obtain ⟨v3, hv3⟩ : ∃ z, xs (nI (4 * k) + 3).toNatClampNeg = z := ⟨_, rfl⟩
  by_cases hp : xhas (nI rN) v1 = true
  · by_cases hq : xhas (nI cN) v2 = true
    · by_cases hr3 : xin v3 0 4 = true
      · obtain ⟨r1, hr1, rfl⟩ := hR.rE hp
        obtain ⟨c1, hc1, rfl⟩ := hR.cE hq
        obtain ⟨o1, o2, o3⟩ := hR.one hr1 hc1
        refine lv_aload_n hx hb dL_law_232 rfl (lv_at hl 3 rfl) ?_
        refine lv_aload_n hx hb dL_law_233 rfl (lv_at hl 4 rfl) ?_
        refine lv_iload hx hb dL_law_234 (lv_at hl 0 rfl) ?_
        refine lv_iconst (v := 1) hx hb dL_law_236 (by decide) ?_
        refine lv_iadd hx hb dL_law_237 ?_
        refine va_sld hx hb hX hbl hbA hS (sx_in hL (j := 1) (by omega)) dL_law_238 ?_
        rw [hv1]
        refine lv_aload_n hx hb dL_law_239 rfl (lv_at hl 4 rfl) ?_
        refine lv_iload hx hb dL_law_240 (lv_at hl 0 rfl) ?_
        refine lv_iconst (v := 2) hx hb dL_law_242 (by decide) ?_
        refine lv_iadd hx hb dL_law_243 ?_
        refine va_sld hx hb hX hbl hbA hS (sx_in hL (j := 2) (by omega)) dL_law_244 ?_
        rw [hv2]
        refine lv_aload_n hx hb dL_law_245 rfl (lv_at hl 4 rfl) ?_
        refine lv_iload hx hb dL_law_246 (lv_at hl 0 rfl) ?_
        refine lv_iconst (v := 3) hx hb dL_law_248 (by decide) ?_
        refine lv_iadd hx hb dL_law_249 ?_
        refine va_sld hx hb hX hbl hbA hS (sx_in hL (j := 3) (by omega)) dL_law_250 ?_
        rw [hv3]
        refine lv_aload_n hx hb dL_law_251 rfl (lv_at hl 1 rfl) ?_
        refine kQWi (As := [.ref x, .int (nI r1), .int (nI c1), .int v3, .ref o]) (rest := []) (wr := [(v 0, .inr (2, [.int th, .int (nI cN), .int (nI rN), .ref (v 1), .ref (v 2), .ref (v 3), .ref (v 4), .ref (v 5), .int tn, .ref (v 6)])), (v 1, .inl (cI, 72, .inl pt)), (v 2, .inl (cI, 72, .inl pd)), (v 3, .inl (cI, 2, .inl ab)), (v 4, .inl (cI, 84, .inl nw)), (v 5, .inl (cI, 84, .inl kp)), (v 6, .inl (cI, 8, .inl wy))]) (W2 := (fun _ => (wX x a b ++ wM cI a ((xsc 72 pa ((nI r1) * (nI cN) + (nI c1)) v3)) ((xsc 72 pe ((nI r1) * (nI cN) + (nI c1)) (if v3 = 3 then 2 else 0))) ((xsc 72 st ((nI r1) * (nI cN) + (nI c1)) 0)) bn hc hm (nI cN) (nI rN) lo ++ wM cI b pa2 pe2 st2 bn2 hc2 hm2 C2 R2 lo2 ++ wN cI v pt pd ab nw kp wy th (nI cN) (nI rN) tn ++ wL cL o 1 ((vp_updL ov 0 ((xcl 72 pa ((nI r1) * (nI cN) + (nI c1))) : Int32).toInt64))))) ⟨hx, hb, hml, hown, hts⟩ (mL_put_0 l D cI cL x a pa pe st bn hc hm (nI cN) (nI rN) lo b pa2 pe2 st2 bn2 hc2 hm2 C2 R2 lo2 o ov (nI r1) (nI c1) v3 hp hq hr3 _) (vx_cwSW 5 hts gL_law_L_put rfl rfl rfl (by decide +kernel) ⟨Nat.le_of_ble_eq_true rfl, Nat.le_of_ble_eq_true rfl⟩) hP hD hK hN hKX (hZ.now hS hA) hS hA [0, 1, 2, 3, 4, 5, 6, 7, 8, 9, 10, 11, 12, 13, 14, 22] (by decide) rfl [15, 16, 17, 18, 19, 20, 21] (by decide) rfl (by decide) [7, 8, 9, 10, 11, 12, 13, 14, 15, 16, 17, 18, 19, 20, 21, 0, 1, 2, 3, 4, 5, 6, 22] (by decide) (fun _ => rfl) [0, 1] rfl rfl hl.1 rfl (Nat.le_of_ble_eq_true rfl) dL_law_252 ⟨by omega, by omega⟩ (fun r_1 u_1 H locs hr_1 hP hD hS => ?_)
        subst r_1
        have hP : va_P D vwCl (wX x a b ++ wM cI a ((xsc 72 pa ((nI r1) * (nI cN) + (nI c1)) v3)) ((xsc 72 pe ((nI r1) * (nI cN) + (nI c1)) (if v3 = 3 then 2 else 0))) ((xsc 72 st ((nI r1) * (nI cN) + (nI c1)) 0)) bn hc hm (nI cN) (nI rN) lo ++ wM cI b pa2 pe2 st2 bn2 hc2 hm2 C2 R2 lo2 ++ wN cI v pt pd ab nw kp wy th (nI cN) (nI rN) tn ++ wL cL o 1 ((vp_updL ov 0 ((xcl 72 pa ((nI r1) * (nI cN) + (nI c1))) : Int32).toInt64))) H := hP
        have hD : va_D A (wX x a b ++ wM cI a ((xsc 72 pa ((nI r1) * (nI cN) + (nI c1)) v3)) ((xsc 72 pe ((nI r1) * (nI cN) + (nI c1)) (if v3 = 3 then 2 else 0))) ((xsc 72 st ((nI r1) * (nI cN) + (nI c1)) 0)) bn hc hm (nI cN) (nI rN) lo ++ wM cI b pa2 pe2 st2 bn2 hc2 hm2 C2 R2 lo2 ++ wN cI v pt pd ab nw kp wy th (nI cN) (nI rN) tn ++ wL cL o 1 ((vp_updL ov 0 ((xcl 72 pa ((nI r1) * (nI cN) + (nI c1))) : Int32).toInt64))) := hD
        refine lv_istore (lv' := [(5, .int 0), (4, .int (nI (4 * k))), (3, .ref o), (2, .ref (v 0)), (1, .ref x), (0, .ref b0)]) hx hb dL_law_255 hl (by decide) rfl (fun ls hl => ?_)
        refine lv_aload_n hx hb dL_law_257 rfl (lv_at hl 3 rfl) ?_
        refine lv_aload_n hx hb dL_law_258 rfl (lv_at hl 5 rfl) ?_
        refine lv_iload hx hb dL_law_259 (lv_at hl 1 rfl) ?_
        refine lv_iconst (v := 1) hx hb dL_law_261 (by decide) ?_
        refine lv_iadd hx hb dL_law_262 ?_
        refine va_sld hx hb hX hbl hbA hS (sx_in hL (j := 1) (by omega)) dL_law_263 ?_
        rw [hv1]
        refine lv_aload_n hx hb dL_law_264 rfl (lv_at hl 5 rfl) ?_
        refine lv_iload hx hb dL_law_265 (lv_at hl 1 rfl) ?_
        refine lv_iconst (v := 2) hx hb dL_law_267 (by decide) ?_
        refine lv_iadd hx hb dL_law_268 ?_
        refine va_sld hx hb hX hbl hbA hS (sx_in hL (j := 2) (by omega)) dL_law_269 ?_
        rw [hv2]
        refine lv_aload_n hx hb dL_law_270 rfl (lv_at hl 5 rfl) ?_
        refine lv_iload hx hb dL_law_271 (lv_at hl 1 rfl) ?_
        refine lv_iconst (v := 3) hx hb dL_law_273 (by decide) ?_
        refine lv_iadd hx hb dL_law_274 ?_
        refine va_sld hx hb hX hbl hbA hS (sx_in hL (j := 3) (by omega)) dL_law_275 ?_
        rw [hv3]
        refine kQVi (As := [.int (nI r1), .int (nI c1), .int v3]) (rest := []) (wr := [(x, .inr (1, [.ref (a 0), .ref (b 0)])), (a 0, .inr (0, [.ref (a 1), .ref (a 2), .ref (a 3), .ref (a 4), .ref (a 5), .ref (a 6), .int (nI cN), .int (nI rN), .int lo])), (a 1, .inl (cI, 72, .inl (xsc 72 pa ((nI r1) * (nI cN) + (nI c1)) v3))), (a 2, .inl (cI, 72, .inl (xsc 72 pe ((nI r1) * (nI cN) + (nI c1)) (if v3 = 3 then 2 else 0)))), (a 3, .inl (cI, 72, .inl (xsc 72 st ((nI r1) * (nI cN) + (nI c1)) 0))), (a 4, .inl (cI, 9, .inl bn)), (a 5, .inl (cI, 2, .inl hc)), (a 6, .inl (cI, 2, .inl hm)), (b 0, .inr (0, [.ref (b 1), .ref (b 2), .ref (b 3), .ref (b 4), .ref (b 5), .ref (b 6), .int C2, .int R2, .int lo2])), (b 1, .inl (cI, 72, .inl pa2)), (b 2, .inl (cI, 72, .inl pe2)), (b 3, .inl (cI, 72, .inl st2)), (b 4, .inl (cI, 9, .inl bn2)), (b 5, .inl (cI, 2, .inl hc2)), (b 6, .inl (cI, 2, .inl hm2)), (o, .inl (cL, 1, .inr (.inl (vp_updL ov 0 ((xcl 72 pa ((nI r1) * (nI cN) + (nI c1))) : Int32).toInt64))))]) (W2 := (fun _ => (wX x a b ++ wM cI a ((xsc 72 pa ((nI r1) * (nI cN) + (nI c1)) v3)) ((xsc 72 pe ((nI r1) * (nI cN) + (nI c1)) (if v3 = 3 then 2 else 0))) ((xsc 72 st ((nI r1) * (nI cN) + (nI c1)) 0)) bn hc hm (nI cN) (nI rN) lo ++ wM cI b pa2 pe2 st2 bn2 hc2 hm2 C2 R2 lo2 ++ wN cI v ((upd pt (9 * (nI r1) + (nI c1)).toNatClampNeg v3)) pd ab ((upd nw (9 * (nI r1) + (nI c1)).toNatClampNeg 0)) kp wy 0 (nI cN) (nI rN) tn ++ wL cL o 1 ((vp_updL ov 0 ((xcl 72 pa ((nI r1) * (nI cN) + (nI c1))) : Int32).toInt64))))) ⟨hx, hb, hml, hown, hts⟩ (mX2_put_0 l D cI v pt pd ab nw kp wy th cN rN tn (nI r1) (nI c1) v3 hI (hR.pT hp hq) (iT hr3) _) (cwV 3 hts gL_law_X2_put rfl rfl rfl (by decide +kernel) ⟨Nat.le_of_ble_eq_true rfl, Nat.le_of_ble_eq_true rfl⟩) hP hD hK hN hS hA [15, 16, 17, 18, 19, 20, 21] (by decide) rfl [0, 1, 2, 3, 4, 5, 6, 7, 8, 9, 10, 11, 12, 13, 14, 22] (by decide) rfl (by decide) [0, 1, 2, 3, 4, 5, 6, 7, 8, 9, 10, 11, 12, 13, 14, 16, 17, 18, 19, 20, 21, 22, 15] (by decide) (fun _ => rfl) [0] rfl rfl rfl rfl hl.1 rfl (Nat.le_of_ble_eq_true rfl) dL_law_276 ⟨by omega, by omega⟩ (fun r_2 u_2 H locs hr_2 hP hD hS => ?_)
        subst r_2
        have hP : va_P D vwCl (wX x a b ++ wM cI a ((xsc 72 pa ((nI r1) * (nI cN) + (nI c1)) v3)) ((xsc 72 pe ((nI r1) * (nI cN) + (nI c1)) (if v3 = 3 then 2 else 0))) ((xsc 72 st ((nI r1) * (nI cN) + (nI c1)) 0)) bn hc hm (nI cN) (nI rN) lo ++ wM cI b pa2 pe2 st2 bn2 hc2 hm2 C2 R2 lo2 ++ wN cI v ((upd pt (9 * (nI r1) + (nI c1)).toNatClampNeg v3)) pd ab ((upd nw (9 * (nI r1) + (nI c1)).toNatClampNeg 0)) kp wy 0 (nI cN) (nI rN) tn ++ wL cL o 1 ((vp_updL ov 0 ((xcl 72 pa ((nI r1) * (nI cN) + (nI c1))) : Int32).toInt64))) H := hP
        have hD : va_D A (wX x a b ++ wM cI a ((xsc 72 pa ((nI r1) * (nI cN) + (nI c1)) v3)) ((xsc 72 pe ((nI r1) * (nI cN) + (nI c1)) (if v3 = 3 then 2 else 0))) ((xsc 72 st ((nI r1) * (nI cN) + (nI c1)) 0)) bn hc hm (nI cN) (nI rN) lo ++ wM cI b pa2 pe2 st2 bn2 hc2 hm2 C2 R2 lo2 ++ wN cI v ((upd pt (9 * (nI r1) + (nI c1)).toNatClampNeg v3)) pd ab ((upd nw (9 * (nI r1) + (nI c1)).toNatClampNeg 0)) kp wy 0 (nI cN) (nI rN) tn ++ wL cL o 1 ((vp_updL ov 0 ((xcl 72 pa ((nI r1) * (nI cN) + (nI c1))) : Int32).toInt64))) := hD
        refine lv_istore (lv' := [(6, .int (pt (9 * (nI r1) + (nI c1)).toNatClampNeg)), (5, .int 0), (4, .int (nI (4 * k))), (3, .ref o), (2, .ref (v 0)), (1, .ref x), (0, .ref b0)]) hx hb dL_law_279 hl (by decide) rfl (fun ls hl => ?_)
        refine lv_aload_n hx hb dL_law_281 rfl (lv_at hl 4 rfl) ?_
        refine kRVi (As := []) (rest := []) ⟨hx, hb, hml, hown, hts⟩ (mX2_thrown l D cI v (upd pt (9 * (nI r1) + (nI c1)).toNatClampNeg v3) pd ab (upd nw (9 * (nI r1) + (nI c1)).toNatClampNeg 0) kp wy 0 cN rN tn) (cwV 0 hts gL_law_X2_thrown rfl rfl rfl (by decide +kernel) ⟨Nat.le_of_ble_eq_true rfl, Nat.le_of_ble_eq_true rfl⟩) hP hK hN [15, 16, 17, 18, 19, 20, 21] rfl [0] rfl rfl rfl rfl hl.1 rfl (Nat.le_of_ble_eq_true rfl) dL_law_282 ⟨by omega, by omega⟩ (fun r_3 hr_3 => ?_)
        subst r_3
        refine lv_iload hx hb dL_law_285 (lv_at hl 1 rfl) ?_
        refine lv_icmp_eq (tgt := 292) hx hb dL_law_287 (by decide) (fun _ => ?_) (fun c9 => absurd (by decide) c9)
        refine lv_iload hx hb dL_law_292 (lv_at hl 1 rfl) ?_
        refine lv_if_ne (tgt := 309) hx hb dL_law_294 (by decide) (fun c9 => absurd c9 (by decide)) (fun _ => ?_)
        refine lv_aload_n hx hb dL_law_297 rfl (lv_at hl 3 rfl) ?_
        refine lv_iconst (v := 0) hx hb dL_law_298 (by decide) ?_
        refine va_lald hx hb hK hP 22 1 rfl rfl (vp_in_nI (n := 0) (by decide) (by decide)) dL_law_299 ?_
        rw [show (0 : Int32).toNatClampNeg = 0 from by decide, updL_0]
        refine lv_iload hx hb dL_law_300 (lv_at hl 0 rfl) ?_
        refine lv_i2l (v := (pt (9 * (nI r1) + (nI c1)).toNatClampNeg : Int32).toInt64) hx hb dL_law_302 rfl ?_
        refine W.lcmp hx hb dL_law_303 ?_
        refine lv_if_eq (tgt := 309) hx hb dL_law_304 (by decide) (fun _ => ?_) (fun c9 => absurd ((lg_cmp_eq _ _).mpr (congrArg Int32.toInt64 o1)) c9)
        refine lv_goto (tgt := 1599) hx hb dL_law_309 (by decide) ?_
        refine W.widen (k := cells + 10) (n := slots + 41) (by omega) (by omega) ?_
        exact K cN rN (xsc 72 pa ((nI r1) * (nI cN) + (nI c1)) v3) (xsc 72 pe ((nI r1) * (nI cN) + (nI c1)) (if v3 = 3 then 2 else 0)) (xsc 72 st ((nI r1) * (nI cN) + (nI c1)) 0) bn hc hm lo pa2 pe2 st2 bn2 hc2 hm2 C2 R2 lo2 (upd pt (9 * (nI r1) + (nI c1)).toNatClampNeg v3) pd ab (upd nw (9 * (nI r1) + (nI c1)).toNatClampNeg 0) kp wy 0 tn (vp_updL ov 0 ((xcl 72 pa ((nI r1) * (nI cN) + (nI c1))) : Int32).toInt64) _ _ _ (hR.kput hr1 hc1 hr3) hP hD hS (lv_sub hl [2, 3, 4, 5, 6] rfl)
      · have hr3 : xin v3 0 4 = false := Bool.eq_false_iff.mpr hr3
        refine lv_aload_n hx hb dL_law_232 rfl (lv_at hl 3 rfl) ?_
        refine lv_aload_n hx hb dL_law_233 rfl (lv_at hl 4 rfl) ?_
        refine lv_iload hx hb dL_law_234 (lv_at hl 0 rfl) ?_
        refine lv_iconst (v := 1) hx hb dL_law_236 (by decide) ?_
        refine lv_iadd hx hb dL_law_237 ?_
        refine va_sld hx hb hX hbl hbA hS (sx_in hL (j := 1) (by omega)) dL_law_238 ?_
        rw [hv1]
        refine lv_aload_n hx hb dL_law_239 rfl (lv_at hl 4 rfl) ?_
        refine lv_iload hx hb dL_law_240 (lv_at hl 0 rfl) ?_
        refine lv_iconst (v := 2) hx hb dL_law_242 (by decide) ?_
        refine lv_iadd hx hb dL_law_243 ?_
        refine va_sld hx hb hX hbl hbA hS (sx_in hL (j := 2) (by omega)) dL_law_244 ?_
        rw [hv2]
        refine lv_aload_n hx hb dL_law_245 rfl (lv_at hl 4 rfl) ?_
        refine lv_iload hx hb dL_law_246 (lv_at hl 0 rfl) ?_
        refine lv_iconst (v := 3) hx hb dL_law_248 (by decide) ?_
        refine lv_iadd hx hb dL_law_249 ?_
        refine va_sld hx hb hX hbl hbA hS (sx_in hL (j := 3) (by omega)) dL_law_250 ?_
        rw [hv3]
        refine lv_aload_n hx hb dL_law_251 rfl (lv_at hl 1 rfl) ?_
        refine kQWi (As := [.ref x, .int v1, .int v2, .int v3, .ref o]) (rest := []) (wr := [(v 0, .inr (2, [.int th, .int (nI cN), .int (nI rN), .ref (v 1), .ref (v 2), .ref (v 3), .ref (v 4), .ref (v 5), .int tn, .ref (v 6)])), (v 1, .inl (cI, 72, .inl pt)), (v 2, .inl (cI, 72, .inl pd)), (v 3, .inl (cI, 2, .inl ab)), (v 4, .inl (cI, 84, .inl nw)), (v 5, .inl (cI, 84, .inl kp)), (v 6, .inl (cI, 8, .inl wy))]) (W2 := (fun _ => (wX x a b ++ wM cI a pa pe st bn hc hm (nI cN) (nI rN) lo ++ wM cI b pa2 pe2 st2 bn2 hc2 hm2 C2 R2 lo2 ++ wN cI v pt pd ab nw kp wy th (nI cN) (nI rN) tn ++ wL cL o 1 ov))) ⟨hx, hb, hml, hown, hts⟩ (mL_put_a l hst D cI cL x a pa pe st bn hc hm (nI cN) (nI rN) lo b pa2 pe2 st2 bn2 hc2 hm2 C2 R2 lo2 o ov v1 v2 v3 hp hq hr3 _) (vx_cwSW 5 hts gL_law_L_put rfl rfl rfl (by decide +kernel) ⟨Nat.le_of_ble_eq_true rfl, Nat.le_of_ble_eq_true rfl⟩) hP hD hK hN hKX (hZ.now hS hA) hS hA [0, 1, 2, 3, 4, 5, 6, 7, 8, 9, 10, 11, 12, 13, 14, 22] (by decide) rfl [15, 16, 17, 18, 19, 20, 21] (by decide) rfl (by decide) [7, 8, 9, 10, 11, 12, 13, 14, 15, 16, 17, 18, 19, 20, 21, 0, 1, 2, 3, 4, 5, 6, 22] (by decide) (fun _ => rfl) [0, 1] rfl rfl hl.1 rfl (Nat.le_of_ble_eq_true rfl) dL_law_252 ⟨by omega, by omega⟩ (fun r_6 u_6 H locs hr_6 hP hD hS => ?_)
        subst r_6
        have hP : va_P D vwCl (wX x a b ++ wM cI a pa pe st bn hc hm (nI cN) (nI rN) lo ++ wM cI b pa2 pe2 st2 bn2 hc2 hm2 C2 R2 lo2 ++ wN cI v pt pd ab nw kp wy th (nI cN) (nI rN) tn ++ wL cL o 1 ov) H := hP
        have hD : va_D A (wX x a b ++ wM cI a pa pe st bn hc hm (nI cN) (nI rN) lo ++ wM cI b pa2 pe2 st2 bn2 hc2 hm2 C2 R2 lo2 ++ wN cI v pt pd ab nw kp wy th (nI cN) (nI rN) tn ++ wL cL o 1 ov) := hD
        refine lv_istore (lv' := [(5, .int 2), (4, .int (nI (4 * k))), (3, .ref o), (2, .ref (v 0)), (1, .ref x), (0, .ref b0)]) hx hb dL_law_255 hl (by decide) rfl (fun ls hl => ?_)
        refine lv_aload_n hx hb dL_law_257 rfl (lv_at hl 3 rfl) ?_
        refine lv_aload_n hx hb dL_law_258 rfl (lv_at hl 5 rfl) ?_
        refine lv_iload hx hb dL_law_259 (lv_at hl 1 rfl) ?_
        refine lv_iconst (v := 1) hx hb dL_law_261 (by decide) ?_
        refine lv_iadd hx hb dL_law_262 ?_
        refine va_sld hx hb hX hbl hbA hS (sx_in hL (j := 1) (by omega)) dL_law_263 ?_
        rw [hv1]
        refine lv_aload_n hx hb dL_law_264 rfl (lv_at hl 5 rfl) ?_
        refine lv_iload hx hb dL_law_265 (lv_at hl 1 rfl) ?_
        refine lv_iconst (v := 2) hx hb dL_law_267 (by decide) ?_
        refine lv_iadd hx hb dL_law_268 ?_
        refine va_sld hx hb hX hbl hbA hS (sx_in hL (j := 2) (by omega)) dL_law_269 ?_
        rw [hv2]
        refine lv_aload_n hx hb dL_law_270 rfl (lv_at hl 5 rfl) ?_
        refine lv_iload hx hb dL_law_271 (lv_at hl 1 rfl) ?_
        refine lv_iconst (v := 3) hx hb dL_law_273 (by decide) ?_
        refine lv_iadd hx hb dL_law_274 ?_
        refine va_sld hx hb hX hbl hbA hS (sx_in hL (j := 3) (by omega)) dL_law_275 ?_
        rw [hv3]
        refine kQVi (As := [.int v1, .int v2, .int v3]) (rest := []) (wr := [(x, .inr (1, [.ref (a 0), .ref (b 0)])), (a 0, .inr (0, [.ref (a 1), .ref (a 2), .ref (a 3), .ref (a 4), .ref (a 5), .ref (a 6), .int (nI cN), .int (nI rN), .int lo])), (a 1, .inl (cI, 72, .inl pa)), (a 2, .inl (cI, 72, .inl pe)), (a 3, .inl (cI, 72, .inl st)), (a 4, .inl (cI, 9, .inl bn)), (a 5, .inl (cI, 2, .inl hc)), (a 6, .inl (cI, 2, .inl hm)), (b 0, .inr (0, [.ref (b 1), .ref (b 2), .ref (b 3), .ref (b 4), .ref (b 5), .ref (b 6), .int C2, .int R2, .int lo2])), (b 1, .inl (cI, 72, .inl pa2)), (b 2, .inl (cI, 72, .inl pe2)), (b 3, .inl (cI, 72, .inl st2)), (b 4, .inl (cI, 9, .inl bn2)), (b 5, .inl (cI, 2, .inl hc2)), (b 6, .inl (cI, 2, .inl hm2)), (o, .inl (cL, 1, .inr (.inl ov)))]) (W2 := (fun _ => (wX x a b ++ wM cI a pa pe st bn hc hm (nI cN) (nI rN) lo ++ wM cI b pa2 pe2 st2 bn2 hc2 hm2 C2 R2 lo2 ++ wN cI v pt pd ab nw kp wy 2 (nI cN) (nI rN) tn ++ wL cL o 1 ov))) ⟨hx, hb, hml, hown, hts⟩ (mX2_put_2 l D cI v pt pd ab nw kp wy th cN rN tn v1 v2 v3 (hR.pT hp hq) (iT hr3) _) (cwV 3 hts gL_law_X2_put rfl rfl rfl (by decide +kernel) ⟨Nat.le_of_ble_eq_true rfl, Nat.le_of_ble_eq_true rfl⟩) hP hD hK hN hS hA [15, 16, 17, 18, 19, 20, 21] (by decide) rfl [0, 1, 2, 3, 4, 5, 6, 7, 8, 9, 10, 11, 12, 13, 14, 22] (by decide) rfl (by decide) [0, 1, 2, 3, 4, 5, 6, 7, 8, 9, 10, 11, 12, 13, 14, 16, 17, 18, 19, 20, 21, 22, 15] (by decide) (fun _ => rfl) [0] rfl rfl rfl rfl hl.1 rfl (Nat.le_of_ble_eq_true rfl) dL_law_276 ⟨by omega, by omega⟩ (fun r_7 u_7 H locs hr_7 hP hD hS => ?_)
        subst r_7
        have hP : va_P D vwCl (wX x a b ++ wM cI a pa pe st bn hc hm (nI cN) (nI rN) lo ++ wM cI b pa2 pe2 st2 bn2 hc2 hm2 C2 R2 lo2 ++ wN cI v pt pd ab nw kp wy 2 (nI cN) (nI rN) tn ++ wL cL o 1 ov) H := hP
        have hD : va_D A (wX x a b ++ wM cI a pa pe st bn hc hm (nI cN) (nI rN) lo ++ wM cI b pa2 pe2 st2 bn2 hc2 hm2 C2 R2 lo2 ++ wN cI v pt pd ab nw kp wy 2 (nI cN) (nI rN) tn ++ wL cL o 1 ov) := hD
        refine lv_istore (lv' := [(6, .int 0), (5, .int 2), (4, .int (nI (4 * k))), (3, .ref o), (2, .ref (v 0)), (1, .ref x), (0, .ref b0)]) hx hb dL_law_279 hl (by decide) rfl (fun ls hl => ?_)
        refine lv_aload_n hx hb dL_law_281 rfl (lv_at hl 4 rfl) ?_
        refine kRVi (As := []) (rest := []) ⟨hx, hb, hml, hown, hts⟩ (mX2_thrown l D cI v pt pd ab nw kp wy 2 cN rN tn) (cwV 0 hts gL_law_X2_thrown rfl rfl rfl (by decide +kernel) ⟨Nat.le_of_ble_eq_true rfl, Nat.le_of_ble_eq_true rfl⟩) hP hK hN [15, 16, 17, 18, 19, 20, 21] rfl [0] rfl rfl rfl rfl hl.1 rfl (Nat.le_of_ble_eq_true rfl) dL_law_282 ⟨by omega, by omega⟩ (fun r_8 hr_8 => ?_)
        subst r_8
        refine lv_iload hx hb dL_law_285 (lv_at hl 1 rfl) ?_
        refine lv_icmp_eq (tgt := 292) hx hb dL_law_287 (by decide) (fun _ => ?_) (fun c9 => absurd (by decide) c9)
        refine lv_iload hx hb dL_law_292 (lv_at hl 1 rfl) ?_
        refine lv_if_ne (tgt := 309) hx hb dL_law_294 (by decide) (fun _ => ?_) (fun c9 => absurd c9 (by decide))
        refine lv_goto (tgt := 1599) hx hb dL_law_309 (by decide) ?_
        refine W.widen (k := cells + 10) (n := slots + 41) (by omega) (by omega) ?_
        exact K cN rN pa pe st bn hc hm lo pa2 pe2 st2 bn2 hc2 hm2 C2 R2 lo2 pt pd ab nw kp wy 2 tn ov _ _ _ hR hP hD hS (lv_sub hl [2, 3, 4, 5, 6] rfl)
    · have hq : xhas (nI cN) v2 = false := Bool.eq_false_iff.mpr hq
      refine lv_aload_n hx hb dL_law_232 rfl (lv_at hl 3 rfl) ?_
      refine lv_aload_n hx hb dL_law_233 rfl (lv_at hl 4 rfl) ?_
      refine lv_iload hx hb dL_law_234 (lv_at hl 0 rfl) ?_
      refine lv_iconst (v := 1) hx hb dL_law_236 (by decide) ?_
      refine lv_iadd hx hb dL_law_237 ?_
      refine va_sld hx hb hX hbl hbA hS (sx_in hL (j := 1) (by omega)) dL_law_238 ?_
      rw [hv1]
      refine lv_aload_n hx hb dL_law_239 rfl (lv_at hl 4 rfl) ?_
      refine lv_iload hx hb dL_law_240 (lv_at hl 0 rfl) ?_
      refine lv_iconst (v := 2) hx hb dL_law_242 (by decide) ?_
      refine lv_iadd hx hb dL_law_243 ?_
      refine va_sld hx hb hX hbl hbA hS (sx_in hL (j := 2) (by omega)) dL_law_244 ?_
      rw [hv2]
      refine lv_aload_n hx hb dL_law_245 rfl (lv_at hl 4 rfl) ?_
      refine lv_iload hx hb dL_law_246 (lv_at hl 0 rfl) ?_
      refine lv_iconst (v := 3) hx hb dL_law_248 (by decide) ?_
      refine lv_iadd hx hb dL_law_249 ?_
      refine va_sld hx hb hX hbl hbA hS (sx_in hL (j := 3) (by omega)) dL_law_250 ?_
      rw [hv3]
      refine lv_aload_n hx hb dL_law_251 rfl (lv_at hl 1 rfl) ?_
      refine kQWi (As := [.ref x, .int v1, .int v2, .int v3, .ref o]) (rest := []) (wr := [(v 0, .inr (2, [.int th, .int (nI cN), .int (nI rN), .ref (v 1), .ref (v 2), .ref (v 3), .ref (v 4), .ref (v 5), .int tn, .ref (v 6)])), (v 1, .inl (cI, 72, .inl pt)), (v 2, .inl (cI, 72, .inl pd)), (v 3, .inl (cI, 2, .inl ab)), (v 4, .inl (cI, 84, .inl nw)), (v 5, .inl (cI, 84, .inl kp)), (v 6, .inl (cI, 8, .inl wy))]) (W2 := (fun _ => (wX x a b ++ wM cI a pa pe st bn hc hm (nI cN) (nI rN) lo ++ wM cI b pa2 pe2 st2 bn2 hc2 hm2 C2 R2 lo2 ++ wN cI v pt pd ab nw kp wy th (nI cN) (nI rN) tn ++ wL cL o 1 ov))) ⟨hx, hb, hml, hown, hts⟩ (mL_put_c l hst D cI cL x a pa pe st bn hc hm (nI cN) (nI rN) lo b pa2 pe2 st2 bn2 hc2 hm2 C2 R2 lo2 o ov v1 v2 v3 hp hq _) (vx_cwSW 5 hts gL_law_L_put rfl rfl rfl (by decide +kernel) ⟨Nat.le_of_ble_eq_true rfl, Nat.le_of_ble_eq_true rfl⟩) hP hD hK hN hKX (hZ.now hS hA) hS hA [0, 1, 2, 3, 4, 5, 6, 7, 8, 9, 10, 11, 12, 13, 14, 22] (by decide) rfl [15, 16, 17, 18, 19, 20, 21] (by decide) rfl (by decide) [7, 8, 9, 10, 11, 12, 13, 14, 15, 16, 17, 18, 19, 20, 21, 0, 1, 2, 3, 4, 5, 6, 22] (by decide) (fun _ => rfl) [0, 1] rfl rfl hl.1 rfl (Nat.le_of_ble_eq_true rfl) dL_law_252 ⟨by omega, by omega⟩ (fun r_10 u_10 H locs hr_10 hP hD hS => ?_)
      subst r_10
      have hP : va_P D vwCl (wX x a b ++ wM cI a pa pe st bn hc hm (nI cN) (nI rN) lo ++ wM cI b pa2 pe2 st2 bn2 hc2 hm2 C2 R2 lo2 ++ wN cI v pt pd ab nw kp wy th (nI cN) (nI rN) tn ++ wL cL o 1 ov) H := hP
      have hD : va_D A (wX x a b ++ wM cI a pa pe st bn hc hm (nI cN) (nI rN) lo ++ wM cI b pa2 pe2 st2 bn2 hc2 hm2 C2 R2 lo2 ++ wN cI v pt pd ab nw kp wy th (nI cN) (nI rN) tn ++ wL cL o 1 ov) := hD
      refine lv_istore (lv' := [(5, .int 1), (4, .int (nI (4 * k))), (3, .ref o), (2, .ref (v 0)), (1, .ref x), (0, .ref b0)]) hx hb dL_law_255 hl (by decide) rfl (fun ls hl => ?_)
      refine lv_aload_n hx hb dL_law_257 rfl (lv_at hl 3 rfl) ?_
      refine lv_aload_n hx hb dL_law_258 rfl (lv_at hl 5 rfl) ?_
      refine lv_iload hx hb dL_law_259 (lv_at hl 1 rfl) ?_
      refine lv_iconst (v := 1) hx hb dL_law_261 (by decide) ?_
      refine lv_iadd hx hb dL_law_262 ?_
      refine va_sld hx hb hX hbl hbA hS (sx_in hL (j := 1) (by omega)) dL_law_263 ?_
      rw [hv1]
      refine lv_aload_n hx hb dL_law_264 rfl (lv_at hl 5 rfl) ?_
      refine lv_iload hx hb dL_law_265 (lv_at hl 1 rfl) ?_
      refine lv_iconst (v := 2) hx hb dL_law_267 (by decide) ?_
      refine lv_iadd hx hb dL_law_268 ?_
      refine va_sld hx hb hX hbl hbA hS (sx_in hL (j := 2) (by omega)) dL_law_269 ?_
      rw [hv2]
      refine lv_aload_n hx hb dL_law_270 rfl (lv_at hl 5 rfl) ?_
      refine lv_iload hx hb dL_law_271 (lv_at hl 1 rfl) ?_
      refine lv_iconst (v := 3) hx hb dL_law_273 (by decide) ?_
      refine lv_iadd hx hb dL_law_274 ?_
      refine va_sld hx hb hX hbl hbA hS (sx_in hL (j := 3) (by omega)) dL_law_275 ?_
      rw [hv3]
      refine kQVi (As := [.int v1, .int v2, .int v3]) (rest := []) (wr := [(x, .inr (1, [.ref (a 0), .ref (b 0)])), (a 0, .inr (0, [.ref (a 1), .ref (a 2), .ref (a 3), .ref (a 4), .ref (a 5), .ref (a 6), .int (nI cN), .int (nI rN), .int lo])), (a 1, .inl (cI, 72, .inl pa)), (a 2, .inl (cI, 72, .inl pe)), (a 3, .inl (cI, 72, .inl st)), (a 4, .inl (cI, 9, .inl bn)), (a 5, .inl (cI, 2, .inl hc)), (a 6, .inl (cI, 2, .inl hm)), (b 0, .inr (0, [.ref (b 1), .ref (b 2), .ref (b 3), .ref (b 4), .ref (b 5), .ref (b 6), .int C2, .int R2, .int lo2])), (b 1, .inl (cI, 72, .inl pa2)), (b 2, .inl (cI, 72, .inl pe2)), (b 3, .inl (cI, 72, .inl st2)), (b 4, .inl (cI, 9, .inl bn2)), (b 5, .inl (cI, 2, .inl hc2)), (b 6, .inl (cI, 2, .inl hm2)), (o, .inl (cL, 1, .inr (.inl ov)))]) (W2 := (fun _ => (wX x a b ++ wM cI a pa pe st bn hc hm (nI cN) (nI rN) lo ++ wM cI b pa2 pe2 st2 bn2 hc2 hm2 C2 R2 lo2 ++ wN cI v pt pd ab nw kp wy 1 (nI cN) (nI rN) tn ++ wL cL o 1 ov))) ⟨hx, hb, hml, hown, hts⟩ (mX2_put_1 l D cI v pt pd ab nw kp wy th cN rN tn v1 v2 v3 (hR.pC hq) _) (cwV 3 hts gL_law_X2_put rfl rfl rfl (by decide +kernel) ⟨Nat.le_of_ble_eq_true rfl, Nat.le_of_ble_eq_true rfl⟩) hP hD hK hN hS hA [15, 16, 17, 18, 19, 20, 21] (by decide) rfl [0, 1, 2, 3, 4, 5, 6, 7, 8, 9, 10, 11, 12, 13, 14, 22] (by decide) rfl (by decide) [0, 1, 2, 3, 4, 5, 6, 7, 8, 9, 10, 11, 12, 13, 14, 16, 17, 18, 19, 20, 21, 22, 15] (by decide) (fun _ => rfl) [0] rfl rfl rfl rfl hl.1 rfl (Nat.le_of_ble_eq_true rfl) dL_law_276 ⟨by omega, by omega⟩ (fun r_11 u_11 H locs hr_11 hP hD hS => ?_)
      subst r_11
      have hP : va_P D vwCl (wX x a b ++ wM cI a pa pe st bn hc hm (nI cN) (nI rN) lo ++ wM cI b pa2 pe2 st2 bn2 hc2 hm2 C2 R2 lo2 ++ wN cI v pt pd ab nw kp wy 1 (nI cN) (nI rN) tn ++ wL cL o 1 ov) H := hP
      have hD : va_D A (wX x a b ++ wM cI a pa pe st bn hc hm (nI cN) (nI rN) lo ++ wM cI b pa2 pe2 st2 bn2 hc2 hm2 C2 R2 lo2 ++ wN cI v pt pd ab nw kp wy 1 (nI cN) (nI rN) tn ++ wL cL o 1 ov) := hD
      refine lv_istore (lv' := [(6, .int 0), (5, .int 1), (4, .int (nI (4 * k))), (3, .ref o), (2, .ref (v 0)), (1, .ref x), (0, .ref b0)]) hx hb dL_law_279 hl (by decide) rfl (fun ls hl => ?_)
      refine lv_aload_n hx hb dL_law_281 rfl (lv_at hl 4 rfl) ?_
      refine kRVi (As := []) (rest := []) ⟨hx, hb, hml, hown, hts⟩ (mX2_thrown l D cI v pt pd ab nw kp wy 1 cN rN tn) (cwV 0 hts gL_law_X2_thrown rfl rfl rfl (by decide +kernel) ⟨Nat.le_of_ble_eq_true rfl, Nat.le_of_ble_eq_true rfl⟩) hP hK hN [15, 16, 17, 18, 19, 20, 21] rfl [0] rfl rfl rfl rfl hl.1 rfl (Nat.le_of_ble_eq_true rfl) dL_law_282 ⟨by omega, by omega⟩ (fun r_12 hr_12 => ?_)
      subst r_12
      refine lv_iload hx hb dL_law_285 (lv_at hl 1 rfl) ?_
      refine lv_icmp_eq (tgt := 292) hx hb dL_law_287 (by decide) (fun _ => ?_) (fun c9 => absurd (by decide) c9)
      refine lv_iload hx hb dL_law_292 (lv_at hl 1 rfl) ?_
      refine lv_if_ne (tgt := 309) hx hb dL_law_294 (by decide) (fun _ => ?_) (fun c9 => absurd c9 (by decide))
      refine lv_goto (tgt := 1599) hx hb dL_law_309 (by decide) ?_
      refine W.widen (k := cells + 10) (n := slots + 41) (by omega) (by omega) ?_
      exact K cN rN pa pe st bn hc hm lo pa2 pe2 st2 bn2 hc2 hm2 C2 R2 lo2 pt pd ab nw kp wy 1 tn ov _ _ _ hR hP hD hS (lv_sub hl [2, 3, 4, 5, 6] rfl)
  · have hp : xhas (nI rN) v1 = false := Bool.eq_false_iff.mpr hp
    refine lv_aload_n hx hb dL_law_232 rfl (lv_at hl 3 rfl) ?_
    refine lv_aload_n hx hb dL_law_233 rfl (lv_at hl 4 rfl) ?_
    refine lv_iload hx hb dL_law_234 (lv_at hl 0 rfl) ?_
    refine lv_iconst (v := 1) hx hb dL_law_236 (by decide) ?_
    refine lv_iadd hx hb dL_law_237 ?_
    refine va_sld hx hb hX hbl hbA hS (sx_in hL (j := 1) (by omega)) dL_law_238 ?_
    rw [hv1]
    refine lv_aload_n hx hb dL_law_239 rfl (lv_at hl 4 rfl) ?_
    refine lv_iload hx hb dL_law_240 (lv_at hl 0 rfl) ?_
    refine lv_iconst (v := 2) hx hb dL_law_242 (by decide) ?_
    refine lv_iadd hx hb dL_law_243 ?_
    refine va_sld hx hb hX hbl hbA hS (sx_in hL (j := 2) (by omega)) dL_law_244 ?_
    rw [hv2]
    refine lv_aload_n hx hb dL_law_245 rfl (lv_at hl 4 rfl) ?_
    refine lv_iload hx hb dL_law_246 (lv_at hl 0 rfl) ?_
    refine lv_iconst (v := 3) hx hb dL_law_248 (by decide) ?_
    refine lv_iadd hx hb dL_law_249 ?_
    refine va_sld hx hb hX hbl hbA hS (sx_in hL (j := 3) (by omega)) dL_law_250 ?_
    rw [hv3]
    refine lv_aload_n hx hb dL_law_251 rfl (lv_at hl 1 rfl) ?_
    refine kQWi (As := [.ref x, .int v1, .int v2, .int v3, .ref o]) (rest := []) (wr := [(v 0, .inr (2, [.int th, .int (nI cN), .int (nI rN), .ref (v 1), .ref (v 2), .ref (v 3), .ref (v 4), .ref (v 5), .int tn, .ref (v 6)])), (v 1, .inl (cI, 72, .inl pt)), (v 2, .inl (cI, 72, .inl pd)), (v 3, .inl (cI, 2, .inl ab)), (v 4, .inl (cI, 84, .inl nw)), (v 5, .inl (cI, 84, .inl kp)), (v 6, .inl (cI, 8, .inl wy))]) (W2 := (fun _ => (wX x a b ++ wM cI a pa pe st bn hc hm (nI cN) (nI rN) lo ++ wM cI b pa2 pe2 st2 bn2 hc2 hm2 C2 R2 lo2 ++ wN cI v pt pd ab nw kp wy th (nI cN) (nI rN) tn ++ wL cL o 1 ov))) ⟨hx, hb, hml, hown, hts⟩ (mL_put_r l hst D cI cL x a pa pe st bn hc hm (nI cN) (nI rN) lo b pa2 pe2 st2 bn2 hc2 hm2 C2 R2 lo2 o ov v1 v2 v3 hp _) (vx_cwSW 5 hts gL_law_L_put rfl rfl rfl (by decide +kernel) ⟨Nat.le_of_ble_eq_true rfl, Nat.le_of_ble_eq_true rfl⟩) hP hD hK hN hKX (hZ.now hS hA) hS hA [0, 1, 2, 3, 4, 5, 6, 7, 8, 9, 10, 11, 12, 13, 14, 22] (by decide) rfl [15, 16, 17, 18, 19, 20, 21] (by decide) rfl (by decide) [7, 8, 9, 10, 11, 12, 13, 14, 15, 16, 17, 18, 19, 20, 21, 0, 1, 2, 3, 4, 5, 6, 22] (by decide) (fun _ => rfl) [0, 1] rfl rfl hl.1 rfl (Nat.le_of_ble_eq_true rfl) dL_law_252 ⟨by omega, by omega⟩ (fun r_14 u_14 H locs hr_14 hP hD hS => ?_)
    subst r_14
    have hP : va_P D vwCl (wX x a b ++ wM cI a pa pe st bn hc hm (nI cN) (nI rN) lo ++ wM cI b pa2 pe2 st2 bn2 hc2 hm2 C2 R2 lo2 ++ wN cI v pt pd ab nw kp wy th (nI cN) (nI rN) tn ++ wL cL o 1 ov) H := hP
    have hD : va_D A (wX x a b ++ wM cI a pa pe st bn hc hm (nI cN) (nI rN) lo ++ wM cI b pa2 pe2 st2 bn2 hc2 hm2 C2 R2 lo2 ++ wN cI v pt pd ab nw kp wy th (nI cN) (nI rN) tn ++ wL cL o 1 ov) := hD
    refine lv_istore (lv' := [(5, .int 1), (4, .int (nI (4 * k))), (3, .ref o), (2, .ref (v 0)), (1, .ref x), (0, .ref b0)]) hx hb dL_law_255 hl (by decide) rfl (fun ls hl => ?_)
    refine lv_aload_n hx hb dL_law_257 rfl (lv_at hl 3 rfl) ?_
    refine lv_aload_n hx hb dL_law_258 rfl (lv_at hl 5 rfl) ?_
    refine lv_iload hx hb dL_law_259 (lv_at hl 1 rfl) ?_
    refine lv_iconst (v := 1) hx hb dL_law_261 (by decide) ?_
    refine lv_iadd hx hb dL_law_262 ?_
    refine va_sld hx hb hX hbl hbA hS (sx_in hL (j := 1) (by omega)) dL_law_263 ?_
    rw [hv1]
    refine lv_aload_n hx hb dL_law_264 rfl (lv_at hl 5 rfl) ?_
    refine lv_iload hx hb dL_law_265 (lv_at hl 1 rfl) ?_
    refine lv_iconst (v := 2) hx hb dL_law_267 (by decide) ?_
    refine lv_iadd hx hb dL_law_268 ?_
    refine va_sld hx hb hX hbl hbA hS (sx_in hL (j := 2) (by omega)) dL_law_269 ?_
    rw [hv2]
    refine lv_aload_n hx hb dL_law_270 rfl (lv_at hl 5 rfl) ?_
    refine lv_iload hx hb dL_law_271 (lv_at hl 1 rfl) ?_
    refine lv_iconst (v := 3) hx hb dL_law_273 (by decide) ?_
    refine lv_iadd hx hb dL_law_274 ?_
    refine va_sld hx hb hX hbl hbA hS (sx_in hL (j := 3) (by omega)) dL_law_275 ?_
    rw [hv3]
    refine kQVi (As := [.int v1, .int v2, .int v3]) (rest := []) (wr := [(x, .inr (1, [.ref (a 0), .ref (b 0)])), (a 0, .inr (0, [.ref (a 1), .ref (a 2), .ref (a 3), .ref (a 4), .ref (a 5), .ref (a 6), .int (nI cN), .int (nI rN), .int lo])), (a 1, .inl (cI, 72, .inl pa)), (a 2, .inl (cI, 72, .inl pe)), (a 3, .inl (cI, 72, .inl st)), (a 4, .inl (cI, 9, .inl bn)), (a 5, .inl (cI, 2, .inl hc)), (a 6, .inl (cI, 2, .inl hm)), (b 0, .inr (0, [.ref (b 1), .ref (b 2), .ref (b 3), .ref (b 4), .ref (b 5), .ref (b 6), .int C2, .int R2, .int lo2])), (b 1, .inl (cI, 72, .inl pa2)), (b 2, .inl (cI, 72, .inl pe2)), (b 3, .inl (cI, 72, .inl st2)), (b 4, .inl (cI, 9, .inl bn2)), (b 5, .inl (cI, 2, .inl hc2)), (b 6, .inl (cI, 2, .inl hm2)), (o, .inl (cL, 1, .inr (.inl ov)))]) (W2 := (fun _ => (wX x a b ++ wM cI a pa pe st bn hc hm (nI cN) (nI rN) lo ++ wM cI b pa2 pe2 st2 bn2 hc2 hm2 C2 R2 lo2 ++ wN cI v pt pd ab nw kp wy 1 (nI cN) (nI rN) tn ++ wL cL o 1 ov))) ⟨hx, hb, hml, hown, hts⟩ (mX2_put_1 l D cI v pt pd ab nw kp wy th cN rN tn v1 v2 v3 (hR.pR hp) _) (cwV 3 hts gL_law_X2_put rfl rfl rfl (by decide +kernel) ⟨Nat.le_of_ble_eq_true rfl, Nat.le_of_ble_eq_true rfl⟩) hP hD hK hN hS hA [15, 16, 17, 18, 19, 20, 21] (by decide) rfl [0, 1, 2, 3, 4, 5, 6, 7, 8, 9, 10, 11, 12, 13, 14, 22] (by decide) rfl (by decide) [0, 1, 2, 3, 4, 5, 6, 7, 8, 9, 10, 11, 12, 13, 14, 16, 17, 18, 19, 20, 21, 22, 15] (by decide) (fun _ => rfl) [0] rfl rfl rfl rfl hl.1 rfl (Nat.le_of_ble_eq_true rfl) dL_law_276 ⟨by omega, by omega⟩ (fun r_15 u_15 H locs hr_15 hP hD hS => ?_)
    subst r_15
    have hP : va_P D vwCl (wX x a b ++ wM cI a pa pe st bn hc hm (nI cN) (nI rN) lo ++ wM cI b pa2 pe2 st2 bn2 hc2 hm2 C2 R2 lo2 ++ wN cI v pt pd ab nw kp wy 1 (nI cN) (nI rN) tn ++ wL cL o 1 ov) H := hP
    have hD : va_D A (wX x a b ++ wM cI a pa pe st bn hc hm (nI cN) (nI rN) lo ++ wM cI b pa2 pe2 st2 bn2 hc2 hm2 C2 R2 lo2 ++ wN cI v pt pd ab nw kp wy 1 (nI cN) (nI rN) tn ++ wL cL o 1 ov) := hD
    refine lv_istore (lv' := [(6, .int 0), (5, .int 1), (4, .int (nI (4 * k))), (3, .ref o), (2, .ref (v 0)), (1, .ref x), (0, .ref b0)]) hx hb dL_law_279 hl (by decide) rfl (fun ls hl => ?_)
    refine lv_aload_n hx hb dL_law_281 rfl (lv_at hl 4 rfl) ?_
    refine kRVi (As := []) (rest := []) ⟨hx, hb, hml, hown, hts⟩ (mX2_thrown l D cI v pt pd ab nw kp wy 1 cN rN tn) (cwV 0 hts gL_law_X2_thrown rfl rfl rfl (by decide +kernel) ⟨Nat.le_of_ble_eq_true rfl, Nat.le_of_ble_eq_true rfl⟩) hP hK hN [15, 16, 17, 18, 19, 20, 21] rfl [0] rfl rfl rfl rfl hl.1 rfl (Nat.le_of_ble_eq_true rfl) dL_law_282 ⟨by omega, by omega⟩ (fun r_16 hr_16 => ?_)
    subst r_16
    refine lv_iload hx hb dL_law_285 (lv_at hl 1 rfl) ?_
    refine lv_icmp_eq (tgt := 292) hx hb dL_law_287 (by decide) (fun _ => ?_) (fun c9 => absurd (by decide) c9)
    refine lv_iload hx hb dL_law_292 (lv_at hl 1 rfl) ?_
    refine lv_if_ne (tgt := 309) hx hb dL_law_294 (by decide) (fun _ => ?_) (fun c9 => absurd c9 (by decide))
    refine lv_goto (tgt := 1599) hx hb dL_law_309 (by decide) ?_
    refine W.widen (k := cells + 10) (n := slots + 41) (by omega) (by omega) ?_
    exact K cN rN pa pe st bn hc hm lo pa2 pe2 st2 bn2 hc2 hm2 C2 R2 lo2 pt pd ab nw kp wy 1 tn ov _ _ _ hR hP hD hS (lv_sub hl [2, 3, 4, 5, 6] rfl)
set_option maxHeartbeats 4000000 in
set_option maxRecDepth 100000 in
theorem cs_2 {p : Program} {l : Launch} {e : Env} {s : State} {m : MethodId} {below : List Frame} {meth : Method} {c : Code} {Q : State → Prop} {D : va_G} {cI cL : ClassId} {x o b0 L k : Nat} {a b v : Nat → Nat} {xs : Nat → Int32} {A : Nat → Prop} {cells slots : Nat} {cN rN : Nat} {pa pe st bn hc hm : Nat → Int32} {lo : Int32} {pa2 pe2 st2 bn2 hc2 hm2 : Nat → Int32} {C2 R2 lo2 : Int32} {pt pd ab nw kp wy : Nat → Int32} {th tn : Int32} {ov : Nat → Int64} {H : Heap} {locs : List Loc} {ls : Array Slot} (F : LF p l s m b0 c D cI cL L xs A) (hR : Rel cN rN pa pe st bn hc hm lo pt pd ab nw) (hk : 4 * k + 3 < L) (h1 : cells + 10 ≤ room_1.cells) (h2 : slots + 41 ≤ room_1.slots) (hP : va_P D vwCl (wX x a b ++ wM cI a pa pe st bn hc hm (nI cN) (nI rN) lo ++ wM cI b pa2 pe2 st2 bn2 hc2 hm2 C2 R2 lo2 ++ wN cI v pt pd ab nw kp wy th (nI cN) (nI rN) tn ++ wL cL o 1 ov) H) (hD : va_D A (wX x a b ++ wM cI a pa pe st bn hc hm (nI cN) (nI rN) lo ++ wM cI b pa2 pe2 st2 bn2 hc2 hm2 C2 R2 lo2 ++ wN cI v pt pd ab nw kp wy th (nI cN) (nI rN) tn ++ wL cL o 1 ov)) (hS : va_S A s.heap H locs) (hl : lv_has ls 9 [(4, .int (nI (4 * k))), (3, .ref o), (2, .ref (v 0)), (1, .ref x), (0, .ref b0)]) (K : LK p l e s m b0 below meth c D cI cL x o k a b v A cells slots Q) : W p l e room_1 s m #[Value.ref b0] below meth c H locs cells slots Q (F0 m 312 ls []) := by
  obtain ⟨hx, hb, hml, hown, hts, hK, hN, hKX, hZ, hA, hX, hbl, hbA, hst, hL⟩ := F
  have hI := hR.inv
  obtain ⟨v1, hv1⟩ : ∃ z, xs (nI (4 * k) + 1).toNatClampNeg = z := ⟨_, rfl⟩
  obtain ⟨v2, hv2⟩ : ∃ z, xs (nI (4 * k) + 2).toNatClampNeg = z := ⟨_, rfl⟩
  obtain ⟨v3, hv3⟩ : ∃ z, xs (nI (4 * k) + 3).toNatClampNeg = z := ⟨_, rfl⟩
  by_cases hp : xhas (nI rN) v1 = true
  · by_cases hq : xhas (nI cN) v2 = true
    · by_cases hr3 : xin v3 2 9 = true
      · obtain ⟨r1, hr1, rfl⟩ := hR.rE hp
        obtain ⟨c1, hc1, rfl⟩ := hR.cE hq
        obtain ⟨o1, o2, o3⟩ := hR.one hr1 hc1
        refine lv_aload_n hx hb dL_law_312 rfl (lv_at hl 3 rfl) ?_
        refine lv_aload_n hx hb dL_law_313 rfl (lv_at hl 4 rfl) ?_
        refine lv_iload hx hb dL_law_314 (lv_at hl 0 rfl) ?_
        refine lv_iconst (v := 1) hx hb dL_law_316 (by decide) ?_
        refine lv_iadd hx hb dL_law_317 ?_
        refine va_sld hx hb hX hbl hbA hS (sx_in hL (j := 1) (by omega)) dL_law_318 ?_
        rw [hv1]
        refine lv_aload_n hx hb dL_law_319 rfl (lv_at hl 4 rfl) ?_
        refine lv_iload hx hb dL_law_320 (lv_at hl 0 rfl) ?_
        refine lv_iconst (v := 2) hx hb dL_law_322 (by decide) ?_
        refine lv_iadd hx hb dL_law_323 ?_
        refine va_sld hx hb hX hbl hbA hS (sx_in hL (j := 2) (by omega)) dL_law_324 ?_
        rw [hv2]
        refine lv_aload_n hx hb dL_law_325 rfl (lv_at hl 4 rfl) ?_
        refine lv_iload hx hb dL_law_326 (lv_at hl 0 rfl) ?_
        refine lv_iconst (v := 3) hx hb dL_law_328 (by decide) ?_
        refine lv_iadd hx hb dL_law_329 ?_
        refine va_sld hx hb hX hbl hbA hS (sx_in hL (j := 3) (by omega)) dL_law_330 ?_
        rw [hv3]
        refine lv_aload_n hx hb dL_law_331 rfl (lv_at hl 1 rfl) ?_
        refine kQWi (As := [.ref x, .int (nI r1), .int (nI c1), .int v3, .ref o]) (rest := []) (wr := [(v 0, .inr (2, [.int th, .int (nI cN), .int (nI rN), .ref (v 1), .ref (v 2), .ref (v 3), .ref (v 4), .ref (v 5), .int tn, .ref (v 6)])), (v 1, .inl (cI, 72, .inl pt)), (v 2, .inl (cI, 72, .inl pd)), (v 3, .inl (cI, 2, .inl ab)), (v 4, .inl (cI, 84, .inl nw)), (v 5, .inl (cI, 84, .inl kp)), (v 6, .inl (cI, 8, .inl wy))]) (W2 := (fun _ => (wX x a b ++ wM cI a ((xsc 72 pa ((nI r1) * (nI cN) + (nI c1)) 5)) ((xsc 72 pe ((nI r1) * (nI cN) + (nI c1)) v3)) ((xsc 72 st ((nI r1) * (nI cN) + (nI c1)) 0)) bn hc hm (nI cN) (nI rN) lo ++ wM cI b pa2 pe2 st2 bn2 hc2 hm2 C2 R2 lo2 ++ wN cI v pt pd ab nw kp wy th (nI cN) (nI rN) tn ++ wL cL o 1 ((vp_updL ov 0 ((xcl 72 pa ((nI r1) * (nI cN) + (nI c1))) : Int32).toInt64))))) ⟨hx, hb, hml, hown, hts⟩ (mL_putCounter_0 l D cI cL x a pa pe st bn hc hm (nI cN) (nI rN) lo b pa2 pe2 st2 bn2 hc2 hm2 C2 R2 lo2 o ov (nI r1) (nI c1) v3 hp hq hr3 _) (vx_cwSW 5 hts gL_law_L_putCounter rfl rfl rfl (by decide +kernel) ⟨Nat.le_of_ble_eq_true rfl, Nat.le_of_ble_eq_true rfl⟩) hP hD hK hN hKX (hZ.now hS hA) hS hA [0, 1, 2, 3, 4, 5, 6, 7, 8, 9, 10, 11, 12, 13, 14, 22] (by decide) rfl [15, 16, 17, 18, 19, 20, 21] (by decide) rfl (by decide) [7, 8, 9, 10, 11, 12, 13, 14, 15, 16, 17, 18, 19, 20, 21, 0, 1, 2, 3, 4, 5, 6, 22] (by decide) (fun _ => rfl) [0, 1] rfl rfl hl.1 rfl (Nat.le_of_ble_eq_true rfl) dL_law_332 ⟨by omega, by omega⟩ (fun r_1 u_1 H locs hr_1 hP hD hS => ?_)
        subst r_1
        have hP : va_P D vwCl (wX x a b ++ wM cI a ((xsc 72 pa ((nI r1) * (nI cN) + (nI c1)) 5)) ((xsc 72 pe ((nI r1) * (nI cN) + (nI c1)) v3)) ((xsc 72 st ((nI r1) * (nI cN) + (nI c1)) 0)) bn hc hm (nI cN) (nI rN) lo ++ wM cI b pa2 pe2 st2 bn2 hc2 hm2 C2 R2 lo2 ++ wN cI v pt pd ab nw kp wy th (nI cN) (nI rN) tn ++ wL cL o 1 ((vp_updL ov 0 ((xcl 72 pa ((nI r1) * (nI cN) + (nI c1))) : Int32).toInt64))) H := hP
        have hD : va_D A (wX x a b ++ wM cI a ((xsc 72 pa ((nI r1) * (nI cN) + (nI c1)) 5)) ((xsc 72 pe ((nI r1) * (nI cN) + (nI c1)) v3)) ((xsc 72 st ((nI r1) * (nI cN) + (nI c1)) 0)) bn hc hm (nI cN) (nI rN) lo ++ wM cI b pa2 pe2 st2 bn2 hc2 hm2 C2 R2 lo2 ++ wN cI v pt pd ab nw kp wy th (nI cN) (nI rN) tn ++ wL cL o 1 ((vp_updL ov 0 ((xcl 72 pa ((nI r1) * (nI cN) + (nI c1))) : Int32).toInt64))) := hD
        refine lv_istore (lv' := [(5, .int 0), (4, .int (nI (4 * k))), (3, .ref o), (2, .ref (v 0)), (1, .ref x), (0, .ref b0)]) hx hb dL_law_335 hl (by decide) rfl (fun ls hl => ?_)
        refine lv_aload_n hx hb dL_law_337 rfl (lv_at hl 3 rfl) ?_
        refine lv_aload_n hx hb dL_law_338 rfl (lv_at hl 5 rfl) ?_
        refine lv_iload hx hb dL_law_339 (lv_at hl 1 rfl) ?_
        refine lv_iconst (v := 1) hx hb dL_law_341 (by decide) ?_
        refine lv_iadd hx hb dL_law_342 ?_
        refine va_sld hx hb hX hbl hbA hS (sx_in hL (j := 1) (by omega)) dL_law_343 ?_
        rw [hv1]
        refine lv_aload_n hx hb dL_law_344 rfl (lv_at hl 5 rfl) ?_
        refine lv_iload hx hb dL_law_345 (lv_at hl 1 rfl) ?_
        refine lv_iconst (v := 2) hx hb dL_law_347 (by decide) ?_
        refine lv_iadd hx hb dL_law_348 ?_
        refine va_sld hx hb hX hbl hbA hS (sx_in hL (j := 2) (by omega)) dL_law_349 ?_
        rw [hv2]
        refine lv_aload_n hx hb dL_law_350 rfl (lv_at hl 5 rfl) ?_
        refine lv_iload hx hb dL_law_351 (lv_at hl 1 rfl) ?_
        refine lv_iconst (v := 3) hx hb dL_law_353 (by decide) ?_
        refine lv_iadd hx hb dL_law_354 ?_
        refine va_sld hx hb hX hbl hbA hS (sx_in hL (j := 3) (by omega)) dL_law_355 ?_
        rw [hv3]
        refine kQVi (As := [.int (nI r1), .int (nI c1), .int v3]) (rest := []) (wr := [(x, .inr (1, [.ref (a 0), .ref (b 0)])), (a 0, .inr (0, [.ref (a 1), .ref (a 2), .ref (a 3), .ref (a 4), .ref (a 5), .ref (a 6), .int (nI cN), .int (nI rN), .int lo])), (a 1, .inl (cI, 72, .inl (xsc 72 pa ((nI r1) * (nI cN) + (nI c1)) 5))), (a 2, .inl (cI, 72, .inl (xsc 72 pe ((nI r1) * (nI cN) + (nI c1)) v3))), (a 3, .inl (cI, 72, .inl (xsc 72 st ((nI r1) * (nI cN) + (nI c1)) 0))), (a 4, .inl (cI, 9, .inl bn)), (a 5, .inl (cI, 2, .inl hc)), (a 6, .inl (cI, 2, .inl hm)), (b 0, .inr (0, [.ref (b 1), .ref (b 2), .ref (b 3), .ref (b 4), .ref (b 5), .ref (b 6), .int C2, .int R2, .int lo2])), (b 1, .inl (cI, 72, .inl pa2)), (b 2, .inl (cI, 72, .inl pe2)), (b 3, .inl (cI, 72, .inl st2)), (b 4, .inl (cI, 9, .inl bn2)), (b 5, .inl (cI, 2, .inl hc2)), (b 6, .inl (cI, 2, .inl hm2)), (o, .inl (cL, 1, .inr (.inl (vp_updL ov 0 ((xcl 72 pa ((nI r1) * (nI cN) + (nI c1))) : Int32).toInt64))))]) (W2 := (fun _ => (wX x a b ++ wM cI a ((xsc 72 pa ((nI r1) * (nI cN) + (nI c1)) 5)) ((xsc 72 pe ((nI r1) * (nI cN) + (nI c1)) v3)) ((xsc 72 st ((nI r1) * (nI cN) + (nI c1)) 0)) bn hc hm (nI cN) (nI rN) lo ++ wM cI b pa2 pe2 st2 bn2 hc2 hm2 C2 R2 lo2 ++ wN cI v ((upd pt (9 * (nI r1) + (nI c1)).toNatClampNeg 5)) ((upd pd (9 * (nI r1) + (nI c1)).toNatClampNeg v3)) ab ((upd nw (9 * (nI r1) + (nI c1)).toNatClampNeg 0)) kp wy 0 (nI cN) (nI rN) tn ++ wL cL o 1 ((vp_updL ov 0 ((xcl 72 pa ((nI r1) * (nI cN) + (nI c1))) : Int32).toInt64))))) ⟨hx, hb, hml, hown, hts⟩ (mX2_putCounter_0 l D cI v pt pd ab nw kp wy th cN rN tn (nI r1) (nI c1) v3 hI (hR.pT hp hq) (iT hr3) _) (cwV 3 hts gL_law_X2_putCounter rfl rfl rfl (by decide +kernel) ⟨Nat.le_of_ble_eq_true rfl, Nat.le_of_ble_eq_true rfl⟩) hP hD hK hN hS hA [15, 16, 17, 18, 19, 20, 21] (by decide) rfl [0, 1, 2, 3, 4, 5, 6, 7, 8, 9, 10, 11, 12, 13, 14, 22] (by decide) rfl (by decide) [0, 1, 2, 3, 4, 5, 6, 7, 8, 9, 10, 11, 12, 13, 14, 16, 17, 18, 19, 20, 21, 22, 15] (by decide) (fun _ => rfl) [0] rfl rfl rfl rfl hl.1 rfl (Nat.le_of_ble_eq_true rfl) dL_law_356 ⟨by omega, by omega⟩ (fun r_2 u_2 H locs hr_2 hP hD hS => ?_)
        subst r_2
        have hP : va_P D vwCl (wX x a b ++ wM cI a ((xsc 72 pa ((nI r1) * (nI cN) + (nI c1)) 5)) ((xsc 72 pe ((nI r1) * (nI cN) + (nI c1)) v3)) ((xsc 72 st ((nI r1) * (nI cN) + (nI c1)) 0)) bn hc hm (nI cN) (nI rN) lo ++ wM cI b pa2 pe2 st2 bn2 hc2 hm2 C2 R2 lo2 ++ wN cI v ((upd pt (9 * (nI r1) + (nI c1)).toNatClampNeg 5)) ((upd pd (9 * (nI r1) + (nI c1)).toNatClampNeg v3)) ab ((upd nw (9 * (nI r1) + (nI c1)).toNatClampNeg 0)) kp wy 0 (nI cN) (nI rN) tn ++ wL cL o 1 ((vp_updL ov 0 ((xcl 72 pa ((nI r1) * (nI cN) + (nI c1))) : Int32).toInt64))) H := hP
        have hD : va_D A (wX x a b ++ wM cI a ((xsc 72 pa ((nI r1) * (nI cN) + (nI c1)) 5)) ((xsc 72 pe ((nI r1) * (nI cN) + (nI c1)) v3)) ((xsc 72 st ((nI r1) * (nI cN) + (nI c1)) 0)) bn hc hm (nI cN) (nI rN) lo ++ wM cI b pa2 pe2 st2 bn2 hc2 hm2 C2 R2 lo2 ++ wN cI v ((upd pt (9 * (nI r1) + (nI c1)).toNatClampNeg 5)) ((upd pd (9 * (nI r1) + (nI c1)).toNatClampNeg v3)) ab ((upd nw (9 * (nI r1) + (nI c1)).toNatClampNeg 0)) kp wy 0 (nI cN) (nI rN) tn ++ wL cL o 1 ((vp_updL ov 0 ((xcl 72 pa ((nI r1) * (nI cN) + (nI c1))) : Int32).toInt64))) := hD
        refine lv_istore (lv' := [(6, .int (pt (9 * (nI r1) + (nI c1)).toNatClampNeg)), (5, .int 0), (4, .int (nI (4 * k))), (3, .ref o), (2, .ref (v 0)), (1, .ref x), (0, .ref b0)]) hx hb dL_law_359 hl (by decide) rfl (fun ls hl => ?_)
        refine lv_aload_n hx hb dL_law_361 rfl (lv_at hl 4 rfl) ?_
        refine kRVi (As := []) (rest := []) ⟨hx, hb, hml, hown, hts⟩ (mX2_thrown l D cI v (upd pt (9 * (nI r1) + (nI c1)).toNatClampNeg 5) (upd pd (9 * (nI r1) + (nI c1)).toNatClampNeg v3) ab (upd nw (9 * (nI r1) + (nI c1)).toNatClampNeg 0) kp wy 0 cN rN tn) (cwV 0 hts gL_law_X2_thrown rfl rfl rfl (by decide +kernel) ⟨Nat.le_of_ble_eq_true rfl, Nat.le_of_ble_eq_true rfl⟩) hP hK hN [15, 16, 17, 18, 19, 20, 21] rfl [0] rfl rfl rfl rfl hl.1 rfl (Nat.le_of_ble_eq_true rfl) dL_law_362 ⟨by omega, by omega⟩ (fun r_3 hr_3 => ?_)
        subst r_3
        refine lv_iload hx hb dL_law_365 (lv_at hl 1 rfl) ?_
        refine lv_icmp_eq (tgt := 372) hx hb dL_law_367 (by decide) (fun _ => ?_) (fun c9 => absurd (by decide) c9)
        refine lv_iload hx hb dL_law_372 (lv_at hl 1 rfl) ?_
        refine lv_if_ne (tgt := 389) hx hb dL_law_374 (by decide) (fun c9 => absurd c9 (by decide)) (fun _ => ?_)
        refine lv_aload_n hx hb dL_law_377 rfl (lv_at hl 3 rfl) ?_
        refine lv_iconst (v := 0) hx hb dL_law_378 (by decide) ?_
        refine va_lald hx hb hK hP 22 1 rfl rfl (vp_in_nI (n := 0) (by decide) (by decide)) dL_law_379 ?_
        rw [show (0 : Int32).toNatClampNeg = 0 from by decide, updL_0]
        refine lv_iload hx hb dL_law_380 (lv_at hl 0 rfl) ?_
        refine lv_i2l (v := (pt (9 * (nI r1) + (nI c1)).toNatClampNeg : Int32).toInt64) hx hb dL_law_382 rfl ?_
        refine W.lcmp hx hb dL_law_383 ?_
        refine lv_if_eq (tgt := 389) hx hb dL_law_384 (by decide) (fun _ => ?_) (fun c9 => absurd ((lg_cmp_eq _ _).mpr (congrArg Int32.toInt64 o1)) c9)
        refine lv_goto (tgt := 1599) hx hb dL_law_389 (by decide) ?_
        refine W.widen (k := cells + 10) (n := slots + 41) (by omega) (by omega) ?_
        exact K cN rN (xsc 72 pa ((nI r1) * (nI cN) + (nI c1)) 5) (xsc 72 pe ((nI r1) * (nI cN) + (nI c1)) v3) (xsc 72 st ((nI r1) * (nI cN) + (nI c1)) 0) bn hc hm lo pa2 pe2 st2 bn2 hc2 hm2 C2 R2 lo2 (upd pt (9 * (nI r1) + (nI c1)).toNatClampNeg 5) (upd pd (9 * (nI r1) + (nI c1)).toNatClampNeg v3) ab (upd nw (9 * (nI r1) + (nI c1)).toNatClampNeg 0) kp wy 0 tn (vp_updL ov 0 ((xcl 72 pa ((nI r1) * (nI cN) + (nI c1))) : Int32).toInt64) _ _ _ (hR.kputc hr1 hc1 hr3) hP hD hS (lv_sub hl [2, 3, 4, 5, 6] rfl)
      · have hr3 : xin v3 2 9 = false := Bool.eq_false_iff.mpr hr3
        refine lv_aload_n hx hb dL_law_312 rfl (lv_at hl 3 rfl) ?_
        refine lv_aload_n hx hb dL_law_313 rfl (lv_at hl 4 rfl) ?_
        refine lv_iload hx hb dL_law_314 (lv_at hl 0 rfl) ?_
        refine lv_iconst (v := 1) hx hb dL_law_316 (by decide) ?_
        refine lv_iadd hx hb dL_law_317 ?_
        refine va_sld hx hb hX hbl hbA hS (sx_in hL (j := 1) (by omega)) dL_law_318 ?_
        rw [hv1]
        refine lv_aload_n hx hb dL_law_319 rfl (lv_at hl 4 rfl) ?_
        refine lv_iload hx hb dL_law_320 (lv_at hl 0 rfl) ?_
        refine lv_iconst (v := 2) hx hb dL_law_322 (by decide) ?_
        refine lv_iadd hx hb dL_law_323 ?_
        refine va_sld hx hb hX hbl hbA hS (sx_in hL (j := 2) (by omega)) dL_law_324 ?_
        rw [hv2]
        refine lv_aload_n hx hb dL_law_325 rfl (lv_at hl 4 rfl) ?_
        refine lv_iload hx hb dL_law_326 (lv_at hl 0 rfl) ?_
        refine lv_iconst (v := 3) hx hb dL_law_328 (by decide) ?_
        refine lv_iadd hx hb dL_law_329 ?_
        refine va_sld hx hb hX hbl hbA hS (sx_in hL (j := 3) (by omega)) dL_law_330 ?_
        rw [hv3]
        refine lv_aload_n hx hb dL_law_331 rfl (lv_at hl 1 rfl) ?_
        refine kQWi (As := [.ref x, .int v1, .int v2, .int v3, .ref o]) (rest := []) (wr := [(v 0, .inr (2, [.int th, .int (nI cN), .int (nI rN), .ref (v 1), .ref (v 2), .ref (v 3), .ref (v 4), .ref (v 5), .int tn, .ref (v 6)])), (v 1, .inl (cI, 72, .inl pt)), (v 2, .inl (cI, 72, .inl pd)), (v 3, .inl (cI, 2, .inl ab)), (v 4, .inl (cI, 84, .inl nw)), (v 5, .inl (cI, 84, .inl kp)), (v 6, .inl (cI, 8, .inl wy))]) (W2 := (fun _ => (wX x a b ++ wM cI a pa pe st bn hc hm (nI cN) (nI rN) lo ++ wM cI b pa2 pe2 st2 bn2 hc2 hm2 C2 R2 lo2 ++ wN cI v pt pd ab nw kp wy th (nI cN) (nI rN) tn ++ wL cL o 1 ov))) ⟨hx, hb, hml, hown, hts⟩ (mL_putCounter_a l hst D cI cL x a pa pe st bn hc hm (nI cN) (nI rN) lo b pa2 pe2 st2 bn2 hc2 hm2 C2 R2 lo2 o ov v1 v2 v3 hp hq hr3 _) (vx_cwSW 5 hts gL_law_L_putCounter rfl rfl rfl (by decide +kernel) ⟨Nat.le_of_ble_eq_true rfl, Nat.le_of_ble_eq_true rfl⟩) hP hD hK hN hKX (hZ.now hS hA) hS hA [0, 1, 2, 3, 4, 5, 6, 7, 8, 9, 10, 11, 12, 13, 14, 22] (by decide) rfl [15, 16, 17, 18, 19, 20, 21] (by decide) rfl (by decide) [7, 8, 9, 10, 11, 12, 13, 14, 15, 16, 17, 18, 19, 20, 21, 0, 1, 2, 3, 4, 5, 6, 22] (by decide) (fun _ => rfl) [0, 1] rfl rfl hl.1 rfl (Nat.le_of_ble_eq_true rfl) dL_law_332 ⟨by omega, by omega⟩ (fun r_6 u_6 H locs hr_6 hP hD hS => ?_)
        subst r_6
        have hP : va_P D vwCl (wX x a b ++ wM cI a pa pe st bn hc hm (nI cN) (nI rN) lo ++ wM cI b pa2 pe2 st2 bn2 hc2 hm2 C2 R2 lo2 ++ wN cI v pt pd ab nw kp wy th (nI cN) (nI rN) tn ++ wL cL o 1 ov) H := hP
        have hD : va_D A (wX x a b ++ wM cI a pa pe st bn hc hm (nI cN) (nI rN) lo ++ wM cI b pa2 pe2 st2 bn2 hc2 hm2 C2 R2 lo2 ++ wN cI v pt pd ab nw kp wy th (nI cN) (nI rN) tn ++ wL cL o 1 ov) := hD
        refine lv_istore (lv' := [(5, .int 2), (4, .int (nI (4 * k))), (3, .ref o), (2, .ref (v 0)), (1, .ref x), (0, .ref b0)]) hx hb dL_law_335 hl (by decide) rfl (fun ls hl => ?_)
        refine lv_aload_n hx hb dL_law_337 rfl (lv_at hl 3 rfl) ?_
        refine lv_aload_n hx hb dL_law_338 rfl (lv_at hl 5 rfl) ?_
        refine lv_iload hx hb dL_law_339 (lv_at hl 1 rfl) ?_
        refine lv_iconst (v := 1) hx hb dL_law_341 (by decide) ?_
        refine lv_iadd hx hb dL_law_342 ?_
        refine va_sld hx hb hX hbl hbA hS (sx_in hL (j := 1) (by omega)) dL_law_343 ?_
        rw [hv1]
        refine lv_aload_n hx hb dL_law_344 rfl (lv_at hl 5 rfl) ?_
        refine lv_iload hx hb dL_law_345 (lv_at hl 1 rfl) ?_
        refine lv_iconst (v := 2) hx hb dL_law_347 (by decide) ?_
        refine lv_iadd hx hb dL_law_348 ?_
        refine va_sld hx hb hX hbl hbA hS (sx_in hL (j := 2) (by omega)) dL_law_349 ?_
        rw [hv2]
        refine lv_aload_n hx hb dL_law_350 rfl (lv_at hl 5 rfl) ?_
        refine lv_iload hx hb dL_law_351 (lv_at hl 1 rfl) ?_
        refine lv_iconst (v := 3) hx hb dL_law_353 (by decide) ?_
        refine lv_iadd hx hb dL_law_354 ?_
        refine va_sld hx hb hX hbl hbA hS (sx_in hL (j := 3) (by omega)) dL_law_355 ?_
        rw [hv3]
        refine kQVi (As := [.int v1, .int v2, .int v3]) (rest := []) (wr := [(x, .inr (1, [.ref (a 0), .ref (b 0)])), (a 0, .inr (0, [.ref (a 1), .ref (a 2), .ref (a 3), .ref (a 4), .ref (a 5), .ref (a 6), .int (nI cN), .int (nI rN), .int lo])), (a 1, .inl (cI, 72, .inl pa)), (a 2, .inl (cI, 72, .inl pe)), (a 3, .inl (cI, 72, .inl st)), (a 4, .inl (cI, 9, .inl bn)), (a 5, .inl (cI, 2, .inl hc)), (a 6, .inl (cI, 2, .inl hm)), (b 0, .inr (0, [.ref (b 1), .ref (b 2), .ref (b 3), .ref (b 4), .ref (b 5), .ref (b 6), .int C2, .int R2, .int lo2])), (b 1, .inl (cI, 72, .inl pa2)), (b 2, .inl (cI, 72, .inl pe2)), (b 3, .inl (cI, 72, .inl st2)), (b 4, .inl (cI, 9, .inl bn2)), (b 5, .inl (cI, 2, .inl hc2)), (b 6, .inl (cI, 2, .inl hm2)), (o, .inl (cL, 1, .inr (.inl ov)))]) (W2 := (fun _ => (wX x a b ++ wM cI a pa pe st bn hc hm (nI cN) (nI rN) lo ++ wM cI b pa2 pe2 st2 bn2 hc2 hm2 C2 R2 lo2 ++ wN cI v pt pd ab nw kp wy 2 (nI cN) (nI rN) tn ++ wL cL o 1 ov))) ⟨hx, hb, hml, hown, hts⟩ (mX2_putCounter_2 l D cI v pt pd ab nw kp wy th cN rN tn v1 v2 v3 (hR.pT hp hq) (iT hr3) _) (cwV 3 hts gL_law_X2_putCounter rfl rfl rfl (by decide +kernel) ⟨Nat.le_of_ble_eq_true rfl, Nat.le_of_ble_eq_true rfl⟩) hP hD hK hN hS hA [15, 16, 17, 18, 19, 20, 21] (by decide) rfl [0, 1, 2, 3, 4, 5, 6, 7, 8, 9, 10, 11, 12, 13, 14, 22] (by decide) rfl (by decide) [0, 1, 2, 3, 4, 5, 6, 7, 8, 9, 10, 11, 12, 13, 14, 16, 17, 18, 19, 20, 21, 22, 15] (by decide) (fun _ => rfl) [0] rfl rfl rfl rfl hl.1 rfl (Nat.le_of_ble_eq_true rfl) dL_law_356 ⟨by omega, by omega⟩ (fun r_7 u_7 H locs hr_7 hP hD hS => ?_)
        subst r_7
        have hP : va_P D vwCl (wX x a b ++ wM cI a pa pe st bn hc hm (nI cN) (nI rN) lo ++ wM cI b pa2 pe2 st2 bn2 hc2 hm2 C2 R2 lo2 ++ wN cI v pt pd ab nw kp wy 2 (nI cN) (nI rN) tn ++ wL cL o 1 ov) H := hP
        have hD : va_D A (wX x a b ++ wM cI a pa pe st bn hc hm (nI cN) (nI rN) lo ++ wM cI b pa2 pe2 st2 bn2 hc2 hm2 C2 R2 lo2 ++ wN cI v pt pd ab nw kp wy 2 (nI cN) (nI rN) tn ++ wL cL o 1 ov) := hD
        refine lv_istore (lv' := [(6, .int 0), (5, .int 2), (4, .int (nI (4 * k))), (3, .ref o), (2, .ref (v 0)), (1, .ref x), (0, .ref b0)]) hx hb dL_law_359 hl (by decide) rfl (fun ls hl => ?_)
        refine lv_aload_n hx hb dL_law_361 rfl (lv_at hl 4 rfl) ?_
        refine kRVi (As := []) (rest := []) ⟨hx, hb, hml, hown, hts⟩ (mX2_thrown l D cI v pt pd ab nw kp wy 2 cN rN tn) (cwV 0 hts gL_law_X2_thrown rfl rfl rfl (by decide +kernel) ⟨Nat.le_of_ble_eq_true rfl, Nat.le_of_ble_eq_true rfl⟩) hP hK hN [15, 16, 17, 18, 19, 20, 21] rfl [0] rfl rfl rfl rfl hl.1 rfl (Nat.le_of_ble_eq_true rfl) dL_law_362 ⟨by omega, by omega⟩ (fun r_8 hr_8 => ?_)
        subst r_8
        refine lv_iload hx hb dL_law_365 (lv_at hl 1 rfl) ?_
        refine lv_icmp_eq (tgt := 372) hx hb dL_law_367 (by decide) (fun _ => ?_) (fun c9 => absurd (by decide) c9)
        refine lv_iload hx hb dL_law_372 (lv_at hl 1 rfl) ?_
        refine lv_if_ne (tgt := 389) hx hb dL_law_374 (by decide) (fun _ => ?_) (fun c9 => absurd c9 (by decide))
        refine lv_goto (tgt := 1599) hx hb dL_law_389 (by decide) ?_
        refine W.widen (k := cells + 10) (n := slots + 41) (by omega) (by omega) ?_
        exact K cN rN pa pe st bn hc hm lo pa2 pe2 st2 bn2 hc2 hm2 C2 R2 lo2 pt pd ab nw kp wy 2 tn ov _ _ _ hR hP hD hS (lv_sub hl [2, 3, 4, 5, 6] rfl)
    · have hq : xhas (nI cN) v2 = false := Bool.eq_false_iff.mpr hq
      refine lv_aload_n hx hb dL_law_312 rfl (lv_at hl 3 rfl) ?_
      refine lv_aload_n hx hb dL_law_313 rfl (lv_at hl 4 rfl) ?_
      refine lv_iload hx hb dL_law_314 (lv_at hl 0 rfl) ?_
      refine lv_iconst (v := 1) hx hb dL_law_316 (by decide) ?_
      refine lv_iadd hx hb dL_law_317 ?_
      refine va_sld hx hb hX hbl hbA hS (sx_in hL (j := 1) (by omega)) dL_law_318 ?_
      rw [hv1]
      refine lv_aload_n hx hb dL_law_319 rfl (lv_at hl 4 rfl) ?_
      refine lv_iload hx hb dL_law_320 (lv_at hl 0 rfl) ?_
      refine lv_iconst (v := 2) hx hb dL_law_322 (by decide) ?_
      refine lv_iadd hx hb dL_law_323 ?_
      refine va_sld hx hb hX hbl hbA hS (sx_in hL (j := 2) (by omega)) dL_law_324 ?_
      rw [hv2]
      refine lv_aload_n hx hb dL_law_325 rfl (lv_at hl 4 rfl) ?_
      refine lv_iload hx hb dL_law_326 (lv_at hl 0 rfl) ?_
      refine lv_iconst (v := 3) hx hb dL_law_328 (by decide) ?_
      refine lv_iadd hx hb dL_law_329 ?_
      refine va_sld hx hb hX hbl hbA hS (sx_in hL (j := 3) (by omega)) dL_law_330 ?_
      rw [hv3]
      refine lv_aload_n hx hb dL_law_331 rfl (lv_at hl 1 rfl) ?_
      refine kQWi (As := [.ref x, .int v1, .int v2, .int v3, .ref o]) (rest := []) (wr := [(v 0, .inr (2, [.int th, .int (nI cN), .int (nI rN), .ref (v 1), .ref (v 2), .ref (v 3), .ref (v 4), .ref (v 5), .int tn, .ref (v 6)])), (v 1, .inl (cI, 72, .inl pt)), (v 2, .inl (cI, 72, .inl pd)), (v 3, .inl (cI, 2, .inl ab)), (v 4, .inl (cI, 84, .inl nw)), (v 5, .inl (cI, 84, .inl kp)), (v 6, .inl (cI, 8, .inl wy))]) (W2 := (fun _ => (wX x a b ++ wM cI a pa pe st bn hc hm (nI cN) (nI rN) lo ++ wM cI b pa2 pe2 st2 bn2 hc2 hm2 C2 R2 lo2 ++ wN cI v pt pd ab nw kp wy th (nI cN) (nI rN) tn ++ wL cL o 1 ov))) ⟨hx, hb, hml, hown, hts⟩ (mL_putCounter_c l hst D cI cL x a pa pe st bn hc hm (nI cN) (nI rN) lo b pa2 pe2 st2 bn2 hc2 hm2 C2 R2 lo2 o ov v1 v2 v3 hp hq _) (vx_cwSW 5 hts gL_law_L_putCounter rfl rfl rfl (by decide +kernel) ⟨Nat.le_of_ble_eq_true rfl, Nat.le_of_ble_eq_true rfl⟩) hP hD hK hN hKX (hZ.now hS hA) hS hA [0, 1, 2, 3, 4, 5, 6, 7, 8, 9, 10, 11, 12, 13, 14, 22] (by decide) rfl [15, 16, 17, 18, 19, 20, 21] (by decide) rfl (by decide) [7, 8, 9, 10, 11, 12, 13, 14, 15, 16, 17, 18, 19, 20, 21, 0, 1, 2, 3, 4, 5, 6, 22] (by decide) (fun _ => rfl) [0, 1] rfl rfl hl.1 rfl (Nat.le_of_ble_eq_true rfl) dL_law_332 ⟨by omega, by omega⟩ (fun r_10 u_10 H locs hr_10 hP hD hS => ?_)
      subst r_10
      have hP : va_P D vwCl (wX x a b ++ wM cI a pa pe st bn hc hm (nI cN) (nI rN) lo ++ wM cI b pa2 pe2 st2 bn2 hc2 hm2 C2 R2 lo2 ++ wN cI v pt pd ab nw kp wy th (nI cN) (nI rN) tn ++ wL cL o 1 ov) H := hP
      have hD : va_D A (wX x a b ++ wM cI a pa pe st bn hc hm (nI cN) (nI rN) lo ++ wM cI b pa2 pe2 st2 bn2 hc2 hm2 C2 R2 lo2 ++ wN cI v pt pd ab nw kp wy th (nI cN) (nI rN) tn ++ wL cL o 1 ov) := hD
      refine lv_istore (lv' := [(5, .int 1), (4, .int (nI (4 * k))), (3, .ref o), (2, .ref (v 0)), (1, .ref x), (0, .ref b0)]) hx hb dL_law_335 hl (by decide) rfl (fun ls hl => ?_)
      refine lv_aload_n hx hb dL_law_337 rfl (lv_at hl 3 rfl) ?_
      refine lv_aload_n hx hb dL_law_338 rfl (lv_at hl 5 rfl) ?_
      refine lv_iload hx hb dL_law_339 (lv_at hl 1 rfl) ?_
      refine lv_iconst (v := 1) hx hb dL_law_341 (by decide) ?_
      refine lv_iadd hx hb dL_law_342 ?_
      refine va_sld hx hb hX hbl hbA hS (sx_in hL (j := 1) (by omega)) dL_law_343 ?_
      rw [hv1]
      refine lv_aload_n hx hb dL_law_344 rfl (lv_at hl 5 rfl) ?_
      refine lv_iload hx hb dL_law_345 (lv_at hl 1 rfl) ?_
      refine lv_iconst (v := 2) hx hb dL_law_347 (by decide) ?_
      refine lv_iadd hx hb dL_law_348 ?_
      refine va_sld hx hb hX hbl hbA hS (sx_in hL (j := 2) (by omega)) dL_law_349 ?_
      rw [hv2]
      refine lv_aload_n hx hb dL_law_350 rfl (lv_at hl 5 rfl) ?_
      refine lv_iload hx hb dL_law_351 (lv_at hl 1 rfl) ?_
      refine lv_iconst (v := 3) hx hb dL_law_353 (by decide) ?_
      refine lv_iadd hx hb dL_law_354 ?_
      refine va_sld hx hb hX hbl hbA hS (sx_in hL (j := 3) (by omega)) dL_law_355 ?_
      rw [hv3]
      refine kQVi (As := [.int v1, .int v2, .int v3]) (rest := []) (wr := [(x, .inr (1, [.ref (a 0), .ref (b 0)])), (a 0, .inr (0, [.ref (a 1), .ref (a 2), .ref (a 3), .ref (a 4), .ref (a 5), .ref (a 6), .int (nI cN), .int (nI rN), .int lo])), (a 1, .inl (cI, 72, .inl pa)), (a 2, .inl (cI, 72, .inl pe)), (a 3, .inl (cI, 72, .inl st)), (a 4, .inl (cI, 9, .inl bn)), (a 5, .inl (cI, 2, .inl hc)), (a 6, .inl (cI, 2, .inl hm)), (b 0, .inr (0, [.ref (b 1), .ref (b 2), .ref (b 3), .ref (b 4), .ref (b 5), .ref (b 6), .int C2, .int R2, .int lo2])), (b 1, .inl (cI, 72, .inl pa2)), (b 2, .inl (cI, 72, .inl pe2)), (b 3, .inl (cI, 72, .inl st2)), (b 4, .inl (cI, 9, .inl bn2)), (b 5, .inl (cI, 2, .inl hc2)), (b 6, .inl (cI, 2, .inl hm2)), (o, .inl (cL, 1, .inr (.inl ov)))]) (W2 := (fun _ => (wX x a b ++ wM cI a pa pe st bn hc hm (nI cN) (nI rN) lo ++ wM cI b pa2 pe2 st2 bn2 hc2 hm2 C2 R2 lo2 ++ wN cI v pt pd ab nw kp wy 1 (nI cN) (nI rN) tn ++ wL cL o 1 ov))) ⟨hx, hb, hml, hown, hts⟩ (mX2_putCounter_1 l D cI v pt pd ab nw kp wy th cN rN tn v1 v2 v3 (hR.pC hq) _) (cwV 3 hts gL_law_X2_putCounter rfl rfl rfl (by decide +kernel) ⟨Nat.le_of_ble_eq_true rfl, Nat.le_of_ble_eq_true rfl⟩) hP hD hK hN hS hA [15, 16, 17, 18, 19, 20, 21] (by decide) rfl [0, 1, 2, 3, 4, 5, 6, 7, 8, 9, 10, 11, 12, 13, 14, 22] (by decide) rfl (by decide) [0, 1, 2, 3, 4, 5, 6, 7, 8, 9, 10, 11, 12, 13, 14, 16, 17, 18, 19, 20, 21, 22, 15] (by decide) (fun _ => rfl) [0] rfl rfl rfl rfl hl.1 rfl (Nat.le_of_ble_eq_true rfl) dL_law_356 ⟨by omega, by omega⟩ (fun r_11 u_11 H locs hr_11 hP hD hS => ?_)
      subst r_11
      have hP : va_P D vwCl (wX x a b ++ wM cI a pa pe st bn hc hm (nI cN) (nI rN) lo ++ wM cI b pa2 pe2 st2 bn2 hc2 hm2 C2 R2 lo2 ++ wN cI v pt pd ab nw kp wy 1 (nI cN) (nI rN) tn ++ wL cL o 1 ov) H := hP
      have hD : va_D A (wX x a b ++ wM cI a pa pe st bn hc hm (nI cN) (nI rN) lo ++ wM cI b pa2 pe2 st2 bn2 hc2 hm2 C2 R2 lo2 ++ wN cI v pt pd ab nw kp wy 1 (nI cN) (nI rN) tn ++ wL cL o 1 ov) := hD
      refine lv_istore (lv' := [(6, .int 0), (5, .int 1), (4, .int (nI (4 * k))), (3, .ref o), (2, .ref (v 0)), (1, .ref x), (0, .ref b0)]) hx hb dL_law_359 hl (by decide) rfl (fun ls hl => ?_)
      refine lv_aload_n hx hb dL_law_361 rfl (lv_at hl 4 rfl) ?_
      refine kRVi (As := []) (rest := []) ⟨hx, hb, hml, hown, hts⟩ (mX2_thrown l D cI v pt pd ab nw kp wy 1 cN rN tn) (cwV 0 hts gL_law_X2_thrown rfl rfl rfl (by decide +kernel) ⟨Nat.le_of_ble_eq_true rfl, Nat.le_of_ble_eq_true rfl⟩) hP hK hN [15, 16, 17, 18, 19, 20, 21] rfl [0] rfl rfl rfl rfl hl.1 rfl (Nat.le_of_ble_eq_true rfl) dL_law_362 ⟨by omega, by omega⟩ (fun r_12 hr_12 => ?_)
      subst r_12
      refine lv_iload hx hb dL_law_365 (lv_at hl 1 rfl) ?_
      refine lv_icmp_eq (tgt := 372) hx hb dL_law_367 (by decide) (fun _ => ?_) (fun c9 => absurd (by decide) c9)
      refine lv_iload hx hb dL_law_372 (lv_at hl 1 rfl) ?_
      refine lv_if_ne (tgt := 389) hx hb dL_law_374 (by decide) (fun _ => ?_) (fun c9 => absurd c9 (by decide))
      refine lv_goto (tgt := 1599) hx hb dL_law_389 (by decide) ?_
      refine W.widen (k := cells + 10) (n := slots + 41) (by omega) (by omega) ?_
      exact K cN rN pa pe st bn hc hm lo pa2 pe2 st2 bn2 hc2 hm2 C2 R2 lo2 pt pd ab nw kp wy 1 tn ov _ _ _ hR hP hD hS (lv_sub hl [2, 3, 4, 5, 6] rfl)
  · have hp : xhas (nI rN) v1 = false := Bool.eq_false_iff.mpr hp
    refine lv_aload_n hx hb dL_law_312 rfl (lv_at hl 3 rfl) ?_
    refine lv_aload_n hx hb dL_law_313 rfl (lv_at hl 4 rfl) ?_
    refine lv_iload hx hb dL_law_314 (lv_at hl 0 rfl) ?_
    refine lv_iconst (v := 1) hx hb dL_law_316 (by decide) ?_
    refine lv_iadd hx hb dL_law_317 ?_
    refine va_sld hx hb hX hbl hbA hS (sx_in hL (j := 1) (by omega)) dL_law_318 ?_
    rw [hv1]
    refine lv_aload_n hx hb dL_law_319 rfl (lv_at hl 4 rfl) ?_
    refine lv_iload hx hb dL_law_320 (lv_at hl 0 rfl) ?_
    refine lv_iconst (v := 2) hx hb dL_law_322 (by decide) ?_
    refine lv_iadd hx hb dL_law_323 ?_
    refine va_sld hx hb hX hbl hbA hS (sx_in hL (j := 2) (by omega)) dL_law_324 ?_
    rw [hv2]
    refine lv_aload_n hx hb dL_law_325 rfl (lv_at hl 4 rfl) ?_
    refine lv_iload hx hb dL_law_326 (lv_at hl 0 rfl) ?_
    refine lv_iconst (v := 3) hx hb dL_law_328 (by decide) ?_
    refine lv_iadd hx hb dL_law_329 ?_
    refine va_sld hx hb hX hbl hbA hS (sx_in hL (j := 3) (by omega)) dL_law_330 ?_
    rw [hv3]
    refine lv_aload_n hx hb dL_law_331 rfl (lv_at hl 1 rfl) ?_
    refine kQWi (As := [.ref x, .int v1, .int v2, .int v3, .ref o]) (rest := []) (wr := [(v 0, .inr (2, [.int th, .int (nI cN), .int (nI rN), .ref (v 1), .ref (v 2), .ref (v 3), .ref (v 4), .ref (v 5), .int tn, .ref (v 6)])), (v 1, .inl (cI, 72, .inl pt)), (v 2, .inl (cI, 72, .inl pd)), (v 3, .inl (cI, 2, .inl ab)), (v 4, .inl (cI, 84, .inl nw)), (v 5, .inl (cI, 84, .inl kp)), (v 6, .inl (cI, 8, .inl wy))]) (W2 := (fun _ => (wX x a b ++ wM cI a pa pe st bn hc hm (nI cN) (nI rN) lo ++ wM cI b pa2 pe2 st2 bn2 hc2 hm2 C2 R2 lo2 ++ wN cI v pt pd ab nw kp wy th (nI cN) (nI rN) tn ++ wL cL o 1 ov))) ⟨hx, hb, hml, hown, hts⟩ (mL_putCounter_r l hst D cI cL x a pa pe st bn hc hm (nI cN) (nI rN) lo b pa2 pe2 st2 bn2 hc2 hm2 C2 R2 lo2 o ov v1 v2 v3 hp _) (vx_cwSW 5 hts gL_law_L_putCounter rfl rfl rfl (by decide +kernel) ⟨Nat.le_of_ble_eq_true rfl, Nat.le_of_ble_eq_true rfl⟩) hP hD hK hN hKX (hZ.now hS hA) hS hA [0, 1, 2, 3, 4, 5, 6, 7, 8, 9, 10, 11, 12, 13, 14, 22] (by decide) rfl [15, 16, 17, 18, 19, 20, 21] (by decide) rfl (by decide) [7, 8, 9, 10, 11, 12, 13, 14, 15, 16, 17, 18, 19, 20, 21, 0, 1, 2, 3, 4, 5, 6, 22] (by decide) (fun _ => rfl) [0, 1] rfl rfl hl.1 rfl (Nat.le_of_ble_eq_true rfl) dL_law_332 ⟨by omega, by omega⟩ (fun r_14 u_14 H locs hr_14 hP hD hS => ?_)
    subst r_14
    have hP : va_P D vwCl (wX x a b ++ wM cI a pa pe st bn hc hm (nI cN) (nI rN) lo ++ wM cI b pa2 pe2 st2 bn2 hc2 hm2 C2 R2 lo2 ++ wN cI v pt pd ab nw kp wy th (nI cN) (nI rN) tn ++ wL cL o 1 ov) H := hP
    have hD : va_D A (wX x a b ++ wM cI a pa pe st bn hc hm (nI cN) (nI rN) lo ++ wM cI b pa2 pe2 st2 bn2 hc2 hm2 C2 R2 lo2 ++ wN cI v pt pd ab nw kp wy th (nI cN) (nI rN) tn ++ wL cL o 1 ov) := hD
    refine lv_istore (lv' := [(5, .int 1), (4, .int (nI (4 * k))), (3, .ref o), (2, .ref (v 0)), (1, .ref x), (0, .ref b0)]) hx hb dL_law_335 hl (by decide) rfl (fun ls hl => ?_)
    refine lv_aload_n hx hb dL_law_337 rfl (lv_at hl 3 rfl) ?_
    refine lv_aload_n hx hb dL_law_338 rfl (lv_at hl 5 rfl) ?_
    refine lv_iload hx hb dL_law_339 (lv_at hl 1 rfl) ?_
    refine lv_iconst (v := 1) hx hb dL_law_341 (by decide) ?_
    refine lv_iadd hx hb dL_law_342 ?_
    refine va_sld hx hb hX hbl hbA hS (sx_in hL (j := 1) (by omega)) dL_law_343 ?_
    rw [hv1]
    refine lv_aload_n hx hb dL_law_344 rfl (lv_at hl 5 rfl) ?_
    refine lv_iload hx hb dL_law_345 (lv_at hl 1 rfl) ?_
    refine lv_iconst (v := 2) hx hb dL_law_347 (by decide) ?_
    refine lv_iadd hx hb dL_law_348 ?_
    refine va_sld hx hb hX hbl hbA hS (sx_in hL (j := 2) (by omega)) dL_law_349 ?_
    rw [hv2]
    refine lv_aload_n hx hb dL_law_350 rfl (lv_at hl 5 rfl) ?_
    refine lv_iload hx hb dL_law_351 (lv_at hl 1 rfl) ?_
    refine lv_iconst (v := 3) hx hb dL_law_353 (by decide) ?_
    refine lv_iadd hx hb dL_law_354 ?_
    refine va_sld hx hb hX hbl hbA hS (sx_in hL (j := 3) (by omega)) dL_law_355 ?_
    rw [hv3]
    refine kQVi (As := [.int v1, .int v2, .int v3]) (rest := []) (wr := [(x, .inr (1, [.ref (a 0), .ref (b 0)])), (a 0, .inr (0, [.ref (a 1), .ref (a 2), .ref (a 3), .ref (a 4), .ref (a 5), .ref (a 6), .int (nI cN), .int (nI rN), .int lo])), (a 1, .inl (cI, 72, .inl pa)), (a 2, .inl (cI, 72, .inl pe)), (a 3, .inl (cI, 72, .inl st)), (a 4, .inl (cI, 9, .inl bn)), (a 5, .inl (cI, 2, .inl hc)), (a 6, .inl (cI, 2, .inl hm)), (b 0, .inr (0, [.ref (b 1), .ref (b 2), .ref (b 3), .ref (b 4), .ref (b 5), .ref (b 6), .int C2, .int R2, .int lo2])), (b 1, .inl (cI, 72, .inl pa2)), (b 2, .inl (cI, 72, .inl pe2)), (b 3, .inl (cI, 72, .inl st2)), (b 4, .inl (cI, 9, .inl bn2)), (b 5, .inl (cI, 2, .inl hc2)), (b 6, .inl (cI, 2, .inl hm2)), (o, .inl (cL, 1, .inr (.inl ov)))]) (W2 := (fun _ => (wX x a b ++ wM cI a pa pe st bn hc hm (nI cN) (nI rN) lo ++ wM cI b pa2 pe2 st2 bn2 hc2 hm2 C2 R2 lo2 ++ wN cI v pt pd ab nw kp wy 1 (nI cN) (nI rN) tn ++ wL cL o 1 ov))) ⟨hx, hb, hml, hown, hts⟩ (mX2_putCounter_1 l D cI v pt pd ab nw kp wy th cN rN tn v1 v2 v3 (hR.pR hp) _) (cwV 3 hts gL_law_X2_putCounter rfl rfl rfl (by decide +kernel) ⟨Nat.le_of_ble_eq_true rfl, Nat.le_of_ble_eq_true rfl⟩) hP hD hK hN hS hA [15, 16, 17, 18, 19, 20, 21] (by decide) rfl [0, 1, 2, 3, 4, 5, 6, 7, 8, 9, 10, 11, 12, 13, 14, 22] (by decide) rfl (by decide) [0, 1, 2, 3, 4, 5, 6, 7, 8, 9, 10, 11, 12, 13, 14, 16, 17, 18, 19, 20, 21, 22, 15] (by decide) (fun _ => rfl) [0] rfl rfl rfl rfl hl.1 rfl (Nat.le_of_ble_eq_true rfl) dL_law_356 ⟨by omega, by omega⟩ (fun r_15 u_15 H locs hr_15 hP hD hS => ?_)
    subst r_15
    have hP : va_P D vwCl (wX x a b ++ wM cI a pa pe st bn hc hm (nI cN) (nI rN) lo ++ wM cI b pa2 pe2 st2 bn2 hc2 hm2 C2 R2 lo2 ++ wN cI v pt pd ab nw kp wy 1 (nI cN) (nI rN) tn ++ wL cL o 1 ov) H := hP
    have hD : va_D A (wX x a b ++ wM cI a pa pe st bn hc hm (nI cN) (nI rN) lo ++ wM cI b pa2 pe2 st2 bn2 hc2 hm2 C2 R2 lo2 ++ wN cI v pt pd ab nw kp wy 1 (nI cN) (nI rN) tn ++ wL cL o 1 ov) := hD
    refine lv_istore (lv' := [(6, .int 0), (5, .int 1), (4, .int (nI (4 * k))), (3, .ref o), (2, .ref (v 0)), (1, .ref x), (0, .ref b0)]) hx hb dL_law_359 hl (by decide) rfl (fun ls hl => ?_)
    refine lv_aload_n hx hb dL_law_361 rfl (lv_at hl 4 rfl) ?_
    refine kRVi (As := []) (rest := []) ⟨hx, hb, hml, hown, hts⟩ (mX2_thrown l D cI v pt pd ab nw kp wy 1 cN rN tn) (cwV 0 hts gL_law_X2_thrown rfl rfl rfl (by decide +kernel) ⟨Nat.le_of_ble_eq_true rfl, Nat.le_of_ble_eq_true rfl⟩) hP hK hN [15, 16, 17, 18, 19, 20, 21] rfl [0] rfl rfl rfl rfl hl.1 rfl (Nat.le_of_ble_eq_true rfl) dL_law_362 ⟨by omega, by omega⟩ (fun r_16 hr_16 => ?_)
    subst r_16
    refine lv_iload hx hb dL_law_365 (lv_at hl 1 rfl) ?_
    refine lv_icmp_eq (tgt := 372) hx hb dL_law_367 (by decide) (fun _ => ?_) (fun c9 => absurd (by decide) c9)
    refine lv_iload hx hb dL_law_372 (lv_at hl 1 rfl) ?_
    refine lv_if_ne (tgt := 389) hx hb dL_law_374 (by decide) (fun _ => ?_) (fun c9 => absurd c9 (by decide))
    refine lv_goto (tgt := 1599) hx hb dL_law_389 (by decide) ?_
    refine W.widen (k := cells + 10) (n := slots + 41) (by omega) (by omega) ?_
    exact K cN rN pa pe st bn hc hm lo pa2 pe2 st2 bn2 hc2 hm2 C2 R2 lo2 pt pd ab nw kp wy 1 tn ov _ _ _ hR hP hD hS (lv_sub hl [2, 3, 4, 5, 6] rfl)
set_option maxHeartbeats 4000000 in
set_option maxRecDepth 100000 in
theorem cs_3 {p : Program} {l : Launch} {e : Env} {s : State} {m : MethodId} {below : List Frame} {meth : Method} {c : Code} {Q : State → Prop} {D : va_G} {cI cL : ClassId} {x o b0 L k : Nat} {a b v : Nat → Nat} {xs : Nat → Int32} {A : Nat → Prop} {cells slots : Nat} {cN rN : Nat} {pa pe st bn hc hm : Nat → Int32} {lo : Int32} {pa2 pe2 st2 bn2 hc2 hm2 : Nat → Int32} {C2 R2 lo2 : Int32} {pt pd ab nw kp wy : Nat → Int32} {th tn : Int32} {ov : Nat → Int64} {H : Heap} {locs : List Loc} {ls : Array Slot} (F : LF p l s m b0 c D cI cL L xs A) (hR : Rel cN rN pa pe st bn hc hm lo pt pd ab nw) (hk : 4 * k + 3 < L) (h1 : cells + 10 ≤ room_1.cells) (h2 : slots + 41 ≤ room_1.slots) (hP : va_P D vwCl (wX x a b ++ wM cI a pa pe st bn hc hm (nI cN) (nI rN) lo ++ wM cI b pa2 pe2 st2 bn2 hc2 hm2 C2 R2 lo2 ++ wN cI v pt pd ab nw kp wy th (nI cN) (nI rN) tn ++ wL cL o 1 ov) H) (hD : va_D A (wX x a b ++ wM cI a pa pe st bn hc hm (nI cN) (nI rN) lo ++ wM cI b pa2 pe2 st2 bn2 hc2 hm2 C2 R2 lo2 ++ wN cI v pt pd ab nw kp wy th (nI cN) (nI rN) tn ++ wL cL o 1 ov)) (hS : va_S A s.heap H locs) (hl : lv_has ls 9 [(4, .int (nI (4 * k))), (3, .ref o), (2, .ref (v 0)), (1, .ref x), (0, .ref b0)]) (K : LK p l e s m b0 below meth c D cI cL x o k a b v A cells slots Q) : W p l e room_1 s m #[Value.ref b0] below meth c H locs cells slots Q (F0 m 392 ls []) := by
  obtain ⟨hx, hb, hml, hown, hts, hK, hN, hKX, hZ, hA, hX, hbl, hbA, hst, hL⟩ := F
  have hI := hR.inv
  obtain ⟨v1, hv1⟩ : ∃ z, xs (nI (4 * k) + 1).toNatClampNeg = z := ⟨_, rfl⟩
  obtain ⟨v2, hv2⟩ : ∃ z, xs (nI (4 * k) + 2).toNatClampNeg = z := ⟨_, rfl⟩
  by_cases hp : xhas (nI rN) v1 = true
  · by_cases hq : xhas (nI cN) v2 = true
    · by_cases hr3 : xcl 72 pa (v1 * nI cN + v2) = 3
      · obtain ⟨r1, hr1, rfl⟩ := hR.rE hp
        obtain ⟨c1, hc1, rfl⟩ := hR.cE hq
        obtain ⟨o1, o2, o3⟩ := hR.one hr1 hc1
        obtain ⟨t1, t2, t3⟩ := hR.kturn hr1 hc1 hr3
        refine lv_aload_n hx hb dL_law_392 rfl (lv_at hl 3 rfl) ?_
        refine lv_aload_n hx hb dL_law_393 rfl (lv_at hl 4 rfl) ?_
        refine lv_iload hx hb dL_law_394 (lv_at hl 0 rfl) ?_
        refine lv_iconst (v := 1) hx hb dL_law_396 (by decide) ?_
        refine lv_iadd hx hb dL_law_397 ?_
        refine va_sld hx hb hX hbl hbA hS (sx_in hL (j := 1) (by omega)) dL_law_398 ?_
        rw [hv1]
        refine lv_aload_n hx hb dL_law_399 rfl (lv_at hl 4 rfl) ?_
        refine lv_iload hx hb dL_law_400 (lv_at hl 0 rfl) ?_
        refine lv_iconst (v := 2) hx hb dL_law_402 (by decide) ?_
        refine lv_iadd hx hb dL_law_403 ?_
        refine va_sld hx hb hX hbl hbA hS (sx_in hL (j := 2) (by omega)) dL_law_404 ?_
        rw [hv2]
        refine lv_aload_n hx hb dL_law_405 rfl (lv_at hl 1 rfl) ?_
        refine kQWi (As := [.ref x, .int (nI r1), .int (nI c1), .ref o]) (rest := []) (wr := [(v 0, .inr (2, [.int th, .int (nI cN), .int (nI rN), .ref (v 1), .ref (v 2), .ref (v 3), .ref (v 4), .ref (v 5), .int tn, .ref (v 6)])), (v 1, .inl (cI, 72, .inl pt)), (v 2, .inl (cI, 72, .inl pd)), (v 3, .inl (cI, 2, .inl ab)), (v 4, .inl (cI, 84, .inl nw)), (v 5, .inl (cI, 84, .inl kp)), (v 6, .inl (cI, 8, .inl wy))]) (W2 := (fun _ => (wX x a b ++ wM cI a pa pe ((xsc 72 st ((nI r1) * (nI cN) + (nI c1)) (if xRight pa st ((nI r1) * (nI cN) + (nI c1)) = true then 0 else 1))) bn hc hm (nI cN) (nI rN) lo ++ wM cI b pa2 pe2 st2 bn2 hc2 hm2 C2 R2 lo2 ++ wN cI v pt pd ab nw kp wy th (nI cN) (nI rN) tn ++ wL cL o 1 ((vp_updL ov 0 (if xRight pa (xsc 72 st ((nI r1) * (nI cN) + (nI c1)) (if xRight pa st ((nI r1) * (nI cN) + (nI c1)) = true then 0 else 1)) ((nI r1) * (nI cN) + (nI c1)) = true then (1 : Int64) else 0)))))) ⟨hx, hb, hml, hown, hts⟩ (mL_turn_0 l D cI cL x a pa pe st bn hc hm (nI cN) (nI rN) lo b pa2 pe2 st2 bn2 hc2 hm2 C2 R2 lo2 o ov (nI r1) (nI c1) hp hq hr3 _) (vx_cwSW 4 hts gL_law_L_turn rfl rfl rfl (by decide +kernel) ⟨Nat.le_of_ble_eq_true rfl, Nat.le_of_ble_eq_true rfl⟩) hP hD hK hN hKX (hZ.now hS hA) hS hA [0, 1, 2, 3, 4, 5, 6, 7, 8, 9, 10, 11, 12, 13, 14, 22] (by decide) rfl [15, 16, 17, 18, 19, 20, 21] (by decide) rfl (by decide) [7, 8, 9, 10, 11, 12, 13, 14, 15, 16, 17, 18, 19, 20, 21, 0, 1, 2, 3, 4, 5, 6, 22] (by decide) (fun _ => rfl) [0, 1] rfl rfl hl.1 rfl (Nat.le_of_ble_eq_true rfl) dL_law_406 ⟨by omega, by omega⟩ (fun r_1 u_1 H locs hr_1 hP hD hS => ?_)
        subst r_1
        have hP : va_P D vwCl (wX x a b ++ wM cI a pa pe ((xsc 72 st ((nI r1) * (nI cN) + (nI c1)) (if xRight pa st ((nI r1) * (nI cN) + (nI c1)) = true then 0 else 1))) bn hc hm (nI cN) (nI rN) lo ++ wM cI b pa2 pe2 st2 bn2 hc2 hm2 C2 R2 lo2 ++ wN cI v pt pd ab nw kp wy th (nI cN) (nI rN) tn ++ wL cL o 1 ((vp_updL ov 0 (if xRight pa (xsc 72 st ((nI r1) * (nI cN) + (nI c1)) (if xRight pa st ((nI r1) * (nI cN) + (nI c1)) = true then 0 else 1)) ((nI r1) * (nI cN) + (nI c1)) = true then (1 : Int64) else 0)))) H := hP
        have hD : va_D A (wX x a b ++ wM cI a pa pe ((xsc 72 st ((nI r1) * (nI cN) + (nI c1)) (if xRight pa st ((nI r1) * (nI cN) + (nI c1)) = true then 0 else 1))) bn hc hm (nI cN) (nI rN) lo ++ wM cI b pa2 pe2 st2 bn2 hc2 hm2 C2 R2 lo2 ++ wN cI v pt pd ab nw kp wy th (nI cN) (nI rN) tn ++ wL cL o 1 ((vp_updL ov 0 (if xRight pa (xsc 72 st ((nI r1) * (nI cN) + (nI c1)) (if xRight pa st ((nI r1) * (nI cN) + (nI c1)) = true then 0 else 1)) ((nI r1) * (nI cN) + (nI c1)) = true then (1 : Int64) else 0)))) := hD
        refine lv_istore (lv' := [(5, .int 0), (4, .int (nI (4 * k))), (3, .ref o), (2, .ref (v 0)), (1, .ref x), (0, .ref b0)]) hx hb dL_law_409 hl (by decide) rfl (fun ls hl => ?_)
        refine lv_aload_n hx hb dL_law_411 rfl (lv_at hl 3 rfl) ?_
        refine lv_aload_n hx hb dL_law_412 rfl (lv_at hl 5 rfl) ?_
        refine lv_iload hx hb dL_law_413 (lv_at hl 1 rfl) ?_
        refine lv_iconst (v := 1) hx hb dL_law_415 (by decide) ?_
        refine lv_iadd hx hb dL_law_416 ?_
        refine va_sld hx hb hX hbl hbA hS (sx_in hL (j := 1) (by omega)) dL_law_417 ?_
        rw [hv1]
        refine lv_aload_n hx hb dL_law_418 rfl (lv_at hl 5 rfl) ?_
        refine lv_iload hx hb dL_law_419 (lv_at hl 1 rfl) ?_
        refine lv_iconst (v := 2) hx hb dL_law_421 (by decide) ?_
        refine lv_iadd hx hb dL_law_422 ?_
        refine va_sld hx hb hX hbl hbA hS (sx_in hL (j := 2) (by omega)) dL_law_423 ?_
        rw [hv2]
        refine kQVi (As := [.int (nI r1), .int (nI c1)]) (rest := []) (wr := [(x, .inr (1, [.ref (a 0), .ref (b 0)])), (a 0, .inr (0, [.ref (a 1), .ref (a 2), .ref (a 3), .ref (a 4), .ref (a 5), .ref (a 6), .int (nI cN), .int (nI rN), .int lo])), (a 1, .inl (cI, 72, .inl pa)), (a 2, .inl (cI, 72, .inl pe)), (a 3, .inl (cI, 72, .inl (xsc 72 st ((nI r1) * (nI cN) + (nI c1)) (if xRight pa st ((nI r1) * (nI cN) + (nI c1)) = true then 0 else 1)))), (a 4, .inl (cI, 9, .inl bn)), (a 5, .inl (cI, 2, .inl hc)), (a 6, .inl (cI, 2, .inl hm)), (b 0, .inr (0, [.ref (b 1), .ref (b 2), .ref (b 3), .ref (b 4), .ref (b 5), .ref (b 6), .int C2, .int R2, .int lo2])), (b 1, .inl (cI, 72, .inl pa2)), (b 2, .inl (cI, 72, .inl pe2)), (b 3, .inl (cI, 72, .inl st2)), (b 4, .inl (cI, 9, .inl bn2)), (b 5, .inl (cI, 2, .inl hc2)), (b 6, .inl (cI, 2, .inl hm2)), (o, .inl (cL, 1, .inr (.inl (vp_updL ov 0 (if xRight pa (xsc 72 st ((nI r1) * (nI cN) + (nI c1)) (if xRight pa st ((nI r1) * (nI cN) + (nI c1)) = true then 0 else 1)) ((nI r1) * (nI cN) + (nI c1)) = true then (1 : Int64) else 0)))))]) (W2 := (fun _ => (wX x a b ++ wM cI a pa pe ((xsc 72 st ((nI r1) * (nI cN) + (nI c1)) (if xRight pa st ((nI r1) * (nI cN) + (nI c1)) = true then 0 else 1))) bn hc hm (nI cN) (nI rN) lo ++ wM cI b pa2 pe2 st2 bn2 hc2 hm2 C2 R2 lo2 ++ wN cI v pt pd ab ((upd nw (9 * (nI r1) + (nI c1)).toNatClampNeg (1 - nw (9 * (nI r1) + (nI c1)).toNatClampNeg))) kp wy 0 (nI cN) (nI rN) tn ++ wL cL o 1 ((vp_updL ov 0 (if xRight pa (xsc 72 st ((nI r1) * (nI cN) + (nI c1)) (if xRight pa st ((nI r1) * (nI cN) + (nI c1)) = true then 0 else 1)) ((nI r1) * (nI cN) + (nI c1)) = true then (1 : Int64) else 0)))))) ⟨hx, hb, hml, hown, hts⟩ (mX2_turn_0 l D cI v pt pd ab nw kp wy th cN rN tn (nI r1) (nI c1) hI (hR.pT hp hq) t1 _) (cwV 2 hts gL_law_X2_turn rfl rfl rfl (by decide +kernel) ⟨Nat.le_of_ble_eq_true rfl, Nat.le_of_ble_eq_true rfl⟩) hP hD hK hN hS hA [15, 16, 17, 18, 19, 20, 21] (by decide) rfl [0, 1, 2, 3, 4, 5, 6, 7, 8, 9, 10, 11, 12, 13, 14, 22] (by decide) rfl (by decide) [0, 1, 2, 3, 4, 5, 6, 7, 8, 9, 10, 11, 12, 13, 14, 16, 17, 18, 19, 20, 21, 22, 15] (by decide) (fun _ => rfl) [0] rfl rfl rfl rfl hl.1 rfl (Nat.le_of_ble_eq_true rfl) dL_law_424 ⟨by omega, by omega⟩ (fun r_2 u_2 H locs hr_2 hP hD hS => ?_)
        subst r_2
        have hP : va_P D vwCl (wX x a b ++ wM cI a pa pe ((xsc 72 st ((nI r1) * (nI cN) + (nI c1)) (if xRight pa st ((nI r1) * (nI cN) + (nI c1)) = true then 0 else 1))) bn hc hm (nI cN) (nI rN) lo ++ wM cI b pa2 pe2 st2 bn2 hc2 hm2 C2 R2 lo2 ++ wN cI v pt pd ab ((upd nw (9 * (nI r1) + (nI c1)).toNatClampNeg (1 - nw (9 * (nI r1) + (nI c1)).toNatClampNeg))) kp wy 0 (nI cN) (nI rN) tn ++ wL cL o 1 ((vp_updL ov 0 (if xRight pa (xsc 72 st ((nI r1) * (nI cN) + (nI c1)) (if xRight pa st ((nI r1) * (nI cN) + (nI c1)) = true then 0 else 1)) ((nI r1) * (nI cN) + (nI c1)) = true then (1 : Int64) else 0)))) H := hP
        have hD : va_D A (wX x a b ++ wM cI a pa pe ((xsc 72 st ((nI r1) * (nI cN) + (nI c1)) (if xRight pa st ((nI r1) * (nI cN) + (nI c1)) = true then 0 else 1))) bn hc hm (nI cN) (nI rN) lo ++ wM cI b pa2 pe2 st2 bn2 hc2 hm2 C2 R2 lo2 ++ wN cI v pt pd ab ((upd nw (9 * (nI r1) + (nI c1)).toNatClampNeg (1 - nw (9 * (nI r1) + (nI c1)).toNatClampNeg))) kp wy 0 (nI cN) (nI rN) tn ++ wL cL o 1 ((vp_updL ov 0 (if xRight pa (xsc 72 st ((nI r1) * (nI cN) + (nI c1)) (if xRight pa st ((nI r1) * (nI cN) + (nI c1)) = true then 0 else 1)) ((nI r1) * (nI cN) + (nI c1)) = true then (1 : Int64) else 0)))) := hD
        refine lv_istore (lv' := [(6, .int (bi (if 1 - nw (9 * (nI r1) + (nI c1)).toNatClampNeg = 1 then true else false))), (5, .int 0), (4, .int (nI (4 * k))), (3, .ref o), (2, .ref (v 0)), (1, .ref x), (0, .ref b0)]) hx hb dL_law_427 hl (by decide) rfl (fun ls hl => ?_)
        refine lv_aload_n hx hb dL_law_429 rfl (lv_at hl 4 rfl) ?_
        refine kRVi (As := []) (rest := []) ⟨hx, hb, hml, hown, hts⟩ (mX2_thrown l D cI v pt pd ab (upd nw (9 * (nI r1) + (nI c1)).toNatClampNeg (1 - nw (9 * (nI r1) + (nI c1)).toNatClampNeg)) kp wy 0 cN rN tn) (cwV 0 hts gL_law_X2_thrown rfl rfl rfl (by decide +kernel) ⟨Nat.le_of_ble_eq_true rfl, Nat.le_of_ble_eq_true rfl⟩) hP hK hN [15, 16, 17, 18, 19, 20, 21] rfl [0] rfl rfl rfl rfl hl.1 rfl (Nat.le_of_ble_eq_true rfl) dL_law_430 ⟨by omega, by omega⟩ (fun r_3 hr_3 => ?_)
        subst r_3
        refine lv_iload hx hb dL_law_433 (lv_at hl 1 rfl) ?_
        refine lv_icmp_eq (tgt := 440) hx hb dL_law_435 (by decide) (fun _ => ?_) (fun c9 => absurd (by decide) c9)
        refine lv_iload hx hb dL_law_440 (lv_at hl 1 rfl) ?_
        refine lv_if_ne (tgt := 464) hx hb dL_law_442 (by decide) (fun c9 => absurd c9 (by decide)) (fun _ => ?_)
        refine lv_aload_n hx hb dL_law_445 rfl (lv_at hl 3 rfl) ?_
        refine lv_iconst (v := 0) hx hb dL_law_446 (by decide) ?_
        refine va_lald hx hb hK hP 22 1 rfl rfl (vp_in_nI (n := 0) (by decide) (by decide)) dL_law_447 ?_
        rw [show (0 : Int32).toNatClampNeg = 0 from by decide, updL_0]
        refine lv_iload hx hb dL_law_448 (lv_at hl 0 rfl) ?_
        refine lv_if_eq (tgt := 457) hx hb dL_law_450 (by decide) (fun c_6 => ?_) (fun c_6 => ?_)
        · simp only [ne_eq, bi_e0, Bool.not_eq_false] at c_6
          refine lv_lconst (v := 0) hx hb dL_law_457 (by decide) ?_
          refine W.lcmp hx hb dL_law_458 ?_
          refine lv_if_eq (tgt := 464) hx hb dL_law_459 (by decide) (fun _ => ?_) (fun c9 => absurd ((lg_cmp_eq _ _).mpr (by rw [t2, c_6]; decide)) c9)
          refine lv_goto (tgt := 1599) hx hb dL_law_464 (by decide) ?_
          refine W.widen (k := cells + 10) (n := slots + 41) (by omega) (by omega) ?_
          exact K cN rN pa pe (xsc 72 st ((nI r1) * (nI cN) + (nI c1)) (if xRight pa st ((nI r1) * (nI cN) + (nI c1)) = true then 0 else 1)) bn hc hm lo pa2 pe2 st2 bn2 hc2 hm2 C2 R2 lo2 pt pd ab (upd nw (9 * (nI r1) + (nI c1)).toNatClampNeg (1 - nw (9 * (nI r1) + (nI c1)).toNatClampNeg)) kp wy 0 tn (vp_updL ov 0 (if xRight pa (xsc 72 st ((nI r1) * (nI cN) + (nI c1)) (if xRight pa st ((nI r1) * (nI cN) + (nI c1)) = true then 0 else 1)) ((nI r1) * (nI cN) + (nI c1)) = true then (1 : Int64) else 0)) _ _ _ t3 hP hD hS (lv_sub hl [2, 3, 4, 5, 6] rfl)
        · simp only [ne_eq, bi_e0, Bool.not_eq_false] at c_6
          refine lv_lconst (v := 1) hx hb dL_law_453 (by decide) ?_
          refine lv_goto (tgt := 458) hx hb dL_law_454 (by decide) ?_
          refine W.lcmp hx hb dL_law_458 ?_
          refine lv_if_eq (tgt := 464) hx hb dL_law_459 (by decide) (fun _ => ?_) (fun c9 => absurd ((lg_cmp_eq _ _).mpr (by rw [t2, c_6]; decide)) c9)
          refine lv_goto (tgt := 1599) hx hb dL_law_464 (by decide) ?_
          refine W.widen (k := cells + 10) (n := slots + 41) (by omega) (by omega) ?_
          exact K cN rN pa pe (xsc 72 st ((nI r1) * (nI cN) + (nI c1)) (if xRight pa st ((nI r1) * (nI cN) + (nI c1)) = true then 0 else 1)) bn hc hm lo pa2 pe2 st2 bn2 hc2 hm2 C2 R2 lo2 pt pd ab (upd nw (9 * (nI r1) + (nI c1)).toNatClampNeg (1 - nw (9 * (nI r1) + (nI c1)).toNatClampNeg)) kp wy 0 tn (vp_updL ov 0 (if xRight pa (xsc 72 st ((nI r1) * (nI cN) + (nI c1)) (if xRight pa st ((nI r1) * (nI cN) + (nI c1)) = true then 0 else 1)) ((nI r1) * (nI cN) + (nI c1)) = true then (1 : Int64) else 0)) _ _ _ t3 hP hD hS (lv_sub hl [2, 3, 4, 5, 6] rfl)
      · obtain ⟨r1, hr1, rfl⟩ := hR.rE hp
        obtain ⟨c1, hc1, rfl⟩ := hR.cE hq
        obtain ⟨o1, o2, o3⟩ := hR.one hr1 hc1
        have t1 : ¬ pt (9 * nI r1 + nI c1).toNatClampNeg = 3 := by rw [← o1]; exact hr3
        refine lv_aload_n hx hb dL_law_392 rfl (lv_at hl 3 rfl) ?_
        refine lv_aload_n hx hb dL_law_393 rfl (lv_at hl 4 rfl) ?_
        refine lv_iload hx hb dL_law_394 (lv_at hl 0 rfl) ?_
        refine lv_iconst (v := 1) hx hb dL_law_396 (by decide) ?_
        refine lv_iadd hx hb dL_law_397 ?_
        refine va_sld hx hb hX hbl hbA hS (sx_in hL (j := 1) (by omega)) dL_law_398 ?_
        rw [hv1]
        refine lv_aload_n hx hb dL_law_399 rfl (lv_at hl 4 rfl) ?_
        refine lv_iload hx hb dL_law_400 (lv_at hl 0 rfl) ?_
        refine lv_iconst (v := 2) hx hb dL_law_402 (by decide) ?_
        refine lv_iadd hx hb dL_law_403 ?_
        refine va_sld hx hb hX hbl hbA hS (sx_in hL (j := 2) (by omega)) dL_law_404 ?_
        rw [hv2]
        refine lv_aload_n hx hb dL_law_405 rfl (lv_at hl 1 rfl) ?_
        refine kQWi (As := [.ref x, .int (nI r1), .int (nI c1), .ref o]) (rest := []) (wr := [(v 0, .inr (2, [.int th, .int (nI cN), .int (nI rN), .ref (v 1), .ref (v 2), .ref (v 3), .ref (v 4), .ref (v 5), .int tn, .ref (v 6)])), (v 1, .inl (cI, 72, .inl pt)), (v 2, .inl (cI, 72, .inl pd)), (v 3, .inl (cI, 2, .inl ab)), (v 4, .inl (cI, 84, .inl nw)), (v 5, .inl (cI, 84, .inl kp)), (v 6, .inl (cI, 8, .inl wy))]) (W2 := (fun _ => (wX x a b ++ wM cI a pa pe st bn hc hm (nI cN) (nI rN) lo ++ wM cI b pa2 pe2 st2 bn2 hc2 hm2 C2 R2 lo2 ++ wN cI v pt pd ab nw kp wy th (nI cN) (nI rN) tn ++ wL cL o 1 ov))) ⟨hx, hb, hml, hown, hts⟩ (mL_turn_s l hst D cI cL x a pa pe st bn hc hm (nI cN) (nI rN) lo b pa2 pe2 st2 bn2 hc2 hm2 C2 R2 lo2 o ov (nI r1) (nI c1) hp hq hr3 _) (vx_cwSW 4 hts gL_law_L_turn rfl rfl rfl (by decide +kernel) ⟨Nat.le_of_ble_eq_true rfl, Nat.le_of_ble_eq_true rfl⟩) hP hD hK hN hKX (hZ.now hS hA) hS hA [0, 1, 2, 3, 4, 5, 6, 7, 8, 9, 10, 11, 12, 13, 14, 22] (by decide) rfl [15, 16, 17, 18, 19, 20, 21] (by decide) rfl (by decide) [7, 8, 9, 10, 11, 12, 13, 14, 15, 16, 17, 18, 19, 20, 21, 0, 1, 2, 3, 4, 5, 6, 22] (by decide) (fun _ => rfl) [0, 1] rfl rfl hl.1 rfl (Nat.le_of_ble_eq_true rfl) dL_law_406 ⟨by omega, by omega⟩ (fun r_7 u_7 H locs hr_7 hP hD hS => ?_)
        subst r_7
        have hP : va_P D vwCl (wX x a b ++ wM cI a pa pe st bn hc hm (nI cN) (nI rN) lo ++ wM cI b pa2 pe2 st2 bn2 hc2 hm2 C2 R2 lo2 ++ wN cI v pt pd ab nw kp wy th (nI cN) (nI rN) tn ++ wL cL o 1 ov) H := hP
        have hD : va_D A (wX x a b ++ wM cI a pa pe st bn hc hm (nI cN) (nI rN) lo ++ wM cI b pa2 pe2 st2 bn2 hc2 hm2 C2 R2 lo2 ++ wN cI v pt pd ab nw kp wy th (nI cN) (nI rN) tn ++ wL cL o 1 ov) := hD
        refine lv_istore (lv' := [(5, .int 2), (4, .int (nI (4 * k))), (3, .ref o), (2, .ref (v 0)), (1, .ref x), (0, .ref b0)]) hx hb dL_law_409 hl (by decide) rfl (fun ls hl => ?_)
        refine lv_aload_n hx hb dL_law_411 rfl (lv_at hl 3 rfl) ?_
        refine lv_aload_n hx hb dL_law_412 rfl (lv_at hl 5 rfl) ?_
        refine lv_iload hx hb dL_law_413 (lv_at hl 1 rfl) ?_
        refine lv_iconst (v := 1) hx hb dL_law_415 (by decide) ?_
        refine lv_iadd hx hb dL_law_416 ?_
        refine va_sld hx hb hX hbl hbA hS (sx_in hL (j := 1) (by omega)) dL_law_417 ?_
        rw [hv1]
        refine lv_aload_n hx hb dL_law_418 rfl (lv_at hl 5 rfl) ?_
        refine lv_iload hx hb dL_law_419 (lv_at hl 1 rfl) ?_
        refine lv_iconst (v := 2) hx hb dL_law_421 (by decide) ?_
        refine lv_iadd hx hb dL_law_422 ?_
        refine va_sld hx hb hX hbl hbA hS (sx_in hL (j := 2) (by omega)) dL_law_423 ?_
        rw [hv2]
        refine kQVi (As := [.int (nI r1), .int (nI c1)]) (rest := []) (wr := [(x, .inr (1, [.ref (a 0), .ref (b 0)])), (a 0, .inr (0, [.ref (a 1), .ref (a 2), .ref (a 3), .ref (a 4), .ref (a 5), .ref (a 6), .int (nI cN), .int (nI rN), .int lo])), (a 1, .inl (cI, 72, .inl pa)), (a 2, .inl (cI, 72, .inl pe)), (a 3, .inl (cI, 72, .inl st)), (a 4, .inl (cI, 9, .inl bn)), (a 5, .inl (cI, 2, .inl hc)), (a 6, .inl (cI, 2, .inl hm)), (b 0, .inr (0, [.ref (b 1), .ref (b 2), .ref (b 3), .ref (b 4), .ref (b 5), .ref (b 6), .int C2, .int R2, .int lo2])), (b 1, .inl (cI, 72, .inl pa2)), (b 2, .inl (cI, 72, .inl pe2)), (b 3, .inl (cI, 72, .inl st2)), (b 4, .inl (cI, 9, .inl bn2)), (b 5, .inl (cI, 2, .inl hc2)), (b 6, .inl (cI, 2, .inl hm2)), (o, .inl (cL, 1, .inr (.inl ov)))]) (W2 := (fun _ => (wX x a b ++ wM cI a pa pe st bn hc hm (nI cN) (nI rN) lo ++ wM cI b pa2 pe2 st2 bn2 hc2 hm2 C2 R2 lo2 ++ wN cI v pt pd ab nw kp wy 2 (nI cN) (nI rN) tn ++ wL cL o 1 ov))) ⟨hx, hb, hml, hown, hts⟩ (mX2_turn_2 l D cI v pt pd ab nw kp wy th cN rN tn (nI r1) (nI c1) hI (hR.pT hp hq) t1 _) (cwV 2 hts gL_law_X2_turn rfl rfl rfl (by decide +kernel) ⟨Nat.le_of_ble_eq_true rfl, Nat.le_of_ble_eq_true rfl⟩) hP hD hK hN hS hA [15, 16, 17, 18, 19, 20, 21] (by decide) rfl [0, 1, 2, 3, 4, 5, 6, 7, 8, 9, 10, 11, 12, 13, 14, 22] (by decide) rfl (by decide) [0, 1, 2, 3, 4, 5, 6, 7, 8, 9, 10, 11, 12, 13, 14, 16, 17, 18, 19, 20, 21, 22, 15] (by decide) (fun _ => rfl) [0] rfl rfl rfl rfl hl.1 rfl (Nat.le_of_ble_eq_true rfl) dL_law_424 ⟨by omega, by omega⟩ (fun r_8 u_8 H locs hr_8 hP hD hS => ?_)
        subst r_8
        have hP : va_P D vwCl (wX x a b ++ wM cI a pa pe st bn hc hm (nI cN) (nI rN) lo ++ wM cI b pa2 pe2 st2 bn2 hc2 hm2 C2 R2 lo2 ++ wN cI v pt pd ab nw kp wy 2 (nI cN) (nI rN) tn ++ wL cL o 1 ov) H := hP
        have hD : va_D A (wX x a b ++ wM cI a pa pe st bn hc hm (nI cN) (nI rN) lo ++ wM cI b pa2 pe2 st2 bn2 hc2 hm2 C2 R2 lo2 ++ wN cI v pt pd ab nw kp wy 2 (nI cN) (nI rN) tn ++ wL cL o 1 ov) := hD
        refine lv_istore (lv' := [(6, .int 0), (5, .int 2), (4, .int (nI (4 * k))), (3, .ref o), (2, .ref (v 0)), (1, .ref x), (0, .ref b0)]) hx hb dL_law_427 hl (by decide) rfl (fun ls hl => ?_)
        refine lv_aload_n hx hb dL_law_429 rfl (lv_at hl 4 rfl) ?_
        refine kRVi (As := []) (rest := []) ⟨hx, hb, hml, hown, hts⟩ (mX2_thrown l D cI v pt pd ab nw kp wy 2 cN rN tn) (cwV 0 hts gL_law_X2_thrown rfl rfl rfl (by decide +kernel) ⟨Nat.le_of_ble_eq_true rfl, Nat.le_of_ble_eq_true rfl⟩) hP hK hN [15, 16, 17, 18, 19, 20, 21] rfl [0] rfl rfl rfl rfl hl.1 rfl (Nat.le_of_ble_eq_true rfl) dL_law_430 ⟨by omega, by omega⟩ (fun r_9 hr_9 => ?_)
        subst r_9
        refine lv_iload hx hb dL_law_433 (lv_at hl 1 rfl) ?_
        refine lv_icmp_eq (tgt := 440) hx hb dL_law_435 (by decide) (fun _ => ?_) (fun c9 => absurd (by decide) c9)
        refine lv_iload hx hb dL_law_440 (lv_at hl 1 rfl) ?_
        refine lv_if_ne (tgt := 464) hx hb dL_law_442 (by decide) (fun _ => ?_) (fun c9 => absurd c9 (by decide))
        refine lv_goto (tgt := 1599) hx hb dL_law_464 (by decide) ?_
        refine W.widen (k := cells + 10) (n := slots + 41) (by omega) (by omega) ?_
        exact K cN rN pa pe st bn hc hm lo pa2 pe2 st2 bn2 hc2 hm2 C2 R2 lo2 pt pd ab nw kp wy 2 tn ov _ _ _ hR hP hD hS (lv_sub hl [2, 3, 4, 5, 6] rfl)
    · have hq : xhas (nI cN) v2 = false := Bool.eq_false_iff.mpr hq
      refine lv_aload_n hx hb dL_law_392 rfl (lv_at hl 3 rfl) ?_
      refine lv_aload_n hx hb dL_law_393 rfl (lv_at hl 4 rfl) ?_
      refine lv_iload hx hb dL_law_394 (lv_at hl 0 rfl) ?_
      refine lv_iconst (v := 1) hx hb dL_law_396 (by decide) ?_
      refine lv_iadd hx hb dL_law_397 ?_
      refine va_sld hx hb hX hbl hbA hS (sx_in hL (j := 1) (by omega)) dL_law_398 ?_
      rw [hv1]
      refine lv_aload_n hx hb dL_law_399 rfl (lv_at hl 4 rfl) ?_
      refine lv_iload hx hb dL_law_400 (lv_at hl 0 rfl) ?_
      refine lv_iconst (v := 2) hx hb dL_law_402 (by decide) ?_
      refine lv_iadd hx hb dL_law_403 ?_
      refine va_sld hx hb hX hbl hbA hS (sx_in hL (j := 2) (by omega)) dL_law_404 ?_
      rw [hv2]
      refine lv_aload_n hx hb dL_law_405 rfl (lv_at hl 1 rfl) ?_
      refine kQWi (As := [.ref x, .int v1, .int v2, .ref o]) (rest := []) (wr := [(v 0, .inr (2, [.int th, .int (nI cN), .int (nI rN), .ref (v 1), .ref (v 2), .ref (v 3), .ref (v 4), .ref (v 5), .int tn, .ref (v 6)])), (v 1, .inl (cI, 72, .inl pt)), (v 2, .inl (cI, 72, .inl pd)), (v 3, .inl (cI, 2, .inl ab)), (v 4, .inl (cI, 84, .inl nw)), (v 5, .inl (cI, 84, .inl kp)), (v 6, .inl (cI, 8, .inl wy))]) (W2 := (fun _ => (wX x a b ++ wM cI a pa pe st bn hc hm (nI cN) (nI rN) lo ++ wM cI b pa2 pe2 st2 bn2 hc2 hm2 C2 R2 lo2 ++ wN cI v pt pd ab nw kp wy th (nI cN) (nI rN) tn ++ wL cL o 1 ov))) ⟨hx, hb, hml, hown, hts⟩ (mL_turn_c l hst D cI cL x a pa pe st bn hc hm (nI cN) (nI rN) lo b pa2 pe2 st2 bn2 hc2 hm2 C2 R2 lo2 o ov v1 v2 hp hq _) (vx_cwSW 4 hts gL_law_L_turn rfl rfl rfl (by decide +kernel) ⟨Nat.le_of_ble_eq_true rfl, Nat.le_of_ble_eq_true rfl⟩) hP hD hK hN hKX (hZ.now hS hA) hS hA [0, 1, 2, 3, 4, 5, 6, 7, 8, 9, 10, 11, 12, 13, 14, 22] (by decide) rfl [15, 16, 17, 18, 19, 20, 21] (by decide) rfl (by decide) [7, 8, 9, 10, 11, 12, 13, 14, 15, 16, 17, 18, 19, 20, 21, 0, 1, 2, 3, 4, 5, 6, 22] (by decide) (fun _ => rfl) [0, 1] rfl rfl hl.1 rfl (Nat.le_of_ble_eq_true rfl) dL_law_406 ⟨by omega, by omega⟩ (fun r_11 u_11 H locs hr_11 hP hD hS => ?_)
      subst r_11
      have hP : va_P D vwCl (wX x a b ++ wM cI a pa pe st bn hc hm (nI cN) (nI rN) lo ++ wM cI b pa2 pe2 st2 bn2 hc2 hm2 C2 R2 lo2 ++ wN cI v pt pd ab nw kp wy th (nI cN) (nI rN) tn ++ wL cL o 1 ov) H := hP
      have hD : va_D A (wX x a b ++ wM cI a pa pe st bn hc hm (nI cN) (nI rN) lo ++ wM cI b pa2 pe2 st2 bn2 hc2 hm2 C2 R2 lo2 ++ wN cI v pt pd ab nw kp wy th (nI cN) (nI rN) tn ++ wL cL o 1 ov) := hD
      refine lv_istore (lv' := [(5, .int 1), (4, .int (nI (4 * k))), (3, .ref o), (2, .ref (v 0)), (1, .ref x), (0, .ref b0)]) hx hb dL_law_409 hl (by decide) rfl (fun ls hl => ?_)
      refine lv_aload_n hx hb dL_law_411 rfl (lv_at hl 3 rfl) ?_
      refine lv_aload_n hx hb dL_law_412 rfl (lv_at hl 5 rfl) ?_
      refine lv_iload hx hb dL_law_413 (lv_at hl 1 rfl) ?_
      refine lv_iconst (v := 1) hx hb dL_law_415 (by decide) ?_
      refine lv_iadd hx hb dL_law_416 ?_
      refine va_sld hx hb hX hbl hbA hS (sx_in hL (j := 1) (by omega)) dL_law_417 ?_
      rw [hv1]
      refine lv_aload_n hx hb dL_law_418 rfl (lv_at hl 5 rfl) ?_
      refine lv_iload hx hb dL_law_419 (lv_at hl 1 rfl) ?_
      refine lv_iconst (v := 2) hx hb dL_law_421 (by decide) ?_
      refine lv_iadd hx hb dL_law_422 ?_
      refine va_sld hx hb hX hbl hbA hS (sx_in hL (j := 2) (by omega)) dL_law_423 ?_
      rw [hv2]
      refine kQVi (As := [.int v1, .int v2]) (rest := []) (wr := [(x, .inr (1, [.ref (a 0), .ref (b 0)])), (a 0, .inr (0, [.ref (a 1), .ref (a 2), .ref (a 3), .ref (a 4), .ref (a 5), .ref (a 6), .int (nI cN), .int (nI rN), .int lo])), (a 1, .inl (cI, 72, .inl pa)), (a 2, .inl (cI, 72, .inl pe)), (a 3, .inl (cI, 72, .inl st)), (a 4, .inl (cI, 9, .inl bn)), (a 5, .inl (cI, 2, .inl hc)), (a 6, .inl (cI, 2, .inl hm)), (b 0, .inr (0, [.ref (b 1), .ref (b 2), .ref (b 3), .ref (b 4), .ref (b 5), .ref (b 6), .int C2, .int R2, .int lo2])), (b 1, .inl (cI, 72, .inl pa2)), (b 2, .inl (cI, 72, .inl pe2)), (b 3, .inl (cI, 72, .inl st2)), (b 4, .inl (cI, 9, .inl bn2)), (b 5, .inl (cI, 2, .inl hc2)), (b 6, .inl (cI, 2, .inl hm2)), (o, .inl (cL, 1, .inr (.inl ov)))]) (W2 := (fun _ => (wX x a b ++ wM cI a pa pe st bn hc hm (nI cN) (nI rN) lo ++ wM cI b pa2 pe2 st2 bn2 hc2 hm2 C2 R2 lo2 ++ wN cI v pt pd ab nw kp wy 1 (nI cN) (nI rN) tn ++ wL cL o 1 ov))) ⟨hx, hb, hml, hown, hts⟩ (mX2_turn_1 l D cI v pt pd ab nw kp wy th cN rN tn v1 v2 (hR.pC hq) _) (cwV 2 hts gL_law_X2_turn rfl rfl rfl (by decide +kernel) ⟨Nat.le_of_ble_eq_true rfl, Nat.le_of_ble_eq_true rfl⟩) hP hD hK hN hS hA [15, 16, 17, 18, 19, 20, 21] (by decide) rfl [0, 1, 2, 3, 4, 5, 6, 7, 8, 9, 10, 11, 12, 13, 14, 22] (by decide) rfl (by decide) [0, 1, 2, 3, 4, 5, 6, 7, 8, 9, 10, 11, 12, 13, 14, 16, 17, 18, 19, 20, 21, 22, 15] (by decide) (fun _ => rfl) [0] rfl rfl rfl rfl hl.1 rfl (Nat.le_of_ble_eq_true rfl) dL_law_424 ⟨by omega, by omega⟩ (fun r_12 u_12 H locs hr_12 hP hD hS => ?_)
      subst r_12
      have hP : va_P D vwCl (wX x a b ++ wM cI a pa pe st bn hc hm (nI cN) (nI rN) lo ++ wM cI b pa2 pe2 st2 bn2 hc2 hm2 C2 R2 lo2 ++ wN cI v pt pd ab nw kp wy 1 (nI cN) (nI rN) tn ++ wL cL o 1 ov) H := hP
      have hD : va_D A (wX x a b ++ wM cI a pa pe st bn hc hm (nI cN) (nI rN) lo ++ wM cI b pa2 pe2 st2 bn2 hc2 hm2 C2 R2 lo2 ++ wN cI v pt pd ab nw kp wy 1 (nI cN) (nI rN) tn ++ wL cL o 1 ov) := hD
      refine lv_istore (lv' := [(6, .int 0), (5, .int 1), (4, .int (nI (4 * k))), (3, .ref o), (2, .ref (v 0)), (1, .ref x), (0, .ref b0)]) hx hb dL_law_427 hl (by decide) rfl (fun ls hl => ?_)
      refine lv_aload_n hx hb dL_law_429 rfl (lv_at hl 4 rfl) ?_
      refine kRVi (As := []) (rest := []) ⟨hx, hb, hml, hown, hts⟩ (mX2_thrown l D cI v pt pd ab nw kp wy 1 cN rN tn) (cwV 0 hts gL_law_X2_thrown rfl rfl rfl (by decide +kernel) ⟨Nat.le_of_ble_eq_true rfl, Nat.le_of_ble_eq_true rfl⟩) hP hK hN [15, 16, 17, 18, 19, 20, 21] rfl [0] rfl rfl rfl rfl hl.1 rfl (Nat.le_of_ble_eq_true rfl) dL_law_430 ⟨by omega, by omega⟩ (fun r_13 hr_13 => ?_)
      subst r_13
      refine lv_iload hx hb dL_law_433 (lv_at hl 1 rfl) ?_
      refine lv_icmp_eq (tgt := 440) hx hb dL_law_435 (by decide) (fun _ => ?_) (fun c9 => absurd (by decide) c9)
      refine lv_iload hx hb dL_law_440 (lv_at hl 1 rfl) ?_
      refine lv_if_ne (tgt := 464) hx hb dL_law_442 (by decide) (fun _ => ?_) (fun c9 => absurd c9 (by decide))
      refine lv_goto (tgt := 1599) hx hb dL_law_464 (by decide) ?_
      refine W.widen (k := cells + 10) (n := slots + 41) (by omega) (by omega) ?_
      exact K cN rN pa pe st bn hc hm lo pa2 pe2 st2 bn2 hc2 hm2 C2 R2 lo2 pt pd ab nw kp wy 1 tn ov _ _ _ hR hP hD hS (lv_sub hl [2, 3, 4, 5, 6] rfl)
  · have hp : xhas (nI rN) v1 = false := Bool.eq_false_iff.mpr hp
    refine lv_aload_n hx hb dL_law_392 rfl (lv_at hl 3 rfl) ?_
    refine lv_aload_n hx hb dL_law_393 rfl (lv_at hl 4 rfl) ?_
    refine lv_iload hx hb dL_law_394 (lv_at hl 0 rfl) ?_
    refine lv_iconst (v := 1) hx hb dL_law_396 (by decide) ?_
    refine lv_iadd hx hb dL_law_397 ?_
    refine va_sld hx hb hX hbl hbA hS (sx_in hL (j := 1) (by omega)) dL_law_398 ?_
    rw [hv1]
    refine lv_aload_n hx hb dL_law_399 rfl (lv_at hl 4 rfl) ?_
    refine lv_iload hx hb dL_law_400 (lv_at hl 0 rfl) ?_
    refine lv_iconst (v := 2) hx hb dL_law_402 (by decide) ?_
    refine lv_iadd hx hb dL_law_403 ?_
    refine va_sld hx hb hX hbl hbA hS (sx_in hL (j := 2) (by omega)) dL_law_404 ?_
    rw [hv2]
    refine lv_aload_n hx hb dL_law_405 rfl (lv_at hl 1 rfl) ?_
    refine kQWi (As := [.ref x, .int v1, .int v2, .ref o]) (rest := []) (wr := [(v 0, .inr (2, [.int th, .int (nI cN), .int (nI rN), .ref (v 1), .ref (v 2), .ref (v 3), .ref (v 4), .ref (v 5), .int tn, .ref (v 6)])), (v 1, .inl (cI, 72, .inl pt)), (v 2, .inl (cI, 72, .inl pd)), (v 3, .inl (cI, 2, .inl ab)), (v 4, .inl (cI, 84, .inl nw)), (v 5, .inl (cI, 84, .inl kp)), (v 6, .inl (cI, 8, .inl wy))]) (W2 := (fun _ => (wX x a b ++ wM cI a pa pe st bn hc hm (nI cN) (nI rN) lo ++ wM cI b pa2 pe2 st2 bn2 hc2 hm2 C2 R2 lo2 ++ wN cI v pt pd ab nw kp wy th (nI cN) (nI rN) tn ++ wL cL o 1 ov))) ⟨hx, hb, hml, hown, hts⟩ (mL_turn_r l hst D cI cL x a pa pe st bn hc hm (nI cN) (nI rN) lo b pa2 pe2 st2 bn2 hc2 hm2 C2 R2 lo2 o ov v1 v2 hp _) (vx_cwSW 4 hts gL_law_L_turn rfl rfl rfl (by decide +kernel) ⟨Nat.le_of_ble_eq_true rfl, Nat.le_of_ble_eq_true rfl⟩) hP hD hK hN hKX (hZ.now hS hA) hS hA [0, 1, 2, 3, 4, 5, 6, 7, 8, 9, 10, 11, 12, 13, 14, 22] (by decide) rfl [15, 16, 17, 18, 19, 20, 21] (by decide) rfl (by decide) [7, 8, 9, 10, 11, 12, 13, 14, 15, 16, 17, 18, 19, 20, 21, 0, 1, 2, 3, 4, 5, 6, 22] (by decide) (fun _ => rfl) [0, 1] rfl rfl hl.1 rfl (Nat.le_of_ble_eq_true rfl) dL_law_406 ⟨by omega, by omega⟩ (fun r_15 u_15 H locs hr_15 hP hD hS => ?_)
    subst r_15
    have hP : va_P D vwCl (wX x a b ++ wM cI a pa pe st bn hc hm (nI cN) (nI rN) lo ++ wM cI b pa2 pe2 st2 bn2 hc2 hm2 C2 R2 lo2 ++ wN cI v pt pd ab nw kp wy th (nI cN) (nI rN) tn ++ wL cL o 1 ov) H := hP
    have hD : va_D A (wX x a b ++ wM cI a pa pe st bn hc hm (nI cN) (nI rN) lo ++ wM cI b pa2 pe2 st2 bn2 hc2 hm2 C2 R2 lo2 ++ wN cI v pt pd ab nw kp wy th (nI cN) (nI rN) tn ++ wL cL o 1 ov) := hD
    refine lv_istore (lv' := [(5, .int 1), (4, .int (nI (4 * k))), (3, .ref o), (2, .ref (v 0)), (1, .ref x), (0, .ref b0)]) hx hb dL_law_409 hl (by decide) rfl (fun ls hl => ?_)
    refine lv_aload_n hx hb dL_law_411 rfl (lv_at hl 3 rfl) ?_
    refine lv_aload_n hx hb dL_law_412 rfl (lv_at hl 5 rfl) ?_
    refine lv_iload hx hb dL_law_413 (lv_at hl 1 rfl) ?_
    refine lv_iconst (v := 1) hx hb dL_law_415 (by decide) ?_
    refine lv_iadd hx hb dL_law_416 ?_
    refine va_sld hx hb hX hbl hbA hS (sx_in hL (j := 1) (by omega)) dL_law_417 ?_
    rw [hv1]
    refine lv_aload_n hx hb dL_law_418 rfl (lv_at hl 5 rfl) ?_
    refine lv_iload hx hb dL_law_419 (lv_at hl 1 rfl) ?_
    refine lv_iconst (v := 2) hx hb dL_law_421 (by decide) ?_
    refine lv_iadd hx hb dL_law_422 ?_
    refine va_sld hx hb hX hbl hbA hS (sx_in hL (j := 2) (by omega)) dL_law_423 ?_
    rw [hv2]
    refine kQVi (As := [.int v1, .int v2]) (rest := []) (wr := [(x, .inr (1, [.ref (a 0), .ref (b 0)])), (a 0, .inr (0, [.ref (a 1), .ref (a 2), .ref (a 3), .ref (a 4), .ref (a 5), .ref (a 6), .int (nI cN), .int (nI rN), .int lo])), (a 1, .inl (cI, 72, .inl pa)), (a 2, .inl (cI, 72, .inl pe)), (a 3, .inl (cI, 72, .inl st)), (a 4, .inl (cI, 9, .inl bn)), (a 5, .inl (cI, 2, .inl hc)), (a 6, .inl (cI, 2, .inl hm)), (b 0, .inr (0, [.ref (b 1), .ref (b 2), .ref (b 3), .ref (b 4), .ref (b 5), .ref (b 6), .int C2, .int R2, .int lo2])), (b 1, .inl (cI, 72, .inl pa2)), (b 2, .inl (cI, 72, .inl pe2)), (b 3, .inl (cI, 72, .inl st2)), (b 4, .inl (cI, 9, .inl bn2)), (b 5, .inl (cI, 2, .inl hc2)), (b 6, .inl (cI, 2, .inl hm2)), (o, .inl (cL, 1, .inr (.inl ov)))]) (W2 := (fun _ => (wX x a b ++ wM cI a pa pe st bn hc hm (nI cN) (nI rN) lo ++ wM cI b pa2 pe2 st2 bn2 hc2 hm2 C2 R2 lo2 ++ wN cI v pt pd ab nw kp wy 1 (nI cN) (nI rN) tn ++ wL cL o 1 ov))) ⟨hx, hb, hml, hown, hts⟩ (mX2_turn_1 l D cI v pt pd ab nw kp wy th cN rN tn v1 v2 (hR.pR hp) _) (cwV 2 hts gL_law_X2_turn rfl rfl rfl (by decide +kernel) ⟨Nat.le_of_ble_eq_true rfl, Nat.le_of_ble_eq_true rfl⟩) hP hD hK hN hS hA [15, 16, 17, 18, 19, 20, 21] (by decide) rfl [0, 1, 2, 3, 4, 5, 6, 7, 8, 9, 10, 11, 12, 13, 14, 22] (by decide) rfl (by decide) [0, 1, 2, 3, 4, 5, 6, 7, 8, 9, 10, 11, 12, 13, 14, 16, 17, 18, 19, 20, 21, 22, 15] (by decide) (fun _ => rfl) [0] rfl rfl rfl rfl hl.1 rfl (Nat.le_of_ble_eq_true rfl) dL_law_424 ⟨by omega, by omega⟩ (fun r_16 u_16 H locs hr_16 hP hD hS => ?_)
    subst r_16
    have hP : va_P D vwCl (wX x a b ++ wM cI a pa pe st bn hc hm (nI cN) (nI rN) lo ++ wM cI b pa2 pe2 st2 bn2 hc2 hm2 C2 R2 lo2 ++ wN cI v pt pd ab nw kp wy 1 (nI cN) (nI rN) tn ++ wL cL o 1 ov) H := hP
    have hD : va_D A (wX x a b ++ wM cI a pa pe st bn hc hm (nI cN) (nI rN) lo ++ wM cI b pa2 pe2 st2 bn2 hc2 hm2 C2 R2 lo2 ++ wN cI v pt pd ab nw kp wy 1 (nI cN) (nI rN) tn ++ wL cL o 1 ov) := hD
    refine lv_istore (lv' := [(6, .int 0), (5, .int 1), (4, .int (nI (4 * k))), (3, .ref o), (2, .ref (v 0)), (1, .ref x), (0, .ref b0)]) hx hb dL_law_427 hl (by decide) rfl (fun ls hl => ?_)
    refine lv_aload_n hx hb dL_law_429 rfl (lv_at hl 4 rfl) ?_
    refine kRVi (As := []) (rest := []) ⟨hx, hb, hml, hown, hts⟩ (mX2_thrown l D cI v pt pd ab nw kp wy 1 cN rN tn) (cwV 0 hts gL_law_X2_thrown rfl rfl rfl (by decide +kernel) ⟨Nat.le_of_ble_eq_true rfl, Nat.le_of_ble_eq_true rfl⟩) hP hK hN [15, 16, 17, 18, 19, 20, 21] rfl [0] rfl rfl rfl rfl hl.1 rfl (Nat.le_of_ble_eq_true rfl) dL_law_430 ⟨by omega, by omega⟩ (fun r_17 hr_17 => ?_)
    subst r_17
    refine lv_iload hx hb dL_law_433 (lv_at hl 1 rfl) ?_
    refine lv_icmp_eq (tgt := 440) hx hb dL_law_435 (by decide) (fun _ => ?_) (fun c9 => absurd (by decide) c9)
    refine lv_iload hx hb dL_law_440 (lv_at hl 1 rfl) ?_
    refine lv_if_ne (tgt := 464) hx hb dL_law_442 (by decide) (fun _ => ?_) (fun c9 => absurd c9 (by decide))
    refine lv_goto (tgt := 1599) hx hb dL_law_464 (by decide) ?_
    refine W.widen (k := cells + 10) (n := slots + 41) (by omega) (by omega) ?_
    exact K cN rN pa pe st bn hc hm lo pa2 pe2 st2 bn2 hc2 hm2 C2 R2 lo2 pt pd ab nw kp wy 1 tn ov _ _ _ hR hP hD hS (lv_sub hl [2, 3, 4, 5, 6] rfl)
