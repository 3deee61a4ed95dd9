set_option maxHeartbeats 4000000 in
set_option maxRecDepth 100000 in
theorem cs_0 {p : Program} {l : Launch} {e : Env} {s : State} {m : MethodId} {below : List Frame} {meth : Method} {c : Code} {Q : State → Prop} {D : va_G} {cI cL : ClassId} {x o b0 L k : Nat} {a b v : Nat → Nat} {xs : Nat → Int32} {A : Nat → Prop} {cells slots : Nat} {cN rN : Nat} {pa pe st bn hc hm : Nat → Int32} {lo : Int32} {pa2 pe2 st2 bn2 hc2 hm2 : Nat → Int32} {C2 R2 lo2 : Int32} {pt pd ab nw kp wy : Nat → Int32} {th tn : Int32} {ov : Nat → Int64} {H : Heap} {locs : List Loc} {ls : Array Slot} (F : LF p l s m b0 c D cI cL L xs A) (hR : Rel cN rN pa pe st bn hc hm lo pt pd ab nw) (hk : 4 * k + 3 < L) (h1 : cells + 10 ≤ room_1.cells) (h2 : slots + 41 ≤ room_1.slots) (hP : va_P D vwCl (wX x a b ++ wM cI a pa pe st bn hc hm (nI cN) (nI rN) lo ++ wM cI b pa2 pe2 st2 bn2 hc2 hm2 C2 R2 lo2 ++ wN cI v pt pd ab nw kp wy th (nI cN) (nI rN) tn ++ wL cL o 1 ov) H) (hD : va_D A (wX x a b ++ wM cI a pa pe st bn hc hm (nI cN) (nI rN) lo ++ wM cI b pa2 pe2 st2 bn2 hc2 hm2 C2 R2 lo2 ++ wN cI v pt pd ab nw kp wy th (nI cN) (nI rN) tn ++ wL cL o 1 ov)) (hS : va_S A s.heap H locs) (hl : lv_has ls 9 [(4, .int (nI (4 * k))), (3, .ref o), (2, .ref (v 0)), (1, .ref x), (0, .ref b0)]) (K : LK p l e s m b0 below meth c D cI cL x o k a b v A cells slots Q) : W p l e room_1 s m #[Value.ref b0] below meth c H locs cells slots Q (F0 m 164 ls []) := by
  obtain ⟨hx, hb, hml, hown, hts, hK, hN, hKX, hZ, hA, hX, hbl, hbA, hst, hL⟩ := F
  have hI := hR.inv
  obtain ⟨v1, hv1⟩ : ∃ z, xs (nI (4 * k) + 1).toNatClampNeg = z := ⟨_, rfl⟩
  obtain ⟨v2, hv2⟩ : ∃ z, xs (nI (4 * k) + 2).toNatClampNeg = z := ⟨_, rfl⟩
  by_cases hp : xin v1 2 9 = true
  · by_cases hq : xin v2 1 8 = true
    · obtain ⟨m1, m2, m9, rfl⟩ := xin_ex (a := 2) (b := 9) (by omega) (by omega) (show xin v1 (nI 2) (nI 9) = true from hp)
      obtain ⟨d1, d2, d8, rfl⟩ := xin_ex (a := 1) (b := 8) (by omega) (by omega) (show xin v2 (nI 1) (nI 8) = true from hq)
      refine lv_aload_n hx hb dL_law_164 rfl (lv_at hl 3 rfl) ?_
      refine lv_aload_n hx hb dL_law_165 rfl (lv_at hl 4 rfl) ?_
      refine lv_iload hx hb dL_law_166 (lv_at hl 0 rfl) ?_
      refine lv_iconst (v := 1) hx hb dL_law_168 (by decide) ?_
      refine lv_iadd hx hb dL_law_169 ?_
      refine va_sld hx hb hX hbl hbA hS (sx_in hL (j := 1) (by omega)) dL_law_170 ?_
      rw [hv1]
      refine lv_aload_n hx hb dL_law_171 rfl (lv_at hl 4 rfl) ?_
      refine lv_iload hx hb dL_law_172 (lv_at hl 0 rfl) ?_
      refine lv_iconst (v := 2) hx hb dL_law_174 (by decide) ?_
      refine lv_iadd hx hb dL_law_175 ?_
      refine va_sld hx hb hX hbl hbA hS (sx_in hL (j := 2) (by omega)) dL_law_176 ?_
      rw [hv2]
      refine lv_aload_n hx hb dL_law_177 rfl (lv_at hl 1 rfl) ?_
      refine kQWi (As := [.ref x, .int (nI m1), .int (nI d1), .ref o]) (rest := []) (wr := [(v 0, .inr (2, [.int th, .int (nI cN), .int (nI rN), .ref (v 1), .ref (v 2), .ref (v 3), .ref (v 4), .ref (v 5), .int tn, .ref (v 6)])), (v 1, .inl (cI, 72, .inl pt)), (v 2, .inl (cI, 72, .inl pd)), (v 3, .inl (cI, 2, .inl ab)), (v 4, .inl (cI, 84, .inl nw)), (v 5, .inl (cI, 84, .inl kp)), (v 6, .inl (cI, 8, .inl wy))]) (W2 := (fun _ => (wX x a b ++ wM cI a ((fun _ => 0)) ((fun _ => 0)) ((fun _ => 0)) ((fun _ => 0)) ((xsc 2 (xsc 2 hc 0 0) 1 ((nI m1) - 1))) hm ((nI m1)) ((nI d1)) 0 ++ wM cI b pa2 pe2 st2 bn2 hc2 hm2 C2 R2 lo2 ++ wN cI v pt pd ab nw kp wy th (nI cN) (nI rN) tn ++ wL cL o 1 ((vp_updL ov 0 (((nI m1) * (nI d1)) : Int32).toInt64))))) ⟨hx, hb, hml, hown, hts⟩ (mL_lay_0 l D cI cL x a pa pe st bn hc hm (nI cN) (nI rN) lo b pa2 pe2 st2 bn2 hc2 hm2 C2 R2 lo2 o ov (nI m1) (nI d1) hp hq _) (vx_cwSW 4 hts gL_law_L_lay rfl rfl rfl (by decide +kernel) ⟨Nat.le_of_ble_eq_true rfl, Nat.le_of_ble_eq_true rfl⟩) hP hD hK hN hKX (hZ.now hS hA) hS hA [0, 1, 2, 3, 4, 5, 6, 7, 8, 9, 10, 11, 12, 13, 14, 22] (by decide) rfl [15, 16, 17, 18, 19, 20, 21] (by decide) rfl (by decide) [7, 8, 9, 10, 11, 12, 13, 14, 15, 16, 17, 18, 19, 20, 21, 0, 1, 2, 3, 4, 5, 6, 22] (by decide) (fun _ => rfl) [0, 1] rfl rfl hl.1 rfl (Nat.le_of_ble_eq_true rfl) dL_law_178 ⟨by omega, by omega⟩ (fun r_1 u_1 H locs hr_1 hP hD hS => ?_)
      subst r_1
      have hP : va_P D vwCl (wX x a b ++ wM cI a ((fun _ => 0)) ((fun _ => 0)) ((fun _ => 0)) ((fun _ => 0)) ((xsc 2 (xsc 2 hc 0 0) 1 ((nI m1) - 1))) hm ((nI m1)) ((nI d1)) 0 ++ wM cI b pa2 pe2 st2 bn2 hc2 hm2 C2 R2 lo2 ++ wN cI v pt pd ab nw kp wy th (nI cN) (nI rN) tn ++ wL cL o 1 ((vp_updL ov 0 (((nI m1) * (nI d1)) : Int32).toInt64))) H := hP
      have hD : va_D A (wX x a b ++ wM cI a ((fun _ => 0)) ((fun _ => 0)) ((fun _ => 0)) ((fun _ => 0)) ((xsc 2 (xsc 2 hc 0 0) 1 ((nI m1) - 1))) hm ((nI m1)) ((nI d1)) 0 ++ wM cI b pa2 pe2 st2 bn2 hc2 hm2 C2 R2 lo2 ++ wN cI v pt pd ab nw kp wy th (nI cN) (nI rN) tn ++ wL cL o 1 ((vp_updL ov 0 (((nI m1) * (nI d1)) : Int32).toInt64))) := hD
      refine lv_istore (lv' := [(5, .int 0), (4, .int (nI (4 * k))), (3, .ref o), (2, .ref (v 0)), (1, .ref x), (0, .ref b0)]) hx hb dL_law_181 hl (by decide) rfl (fun ls hl => ?_)
      refine lv_aload_n hx hb dL_law_183 rfl (lv_at hl 3 rfl) ?_
      refine lv_aload_n hx hb dL_law_184 rfl (lv_at hl 5 rfl) ?_
      refine lv_iload hx hb dL_law_185 (lv_at hl 1 rfl) ?_
      refine lv_iconst (v := 1) hx hb dL_law_187 (by decide) ?_
      refine lv_iadd hx hb dL_law_188 ?_
      refine va_sld hx hb hX hbl hbA hS (sx_in hL (j := 1) (by omega)) dL_law_189 ?_
      rw [hv1]
      refine lv_aload_n hx hb dL_law_190 rfl (lv_at hl 5 rfl) ?_
      refine lv_iload hx hb dL_law_191 (lv_at hl 1 rfl) ?_
      refine lv_iconst (v := 2) hx hb dL_law_193 (by decide) ?_
      refine lv_iadd hx hb dL_law_194 ?_
      refine va_sld hx hb hX hbl hbA hS (sx_in hL (j := 2) (by omega)) dL_law_195 ?_
      rw [hv2]
      refine kQVi (As := [.int (nI m1), .int (nI d1)]) (rest := []) (wr := [(x, .inr (1, [.ref (a 0), .ref (b 0)])), (a 0, .inr (0, [.ref (a 1), .ref (a 2), .ref (a 3), .ref (a 4), .ref (a 5), .ref (a 6), .int (nI m1), .int (nI d1), .int 0])), (a 1, .inl (cI, 72, .inl (fun _ => 0))), (a 2, .inl (cI, 72, .inl (fun _ => 0))), (a 3, .inl (cI, 72, .inl (fun _ => 0))), (a 4, .inl (cI, 9, .inl (fun _ => 0))), (a 5, .inl (cI, 2, .inl (xsc 2 (xsc 2 hc 0 0) 1 ((nI m1) - 1)))), (a 6, .inl (cI, 2, .inl hm)), (b 0, .inr (0, [.ref (b 1), .ref (b 2), .ref (b 3), .ref (b 4), .ref (b 5), .ref (b 6), .int C2, .int R2, .int lo2])), (b 1, .inl (cI, 72, .inl pa2)), (b 2, .inl (cI, 72, .inl pe2)), (b 3, .inl (cI, 72, .inl st2)), (b 4, .inl (cI, 9, .inl bn2)), (b 5, .inl (cI, 2, .inl hc2)), (b 6, .inl (cI, 2, .inl hm2)), (o, .inl (cL, 1, .inr (.inl (vp_updL ov 0 (((nI m1) * (nI d1)) : Int32).toInt64))))]) (W2 := (fun _ => (wX x a b ++ wM cI a ((fun _ => 0)) ((fun _ => 0)) ((fun _ => 0)) ((fun _ => 0)) ((xsc 2 (xsc 2 hc 0 0) 1 ((nI m1) - 1))) hm ((nI m1)) ((nI d1)) 0 ++ wM cI b pa2 pe2 st2 bn2 hc2 hm2 C2 R2 lo2 ++ wN cI v ((mZ 72 pt)) pd ((upd (upd ab 0 0) 1 ((nI m1) - 1))) ((upd (mZ (72 + 9) nw) 83 0)) kp wy 0 ((nI m1)) ((nI d1)) tn ++ wL cL o 1 ((vp_updL ov 0 (((nI m1) * (nI d1)) : Int32).toInt64))))) ⟨hx, hb, hml, hown, hts⟩ (mX2_lay_0 l D cI v pt pd ab nw kp wy th cN rN tn (nI m1) (nI d1) (iT hp) (iT hq) _) (cwV 2 hts gL_law_X2_lay rfl rfl rfl (by decide +kernel) ⟨Nat.le_of_ble_eq_true rfl, Nat.le_of_ble_eq_true rfl⟩) hP hD hK hN hS hA [15, 16, 17, 18, 19, 20, 21] (by decide) rfl [0, 1, 2, 3, 4, 5, 6, 7, 8, 9, 10, 11, 12, 13, 14, 22] (by decide) rfl (by decide) [0, 1, 2, 3, 4, 5, 6, 7, 8, 9, 10, 11, 12, 13, 14, 16, 17, 18, 19, 20, 21, 22, 15] (by decide) (fun _ => rfl) [0] rfl rfl rfl rfl hl.1 rfl (Nat.le_of_ble_eq_true rfl) dL_law_196 ⟨by omega, by omega⟩ (fun r_2 u_2 H locs hr_2 hP hD hS => ?_)
      subst r_2
      have hP : va_P D vwCl (wX x a b ++ wM cI a ((fun _ => 0)) ((fun _ => 0)) ((fun _ => 0)) ((fun _ => 0)) ((xsc 2 (xsc 2 hc 0 0) 1 ((nI m1) - 1))) hm ((nI m1)) ((nI d1)) 0 ++ wM cI b pa2 pe2 st2 bn2 hc2 hm2 C2 R2 lo2 ++ wN cI v ((mZ 72 pt)) pd ((upd (upd ab 0 0) 1 ((nI m1) - 1))) ((upd (mZ (72 + 9) nw) 83 0)) kp wy 0 ((nI m1)) ((nI d1)) tn ++ wL cL o 1 ((vp_updL ov 0 (((nI m1) * (nI d1)) : Int32).toInt64))) H := hP
      have hD : va_D A (wX x a b ++ wM cI a ((fun _ => 0)) ((fun _ => 0)) ((fun _ => 0)) ((fun _ => 0)) ((xsc 2 (xsc 2 hc 0 0) 1 ((nI m1) - 1))) hm ((nI m1)) ((nI d1)) 0 ++ wM cI b pa2 pe2 st2 bn2 hc2 hm2 C2 R2 lo2 ++ wN cI v ((mZ 72 pt)) pd ((upd (upd ab 0 0) 1 ((nI m1) - 1))) ((upd (mZ (72 + 9) nw) 83 0)) kp wy 0 ((nI m1)) ((nI d1)) tn ++ wL cL o 1 ((vp_updL ov 0 (((nI m1) * (nI d1)) : Int32).toInt64))) := hD
      refine lv_istore (lv' := [(6, .int ((nI m1) * (nI d1))), (5, .int 0), (4, .int (nI (4 * k))), (3, .ref o), (2, .ref (v 0)), (1, .ref x), (0, .ref b0)]) hx hb dL_law_199 hl (by decide) rfl (fun ls hl => ?_)
      refine lv_aload_n hx hb dL_law_201 rfl (lv_at hl 4 rfl) ?_
      refine kRVi (As := []) (rest := []) ⟨hx, hb, hml, hown, hts⟩ (mX2_thrown l D cI v (mZ 72 pt) pd (upd (upd ab 0 0) 1 ((nI m1) - 1)) (upd (mZ (72 + 9) nw) 83 0) kp wy 0 m1 d1 tn) (cwV 0 hts gL_law_X2_thrown rfl rfl rfl (by decide +kernel) ⟨Nat.le_of_ble_eq_true rfl, Nat.le_of_ble_eq_true rfl⟩) hP hK hN [15, 16, 17, 18, 19, 20, 21] rfl [0] rfl rfl rfl rfl hl.1 rfl (Nat.le_of_ble_eq_true rfl) dL_law_202 ⟨by omega, by omega⟩ (fun r_3 hr_3 => ?_)
      subst r_3
      refine lv_iload hx hb dL_law_205 (lv_at hl 1 rfl) ?_
      refine lv_icmp_eq (tgt := 212) hx hb dL_law_207 (by decide) (fun _ => ?_) (fun c9 => absurd (by decide) c9)
      refine lv_iload hx hb dL_law_212 (lv_at hl 1 rfl) ?_
      refine lv_if_ne (tgt := 229) hx hb dL_law_214 (by decide) (fun c9 => absurd c9 (by decide)) (fun _ => ?_)
      refine lv_aload_n hx hb dL_law_217 rfl (lv_at hl 3 rfl) ?_
      refine lv_iconst (v := 0) hx hb dL_law_218 (by decide) ?_
      refine va_lald hx hb hK hP 22 1 rfl rfl (vp_in_nI (n := 0) (by decide) (by decide)) dL_law_219 ?_
      rw [show (0 : Int32).toNatClampNeg = 0 from by decide, updL_0]
      refine lv_iload hx hb dL_law_220 (lv_at hl 0 rfl) ?_
      refine lv_i2l (v := ((nI m1) * (nI d1) : Int32).toInt64) hx hb dL_law_222 rfl ?_
      refine W.lcmp hx hb dL_law_223 ?_
      refine lv_if_eq (tgt := 229) hx hb dL_law_224 (by decide) (fun _ => ?_) (fun c9 => absurd ((lg_cmp_eq _ _).mpr rfl) c9)
      refine lv_goto (tgt := 1599) hx hb dL_law_229 (by decide) ?_
      refine W.widen (k := cells + 10) (n := slots + 41) (by omega) (by omega) ?_
      exact K m1 d1 (fun _ => 0) (fun _ => 0) (fun _ => 0) (fun _ => 0) (xsc 2 (xsc 2 hc 0 0) 1 ((nI m1) - 1)) hm 0 pa2 pe2 st2 bn2 hc2 hm2 C2 R2 lo2 (mZ 72 pt) pd (upd (upd ab 0 0) 1 ((nI m1) - 1)) (upd (mZ (72 + 9) nw) 83 0) kp wy 0 tn (vp_updL ov 0 (((nI m1) * (nI d1)) : Int32).toInt64) _ _ _ (hR.klay m2 m9 d2 d8) hP hD hS (lv_sub hl [2, 3, 4, 5, 6] rfl)
    · have hq : xin v2 1 8 = false := Bool.eq_false_iff.mpr hq
      refine lv_aload_n hx hb dL_law_164 rfl (lv_at hl 3 rfl) ?_
      refine lv_aload_n hx hb dL_law_165 rfl (lv_at hl 4 rfl) ?_
      refine lv_iload hx hb dL_law_166 (lv_at hl 0 rfl) ?_
      refine lv_iconst (v := 1) hx hb dL_law_168 (by decide) ?_
      refine lv_iadd hx hb dL_law_169 ?_
      refine va_sld hx hb hX hbl hbA hS (sx_in hL (j := 1) (by omega)) dL_law_170 ?_
      rw [hv1]
      refine lv_aload_n hx hb dL_law_171 rfl (lv_at hl 4 rfl) ?_
      refine lv_iload hx hb dL_law_172 (lv_at hl 0 rfl) ?_
      refine lv_iconst (v := 2) hx hb dL_law_174 (by decide) ?_
      refine lv_iadd hx hb dL_law_175 ?_
      refine va_sld hx hb hX hbl hbA hS (sx_in hL (j := 2) (by omega)) dL_law_176 ?_
      rw [hv2]
      refine lv_aload_n hx hb dL_law_177 rfl (lv_at hl 1 rfl) ?_
      refine kQWi (As := [.ref x, .int v1, .int v2, .ref o]) (rest := []) (wr := [(v 0, .inr (2, [.int th, .int (nI cN), .int (nI rN), .ref (v 1), .ref (v 2), .ref (v 3), .ref (v 4), .ref (v 5), .int tn, .ref (v 6)])), (v 1, .inl (cI, 72, .inl pt)), (v 2, .inl (cI, 72, .inl pd)), (v 3, .inl (cI, 2, .inl ab)), (v 4, .inl (cI, 84, .inl nw)), (v 5, .inl (cI, 84, .inl kp)), (v 6, .inl (cI, 8, .inl wy))]) (W2 := (fun _ => (wX x a b ++ wM cI a pa pe st bn hc hm (nI cN) (nI rN) lo ++ wM cI b pa2 pe2 st2 bn2 hc2 hm2 C2 R2 lo2 ++ wN cI v pt pd ab nw kp wy th (nI cN) (nI rN) tn ++ wL cL o 1 ov))) ⟨hx, hb, hml, hown, hts⟩ (mL_lay_r l hst D cI cL x a pa pe st bn hc hm (nI cN) (nI rN) lo b pa2 pe2 st2 bn2 hc2 hm2 C2 R2 lo2 o ov v1 v2 hp hq _) (vx_cwSW 4 hts gL_law_L_lay rfl rfl rfl (by decide +kernel) ⟨Nat.le_of_ble_eq_true rfl, Nat.le_of_ble_eq_true rfl⟩) hP hD hK hN hKX (hZ.now hS hA) hS hA [0, 1, 2, 3, 4, 5, 6, 7, 8, 9, 10, 11, 12, 13, 14, 22] (by decide) rfl [15, 16, 17, 18, 19, 20, 21] (by decide) rfl (by decide) [7, 8, 9, 10, 11, 12, 13, 14, 15, 16, 17, 18, 19, 20, 21, 0, 1, 2, 3, 4, 5, 6, 22] (by decide) (fun _ => rfl) [0, 1] rfl rfl hl.1 rfl (Nat.le_of_ble_eq_true rfl) dL_law_178 ⟨by omega, by omega⟩ (fun r_6 u_6 H locs hr_6 hP hD hS => ?_)
      subst r_6
      have hP : va_P D vwCl (wX x a b ++ wM cI a pa pe st bn hc hm (nI cN) (nI rN) lo ++ wM cI b pa2 pe2 st2 bn2 hc2 hm2 C2 R2 lo2 ++ wN cI v pt pd ab nw kp wy th (nI cN) (nI rN) tn ++ wL cL o 1 ov) H := hP
      have hD : va_D A (wX x a b ++ wM cI a pa pe st bn hc hm (nI cN) (nI rN) lo ++ wM cI b pa2 pe2 st2 bn2 hc2 hm2 C2 R2 lo2 ++ wN cI v pt pd ab nw kp wy th (nI cN) (nI rN) tn ++ wL cL o 1 ov) := hD
      refine lv_istore (lv' := [(5, .int 1), (4, .int (nI (4 * k))), (3, .ref o), (2, .ref (v 0)), (1, .ref x), (0, .ref b0)]) hx hb dL_law_181 hl (by decide) rfl (fun ls hl => ?_)
      refine lv_aload_n hx hb dL_law_183 rfl (lv_at hl 3 rfl) ?_
      refine lv_aload_n hx hb dL_law_184 rfl (lv_at hl 5 rfl) ?_
      refine lv_iload hx hb dL_law_185 (lv_at hl 1 rfl) ?_
      refine lv_iconst (v := 1) hx hb dL_law_187 (by decide) ?_
      refine lv_iadd hx hb dL_law_188 ?_
      refine va_sld hx hb hX hbl hbA hS (sx_in hL (j := 1) (by omega)) dL_law_189 ?_
      rw [hv1]
      refine lv_aload_n hx hb dL_law_190 rfl (lv_at hl 5 rfl) ?_
      refine lv_iload hx hb dL_law_191 (lv_at hl 1 rfl) ?_
      refine lv_iconst (v := 2) hx hb dL_law_193 (by decide) ?_
      refine lv_iadd hx hb dL_law_194 ?_
      refine va_sld hx hb hX hbl hbA hS (sx_in hL (j := 2) (by omega)) dL_law_195 ?_
      rw [hv2]
      refine kQVi (As := [.int v1, .int v2]) (rest := []) (wr := [(x, .inr (1, [.ref (a 0), .ref (b 0)])), (a 0, .inr (0, [.ref (a 1), .ref (a 2), .ref (a 3), .ref (a 4), .ref (a 5), .ref (a 6), .int (nI cN), .int (nI rN), .int lo])), (a 1, .inl (cI, 72, .inl pa)), (a 2, .inl (cI, 72, .inl pe)), (a 3, .inl (cI, 72, .inl st)), (a 4, .inl (cI, 9, .inl bn)), (a 5, .inl (cI, 2, .inl hc)), (a 6, .inl (cI, 2, .inl hm)), (b 0, .inr (0, [.ref (b 1), .ref (b 2), .ref (b 3), .ref (b 4), .ref (b 5), .ref (b 6), .int C2, .int R2, .int lo2])), (b 1, .inl (cI, 72, .inl pa2)), (b 2, .inl (cI, 72, .inl pe2)), (b 3, .inl (cI, 72, .inl st2)), (b 4, .inl (cI, 9, .inl bn2)), (b 5, .inl (cI, 2, .inl hc2)), (b 6, .inl (cI, 2, .inl hm2)), (o, .inl (cL, 1, .inr (.inl ov)))]) (W2 := (fun _ => (wX x a b ++ wM cI a pa pe st bn hc hm (nI cN) (nI rN) lo ++ wM cI b pa2 pe2 st2 bn2 hc2 hm2 C2 R2 lo2 ++ wN cI v pt pd ab nw kp wy 1 (nI cN) (nI rN) tn ++ wL cL o 1 ov))) ⟨hx, hb, hml, hown, hts⟩ (mX2_lay_1r l D cI v pt pd ab nw kp wy th cN rN tn v1 v2 (iT hp) (iT hq) _) (cwV 2 hts gL_law_X2_lay rfl rfl rfl (by decide +kernel) ⟨Nat.le_of_ble_eq_true rfl, Nat.le_of_ble_eq_true rfl⟩) hP hD hK hN hS hA [15, 16, 17, 18, 19, 20, 21] (by decide) rfl [0, 1, 2, 3, 4, 5, 6, 7, 8, 9, 10, 11, 12, 13, 14, 22] (by decide) rfl (by decide) [0, 1, 2, 3, 4, 5, 6, 7, 8, 9, 10, 11, 12, 13, 14, 16, 17, 18, 19, 20, 21, 22, 15] (by decide) (fun _ => rfl) [0] rfl rfl rfl rfl hl.1 rfl (Nat.le_of_ble_eq_true rfl) dL_law_196 ⟨by omega, by omega⟩ (fun r_7 u_7 H locs hr_7 hP hD hS => ?_)
      subst r_7
      have hP : va_P D vwCl (wX x a b ++ wM cI a pa pe st bn hc hm (nI cN) (nI rN) lo ++ wM cI b pa2 pe2 st2 bn2 hc2 hm2 C2 R2 lo2 ++ wN cI v pt pd ab nw kp wy 1 (nI cN) (nI rN) tn ++ wL cL o 1 ov) H := hP
      have hD : va_D A (wX x a b ++ wM cI a pa pe st bn hc hm (nI cN) (nI rN) lo ++ wM cI b pa2 pe2 st2 bn2 hc2 hm2 C2 R2 lo2 ++ wN cI v pt pd ab nw kp wy 1 (nI cN) (nI rN) tn ++ wL cL o 1 ov) := hD
      refine lv_istore (lv' := [(6, .int 0), (5, .int 1), (4, .int (nI (4 * k))), (3, .ref o), (2, .ref (v 0)), (1, .ref x), (0, .ref b0)]) hx hb dL_law_199 hl (by decide) rfl (fun ls hl => ?_)
      refine lv_aload_n hx hb dL_law_201 rfl (lv_at hl 4 rfl) ?_
      refine kRVi (As := []) (rest := []) ⟨hx, hb, hml, hown, hts⟩ (mX2_thrown l D cI v pt pd ab nw kp wy 1 cN rN tn) (cwV 0 hts gL_law_X2_thrown rfl rfl rfl (by decide +kernel) ⟨Nat.le_of_ble_eq_true rfl, Nat.le_of_ble_eq_true rfl⟩) hP hK hN [15, 16, 17, 18, 19, 20, 21] rfl [0] rfl rfl rfl rfl hl.1 rfl (Nat.le_of_ble_eq_true rfl) dL_law_202 ⟨by omega, by omega⟩ (fun r_8 hr_8 => ?_)
      subst r_8
      refine lv_iload hx hb dL_law_205 (lv_at hl 1 rfl) ?_
      refine lv_icmp_eq (tgt := 212) hx hb dL_law_207 (by decide) (fun _ => ?_) (fun c9 => absurd (by decide) c9)
      refine lv_iload hx hb dL_law_212 (lv_at hl 1 rfl) ?_
      refine lv_if_ne (tgt := 229) hx hb dL_law_214 (by decide) (fun _ => ?_) (fun c9 => absurd c9 (by decide))
      refine lv_goto (tgt := 1599) hx hb dL_law_229 (by decide) ?_
      refine W.widen (k := cells + 10) (n := slots + 41) (by omega) (by omega) ?_
      exact K cN rN pa pe st bn hc hm lo pa2 pe2 st2 bn2 hc2 hm2 C2 R2 lo2 pt pd ab nw kp wy 1 tn ov _ _ _ hR hP hD hS (lv_sub hl [2, 3, 4, 5, 6] rfl)
  · have hp : xin v1 2 9 = false := Bool.eq_false_iff.mpr hp
    refine lv_aload_n hx hb dL_law_164 rfl (lv_at hl 3 rfl) ?_
    refine lv_aload_n hx hb dL_law_165 rfl (lv_at hl 4 rfl) ?_
    refine lv_iload hx hb dL_law_166 (lv_at hl 0 rfl) ?_
    refine lv_iconst (v := 1) hx hb dL_law_168 (by decide) ?_
    refine lv_iadd hx hb dL_law_169 ?_
    refine va_sld hx hb hX hbl hbA hS (sx_in hL (j := 1) (by omega)) dL_law_170 ?_
    rw [hv1]
    refine lv_aload_n hx hb dL_law_171 rfl (lv_at hl 4 rfl) ?_
    refine lv_iload hx hb dL_law_172 (lv_at hl 0 rfl) ?_
    refine lv_iconst (v := 2) hx hb dL_law_174 (by decide) ?_
    refine lv_iadd hx hb dL_law_175 ?_
    refine va_sld hx hb hX hbl hbA hS (sx_in hL (j := 2) (by omega)) dL_law_176 ?_
    rw [hv2]
    refine lv_aload_n hx hb dL_law_177 rfl (lv_at hl 1 rfl) ?_
    refine kQWi (As := [.ref x, .int v1, .int v2, .ref o]) (rest := []) (wr := [(v 0, .inr (2, [.int th, .int (nI cN), .int (nI rN), .ref (v 1), .ref (v 2), .ref (v 3), .ref (v 4), .ref (v 5), .int tn, .ref (v 6)])), (v 1, .inl (cI, 72, .inl pt)), (v 2, .inl (cI, 72, .inl pd)), (v 3, .inl (cI, 2, .inl ab)), (v 4, .inl (cI, 84, .inl nw)), (v 5, .inl (cI, 84, .inl kp)), (v 6, .inl (cI, 8, .inl wy))]) (W2 := (fun _ => (wX x a b ++ wM cI a pa pe st bn hc hm (nI cN) (nI rN) lo ++ wM cI b pa2 pe2 st2 bn2 hc2 hm2 C2 R2 lo2 ++ wN cI v pt pd ab nw kp wy th (nI cN) (nI rN) tn ++ wL cL o 1 ov))) ⟨hx, hb, hml, hown, hts⟩ (mL_lay_c l hst D cI cL x a pa pe st bn hc hm (nI cN) (nI rN) lo b pa2 pe2 st2 bn2 hc2 hm2 C2 R2 lo2 o ov v1 v2 hp _) (vx_cwSW 4 hts gL_law_L_lay rfl rfl rfl (by decide +kernel) ⟨Nat.le_of_ble_eq_true rfl, Nat.le_of_ble_eq_true rfl⟩) hP hD hK hN hKX (hZ.now hS hA) hS hA [0, 1, 2, 3, 4, 5, 6, 7, 8, 9, 10, 11, 12, 13, 14, 22] (by decide) rfl [15, 16, 17, 18, 19, 20, 21] (by decide) rfl (by decide) [7, 8, 9, 10, 11, 12, 13, 14, 15, 16, 17, 18, 19, 20, 21, 0, 1, 2, 3, 4, 5, 6, 22] (by decide) (fun _ => rfl) [0, 1] rfl rfl hl.1 rfl (Nat.le_of_ble_eq_true rfl) dL_law_178 ⟨by omega, by omega⟩ (fun r_10 u_10 H locs hr_10 hP hD hS => ?_)
    subst r_10
    have hP : va_P D vwCl (wX x a b ++ wM cI a pa pe st bn hc hm (nI cN) (nI rN) lo ++ wM cI b pa2 pe2 st2 bn2 hc2 hm2 C2 R2 lo2 ++ wN cI v pt pd ab nw kp wy th (nI cN) (nI rN) tn ++ wL cL o 1 ov) H := hP
    have hD : va_D A (wX x a b ++ wM cI a pa pe st bn hc hm (nI cN) (nI rN) lo ++ wM cI b pa2 pe2 st2 bn2 hc2 hm2 C2 R2 lo2 ++ wN cI v pt pd ab nw kp wy th (nI cN) (nI rN) tn ++ wL cL o 1 ov) := hD
    refine lv_istore (lv' := [(5, .int 1), (4, .int (nI (4 * k))), (3, .ref o), (2, .ref (v 0)), (1, .ref x), (0, .ref b0)]) hx hb dL_law_181 hl (by decide) rfl (fun ls hl => ?_)
    refine lv_aload_n hx hb dL_law_183 rfl (lv_at hl 3 rfl) ?_
    refine lv_aload_n hx hb dL_law_184 rfl (lv_at hl 5 rfl) ?_
    refine lv_iload hx hb dL_law_185 (lv_at hl 1 rfl) ?_
    refine lv_iconst (v := 1) hx hb dL_law_187 (by decide) ?_
    refine lv_iadd hx hb dL_law_188 ?_
    refine va_sld hx hb hX hbl hbA hS (sx_in hL (j := 1) (by omega)) dL_law_189 ?_
    rw [hv1]
    refine lv_aload_n hx hb dL_law_190 rfl (lv_at hl 5 rfl) ?_
    refine lv_iload hx hb dL_law_191 (lv_at hl 1 rfl) ?_
    refine lv_iconst (v := 2) hx hb dL_law_193 (by decide) ?_
    refine lv_iadd hx hb dL_law_194 ?_
    refine va_sld hx hb hX hbl hbA hS (sx_in hL (j := 2) (by omega)) dL_law_195 ?_
    rw [hv2]
    refine kQVi (As := [.int v1, .int v2]) (rest := []) (wr := [(x, .inr (1, [.ref (a 0), .ref (b 0)])), (a 0, .inr (0, [.ref (a 1), .ref (a 2), .ref (a 3), .ref (a 4), .ref (a 5), .ref (a 6), .int (nI cN), .int (nI rN), .int lo])), (a 1, .inl (cI, 72, .inl pa)), (a 2, .inl (cI, 72, .inl pe)), (a 3, .inl (cI, 72, .inl st)), (a 4, .inl (cI, 9, .inl bn)), (a 5, .inl (cI, 2, .inl hc)), (a 6, .inl (cI, 2, .inl hm)), (b 0, .inr (0, [.ref (b 1), .ref (b 2), .ref (b 3), .ref (b 4), .ref (b 5), .ref (b 6), .int C2, .int R2, .int lo2])), (b 1, .inl (cI, 72, .inl pa2)), (b 2, .inl (cI, 72, .inl pe2)), (b 3, .inl (cI, 72, .inl st2)), (b 4, .inl (cI, 9, .inl bn2)), (b 5, .inl (cI, 2, .inl hc2)), (b 6, .inl (cI, 2, .inl hm2)), (o, .inl (cL, 1, .inr (.inl ov)))]) (W2 := (fun _ => (wX x a b ++ wM cI a pa pe st bn hc hm (nI cN) (nI rN) lo ++ wM cI b pa2 pe2 st2 bn2 hc2 hm2 C2 R2 lo2 ++ wN cI v pt pd ab nw kp wy 1 (nI cN) (nI rN) tn ++ wL cL o 1 ov))) ⟨hx, hb, hml, hown, hts⟩ (mX2_lay_1 l D cI v pt pd ab nw kp wy th cN rN tn v1 v2 (iT hp) _) (cwV 2 hts gL_law_X2_lay rfl rfl rfl (by decide +kernel) ⟨Nat.le_of_ble_eq_true rfl, Nat.le_of_ble_eq_true rfl⟩) hP hD hK hN hS hA [15, 16, 17, 18, 19, 20, 21] (by decide) rfl [0, 1, 2, 3, 4, 5, 6, 7, 8, 9, 10, 11, 12, 13, 14, 22] (by decide) rfl (by decide) [0, 1, 2, 3, 4, 5, 6, 7, 8, 9, 10, 11, 12, 13, 14, 16, 17, 18, 19, 20, 21, 22, 15] (by decide) (fun _ => rfl) [0] rfl rfl rfl rfl hl.1 rfl (Nat.le_of_ble_eq_true rfl) dL_law_196 ⟨by omega, by omega⟩ (fun r_11 u_11 H locs hr_11 hP hD hS => ?_)
    subst r_11
    have hP : va_P D vwCl (wX x a b ++ wM cI a pa pe st bn hc hm (nI cN) (nI rN) lo ++ wM cI b pa2 pe2 st2 bn2 hc2 hm2 C2 R2 lo2 ++ wN cI v pt pd ab nw kp wy 1 (nI cN) (nI rN) tn ++ wL cL o 1 ov) H := hP
    have hD : va_D A (wX x a b ++ wM cI a pa pe st bn hc hm (nI cN) (nI rN) lo ++ wM cI b pa2 pe2 st2 bn2 hc2 hm2 C2 R2 lo2 ++ wN cI v pt pd ab nw kp wy 1 (nI cN) (nI rN) tn ++ wL cL o 1 ov) := hD
    refine lv_istore (lv' := [(6, .int 0), (5, .int 1), (4, .int (nI (4 * k))), (3, .ref o), (2, .ref (v 0)), (1, .ref x), (0, .ref b0)]) hx hb dL_law_199 hl (by decide) rfl (fun ls hl => ?_)
    refine lv_aload_n hx hb dL_law_201 rfl (lv_at hl 4 rfl) ?_
    refine kRVi (As := []) (rest := []) ⟨hx, hb, hml, hown, hts⟩ (mX2_thrown l D cI v pt pd ab nw kp wy 1 cN rN tn) (cwV 0 hts gL_law_X2_thrown rfl rfl rfl (by decide +kernel) ⟨Nat.le_of_ble_eq_true rfl, Nat.le_of_ble_eq_true rfl⟩) hP hK hN [15, 16, 17, 18, 19, 20, 21] rfl [0] rfl rfl rfl rfl hl.1 rfl (Nat.le_of_ble_eq_true rfl) dL_law_202 ⟨by omega, by omega⟩ (fun r_12 hr_12 => ?_)
    subst r_12
    refine lv_iload hx hb dL_law_205 (lv_at hl 1 rfl) ?_
    refine lv_icmp_eq (tgt := 212) hx hb dL_law_207 (by decide) (fun _ => ?_) (fun c9 => absurd (by decide) c9)
    refine lv_iload hx hb dL_law_212 (lv_at hl 1 rfl) ?_
    refine lv_if_ne (tgt := 229) hx hb dL_law_214 (by decide) (fun _ => ?_) (fun c9 => absurd c9 (by decide))
    refine lv_goto (tgt := 1599) hx hb dL_law_229 (by decide) ?_
    refine W.widen (k := cells + 10) (n := slots + 41) (by omega) (by omega) ?_
    exact K cN rN pa pe st bn hc hm lo pa2 pe2 st2 bn2 hc2 hm2 C2 R2 lo2 pt pd ab nw kp wy 1 tn ov _ _ _ hR hP hD hS (lv_sub hl [2, 3, 4, 5, 6] rfl)
set_option maxHeartbeats 4000000 in
set_option maxRecDepth 100000 in
theorem cs_4 {p : Program} {l : Launch} {e : Env} {s : State} {m : MethodId} {below : List Frame} {meth : Method} {c : Code} {Q : State → Prop} {D : va_G} {cI cL : ClassId} {x o b0 L k : Nat} {a b v : Nat → Nat} {xs : Nat → Int32} {A : Nat → Prop} {cells slots : Nat} {cN rN : Nat} {pa pe st bn hc hm : Nat → Int32} {lo : Int32} {pa2 pe2 st2 bn2 hc2 hm2 : Nat → Int32} {C2 R2 lo2 : Int32} {pt pd ab nw kp wy : Nat → Int32} {th tn : Int32} {ov : Nat → Int64} {H : Heap} {locs : List Loc} {ls : Array Slot} (F : LF p l s m b0 c D cI cL L xs A) (hR : Rel cN rN pa pe st bn hc hm lo pt pd ab nw) (hk : 4 * k + 3 < L) (h1 : cells + 10 ≤ room_1.cells) (h2 : slots + 41 ≤ room_1.slots) (hP : va_P D vwCl (wX x a b ++ wM cI a pa pe st bn hc hm (nI cN) (nI rN) lo ++ wM cI b pa2 pe2 st2 bn2 hc2 hm2 C2 R2 lo2 ++ wN cI v pt pd ab nw kp wy th (nI cN) (nI rN) tn ++ wL cL o 1 ov) H) (hD : va_D A (wX x a b ++ wM cI a pa pe st bn hc hm (nI cN) (nI rN) lo ++ wM cI b pa2 pe2 st2 bn2 hc2 hm2 C2 R2 lo2 ++ wN cI v pt pd ab nw kp wy th (nI cN) (nI rN) tn ++ wL cL o 1 ov)) (hS : va_S A s.heap H locs) (hl : lv_has ls 9 [(4, .int (nI (4 * k))), (3, .ref o), (2, .ref (v 0)), (1, .ref x), (0, .ref b0)]) (K : LK p l e s m b0 below meth c D cI cL x o k a b v A cells slots Q) : W p l e room_1 s m #[Value.ref b0] below meth c H locs cells slots Q (F0 m 467 ls []) := by
  obtain ⟨hx, hb, hml, hown, hts, hK, hN, hKX, hZ, hA, hX, hbl, hbA, hst, hL⟩ := F
  have hI := hR.inv
  obtain ⟨v1, hv1⟩ : ∃ z, xs (nI (4 * k) + 1).toNatClampNeg = z := ⟨_, rfl⟩
  obtain ⟨v2, hv2⟩ : ∃ z, xs (nI (4 * k) + 2).toNatClampNeg = z := ⟨_, rfl⟩
  obtain ⟨v3, hv3⟩ : ∃ z, xs (nI (4 * k) + 3).toNatClampNeg = z := ⟨_, rfl⟩
  by_cases hp : xhas 2 v1 = true
  · by_cases hq : xhas (nI cN) v2 = true
    · by_cases hr3 : xin v3 0 99 = true
      · obtain ⟨i1, hi1, rfl⟩ := hE hp
        obtain ⟨o1, o2, o3⟩ := hR.hop2 hi1
        obtain ⟨c1, hc1, rfl⟩ := hR.cE hq
        refine lv_aload_n hx hb dL_law_467 rfl (lv_at hl 3 rfl) ?_
        refine lv_aload_n hx hb dL_law_468 rfl (lv_at hl 4 rfl) ?_
        refine lv_iload hx hb dL_law_469 (lv_at hl 0 rfl) ?_
        refine lv_iconst (v := 1) hx hb dL_law_471 (by decide) ?_
        refine lv_iadd hx hb dL_law_472 ?_
        refine va_sld hx hb hX hbl hbA hS (sx_in hL (j := 1) (by omega)) dL_law_473 ?_
        rw [hv1]
        refine lv_aload_n hx hb dL_law_474 rfl (lv_at hl 4 rfl) ?_
        refine lv_iload hx hb dL_law_475 (lv_at hl 0 rfl) ?_
        refine lv_iconst (v := 2) hx hb dL_law_477 (by decide) ?_
        refine lv_iadd hx hb dL_law_478 ?_
        refine va_sld hx hb hX hbl hbA hS (sx_in hL (j := 2) (by omega)) dL_law_479 ?_
        rw [hv2]
        refine lv_aload_n hx hb dL_law_480 rfl (lv_at hl 4 rfl) ?_
        refine lv_iload hx hb dL_law_481 (lv_at hl 0 rfl) ?_
        refine lv_iconst (v := 3) hx hb dL_law_483 (by decide) ?_
        refine lv_iadd hx hb dL_law_484 ?_
        refine va_sld hx hb hX hbl hbA hS (sx_in hL (j := 3) (by omega)) dL_law_485 ?_
        rw [hv3]
        refine lv_aload_n hx hb dL_law_486 rfl (lv_at hl 1 rfl) ?_
        refine kQWi (As := [.ref x, .int (nI i1), .int (nI c1), .int v3, .ref o]) (rest := []) (wr := [(v 0, .inr (2, [.int th, .int (nI cN), .int (nI rN), .ref (v 1), .ref (v 2), .ref (v 3), .ref (v 4), .ref (v 5), .int tn, .ref (v 6)])), (v 1, .inl (cI, 72, .inl pt)), (v 2, .inl (cI, 72, .inl pd)), (v 3, .inl (cI, 2, .inl ab)), (v 4, .inl (cI, 84, .inl nw)), (v 5, .inl (cI, 84, .inl kp)), (v 6, .inl (cI, 8, .inl wy))]) (W2 := (fun _ => (wX x a b ++ wM cI a pa pe st bn ((xsc 2 hc (nI i1) (nI c1))) ((xsc 2 hm (nI i1) v3)) (nI cN) (nI rN) lo ++ wM cI b pa2 pe2 st2 bn2 hc2 hm2 C2 R2 lo2 ++ wN cI v pt pd ab nw kp wy th (nI cN) (nI rN) tn ++ wL cL o 1 ((vp_updL ov 0 ((xcl 2 hm (nI i1)) : Int32).toInt64))))) ⟨hx, hb, hml, hown, hts⟩ (mL_setHopper_0 l D cI cL x a pa pe st bn hc hm (nI cN) (nI rN) lo b pa2 pe2 st2 bn2 hc2 hm2 C2 R2 lo2 o ov (nI i1) (nI c1) v3 hp hq hr3 _) (vx_cwSW 5 hts gL_law_L_setHopper rfl rfl rfl (by decide +kernel) ⟨Nat.le_of_ble_eq_true rfl, Nat.le_of_ble_eq_true rfl⟩) hP hD hK hN hKX (hZ.now hS hA) hS hA [0, 1, 2, 3, 4, 5, 6, 7, 8, 9, 10, 11, 12, 13, 14, 22] (by decide) rfl [15, 16, 17, 18, 19, 20, 21] (by decide) rfl (by decide) [7, 8, 9, 10, 11, 12, 13, 14, 15, 16, 17, 18, 19, 20, 21, 0, 1, 2, 3, 4, 5, 6, 22] (by decide) (fun _ => rfl) [0, 1] rfl rfl hl.1 rfl (Nat.le_of_ble_eq_true rfl) dL_law_487 ⟨by omega, by omega⟩ (fun r_1 u_1 H locs hr_1 hP hD hS => ?_)
        subst r_1
        have hP : va_P D vwCl (wX x a b ++ wM cI a pa pe st bn ((xsc 2 hc (nI i1) (nI c1))) ((xsc 2 hm (nI i1) v3)) (nI cN) (nI rN) lo ++ wM cI b pa2 pe2 st2 bn2 hc2 hm2 C2 R2 lo2 ++ wN cI v pt pd ab nw kp wy th (nI cN) (nI rN) tn ++ wL cL o 1 ((vp_updL ov 0 ((xcl 2 hm (nI i1)) : Int32).toInt64))) H := hP
        have hD : va_D A (wX x a b ++ wM cI a pa pe st bn ((xsc 2 hc (nI i1) (nI c1))) ((xsc 2 hm (nI i1) v3)) (nI cN) (nI rN) lo ++ wM cI b pa2 pe2 st2 bn2 hc2 hm2 C2 R2 lo2 ++ wN cI v pt pd ab nw kp wy th (nI cN) (nI rN) tn ++ wL cL o 1 ((vp_updL ov 0 ((xcl 2 hm (nI i1)) : Int32).toInt64))) := hD
        refine lv_istore (lv' := [(5, .int 0), (4, .int (nI (4 * k))), (3, .ref o), (2, .ref (v 0)), (1, .ref x), (0, .ref b0)]) hx hb dL_law_490 hl (by decide) rfl (fun ls hl => ?_)
        refine lv_aload_n hx hb dL_law_492 rfl (lv_at hl 3 rfl) ?_
        refine lv_aload_n hx hb dL_law_493 rfl (lv_at hl 5 rfl) ?_
        refine lv_iload hx hb dL_law_494 (lv_at hl 1 rfl) ?_
        refine lv_iconst (v := 1) hx hb dL_law_496 (by decide) ?_
        refine lv_iadd hx hb dL_law_497 ?_
        refine va_sld hx hb hX hbl hbA hS (sx_in hL (j := 1) (by omega)) dL_law_498 ?_
        rw [hv1]
        refine lv_aload_n hx hb dL_law_499 rfl (lv_at hl 5 rfl) ?_
        refine lv_iload hx hb dL_law_500 (lv_at hl 1 rfl) ?_
        refine lv_iconst (v := 2) hx hb dL_law_502 (by decide) ?_
        refine lv_iadd hx hb dL_law_503 ?_
        refine va_sld hx hb hX hbl hbA hS (sx_in hL (j := 2) (by omega)) dL_law_504 ?_
        rw [hv2]
        refine lv_aload_n hx hb dL_law_505 rfl (lv_at hl 5 rfl) ?_
        refine lv_iload hx hb dL_law_506 (lv_at hl 1 rfl) ?_
        refine lv_iconst (v := 3) hx hb dL_law_508 (by decide) ?_
        refine lv_iadd hx hb dL_law_509 ?_
        refine va_sld hx hb hX hbl hbA hS (sx_in hL (j := 3) (by omega)) dL_law_510 ?_
        rw [hv3]
        refine kQVi (As := [.int (nI i1), .int (nI c1), .int v3]) (rest := []) (wr := [(x, .inr (1, [.ref (a 0), .ref (b 0)])), (a 0, .inr (0, [.ref (a 1), .ref (a 2), .ref (a 3), .ref (a 4), .ref (a 5), .ref (a 6), .int (nI cN), .int (nI rN), .int lo])), (a 1, .inl (cI, 72, .inl pa)), (a 2, .inl (cI, 72, .inl pe)), (a 3, .inl (cI, 72, .inl st)), (a 4, .inl (cI, 9, .inl bn)), (a 5, .inl (cI, 2, .inl (xsc 2 hc (nI i1) (nI c1)))), (a 6, .inl (cI, 2, .inl (xsc 2 hm (nI i1) v3))), (b 0, .inr (0, [.ref (b 1), .ref (b 2), .ref (b 3), .ref (b 4), .ref (b 5), .ref (b 6), .int C2, .int R2, .int lo2])), (b 1, .inl (cI, 72, .inl pa2)), (b 2, .inl (cI, 72, .inl pe2)), (b 3, .inl (cI, 72, .inl st2)), (b 4, .inl (cI, 9, .inl bn2)), (b 5, .inl (cI, 2, .inl hc2)), (b 6, .inl (cI, 2, .inl hm2)), (o, .inl (cL, 1, .inr (.inl (vp_updL ov 0 ((xcl 2 hm (nI i1)) : Int32).toInt64))))]) (W2 := (fun _ => (wX x a b ++ wM cI a pa pe st bn ((xsc 2 hc (nI i1) (nI c1))) ((xsc 2 hm (nI i1) v3)) (nI cN) (nI rN) lo ++ wM cI b pa2 pe2 st2 bn2 hc2 hm2 C2 R2 lo2 ++ wN cI v pt pd ((upd ab (nI i1).toNatClampNeg (nI c1))) ((upd nw (81 + (nI i1)).toNatClampNeg v3)) kp wy 0 (nI cN) (nI rN) tn ++ wL cL o 1 ((vp_updL ov 0 ((xcl 2 hm (nI i1)) : Int32).toInt64))))) ⟨hx, hb, hml, hown, hts⟩ (mX2_setHopper_0 l D cI v pt pd ab nw kp wy th cN rN tn (nI i1) (nI c1) v3 hI (hT hp) (hR.cT hq) (iT hr3) _) (cwV 3 hts gL_law_X2_setHopper rfl rfl rfl (by decide +kernel) ⟨Nat.le_of_ble_eq_true rfl, Nat.le_of_ble_eq_true rfl⟩) hP hD hK hN hS hA [15, 16, 17, 18, 19, 20, 21] (by decide) rfl [0, 1, 2, 3, 4, 5, 6, 7, 8, 9, 10, 11, 12, 13, 14, 22] (by decide) rfl (by decide) [0, 1, 2, 3, 4, 5, 6, 7, 8, 9, 10, 11, 12, 13, 14, 16, 17, 18, 19, 20, 21, 22, 15] (by decide) (fun _ => rfl) [0] rfl rfl rfl rfl hl.1 rfl (Nat.le_of_ble_eq_true rfl) dL_law_511 ⟨by omega, by omega⟩ (fun r_2 u_2 H locs hr_2 hP hD hS => ?_)
        subst r_2
        have hP : va_P D vwCl (wX x a b ++ wM cI a pa pe st bn ((xsc 2 hc (nI i1) (nI c1))) ((xsc 2 hm (nI i1) v3)) (nI cN) (nI rN) lo ++ wM cI b pa2 pe2 st2 bn2 hc2 hm2 C2 R2 lo2 ++ wN cI v pt pd ((upd ab (nI i1).toNatClampNeg (nI c1))) ((upd nw (81 + (nI i1)).toNatClampNeg v3)) kp wy 0 (nI cN) (nI rN) tn ++ wL cL o 1 ((vp_updL ov 0 ((xcl 2 hm (nI i1)) : Int32).toInt64))) H := hP
        have hD : va_D A (wX x a b ++ wM cI a pa pe st bn ((xsc 2 hc (nI i1) (nI c1))) ((xsc 2 hm (nI i1) v3)) (nI cN) (nI rN) lo ++ wM cI b pa2 pe2 st2 bn2 hc2 hm2 C2 R2 lo2 ++ wN cI v pt pd ((upd ab (nI i1).toNatClampNeg (nI c1))) ((upd nw (81 + (nI i1)).toNatClampNeg v3)) kp wy 0 (nI cN) (nI rN) tn ++ wL cL o 1 ((vp_updL ov 0 ((xcl 2 hm (nI i1)) : Int32).toInt64))) := hD
        refine lv_istore (lv' := [(6, .int (nw (81 + (nI i1)).toNatClampNeg)), (5, .int 0), (4, .int (nI (4 * k))), (3, .ref o), (2, .ref (v 0)), (1, .ref x), (0, .ref b0)]) hx hb dL_law_514 hl (by decide) rfl (fun ls hl => ?_)
        refine lv_aload_n hx hb dL_law_516 rfl (lv_at hl 4 rfl) ?_
        refine kRVi (As := []) (rest := []) ⟨hx, hb, hml, hown, hts⟩ (mX2_thrown l D cI v pt pd (upd ab (nI i1).toNatClampNeg (nI c1)) (upd nw (81 + (nI i1)).toNatClampNeg v3) kp wy 0 cN rN tn) (cwV 0 hts gL_law_X2_thrown rfl rfl rfl (by decide +kernel) ⟨Nat.le_of_ble_eq_true rfl, Nat.le_of_ble_eq_true rfl⟩) hP hK hN [15, 16, 17, 18, 19, 20, 21] rfl [0] rfl rfl rfl rfl hl.1 rfl (Nat.le_of_ble_eq_true rfl) dL_law_517 ⟨by omega, by omega⟩ (fun r_3 hr_3 => ?_)
        subst r_3
        refine lv_iload hx hb dL_law_520 (lv_at hl 1 rfl) ?_
        refine lv_icmp_eq (tgt := 527) hx hb dL_law_522 (by decide) (fun _ => ?_) (fun c9 => absurd (by decide) c9)
        refine lv_iload hx hb dL_law_527 (lv_at hl 1 rfl) ?_
        refine lv_if_ne (tgt := 544) hx hb dL_law_529 (by decide) (fun c9 => absurd c9 (by decide)) (fun _ => ?_)
        refine lv_aload_n hx hb dL_law_532 rfl (lv_at hl 3 rfl) ?_
        refine lv_iconst (v := 0) hx hb dL_law_533 (by decide) ?_
        refine va_lald hx hb hK hP 22 1 rfl rfl (vp_in_nI (n := 0) (by decide) (by decide)) dL_law_534 ?_
        rw [show (0 : Int32).toNatClampNeg = 0 from by decide, updL_0]
        refine lv_iload hx hb dL_law_535 (lv_at hl 0 rfl) ?_
        refine lv_i2l (v := (nw (81 + (nI i1)).toNatClampNeg : Int32).toInt64) hx hb dL_law_537 rfl ?_
        refine W.lcmp hx hb dL_law_538 ?_
        refine lv_if_eq (tgt := 544) hx hb dL_law_539 (by decide) (fun _ => ?_) (fun c9 => absurd ((lg_cmp_eq _ _).mpr (congrArg Int32.toInt64 o1)) c9)
        refine lv_goto (tgt := 1599) hx hb dL_law_544 (by decide) ?_
        refine W.widen (k := cells + 10) (n := slots + 41) (by omega) (by omega) ?_
        exact K cN rN pa pe st bn (xsc 2 hc (nI i1) (nI c1)) (xsc 2 hm (nI i1) v3) lo pa2 pe2 st2 bn2 hc2 hm2 C2 R2 lo2 pt pd (upd ab (nI i1).toNatClampNeg (nI c1)) (upd nw (81 + (nI i1)).toNatClampNeg v3) kp wy 0 tn (vp_updL ov 0 ((xcl 2 hm (nI i1)) : Int32).toInt64) _ _ _ (hR.khop hi1 hc1 _) hP hD hS (lv_sub hl [2, 3, 4, 5, 6] rfl)
      · have hr3 : xin v3 0 99 = false := Bool.eq_false_iff.mpr hr3
        refine lv_aload_n hx hb dL_law_467 rfl (lv_at hl 3 rfl) ?_
        refine lv_aload_n hx hb dL_law_468 rfl (lv_at hl 4 rfl) ?_
        refine lv_iload hx hb dL_law_469 (lv_at hl 0 rfl) ?_
        refine lv_iconst (v := 1) hx hb dL_law_471 (by decide) ?_
        refine lv_iadd hx hb dL_law_472 ?_
        refine va_sld hx hb hX hbl hbA hS (sx_in hL (j := 1) (by omega)) dL_law_473 ?_
        rw [hv1]
        refine lv_aload_n hx hb dL_law_474 rfl (lv_at hl 4 rfl) ?_
        refine lv_iload hx hb dL_law_475 (lv_at hl 0 rfl) ?_
        refine lv_iconst (v := 2) hx hb dL_law_477 (by decide) ?_
        refine lv_iadd hx hb dL_law_478 ?_
        refine va_sld hx hb hX hbl hbA hS (sx_in hL (j := 2) (by omega)) dL_law_479 ?_
        rw [hv2]
        refine lv_aload_n hx hb dL_law_480 rfl (lv_at hl 4 rfl) ?_
        refine lv_iload hx hb dL_law_481 (lv_at hl 0 rfl) ?_
        refine lv_iconst (v := 3) hx hb dL_law_483 (by decide) ?_
        refine lv_iadd hx hb dL_law_484 ?_
        refine va_sld hx hb hX hbl hbA hS (sx_in hL (j := 3) (by omega)) dL_law_485 ?_
        rw [hv3]
        refine lv_aload_n hx hb dL_law_486 rfl (lv_at hl 1 rfl) ?_
        refine kQWi (As := [.ref x, .int v1, .int v2, .int v3, .ref o]) (rest := []) (wr := [(v 0, .inr (2, [.int th, .int (nI cN), .int (nI rN), .ref (v 1), .ref (v 2), .ref (v 3), .ref (v 4), .ref (v 5), .int tn, .ref (v 6)])), (v 1, .inl (cI, 72, .inl pt)), (v 2, .inl (cI, 72, .inl pd)), (v 3, .inl (cI, 2, .inl ab)), (v 4, .inl (cI, 84, .inl nw)), (v 5, .inl (cI, 84, .inl kp)), (v 6, .inl (cI, 8, .inl wy))]) (W2 := (fun _ => (wX x a b ++ wM cI a pa pe st bn hc hm (nI cN) (nI rN) lo ++ wM cI b pa2 pe2 st2 bn2 hc2 hm2 C2 R2 lo2 ++ wN cI v pt pd ab nw kp wy th (nI cN) (nI rN) tn ++ wL cL o 1 ov))) ⟨hx, hb, hml, hown, hts⟩ (mL_setHopper_a l hst D cI cL x a pa pe st bn hc hm (nI cN) (nI rN) lo b pa2 pe2 st2 bn2 hc2 hm2 C2 R2 lo2 o ov v1 v2 v3 hp hq hr3 _) (vx_cwSW 5 hts gL_law_L_setHopper rfl rfl rfl (by decide +kernel) ⟨Nat.le_of_ble_eq_true rfl, Nat.le_of_ble_eq_true rfl⟩) hP hD hK hN hKX (hZ.now hS hA) hS hA [0, 1, 2, 3, 4, 5, 6, 7, 8, 9, 10, 11, 12, 13, 14, 22] (by decide) rfl [15, 16, 17, 18, 19, 20, 21] (by decide) rfl (by decide) [7, 8, 9, 10, 11, 12, 13, 14, 15, 16, 17, 18, 19, 20, 21, 0, 1, 2, 3, 4, 5, 6, 22] (by decide) (fun _ => rfl) [0, 1] rfl rfl hl.1 rfl (Nat.le_of_ble_eq_true rfl) dL_law_487 ⟨by omega, by omega⟩ (fun r_6 u_6 H locs hr_6 hP hD hS => ?_)
        subst r_6
        have hP : va_P D vwCl (wX x a b ++ wM cI a pa pe st bn hc hm (nI cN) (nI rN) lo ++ wM cI b pa2 pe2 st2 bn2 hc2 hm2 C2 R2 lo2 ++ wN cI v pt pd ab nw kp wy th (nI cN) (nI rN) tn ++ wL cL o 1 ov) H := hP
        have hD : va_D A (wX x a b ++ wM cI a pa pe st bn hc hm (nI cN) (nI rN) lo ++ wM cI b pa2 pe2 st2 bn2 hc2 hm2 C2 R2 lo2 ++ wN cI v pt pd ab nw kp wy th (nI cN) (nI rN) tn ++ wL cL o 1 ov) := hD
        refine lv_istore (lv' := [(5, .int 2), (4, .int (nI (4 * k))), (3, .ref o), (2, .ref (v 0)), (1, .ref x), (0, .ref b0)]) hx hb dL_law_490 hl (by decide) rfl (fun ls hl => ?_)
        refine lv_aload_n hx hb dL_law_492 rfl (lv_at hl 3 rfl) ?_
        refine lv_aload_n hx hb dL_law_493 rfl (lv_at hl 5 rfl) ?_
        refine lv_iload hx hb dL_law_494 (lv_at hl 1 rfl) ?_
        refine lv_iconst (v := 1) hx hb dL_law_496 (by decide) ?_
        refine lv_iadd hx hb dL_law_497 ?_
        refine va_sld hx hb hX hbl hbA hS (sx_in hL (j := 1) (by omega)) dL_law_498 ?_
        rw [hv1]
        refine lv_aload_n hx hb dL_law_499 rfl (lv_at hl 5 rfl) ?_
        refine lv_iload hx hb dL_law_500 (lv_at hl 1 rfl) ?_
        refine lv_iconst (v := 2) hx hb dL_law_502 (by decide) ?_
        refine lv_iadd hx hb dL_law_503 ?_
        refine va_sld hx hb hX hbl hbA hS (sx_in hL (j := 2) (by omega)) dL_law_504 ?_
        rw [hv2]
        refine lv_aload_n hx hb dL_law_505 rfl (lv_at hl 5 rfl) ?_
        refine lv_iload hx hb dL_law_506 (lv_at hl 1 rfl) ?_
        refine lv_iconst (v := 3) hx hb dL_law_508 (by decide) ?_
        refine lv_iadd hx hb dL_law_509 ?_
        refine va_sld hx hb hX hbl hbA hS (sx_in hL (j := 3) (by omega)) dL_law_510 ?_
        rw [hv3]
        refine kQVi (As := [.int v1, .int v2, .int v3]) (rest := []) (wr := [(x, .inr (1, [.ref (a 0), .ref (b 0)])), (a 0, .inr (0, [.ref (a 1), .ref (a 2), .ref (a 3), .ref (a 4), .ref (a 5), .ref (a 6), .int (nI cN), .int (nI rN), .int lo])), (a 1, .inl (cI, 72, .inl pa)), (a 2, .inl (cI, 72, .inl pe)), (a 3, .inl (cI, 72, .inl st)), (a 4, .inl (cI, 9, .inl bn)), (a 5, .inl (cI, 2, .inl hc)), (a 6, .inl (cI, 2, .inl hm)), (b 0, .inr (0, [.ref (b 1), .ref (b 2), .ref (b 3), .ref (b 4), .ref (b 5), .ref (b 6), .int C2, .int R2, .int lo2])), (b 1, .inl (cI, 72, .inl pa2)), (b 2, .inl (cI, 72, .inl pe2)), (b 3, .inl (cI, 72, .inl st2)), (b 4, .inl (cI, 9, .inl bn2)), (b 5, .inl (cI, 2, .inl hc2)), (b 6, .inl (cI, 2, .inl hm2)), (o, .inl (cL, 1, .inr (.inl ov)))]) (W2 := (fun _ => (wX x a b ++ wM cI a pa pe st bn hc hm (nI cN) (nI rN) lo ++ wM cI b pa2 pe2 st2 bn2 hc2 hm2 C2 R2 lo2 ++ wN cI v pt pd ab nw kp wy 2 (nI cN) (nI rN) tn ++ wL cL o 1 ov))) ⟨hx, hb, hml, hown, hts⟩ (mX2_setHopper_2 l D cI v pt pd ab nw kp wy th cN rN tn v1 v2 v3 (hT hp) (hR.cT hq) (iT hr3) _) (cwV 3 hts gL_law_X2_setHopper rfl rfl rfl (by decide +kernel) ⟨Nat.le_of_ble_eq_true rfl, Nat.le_of_ble_eq_true rfl⟩) hP hD hK hN hS hA [15, 16, 17, 18, 19, 20, 21] (by decide) rfl [0, 1, 2, 3, 4, 5, 6, 7, 8, 9, 10, 11, 12, 13, 14, 22] (by decide) rfl (by decide) [0, 1, 2, 3, 4, 5, 6, 7, 8, 9, 10, 11, 12, 13, 14, 16, 17, 18, 19, 20, 21, 22, 15] (by decide) (fun _ => rfl) [0] rfl rfl rfl rfl hl.1 rfl (Nat.le_of_ble_eq_true rfl) dL_law_511 ⟨by omega, by omega⟩ (fun r_7 u_7 H locs hr_7 hP hD hS => ?_)
        subst r_7
        have hP : va_P D vwCl (wX x a b ++ wM cI a pa pe st bn hc hm (nI cN) (nI rN) lo ++ wM cI b pa2 pe2 st2 bn2 hc2 hm2 C2 R2 lo2 ++ wN cI v pt pd ab nw kp wy 2 (nI cN) (nI rN) tn ++ wL cL o 1 ov) H := hP
        have hD : va_D A (wX x a b ++ wM cI a pa pe st bn hc hm (nI cN) (nI rN) lo ++ wM cI b pa2 pe2 st2 bn2 hc2 hm2 C2 R2 lo2 ++ wN cI v pt pd ab nw kp wy 2 (nI cN) (nI rN) tn ++ wL cL o 1 ov) := hD
        refine lv_istore (lv' := [(6, .int 0), (5, .int 2), (4, .int (nI (4 * k))), (3, .ref o), (2, .ref (v 0)), (1, .ref x), (0, .ref b0)]) hx hb dL_law_514 hl (by decide) rfl (fun ls hl => ?_)
        refine lv_aload_n hx hb dL_law_516 rfl (lv_at hl 4 rfl) ?_
        refine kRVi (As := []) (rest := []) ⟨hx, hb, hml, hown, hts⟩ (mX2_thrown l D cI v pt pd ab nw kp wy 2 cN rN tn) (cwV 0 hts gL_law_X2_thrown rfl rfl rfl (by decide +kernel) ⟨Nat.le_of_ble_eq_true rfl, Nat.le_of_ble_eq_true rfl⟩) hP hK hN [15, 16, 17, 18, 19, 20, 21] rfl [0] rfl rfl rfl rfl hl.1 rfl (Nat.le_of_ble_eq_true rfl) dL_law_517 ⟨by omega, by omega⟩ (fun r_8 hr_8 => ?_)
        subst r_8
        refine lv_iload hx hb dL_law_520 (lv_at hl 1 rfl) ?_
        refine lv_icmp_eq (tgt := 527) hx hb dL_law_522 (by decide) (fun _ => ?_) (fun c9 => absurd (by decide) c9)
        refine lv_iload hx hb dL_law_527 (lv_at hl 1 rfl) ?_
        refine lv_if_ne (tgt := 544) hx hb dL_law_529 (by decide) (fun _ => ?_) (fun c9 => absurd c9 (by decide))
        refine lv_goto (tgt := 1599) hx hb dL_law_544 (by decide) ?_
        refine W.widen (k := cells + 10) (n := slots + 41) (by omega) (by omega) ?_
        exact K cN rN pa pe st bn hc hm lo pa2 pe2 st2 bn2 hc2 hm2 C2 R2 lo2 pt pd ab nw kp wy 2 tn ov _ _ _ hR hP hD hS (lv_sub hl [2, 3, 4, 5, 6] rfl)
    · have hq : xhas (nI cN) v2 = false := Bool.eq_false_iff.mpr hq
      refine lv_aload_n hx hb dL_law_467 rfl (lv_at hl 3 rfl) ?_
      refine lv_aload_n hx hb dL_law_468 rfl (lv_at hl 4 rfl) ?_
      refine lv_iload hx hb dL_law_469 (lv_at hl 0 rfl) ?_
      refine lv_iconst (v := 1) hx hb dL_law_471 (by decide) ?_
      refine lv_iadd hx hb dL_law_472 ?_
      refine va_sld hx hb hX hbl hbA hS (sx_in hL (j := 1) (by omega)) dL_law_473 ?_
      rw [hv1]
      refine lv_aload_n hx hb dL_law_474 rfl (lv_at hl 4 rfl) ?_
      refine lv_iload hx hb dL_law_475 (lv_at hl 0 rfl) ?_
      refine lv_iconst (v := 2) hx hb dL_law_477 (by decide) ?_
      refine lv_iadd hx hb dL_law_478 ?_
      refine va_sld hx hb hX hbl hbA hS (sx_in hL (j := 2) (by omega)) dL_law_479 ?_
      rw [hv2]
      refine lv_aload_n hx hb dL_law_480 rfl (lv_at hl 4 rfl) ?_
      refine lv_iload hx hb dL_law_481 (lv_at hl 0 rfl) ?_
      refine lv_iconst (v := 3) hx hb dL_law_483 (by decide) ?_
      refine lv_iadd hx hb dL_law_484 ?_
      refine va_sld hx hb hX hbl hbA hS (sx_in hL (j := 3) (by omega)) dL_law_485 ?_
      rw [hv3]
      refine lv_aload_n hx hb dL_law_486 rfl (lv_at hl 1 rfl) ?_
      refine kQWi (As := [.ref x, .int v1, .int v2, .int v3, .ref o]) (rest := []) (wr := [(v 0, .inr (2, [.int th, .int (nI cN), .int (nI rN), .ref (v 1), .ref (v 2), .ref (v 3), .ref (v 4), .ref (v 5), .int tn, .ref (v 6)])), (v 1, .inl (cI, 72, .inl pt)), (v 2, .inl (cI, 72, .inl pd)), (v 3, .inl (cI, 2, .inl ab)), (v 4, .inl (cI, 84, .inl nw)), (v 5, .inl (cI, 84, .inl kp)), (v 6, .inl (cI, 8, .inl wy))]) (W2 := (fun _ => (wX x a b ++ wM cI a pa pe st bn hc hm (nI cN) (nI rN) lo ++ wM cI b pa2 pe2 st2 bn2 hc2 hm2 C2 R2 lo2 ++ wN cI v pt pd ab nw kp wy th (nI cN) (nI rN) tn ++ wL cL o 1 ov))) ⟨hx, hb, hml, hown, hts⟩ (mL_setHopper_c l hst D cI cL x a pa pe st bn hc hm (nI cN) (nI rN) lo b pa2 pe2 st2 bn2 hc2 hm2 C2 R2 lo2 o ov v1 v2 v3 hp hq _) (vx_cwSW 5 hts gL_law_L_setHopper rfl rfl rfl (by decide +kernel) ⟨Nat.le_of_ble_eq_true rfl, Nat.le_of_ble_eq_true rfl⟩) hP hD hK hN hKX (hZ.now hS hA) hS hA [0, 1, 2, 3, 4, 5, 6, 7, 8, 9, 10, 11, 12, 13, 14, 22] (by decide) rfl [15, 16, 17, 18, 19, 20, 21] (by decide) rfl (by decide) [7, 8, 9, 10, 11, 12, 13, 14, 15, 16, 17, 18, 19, 20, 21, 0, 1, 2, 3, 4, 5, 6, 22] (by decide) (fun _ => rfl) [0, 1] rfl rfl hl.1 rfl (Nat.le_of_ble_eq_true rfl) dL_law_487 ⟨by omega, by omega⟩ (fun r_10 u_10 H locs hr_10 hP hD hS => ?_)
      subst r_10
      have hP : va_P D vwCl (wX x a b ++ wM cI a pa pe st bn hc hm (nI cN) (nI rN) lo ++ wM cI b pa2 pe2 st2 bn2 hc2 hm2 C2 R2 lo2 ++ wN cI v pt pd ab nw kp wy th (nI cN) (nI rN) tn ++ wL cL o 1 ov) H := hP
      have hD : va_D A (wX x a b ++ wM cI a pa pe st bn hc hm (nI cN) (nI rN) lo ++ wM cI b pa2 pe2 st2 bn2 hc2 hm2 C2 R2 lo2 ++ wN cI v pt pd ab nw kp wy th (nI cN) (nI rN) tn ++ wL cL o 1 ov) := hD
      refine lv_istore (lv' := [(5, .int 1), (4, .int (nI (4 * k))), (3, .ref o), (2, .ref (v 0)), (1, .ref x), (0, .ref b0)]) hx hb dL_law_490 hl (by decide) rfl (fun ls hl => ?_)
      refine lv_aload_n hx hb dL_law_492 rfl (lv_at hl 3 rfl) ?_
      refine lv_aload_n hx hb dL_law_493 rfl (lv_at hl 5 rfl) ?_
      refine lv_iload hx hb dL_law_494 (lv_at hl 1 rfl) ?_
      refine lv_iconst (v := 1) hx hb dL_law_496 (by decide) ?_
      refine lv_iadd hx hb dL_law_497 ?_
      refine va_sld hx hb hX hbl hbA hS (sx_in hL (j := 1) (by omega)) dL_law_498 ?_
      rw [hv1]
      refine lv_aload_n hx hb dL_law_499 rfl (lv_at hl 5 rfl) ?_
      refine lv_iload hx hb dL_law_500 (lv_at hl 1 rfl) ?_
      refine lv_iconst (v := 2) hx hb dL_law_502 (by decide) ?_
      refine lv_iadd hx hb dL_law_503 ?_
      refine va_sld hx hb hX hbl hbA hS (sx_in hL (j := 2) (by omega)) dL_law_504 ?_
      rw [hv2]
      refine lv_aload_n hx hb dL_law_505 rfl (lv_at hl 5 rfl) ?_
      refine lv_iload hx hb dL_law_506 (lv_at hl 1 rfl) ?_
      refine lv_iconst (v := 3) hx hb dL_law_508 (by decide) ?_
      refine lv_iadd hx hb dL_law_509 ?_
      refine va_sld hx hb hX hbl hbA hS (sx_in hL (j := 3) (by omega)) dL_law_510 ?_
      rw [hv3]
      refine kQVi (As := [.int v1, .int v2, .int v3]) (rest := []) (wr := [(x, .inr (1, [.ref (a 0), .ref (b 0)])), (a 0, .inr (0, [.ref (a 1), .ref (a 2), .ref (a 3), .ref (a 4), .ref (a 5), .ref (a 6), .int (nI cN), .int (nI rN), .int lo])), (a 1, .inl (cI, 72, .inl pa)), (a 2, .inl (cI, 72, .inl pe)), (a 3, .inl (cI, 72, .inl st)), (a 4, .inl (cI, 9, .inl bn)), (a 5, .inl (cI, 2, .inl hc)), (a 6, .inl (cI, 2, .inl hm)), (b 0, .inr (0, [.ref (b 1), .ref (b 2), .ref (b 3), .ref (b 4), .ref (b 5), .ref (b 6), .int C2, .int R2, .int lo2])), (b 1, .inl (cI, 72, .inl pa2)), (b 2, .inl (cI, 72, .inl pe2)), (b 3, .inl (cI, 72, .inl st2)), (b 4, .inl (cI, 9, .inl bn2)), (b 5, .inl (cI, 2, .inl hc2)), (b 6, .inl (cI, 2, .inl hm2)), (o, .inl (cL, 1, .inr (.inl ov)))]) (W2 := (fun _ => (wX x a b ++ wM cI a pa pe st bn hc hm (nI cN) (nI rN) lo ++ wM cI b pa2 pe2 st2 bn2 hc2 hm2 C2 R2 lo2 ++ wN cI v pt pd ab nw kp wy 1 (nI cN) (nI rN) tn ++ wL cL o 1 ov))) ⟨hx, hb, hml, hown, hts⟩ (mX2_setHopper_1c l D cI v pt pd ab nw kp wy th cN rN tn v1 v2 v3 (hT hp) (hR.cF hq) _) (cwV 3 hts gL_law_X2_setHopper rfl rfl rfl (by decide +kernel) ⟨Nat.le_of_ble_eq_true rfl, Nat.le_of_ble_eq_true rfl⟩) hP hD hK hN hS hA [15, 16, 17, 18, 19, 20, 21] (by decide) rfl [0, 1, 2, 3, 4, 5, 6, 7, 8, 9, 10, 11, 12, 13, 14, 22] (by decide) rfl (by decide) [0, 1, 2, 3, 4, 5, 6, 7, 8, 9, 10, 11, 12, 13, 14, 16, 17, 18, 19, 20, 21, 22, 15] (by decide) (fun _ => rfl) [0] rfl rfl rfl rfl hl.1 rfl (Nat.le_of_ble_eq_true rfl) dL_law_511 ⟨by omega, by omega⟩ (fun r_11 u_11 H locs hr_11 hP hD hS => ?_)
      subst r_11
      have hP : va_P D vwCl (wX x a b ++ wM cI a pa pe st bn hc hm (nI cN) (nI rN) lo ++ wM cI b pa2 pe2 st2 bn2 hc2 hm2 C2 R2 lo2 ++ wN cI v pt pd ab nw kp wy 1 (nI cN) (nI rN) tn ++ wL cL o 1 ov) H := hP
      have hD : va_D A (wX x a b ++ wM cI a pa pe st bn hc hm (nI cN) (nI rN) lo ++ wM cI b pa2 pe2 st2 bn2 hc2 hm2 C2 R2 lo2 ++ wN cI v pt pd ab nw kp wy 1 (nI cN) (nI rN) tn ++ wL cL o 1 ov) := hD
      refine lv_istore (lv' := [(6, .int 0), (5, .int 1), (4, .int (nI (4 * k))), (3, .ref o), (2, .ref (v 0)), (1, .ref x), (0, .ref b0)]) hx hb dL_law_514 hl (by decide) rfl (fun ls hl => ?_)
      refine lv_aload_n hx hb dL_law_516 rfl (lv_at hl 4 rfl) ?_
      refine kRVi (As := []) (rest := []) ⟨hx, hb, hml, hown, hts⟩ (mX2_thrown l D cI v pt pd ab nw kp wy 1 cN rN tn) (cwV 0 hts gL_law_X2_thrown rfl rfl rfl (by decide +kernel) ⟨Nat.le_of_ble_eq_true rfl, Nat.le_of_ble_eq_true rfl⟩) hP hK hN [15, 16, 17, 18, 19, 20, 21] rfl [0] rfl rfl rfl rfl hl.1 rfl (Nat.le_of_ble_eq_true rfl) dL_law_517 ⟨by omega, by omega⟩ (fun r_12 hr_12 => ?_)
      subst r_12
      refine lv_iload hx hb dL_law_520 (lv_at hl 1 rfl) ?_
      refine lv_icmp_eq (tgt := 527) hx hb dL_law_522 (by decide) (fun _ => ?_) (fun c9 => absurd (by decide) c9)
      refine lv_iload hx hb dL_law_527 (lv_at hl 1 rfl) ?_
      refine lv_if_ne (tgt := 544) hx hb dL_law_529 (by decide) (fun _ => ?_) (fun c9 => absurd c9 (by decide))
      refine lv_goto (tgt := 1599) hx hb dL_law_544 (by decide) ?_
      refine W.widen (k := cells + 10) (n := slots + 41) (by omega) (by omega) ?_
      exact K cN rN pa pe st bn hc hm lo pa2 pe2 st2 bn2 hc2 hm2 C2 R2 lo2 pt pd ab nw kp wy 1 tn ov _ _ _ hR hP hD hS (lv_sub hl [2, 3, 4, 5, 6] rfl)
  · have hp : xhas 2 v1 = false := Bool.eq_false_iff.mpr hp
    refine lv_aload_n hx hb dL_law_467 rfl (lv_at hl 3 rfl) ?_
    refine lv_aload_n hx hb dL_law_468 rfl (lv_at hl 4 rfl) ?_
    refine lv_iload hx hb dL_law_469 (lv_at hl 0 rfl) ?_
    refine lv_iconst (v := 1) hx hb dL_law_471 (by decide) ?_
    refine lv_iadd hx hb dL_law_472 ?_
    refine va_sld hx hb hX hbl hbA hS (sx_in hL (j := 1) (by omega)) dL_law_473 ?_
    rw [hv1]
    refine lv_aload_n hx hb dL_law_474 rfl (lv_at hl 4 rfl) ?_
    refine lv_iload hx hb dL_law_475 (lv_at hl 0 rfl) ?_
    refine lv_iconst (v := 2) hx hb dL_law_477 (by decide) ?_
    refine lv_iadd hx hb dL_law_478 ?_
    refine va_sld hx hb hX hbl hbA hS (sx_in hL (j := 2) (by omega)) dL_law_479 ?_
    rw [hv2]
    refine lv_aload_n hx hb dL_law_480 rfl (lv_at hl 4 rfl) ?_
    refine lv_iload hx hb dL_law_481 (lv_at hl 0 rfl) ?_
    refine lv_iconst (v := 3) hx hb dL_law_483 (by decide) ?_
    refine lv_iadd hx hb dL_law_484 ?_
    refine va_sld hx hb hX hbl hbA hS (sx_in hL (j := 3) (by omega)) dL_law_485 ?_
    rw [hv3]
    refine lv_aload_n hx hb dL_law_486 rfl (lv_at hl 1 rfl) ?_
    refine kQWi (As := [.ref x, .int v1, .int v2, .int v3, .ref o]) (rest := []) (wr := [(v 0, .inr (2, [.int th, .int (nI cN), .int (nI rN), .ref (v 1), .ref (v 2), .ref (v 3), .ref (v 4), .ref (v 5), .int tn, .ref (v 6)])), (v 1, .inl (cI, 72, .inl pt)), (v 2, .inl (cI, 72, .inl pd)), (v 3, .inl (cI, 2, .inl ab)), (v 4, .inl (cI, 84, .inl nw)), (v 5, .inl (cI, 84, .inl kp)), (v 6, .inl (cI, 8, .inl wy))]) (W2 := (fun _ => (wX x a b ++ wM cI a pa pe st bn hc hm (nI cN) (nI rN) lo ++ wM cI b pa2 pe2 st2 bn2 hc2 hm2 C2 R2 lo2 ++ wN cI v pt pd ab nw kp wy th (nI cN) (nI rN) tn ++ wL cL o 1 ov))) ⟨hx, hb, hml, hown, hts⟩ (mL_setHopper_h l hst D cI cL x a pa pe st bn hc hm (nI cN) (nI rN) lo b pa2 pe2 st2 bn2 hc2 hm2 C2 R2 lo2 o ov v1 v2 v3 hp _) (vx_cwSW 5 hts gL_law_L_setHopper rfl rfl rfl (by decide +kernel) ⟨Nat.le_of_ble_eq_true rfl, Nat.le_of_ble_eq_true rfl⟩) hP hD hK hN hKX (hZ.now hS hA) hS hA [0, 1, 2, 3, 4, 5, 6, 7, 8, 9, 10, 11, 12, 13, 14, 22] (by decide) rfl [15, 16, 17, 18, 19, 20, 21] (by decide) rfl (by decide) [7, 8, 9, 10, 11, 12, 13, 14, 15, 16, 17, 18, 19, 20, 21, 0, 1, 2, 3, 4, 5, 6, 22] (by decide) (fun _ => rfl) [0, 1] rfl rfl hl.1 rfl (Nat.le_of_ble_eq_true rfl) dL_law_487 ⟨by omega, by omega⟩ (fun r_14 u_14 H locs hr_14 hP hD hS => ?_)
    subst r_14
    have hP : va_P D vwCl (wX x a b ++ wM cI a pa pe st bn hc hm (nI cN) (nI rN) lo ++ wM cI b pa2 pe2 st2 bn2 hc2 hm2 C2 R2 lo2 ++ wN cI v pt pd ab nw kp wy th (nI cN) (nI rN) tn ++ wL cL o 1 ov) H := hP
    have hD : va_D A (wX x a b ++ wM cI a pa pe st bn hc hm (nI cN) (nI rN) lo ++ wM cI b pa2 pe2 st2 bn2 hc2 hm2 C2 R2 lo2 ++ wN cI v pt pd ab nw kp wy th (nI cN) (nI rN) tn ++ wL cL o 1 ov) := hD
    refine lv_istore (lv' := [(5, .int 1), (4, .int (nI (4 * k))), (3, .ref o), (2, .ref (v 0)), (1, .ref x), (0, .ref b0)]) hx hb dL_law_490 hl (by decide) rfl (fun ls hl => ?_)
    refine lv_aload_n hx hb dL_law_492 rfl (lv_at hl 3 rfl) ?_
    refine lv_aload_n hx hb dL_law_493 rfl (lv_at hl 5 rfl) ?_
    refine lv_iload hx hb dL_law_494 (lv_at hl 1 rfl) ?_
    refine lv_iconst (v := 1) hx hb dL_law_496 (by decide) ?_
    refine lv_iadd hx hb dL_law_497 ?_
    refine va_sld hx hb hX hbl hbA hS (sx_in hL (j := 1) (by omega)) dL_law_498 ?_
    rw [hv1]
    refine lv_aload_n hx hb dL_law_499 rfl (lv_at hl 5 rfl) ?_
    refine lv_iload hx hb dL_law_500 (lv_at hl 1 rfl) ?_
    refine lv_iconst (v := 2) hx hb dL_law_502 (by decide) ?_
    refine lv_iadd hx hb dL_law_503 ?_
    refine va_sld hx hb hX hbl hbA hS (sx_in hL (j := 2) (by omega)) dL_law_504 ?_
    rw [hv2]
    refine lv_aload_n hx hb dL_law_505 rfl (lv_at hl 5 rfl) ?_
    refine lv_iload hx hb dL_law_506 (lv_at hl 1 rfl) ?_
    refine lv_iconst (v := 3) hx hb dL_law_508 (by decide) ?_
    refine lv_iadd hx hb dL_law_509 ?_
    refine va_sld hx hb hX hbl hbA hS (sx_in hL (j := 3) (by omega)) dL_law_510 ?_
    rw [hv3]
    refine kQVi (As := [.int v1, .int v2, .int v3]) (rest := []) (wr := [(x, .inr (1, [.ref (a 0), .ref (b 0)])), (a 0, .inr (0, [.ref (a 1), .ref (a 2), .ref (a 3), .ref (a 4), .ref (a 5), .ref (a 6), .int (nI cN), .int (nI rN), .int lo])), (a 1, .inl (cI, 72, .inl pa)), (a 2, .inl (cI, 72, .inl pe)), (a 3, .inl (cI, 72, .inl st)), (a 4, .inl (cI, 9, .inl bn)), (a 5, .inl (cI, 2, .inl hc)), (a 6, .inl (cI, 2, .inl hm)), (b 0, .inr (0, [.ref (b 1), .ref (b 2), .ref (b 3), .ref (b 4), .ref (b 5), .ref (b 6), .int C2, .int R2, .int lo2])), (b 1, .inl (cI, 72, .inl pa2)), (b 2, .inl (cI, 72, .inl pe2)), (b 3, .inl (cI, 72, .inl st2)), (b 4, .inl (cI, 9, .inl bn2)), (b 5, .inl (cI, 2, .inl hc2)), (b 6, .inl (cI, 2, .inl hm2)), (o, .inl (cL, 1, .inr (.inl ov)))]) (W2 := (fun _ => (wX x a b ++ wM cI a pa pe st bn hc hm (nI cN) (nI rN) lo ++ wM cI b pa2 pe2 st2 bn2 hc2 hm2 C2 R2 lo2 ++ wN cI v pt pd ab nw kp wy 1 (nI cN) (nI rN) tn ++ wL cL o 1 ov))) ⟨hx, hb, hml, hown, hts⟩ (mX2_setHopper_1 l D cI v pt pd ab nw kp wy th cN rN tn v1 v2 v3 (hT hp) _) (cwV 3 hts gL_law_X2_setHopper rfl rfl rfl (by decide +kernel) ⟨Nat.le_of_ble_eq_true rfl, Nat.le_of_ble_eq_true rfl⟩) hP hD hK hN hS hA [15, 16, 17, 18, 19, 20, 21] (by decide) rfl [0, 1, 2, 3, 4, 5, 6, 7, 8, 9, 10, 11, 12, 13, 14, 22] (by decide) rfl (by decide) [0, 1, 2, 3, 4, 5, 6, 7, 8, 9, 10, 11, 12, 13, 14, 16, 17, 18, 19, 20, 21, 22, 15] (by decide) (fun _ => rfl) [0] rfl rfl rfl rfl hl.1 rfl (Nat.le_of_ble_eq_true rfl) dL_law_511 ⟨by omega, by omega⟩ (fun r_15 u_15 H locs hr_15 hP hD hS => ?_)
    subst r_15
    have hP : va_P D vwCl (wX x a b ++ wM cI a pa pe st bn hc hm (nI cN) (nI rN) lo ++ wM cI b pa2 pe2 st2 bn2 hc2 hm2 C2 R2 lo2 ++ wN cI v pt pd ab nw kp wy 1 (nI cN) (nI rN) tn ++ wL cL o 1 ov) H := hP
    have hD : va_D A (wX x a b ++ wM cI a pa pe st bn hc hm (nI cN) (nI rN) lo ++ wM cI b pa2 pe2 st2 bn2 hc2 hm2 C2 R2 lo2 ++ wN cI v pt pd ab nw kp wy 1 (nI cN) (nI rN) tn ++ wL cL o 1 ov) := hD
    refine lv_istore (lv' := [(6, .int 0), (5, .int 1), (4, .int (nI (4 * k))), (3, .ref o), (2, .ref (v 0)), (1, .ref x), (0, .ref b0)]) hx hb dL_law_514 hl (by decide) rfl (fun ls hl => ?_)
    refine lv_aload_n hx hb dL_law_516 rfl (lv_at hl 4 rfl) ?_
    refine kRVi (As := []) (rest := []) ⟨hx, hb, hml, hown, hts⟩ (mX2_thrown l D cI v pt pd ab nw kp wy 1 cN rN tn) (cwV 0 hts gL_law_X2_thrown rfl rfl rfl (by decide +kernel) ⟨Nat.le_of_ble_eq_true rfl, Nat.le_of_ble_eq_true rfl⟩) hP hK hN [15, 16, 17, 18, 19, 20, 21] rfl [0] rfl rfl rfl rfl hl.1 rfl (Nat.le_of_ble_eq_true rfl) dL_law_517 ⟨by omega, by omega⟩ (fun r_16 hr_16 => ?_)
    subst r_16
    refine lv_iload hx hb dL_law_520 (lv_at hl 1 rfl) ?_
    refine lv_icmp_eq (tgt := 527) hx hb dL_law_522 (by decide) (fun _ => ?_) (fun c9 => absurd (by decide) c9)
    refine lv_iload hx hb dL_law_527 (lv_at hl 1 rfl) ?_
    refine lv_if_ne (tgt := 544) hx hb dL_law_529 (by decide) (fun _ => ?_) (fun c9 => absurd c9 (by decide))
    refine lv_goto (tgt := 1599) hx hb dL_law_544 (by decide) ?_
    refine W.widen (k := cells + 10) (n := slots + 41) (by omega) (by omega) ?_
    exact K cN rN pa pe st bn hc hm lo pa2 pe2 st2 bn2 hc2 hm2 C2 R2 lo2 pt pd ab nw kp wy 1 tn ov _ _ _ hR hP hD hS (lv_sub hl [2, 3, 4, 5, 6] rfl)
set_option maxHeartbeats 4000000 in
set_option maxRecDepth 100000 in
theorem cs_5 {p : Program} {l : Launch} {e : Env} {s : State} {m : MethodId} {below : List Frame} {meth : Method} {c : Code} {Q : State → Prop} {D : va_G} {cI cL : ClassId} {x o b0 L k : Nat} {a b v : Nat → Nat} {xs : Nat → Int32} {A : Nat → Prop} {cells slots : Nat} {cN rN : Nat} {pa pe st bn hc hm : Nat → Int32} {lo : Int32} {pa2 pe2 st2 bn2 hc2 hm2 : Nat → Int32} {C2 R2 lo2 : Int32} {pt pd ab nw kp wy : Nat → Int32} {th tn : Int32} {ov : Nat → Int64} {H : Heap} {locs : List Loc} {ls : Array Slot} (F : LF p l s m b0 c D cI cL L xs A) (hR : Rel cN rN pa pe st bn hc hm lo pt pd ab nw) (hk : 4 * k + 3 < L) (h1 : cells + 10 ≤ room_1.cells) (h2 : slots + 41 ≤ room_1.slots) (hP : va_P D vwCl (wX x a b ++ wM cI a pa pe st bn hc hm (nI cN) (nI rN) lo ++ wM cI b pa2 pe2 st2 bn2 hc2 hm2 C2 R2 lo2 ++ wN cI v pt pd ab nw kp wy th (nI cN) (nI rN) tn ++ wL cL o 1 ov) H) (hD : va_D A (wX x a b ++ wM cI a pa pe st bn hc hm (nI cN) (nI rN) lo ++ wM cI b pa2 pe2 st2 bn2 hc2 hm2 C2 R2 lo2 ++ wN cI v pt pd ab nw kp wy th (nI cN) (nI rN) tn ++ wL cL o 1 ov)) (hS : va_S A s.heap H locs) (hl : lv_has ls 9 [(4, .int (nI (4 * k))), (3, .ref o), (2, .ref (v 0)), (1, .ref x), (0, .ref b0)]) (K : LK p l e s m b0 below meth c D cI cL x o k a b v A cells slots Q) : W p l e room_1 s m #[Value.ref b0] below meth c H locs cells slots Q (F0 m 547 ls []) := by
  obtain ⟨hx, hb, hml, hown, hts, hK, hN, hKX, hZ, hA, hX, hbl, hbA, hst, hL⟩ := F
  have hI := hR.inv
  obtain ⟨v1, hv1⟩ : ∃ z, xs (nI (4 * k) + 1).toNatClampNeg = z := ⟨_, rfl⟩
  by_cases hq : xhas (nI cN) v1 = true
  · obtain ⟨c1, hc1, rfl⟩ := hR.cE hq
    obtain ⟨d1, d2, d3, d4⟩ := hR.drop hc1
    refine lv_aload_n hx hb dL_law_547 rfl (lv_at hl 3 rfl) ?_
    refine lv_aload_n hx hb dL_law_548 rfl (lv_at hl 4 rfl) ?_
    refine lv_iload hx hb dL_law_549 (lv_at hl 0 rfl) ?_
    refine lv_iconst (v := 1) hx hb dL_law_551 (by decide) ?_
    refine lv_iadd hx hb dL_law_552 ?_
    refine va_sld hx hb hX hbl hbA hS (sx_in hL (j := 1) (by omega)) dL_law_553 ?_
    rw [hv1]
    refine lv_aload_n hx hb dL_law_554 rfl (lv_at hl 1 rfl) ?_
    refine kQWi (As := [.ref x, .int (nI c1), .ref o]) (rest := []) (wr := [(v 0, .inr (2, [.int th, .int (nI cN), .int (nI rN), .ref (v 1), .ref (v 2), .ref (v 3), .ref (v 4), .ref (v 5), .int tn, .ref (v 6)])), (v 1, .inl (cI, 72, .inl pt)), (v 2, .inl (cI, 72, .inl pd)), (v 3, .inl (cI, 2, .inl ab)), (v 4, .inl (cI, 84, .inl nw)), (v 5, .inl (cI, 84, .inl kp)), (v 6, .inl (cI, 8, .inl wy))]) (W2 := (fun _ => (wX x a b ++ wM cI a pa pe ((xFall pa pe st (nI cN) (nI c1) (nI rN)).2) ((xLandBn bn (xFall pa pe st (nI cN) (nI c1) (nI rN)).1)) hc hm (nI cN) (nI rN) ((xLandLo lo (xFall pa pe st (nI cN) (nI c1) (nI rN)).1)) ++ wM cI b pa2 pe2 st2 bn2 hc2 hm2 C2 R2 lo2 ++ wN cI v pt pd ab nw kp wy th (nI cN) (nI rN) tn ++ wL cL o 1 ((vp_updL ov 0 ((xFall pa pe st (nI cN) (nI c1) (nI rN)).1 : Int32).toInt64))))) ⟨hx, hb, hml, hown, hts⟩ (mL_drop_0 l D cI cL x a pa pe st bn hc hm (nI cN) (nI rN) lo b pa2 pe2 st2 bn2 hc2 hm2 C2 R2 lo2 o ov (nI c1) hq _) (vx_cwSW 3 hts gL_law_L_drop rfl rfl rfl (by decide +kernel) ⟨Nat.le_of_ble_eq_true rfl, Nat.le_of_ble_eq_true rfl⟩) hP hD hK hN hKX (hZ.now hS hA) hS hA [0, 1, 2, 3, 4, 5, 6, 7, 8, 9, 10, 11, 12, 13, 14, 22] (by decide) rfl [15, 16, 17, 18, 19, 20, 21] (by decide) rfl (by decide) [7, 8, 9, 10, 11, 12, 13, 14, 15, 16, 17, 18, 19, 20, 21, 0, 1, 2, 3, 4, 5, 6, 22] (by decide) (fun _ => rfl) [0, 1] rfl rfl hl.1 rfl (Nat.le_of_ble_eq_true rfl) dL_law_555 ⟨by omega, by omega⟩ (fun r_1 u_1 H locs hr_1 hP hD hS => ?_)
    subst r_1
    have hP : va_P D vwCl (wX x a b ++ wM cI a pa pe ((xFall pa pe st (nI cN) (nI c1) (nI rN)).2) ((xLandBn bn (xFall pa pe st (nI cN) (nI c1) (nI rN)).1)) hc hm (nI cN) (nI rN) ((xLandLo lo (xFall pa pe st (nI cN) (nI c1) (nI rN)).1)) ++ wM cI b pa2 pe2 st2 bn2 hc2 hm2 C2 R2 lo2 ++ wN cI v pt pd ab nw kp wy th (nI cN) (nI rN) tn ++ wL cL o 1 ((vp_updL ov 0 ((xFall pa pe st (nI cN) (nI c1) (nI rN)).1 : Int32).toInt64))) H := hP
    have hD : va_D A (wX x a b ++ wM cI a pa pe ((xFall pa pe st (nI cN) (nI c1) (nI rN)).2) ((xLandBn bn (xFall pa pe st (nI cN) (nI c1) (nI rN)).1)) hc hm (nI cN) (nI rN) ((xLandLo lo (xFall pa pe st (nI cN) (nI c1) (nI rN)).1)) ++ wM cI b pa2 pe2 st2 bn2 hc2 hm2 C2 R2 lo2 ++ wN cI v pt pd ab nw kp wy th (nI cN) (nI rN) tn ++ wL cL o 1 ((vp_updL ov 0 ((xFall pa pe st (nI cN) (nI c1) (nI rN)).1 : Int32).toInt64))) := hD
    refine lv_istore (lv' := [(5, .int 0), (4, .int (nI (4 * k))), (3, .ref o), (2, .ref (v 0)), (1, .ref x), (0, .ref b0)]) hx hb dL_law_558 hl (by decide) rfl (fun ls hl => ?_)
    refine lv_aload_n hx hb dL_law_560 rfl (lv_at hl 3 rfl) ?_
    refine lv_aload_n hx hb dL_law_561 rfl (lv_at hl 5 rfl) ?_
    refine lv_iload hx hb dL_law_562 (lv_at hl 1 rfl) ?_
    refine lv_iconst (v := 1) hx hb dL_law_564 (by decide) ?_
    refine lv_iadd hx hb dL_law_565 ?_
    refine va_sld hx hb hX hbl hbA hS (sx_in hL (j := 1) (by omega)) dL_law_566 ?_
    rw [hv1]
    refine kQVi (As := [.int (nI c1)]) (rest := []) (wr := [(x, .inr (1, [.ref (a 0), .ref (b 0)])), (a 0, .inr (0, [.ref (a 1), .ref (a 2), .ref (a 3), .ref (a 4), .ref (a 5), .ref (a 6), .int (nI cN), .int (nI rN), .int (xLandLo lo (xFall pa pe st (nI cN) (nI c1) (nI rN)).1)])), (a 1, .inl (cI, 72, .inl pa)), (a 2, .inl (cI, 72, .inl pe)), (a 3, .inl (cI, 72, .inl ((xFall pa pe st (nI cN) (nI c1) (nI rN)).2))), (a 4, .inl (cI, 9, .inl (xLandBn bn (xFall pa pe st (nI cN) (nI c1) (nI rN)).1))), (a 5, .inl (cI, 2, .inl hc)), (a 6, .inl (cI, 2, .inl hm)), (b 0, .inr (0, [.ref (b 1), .ref (b 2), .ref (b 3), .ref (b 4), .ref (b 5), .ref (b 6), .int C2, .int R2, .int lo2])), (b 1, .inl (cI, 72, .inl pa2)), (b 2, .inl (cI, 72, .inl pe2)), (b 3, .inl (cI, 72, .inl st2)), (b 4, .inl (cI, 9, .inl bn2)), (b 5, .inl (cI, 2, .inl hc2)), (b 6, .inl (cI, 2, .inl hm2)), (o, .inl (cL, 1, .inr (.inl (vp_updL ov 0 ((xFall pa pe st (nI cN) (nI c1) (nI rN)).1 : Int32).toInt64))))]) (W2 := (fun _ => (wX x a b ++ wM cI a pa pe ((xFall pa pe st (nI cN) (nI c1) (nI rN)).2) ((xLandBn bn (xFall pa pe st (nI cN) (nI c1) (nI rN)).1)) hc hm (nI cN) (nI rN) ((xLandLo lo (xFall pa pe st (nI cN) (nI c1) (nI rN)).1)) ++ wM cI b pa2 pe2 st2 bn2 hc2 hm2 C2 R2 lo2 ++ wN cI v pt pd ab ((mFall pt pd cN rN nw (nI c1)).2.1) kp ((mFall pt pd cN rN nw (nI c1)).2.2.2) 0 (nI cN) (nI rN) ((mFall pt pd cN rN nw (nI c1)).2.2.1) ++ wL cL o 1 ((vp_updL ov 0 ((xFall pa pe st (nI cN) (nI c1) (nI rN)).1 : Int32).toInt64))))) ⟨hx, hb, hml, hown, hts⟩ (mX2_drop_0 l D cI v pt pd ab nw kp wy th cN rN tn (nI c1) hI (hR.cT hq) _) (cwV 1 hts gL_law_X2_drop rfl rfl rfl (by decide +kernel) ⟨Nat.le_of_ble_eq_true rfl, Nat.le_of_ble_eq_true rfl⟩) hP hD hK hN hS hA [15, 16, 17, 18, 19, 20, 21] (by decide) rfl [0, 1, 2, 3, 4, 5, 6, 7, 8, 9, 10, 11, 12, 13, 14, 22] (by decide) rfl (by decide) [0, 1, 2, 3, 4, 5, 6, 7, 8, 9, 10, 11, 12, 13, 14, 16, 17, 18, 19, 20, 21, 22, 15] (by decide) (fun _ => rfl) [0] rfl rfl rfl rfl hl.1 rfl (Nat.le_of_ble_eq_true rfl) dL_law_567 ⟨by omega, by omega⟩ (fun r_2 u_2 H locs hr_2 hP hD hS => ?_)
    subst r_2
    have hP : va_P D vwCl (wX x a b ++ wM cI a pa pe ((xFall pa pe st (nI cN) (nI c1) (nI rN)).2) ((xLandBn bn (xFall pa pe st (nI cN) (nI c1) (nI rN)).1)) hc hm (nI cN) (nI rN) ((xLandLo lo (xFall pa pe st (nI cN) (nI c1) (nI rN)).1)) ++ wM cI b pa2 pe2 st2 bn2 hc2 hm2 C2 R2 lo2 ++ wN cI v pt pd ab ((mFall pt pd cN rN nw (nI c1)).2.1) kp ((mFall pt pd cN rN nw (nI c1)).2.2.2) 0 (nI cN) (nI rN) ((mFall pt pd cN rN nw (nI c1)).2.2.1) ++ wL cL o 1 ((vp_updL ov 0 ((xFall pa pe st (nI cN) (nI c1) (nI rN)).1 : Int32).toInt64))) H := hP
    have hD : va_D A (wX x a b ++ wM cI a pa pe ((xFall pa pe st (nI cN) (nI c1) (nI rN)).2) ((xLandBn bn (xFall pa pe st (nI cN) (nI c1) (nI rN)).1)) hc hm (nI cN) (nI rN) ((xLandLo lo (xFall pa pe st (nI cN) (nI c1) (nI rN)).1)) ++ wM cI b pa2 pe2 st2 bn2 hc2 hm2 C2 R2 lo2 ++ wN cI v pt pd ab ((mFall pt pd cN rN nw (nI c1)).2.1) kp ((mFall pt pd cN rN nw (nI c1)).2.2.2) 0 (nI cN) (nI rN) ((mFall pt pd cN rN nw (nI c1)).2.2.1) ++ wL cL o 1 ((vp_updL ov 0 ((xFall pa pe st (nI cN) (nI c1) (nI rN)).1 : Int32).toInt64))) := hD
    refine lv_istore (lv' := [(6, .int ((mFall pt pd cN rN nw (nI c1)).1)), (5, .int 0), (4, .int (nI (4 * k))), (3, .ref o), (2, .ref (v 0)), (1, .ref x), (0, .ref b0)]) hx hb dL_law_570 hl (by decide) rfl (fun ls hl => ?_)
    refine lv_aload_n hx hb dL_law_572 rfl (lv_at hl 4 rfl) ?_
    refine kRVi (As := []) (rest := []) ⟨hx, hb, hml, hown, hts⟩ (mX2_thrown l D cI v pt pd ab ((mFall pt pd cN rN nw (nI c1)).2.1) kp ((mFall pt pd cN rN nw (nI c1)).2.2.2) 0 cN rN ((mFall pt pd cN rN nw (nI c1)).2.2.1)) (cwV 0 hts gL_law_X2_thrown rfl rfl rfl (by decide +kernel) ⟨Nat.le_of_ble_eq_true rfl, Nat.le_of_ble_eq_true rfl⟩) hP hK hN [15, 16, 17, 18, 19, 20, 21] rfl [0] rfl rfl rfl rfl hl.1 rfl (Nat.le_of_ble_eq_true rfl) dL_law_573 ⟨by omega, by omega⟩ (fun r_3 hr_3 => ?_)
    subst r_3
    refine lv_iload hx hb dL_law_576 (lv_at hl 1 rfl) ?_
    refine lv_icmp_eq (tgt := 583) hx hb dL_law_578 (by decide) (fun _ => ?_) (fun c9 => absurd (by decide) c9)
    refine lv_iload hx hb dL_law_583 (lv_at hl 1 rfl) ?_
    refine lv_if_ne (tgt := 600) hx hb dL_law_585 (by decide) (fun c9 => absurd c9 (by decide)) (fun _ => ?_)
    refine lv_aload_n hx hb dL_law_588 rfl (lv_at hl 3 rfl) ?_
    refine lv_iconst (v := 0) hx hb dL_law_589 (by decide) ?_
    refine va_lald hx hb hK hP 22 1 rfl rfl (vp_in_nI (n := 0) (by decide) (by decide)) dL_law_590 ?_
    rw [show (0 : Int32).toNatClampNeg = 0 from by decide, updL_0]
    refine lv_iload hx hb dL_law_591 (lv_at hl 0 rfl) ?_
    refine lv_i2l (v := ((mFall pt pd cN rN nw (nI c1)).1 : Int32).toInt64) hx hb dL_law_593 rfl ?_
    refine W.lcmp hx hb dL_law_594 ?_
    refine lv_if_eq (tgt := 600) hx hb dL_law_595 (by decide) (fun _ => ?_) (fun c9 => absurd ((lg_cmp_eq _ _).mpr (congrArg Int32.toInt64 d1.symm)) c9)
    refine lv_goto (tgt := 1599) hx hb dL_law_600 (by decide) ?_
    refine W.widen (k := cells + 10) (n := slots + 41) (by omega) (by omega) ?_
    exact K cN rN pa pe ((xFall pa pe st (nI cN) (nI c1) (nI rN)).2) (xLandBn bn (xFall pa pe st (nI cN) (nI c1) (nI rN)).1) hc hm (xLandLo lo (xFall pa pe st (nI cN) (nI c1) (nI rN)).1) pa2 pe2 st2 bn2 hc2 hm2 C2 R2 lo2 pt pd ab ((mFall pt pd cN rN nw (nI c1)).2.1) kp ((mFall pt pd cN rN nw (nI c1)).2.2.2) 0 ((mFall pt pd cN rN nw (nI c1)).2.2.1) (vp_updL ov 0 ((xFall pa pe st (nI cN) (nI c1) (nI rN)).1 : Int32).toInt64) _ _ _ d4 hP hD hS (lv_sub hl [2, 3, 4, 5, 6] rfl)
  · have hq : xhas (nI cN) v1 = false := Bool.eq_false_iff.mpr hq
    refine lv_aload_n hx hb dL_law_547 rfl (lv_at hl 3 rfl) ?_
    refine lv_aload_n hx hb dL_law_548 rfl (lv_at hl 4 rfl) ?_
    refine lv_iload hx hb dL_law_549 (lv_at hl 0 rfl) ?_
    refine lv_iconst (v := 1) hx hb dL_law_551 (by decide) ?_
    refine lv_iadd hx hb dL_law_552 ?_
    refine va_sld hx hb hX hbl hbA hS (sx_in hL (j := 1) (by omega)) dL_law_553 ?_
    rw [hv1]
    refine lv_aload_n hx hb dL_law_554 rfl (lv_at hl 1 rfl) ?_
    refine kQWi (As := [.ref x, .int v1, .ref o]) (rest := []) (wr := [(v 0, .inr (2, [.int th, .int (nI cN), .int (nI rN), .ref (v 1), .ref (v 2), .ref (v 3), .ref (v 4), .ref (v 5), .int tn, .ref (v 6)])), (v 1, .inl (cI, 72, .inl pt)), (v 2, .inl (cI, 72, .inl pd)), (v 3, .inl (cI, 2, .inl ab)), (v 4, .inl (cI, 84, .inl nw)), (v 5, .inl (cI, 84, .inl kp)), (v 6, .inl (cI, 8, .inl wy))]) (W2 := (fun _ => (wX x a b ++ wM cI a pa pe st bn hc hm (nI cN) (nI rN) lo ++ wM cI b pa2 pe2 st2 bn2 hc2 hm2 C2 R2 lo2 ++ wN cI v pt pd ab nw kp wy th (nI cN) (nI rN) tn ++ wL cL o 1 ov))) ⟨hx, hb, hml, hown, hts⟩ (mL_drop_c l hst D cI cL x a pa pe st bn hc hm (nI cN) (nI rN) lo b pa2 pe2 st2 bn2 hc2 hm2 C2 R2 lo2 o ov v1 hq _) (vx_cwSW 3 hts gL_law_L_drop rfl rfl rfl (by decide +kernel) ⟨Nat.le_of_ble_eq_true rfl, Nat.le_of_ble_eq_true rfl⟩) hP hD hK hN hKX (hZ.now hS hA) hS hA [0, 1, 2, 3, 4, 5, 6, 7, 8, 9, 10, 11, 12, 13, 14, 22] (by decide) rfl [15, 16, 17, 18, 19, 20, 21] (by decide) rfl (by decide) [7, 8, 9, 10, 11, 12, 13, 14, 15, 16, 17, 18, 19, 20, 21, 0, 1, 2, 3, 4, 5, 6, 22] (by decide) (fun _ => rfl) [0, 1] rfl rfl hl.1 rfl (Nat.le_of_ble_eq_true rfl) dL_law_555 ⟨by omega, by omega⟩ (fun r_6 u_6 H locs hr_6 hP hD hS => ?_)
    subst r_6
    have hP : va_P D vwCl (wX x a b ++ wM cI a pa pe st bn hc hm (nI cN) (nI rN) lo ++ wM cI b pa2 pe2 st2 bn2 hc2 hm2 C2 R2 lo2 ++ wN cI v pt pd ab nw kp wy th (nI cN) (nI rN) tn ++ wL cL o 1 ov) H := hP
    have hD : va_D A (wX x a b ++ wM cI a pa pe st bn hc hm (nI cN) (nI rN) lo ++ wM cI b pa2 pe2 st2 bn2 hc2 hm2 C2 R2 lo2 ++ wN cI v pt pd ab nw kp wy th (nI cN) (nI rN) tn ++ wL cL o 1 ov) := hD
    refine lv_istore (lv' := [(5, .int 1), (4, .int (nI (4 * k))), (3, .ref o), (2, .ref (v 0)), (1, .ref x), (0, .ref b0)]) hx hb dL_law_558 hl (by decide) rfl (fun ls hl => ?_)
    refine lv_aload_n hx hb dL_law_560 rfl (lv_at hl 3 rfl) ?_
    refine lv_aload_n hx hb dL_law_561 rfl (lv_at hl 5 rfl) ?_
    refine lv_iload hx hb dL_law_562 (lv_at hl 1 rfl) ?_
    refine lv_iconst (v := 1) hx hb dL_law_564 (by decide) ?_
    refine lv_iadd hx hb dL_law_565 ?_
    refine va_sld hx hb hX hbl hbA hS (sx_in hL (j := 1) (by omega)) dL_law_566 ?_
    rw [hv1]
    refine kQVi (As := [.int v1]) (rest := []) (wr := [(x, .inr (1, [.ref (a 0), .ref (b 0)])), (a 0, .inr (0, [.ref (a 1), .ref (a 2), .ref (a 3), .ref (a 4), .ref (a 5), .ref (a 6), .int (nI cN), .int (nI rN), .int lo])), (a 1, .inl (cI, 72, .inl pa)), (a 2, .inl (cI, 72, .inl pe)), (a 3, .inl (cI, 72, .inl st)), (a 4, .inl (cI, 9, .inl bn)), (a 5, .inl (cI, 2, .inl hc)), (a 6, .inl (cI, 2, .inl hm)), (b 0, .inr (0, [.ref (b 1), .ref (b 2), .ref (b 3), .ref (b 4), .ref (b 5), .ref (b 6), .int C2, .int R2, .int lo2])), (b 1, .inl (cI, 72, .inl pa2)), (b 2, .inl (cI, 72, .inl pe2)), (b 3, .inl (cI, 72, .inl st2)), (b 4, .inl (cI, 9, .inl bn2)), (b 5, .inl (cI, 2, .inl hc2)), (b 6, .inl (cI, 2, .inl hm2)), (o, .inl (cL, 1, .inr (.inl ov)))]) (W2 := (fun _ => (wX x a b ++ wM cI a pa pe st bn hc hm (nI cN) (nI rN) lo ++ wM cI b pa2 pe2 st2 bn2 hc2 hm2 C2 R2 lo2 ++ wN cI v pt pd ab nw kp wy 1 (nI cN) (nI rN) tn ++ wL cL o 1 ov))) ⟨hx, hb, hml, hown, hts⟩ (mX2_drop_1 l D cI v pt pd ab nw kp wy th cN rN tn v1 (hR.cF hq) _) (cwV 1 hts gL_law_X2_drop rfl rfl rfl (by decide +kernel) ⟨Nat.le_of_ble_eq_true rfl, Nat.le_of_ble_eq_true rfl⟩) hP hD hK hN hS hA [15, 16, 17, 18, 19, 20, 21] (by decide) rfl [0, 1, 2, 3, 4, 5, 6, 7, 8, 9, 10, 11, 12, 13, 14, 22] (by decide) rfl (by decide) [0, 1, 2, 3, 4, 5, 6, 7, 8, 9, 10, 11, 12, 13, 14, 16, 17, 18, 19, 20, 21, 22, 15] (by decide) (fun _ => rfl) [0] rfl rfl rfl rfl hl.1 rfl (Nat.le_of_ble_eq_true rfl) dL_law_567 ⟨by omega, by omega⟩ (fun r_7 u_7 H locs hr_7 hP hD hS => ?_)
    subst r_7
    have hP : va_P D vwCl (wX x a b ++ wM cI a pa pe st bn hc hm (nI cN) (nI rN) lo ++ wM cI b pa2 pe2 st2 bn2 hc2 hm2 C2 R2 lo2 ++ wN cI v pt pd ab nw kp wy 1 (nI cN) (nI rN) tn ++ wL cL o 1 ov) H := hP
    have hD : va_D A (wX x a b ++ wM cI a pa pe st bn hc hm (nI cN) (nI rN) lo ++ wM cI b pa2 pe2 st2 bn2 hc2 hm2 C2 R2 lo2 ++ wN cI v pt pd ab nw kp wy 1 (nI cN) (nI rN) tn ++ wL cL o 1 ov) := hD
    refine lv_istore (lv' := [(6, .int 0), (5, .int 1), (4, .int (nI (4 * k))), (3, .ref o), (2, .ref (v 0)), (1, .ref x), (0, .ref b0)]) hx hb dL_law_570 hl (by decide) rfl (fun ls hl => ?_)
    refine lv_aload_n hx hb dL_law_572 rfl (lv_at hl 4 rfl) ?_
    refine kRVi (As := []) (rest := []) ⟨hx, hb, hml, hown, hts⟩ (mX2_thrown l D cI v pt pd ab nw kp wy 1 cN rN tn) (cwV 0 hts gL_law_X2_thrown rfl rfl rfl (by decide +kernel) ⟨Nat.le_of_ble_eq_true rfl, Nat.le_of_ble_eq_true rfl⟩) hP hK hN [15, 16, 17, 18, 19, 20, 21] rfl [0] rfl rfl rfl rfl hl.1 rfl (Nat.le_of_ble_eq_true rfl) dL_law_573 ⟨by omega, by omega⟩ (fun r_8 hr_8 => ?_)
    subst r_8
    refine lv_iload hx hb dL_law_576 (lv_at hl 1 rfl) ?_
    refine lv_icmp_eq (tgt := 583) hx hb dL_law_578 (by decide) (fun _ => ?_) (fun c9 => absurd (by decide) c9)
    refine lv_iload hx hb dL_law_583 (lv_at hl 1 rfl) ?_
    refine lv_if_ne (tgt := 600) hx hb dL_law_585 (by decide) (fun _ => ?_) (fun c9 => absurd c9 (by decide))
    refine lv_goto (tgt := 1599) hx hb dL_law_600 (by decide) ?_
    refine W.widen (k := cells + 10) (n := slots + 41) (by omega) (by omega) ?_
    exact K cN rN pa pe st bn hc hm lo pa2 pe2 st2 bn2 hc2 hm2 C2 R2 lo2 pt pd ab nw kp wy 1 tn ov _ _ _ hR hP hD hS (lv_sub hl [2, 3, 4, 5, 6] rfl)
set_option maxHeartbeats 4000000 in
set_option maxRecDepth 100000 in
theorem cs_6 {p : Program} {l : Launch} {e : Env} {s : State} {m : MethodId} {below : List Frame} {meth : Method} {c : Code} {Q : State → Prop} {D : va_G} {cI cL : ClassId} {x o b0 L k : Nat} {a b v : Nat → Nat} {xs : Nat → Int32} {A : Nat → Prop} {cells slots : Nat} {cN rN : Nat} {pa pe st bn hc hm : Nat → Int32} {lo : Int32} {pa2 pe2 st2 bn2 hc2 hm2 : Nat → Int32} {C2 R2 lo2 : Int32} {pt pd ab nw kp wy : Nat → Int32} {th tn : Int32} {ov : Nat → Int64} {H : Heap} {locs : List Loc} {ls : Array Slot} (F : LF p l s m b0 c D cI cL L xs A) (hR : Rel cN rN pa pe st bn hc hm lo pt pd ab nw) (hk : 4 * k + 3 < L) (h1 : cells + 10 ≤ room_1.cells) (h2 : slots + 41 ≤ room_1.slots) (hP : va_P D vwCl (wX x a b ++ wM cI a pa pe st bn hc hm (nI cN) (nI rN) lo ++ wM cI b pa2 pe2 st2 bn2 hc2 hm2 C2 R2 lo2 ++ wN cI v pt pd ab nw kp wy th (nI cN) (nI rN) tn ++ wL cL o 1 ov) H) (hD : va_D A (wX x a b ++ wM cI a pa pe st bn hc hm (nI cN) (nI rN) lo ++ wM cI b pa2 pe2 st2 bn2 hc2 hm2 C2 R2 lo2 ++ wN cI v pt pd ab nw kp wy th (nI cN) (nI rN) tn ++ wL cL o 1 ov)) (hS : va_S A s.heap H locs) (hl : lv_has ls 9 [(4, .int (nI (4 * k))), (3, .ref o), (2, .ref (v 0)), (1, .ref x), (0, .ref b0)]) (K : LK p l e s m b0 below meth c D cI cL x o k a b v A cells slots Q) : W p l e room_1 s m #[Value.ref b0] below meth c H locs cells slots Q (F0 m 603 ls []) := by
  obtain ⟨hx, hb, hml, hown, hts, hK, hN, hKX, hZ, hA, hX, hbl, hbA, hst, hL⟩ := F
  have hI := hR.inv
  obtain ⟨v1, hv1⟩ : ∃ z, xs (nI (4 * k) + 1).toNatClampNeg = z := ⟨_, rfl⟩
  obtain ⟨v2, hv2⟩ : ∃ z, xs (nI (4 * k) + 2).toNatClampNeg = z := ⟨_, rfl⟩
  by_cases hp : xhas 2 v1 = true
  · by_cases hr3 : xin v2 1 99 = true
    · obtain ⟨i1, hi1, rfl⟩ := hE hp
      obtain ⟨o1, o2, o3⟩ := hR.hop2 hi1
      obtain ⟨q1, q2⟩ := hR.run hi1 v2 tn wy
      refine lv_aload_n hx hb dL_law_603 rfl (lv_at hl 3 rfl) ?_
      refine lv_aload_n hx hb dL_law_604 rfl (lv_at hl 4 rfl) ?_
      refine lv_iload hx hb dL_law_605 (lv_at hl 0 rfl) ?_
      refine lv_iconst (v := 1) hx hb dL_law_607 (by decide) ?_
      refine lv_iadd hx hb dL_law_608 ?_
      refine va_sld hx hb hX hbl hbA hS (sx_in hL (j := 1) (by omega)) dL_law_609 ?_
      rw [hv1]
      refine lv_aload_n hx hb dL_law_610 rfl (lv_at hl 4 rfl) ?_
      refine lv_iload hx hb dL_law_611 (lv_at hl 0 rfl) ?_
      refine lv_iconst (v := 2) hx hb dL_law_613 (by decide) ?_
      refine lv_iadd hx hb dL_law_614 ?_
      refine va_sld hx hb hX hbl hbA hS (sx_in hL (j := 2) (by omega)) dL_law_615 ?_
      rw [hv2]
      refine lv_aload_n hx hb dL_law_616 rfl (lv_at hl 1 rfl) ?_
      refine kQWi (As := [.ref x, .int (nI i1), .int v2, .ref o]) (rest := []) (wr := [(v 0, .inr (2, [.int th, .int (nI cN), .int (nI rN), .ref (v 1), .ref (v 2), .ref (v 3), .ref (v 4), .ref (v 5), .int tn, .ref (v 6)])), (v 1, .inl (cI, 72, .inl pt)), (v 2, .inl (cI, 72, .inl pd)), (v 3, .inl (cI, 2, .inl ab)), (v 4, .inl (cI, 84, .inl nw)), (v 5, .inl (cI, 84, .inl kp)), (v 6, .inl (cI, 8, .inl wy))]) (W2 := (fun _ => (wX x a b ++ wM cI a pa pe ((xRun pa pe st bn hc hm (nI cN) (nI rN) lo (nI i1) v2).2.1) ((xRun pa pe st bn hc hm (nI cN) (nI rN) lo (nI i1) v2).2.2.1) hc ((xRun pa pe st bn hc hm (nI cN) (nI rN) lo (nI i1) v2).2.2.2.2) (nI cN) (nI rN) ((xRun pa pe st bn hc hm (nI cN) (nI rN) lo (nI i1) v2).2.2.2.1) ++ wM cI b pa2 pe2 st2 bn2 hc2 hm2 C2 R2 lo2 ++ wN cI v pt pd ab nw kp wy th (nI cN) (nI rN) tn ++ wL cL o 1 ((vp_updL ov 0 ((xRun pa pe st bn hc hm (nI cN) (nI rN) lo (nI i1) v2).1 : Int32).toInt64))))) ⟨hx, hb, hml, hown, hts⟩ (mL_run_0 l D cI cL x a pa pe st bn hc hm (nI cN) (nI rN) lo b pa2 pe2 st2 bn2 hc2 hm2 C2 R2 lo2 o ov (nI i1) v2 hp hr3 _) (vx_cwSW 4 hts gL_law_L_run rfl rfl rfl (by decide +kernel) ⟨Nat.le_of_ble_eq_true rfl, Nat.le_of_ble_eq_true rfl⟩) hP hD hK hN hKX (hZ.now hS hA) hS hA [0, 1, 2, 3, 4, 5, 6, 7, 8, 9, 10, 11, 12, 13, 14, 22] (by decide) rfl [15, 16, 17, 18, 19, 20, 21] (by decide) rfl (by decide) [7, 8, 9, 10, 11, 12, 13, 14, 15, 16, 17, 18, 19, 20, 21, 0, 1, 2, 3, 4, 5, 6, 22] (by decide) (fun _ => rfl) [0, 1] rfl rfl hl.1 rfl (Nat.le_of_ble_eq_true rfl) dL_law_617 ⟨by omega, by omega⟩ (fun r_1 u_1 H locs hr_1 hP hD hS => ?_)
      subst r_1
      have hP : va_P D vwCl (wX x a b ++ wM cI a pa pe ((xRun pa pe st bn hc hm (nI cN) (nI rN) lo (nI i1) v2).2.1) ((xRun pa pe st bn hc hm (nI cN) (nI rN) lo (nI i1) v2).2.2.1) hc ((xRun pa pe st bn hc hm (nI cN) (nI rN) lo (nI i1) v2).2.2.2.2) (nI cN) (nI rN) ((xRun pa pe st bn hc hm (nI cN) (nI rN) lo (nI i1) v2).2.2.2.1) ++ wM cI b pa2 pe2 st2 bn2 hc2 hm2 C2 R2 lo2 ++ wN cI v pt pd ab nw kp wy th (nI cN) (nI rN) tn ++ wL cL o 1 ((vp_updL ov 0 ((xRun pa pe st bn hc hm (nI cN) (nI rN) lo (nI i1) v2).1 : Int32).toInt64))) H := hP
      have hD : va_D A (wX x a b ++ wM cI a pa pe ((xRun pa pe st bn hc hm (nI cN) (nI rN) lo (nI i1) v2).2.1) ((xRun pa pe st bn hc hm (nI cN) (nI rN) lo (nI i1) v2).2.2.1) hc ((xRun pa pe st bn hc hm (nI cN) (nI rN) lo (nI i1) v2).2.2.2.2) (nI cN) (nI rN) ((xRun pa pe st bn hc hm (nI cN) (nI rN) lo (nI i1) v2).2.2.2.1) ++ wM cI b pa2 pe2 st2 bn2 hc2 hm2 C2 R2 lo2 ++ wN cI v pt pd ab nw kp wy th (nI cN) (nI rN) tn ++ wL cL o 1 ((vp_updL ov 0 ((xRun pa pe st bn hc hm (nI cN) (nI rN) lo (nI i1) v2).1 : Int32).toInt64))) := hD
      refine lv_istore (lv' := [(5, .int 0), (4, .int (nI (4 * k))), (3, .ref o), (2, .ref (v 0)), (1, .ref x), (0, .ref b0)]) hx hb dL_law_620 hl (by decide) rfl (fun ls hl => ?_)
      refine lv_aload_n hx hb dL_law_622 rfl (lv_at hl 3 rfl) ?_
      refine lv_aload_n hx hb dL_law_623 rfl (lv_at hl 5 rfl) ?_
      refine lv_iload hx hb dL_law_624 (lv_at hl 1 rfl) ?_
      refine lv_iconst (v := 1) hx hb dL_law_626 (by decide) ?_
      refine lv_iadd hx hb dL_law_627 ?_
      refine va_sld hx hb hX hbl hbA hS (sx_in hL (j := 1) (by omega)) dL_law_628 ?_
      rw [hv1]
      refine lv_aload_n hx hb dL_law_629 rfl (lv_at hl 5 rfl) ?_
      refine lv_iload hx hb dL_law_630 (lv_at hl 1 rfl) ?_
      refine lv_iconst (v := 2) hx hb dL_law_632 (by decide) ?_
      refine lv_iadd hx hb dL_law_633 ?_
      refine va_sld hx hb hX hbl hbA hS (sx_in hL (j := 2) (by omega)) dL_law_634 ?_
      rw [hv2]
      refine kQVi (As := [.int (nI i1), .int v2]) (rest := []) (wr := [(x, .inr (1, [.ref (a 0), .ref (b 0)])), (a 0, .inr (0, [.ref (a 1), .ref (a 2), .ref (a 3), .ref (a 4), .ref (a 5), .ref (a 6), .int (nI cN), .int (nI rN), .int ((xRun pa pe st bn hc hm (nI cN) (nI rN) lo (nI i1) v2).2.2.2.1)])), (a 1, .inl (cI, 72, .inl pa)), (a 2, .inl (cI, 72, .inl pe)), (a 3, .inl (cI, 72, .inl ((xRun pa pe st bn hc hm (nI cN) (nI rN) lo (nI i1) v2).2.1))), (a 4, .inl (cI, 9, .inl ((xRun pa pe st bn hc hm (nI cN) (nI rN) lo (nI i1) v2).2.2.1))), (a 5, .inl (cI, 2, .inl hc)), (a 6, .inl (cI, 2, .inl ((xRun pa pe st bn hc hm (nI cN) (nI rN) lo (nI i1) v2).2.2.2.2))), (b 0, .inr (0, [.ref (b 1), .ref (b 2), .ref (b 3), .ref (b 4), .ref (b 5), .ref (b 6), .int C2, .int R2, .int lo2])), (b 1, .inl (cI, 72, .inl pa2)), (b 2, .inl (cI, 72, .inl pe2)), (b 3, .inl (cI, 72, .inl st2)), (b 4, .inl (cI, 9, .inl bn2)), (b 5, .inl (cI, 2, .inl hc2)), (b 6, .inl (cI, 2, .inl hm2)), (o, .inl (cL, 1, .inr (.inl (vp_updL ov 0 ((xRun pa pe st bn hc hm (nI cN) (nI rN) lo (nI i1) v2).1 : Int32).toInt64))))]) (W2 := (fun _ => (wX x a b ++ wM cI a pa pe ((xRun pa pe st bn hc hm (nI cN) (nI rN) lo (nI i1) v2).2.1) ((xRun pa pe st bn hc hm (nI cN) (nI rN) lo (nI i1) v2).2.2.1) hc ((xRun pa pe st bn hc hm (nI cN) (nI rN) lo (nI i1) v2).2.2.2.2) (nI cN) (nI rN) ((xRun pa pe st bn hc hm (nI cN) (nI rN) lo (nI i1) v2).2.2.2.1) ++ wM cI b pa2 pe2 st2 bn2 hc2 hm2 C2 R2 lo2 ++ wN cI v pt pd ab ((mRun pt pd ab cN rN nw tn wy (nI i1) v2).2.1) kp ((mRun pt pd ab cN rN nw tn wy (nI i1) v2).2.2.2) 0 (nI cN) (nI rN) ((mRun pt pd ab cN rN nw tn wy (nI i1) v2).2.2.1) ++ wL cL o 1 ((vp_updL ov 0 ((xRun pa pe st bn hc hm (nI cN) (nI rN) lo (nI i1) v2).1 : Int32).toInt64))))) ⟨hx, hb, hml, hown, hts⟩ (mX2_run_0 l D cI v pt pd ab nw kp wy th cN rN tn (nI i1) v2 hI (hT hp) (iT hr3) _) (cwV 2 hts gL_law_X2_run rfl rfl rfl (by decide +kernel) ⟨Nat.le_of_ble_eq_true rfl, Nat.le_of_ble_eq_true rfl⟩) hP hD hK hN hS hA [15, 16, 17, 18, 19, 20, 21] (by decide) rfl [0, 1, 2, 3, 4, 5, 6, 7, 8, 9, 10, 11, 12, 13, 14, 22] (by decide) rfl (by decide) [0, 1, 2, 3, 4, 5, 6, 7, 8, 9, 10, 11, 12, 13, 14, 16, 17, 18, 19, 20, 21, 22, 15] (by decide) (fun _ => rfl) [0] rfl rfl rfl rfl hl.1 rfl (Nat.le_of_ble_eq_true rfl) dL_law_635 ⟨by omega, by omega⟩ (fun r_2 u_2 H locs hr_2 hP hD hS => ?_)
      subst r_2
      have hP : va_P D vwCl (wX x a b ++ wM cI a pa pe ((xRun pa pe st bn hc hm (nI cN) (nI rN) lo (nI i1) v2).2.1) ((xRun pa pe st bn hc hm (nI cN) (nI rN) lo (nI i1) v2).2.2.1) hc ((xRun pa pe st bn hc hm (nI cN) (nI rN) lo (nI i1) v2).2.2.2.2) (nI cN) (nI rN) ((xRun pa pe st bn hc hm (nI cN) (nI rN) lo (nI i1) v2).2.2.2.1) ++ wM cI b pa2 pe2 st2 bn2 hc2 hm2 C2 R2 lo2 ++ wN cI v pt pd ab ((mRun pt pd ab cN rN nw tn wy (nI i1) v2).2.1) kp ((mRun pt pd ab cN rN nw tn wy (nI i1) v2).2.2.2) 0 (nI cN) (nI rN) ((mRun pt pd ab cN rN nw tn wy (nI i1) v2).2.2.1) ++ wL cL o 1 ((vp_updL ov 0 ((xRun pa pe st bn hc hm (nI cN) (nI rN) lo (nI i1) v2).1 : Int32).toInt64))) H := hP
      have hD : va_D A (wX x a b ++ wM cI a pa pe ((xRun pa pe st bn hc hm (nI cN) (nI rN) lo (nI i1) v2).2.1) ((xRun pa pe st bn hc hm (nI cN) (nI rN) lo (nI i1) v2).2.2.1) hc ((xRun pa pe st bn hc hm (nI cN) (nI rN) lo (nI i1) v2).2.2.2.2) (nI cN) (nI rN) ((xRun pa pe st bn hc hm (nI cN) (nI rN) lo (nI i1) v2).2.2.2.1) ++ wM cI b pa2 pe2 st2 bn2 hc2 hm2 C2 R2 lo2 ++ wN cI v pt pd ab ((mRun pt pd ab cN rN nw tn wy (nI i1) v2).2.1) kp ((mRun pt pd ab cN rN nw tn wy (nI i1) v2).2.2.2) 0 (nI cN) (nI rN) ((mRun pt pd ab cN rN nw tn wy (nI i1) v2).2.2.1) ++ wL cL o 1 ((vp_updL ov 0 ((xRun pa pe st bn hc hm (nI cN) (nI rN) lo (nI i1) v2).1 : Int32).toInt64))) := hD
      refine lv_istore (lv' := [(6, .int ((mRun pt pd ab cN rN nw tn wy (nI i1) v2).1)), (5, .int 0), (4, .int (nI (4 * k))), (3, .ref o), (2, .ref (v 0)), (1, .ref x), (0, .ref b0)]) hx hb dL_law_638 hl (by decide) rfl (fun ls hl => ?_)
      refine lv_aload_n hx hb dL_law_640 rfl (lv_at hl 4 rfl) ?_
      refine kRVi (As := []) (rest := []) ⟨hx, hb, hml, hown, hts⟩ (mX2_thrown l D cI v pt pd ab ((mRun pt pd ab cN rN nw tn wy (nI i1) v2).2.1) kp ((mRun pt pd ab cN rN nw tn wy (nI i1) v2).2.2.2) 0 cN rN ((mRun pt pd ab cN rN nw tn wy (nI i1) v2).2.2.1)) (cwV 0 hts gL_law_X2_thrown rfl rfl rfl (by decide +kernel) ⟨Nat.le_of_ble_eq_true rfl, Nat.le_of_ble_eq_true rfl⟩) hP hK hN [15, 16, 17, 18, 19, 20, 21] rfl [0] rfl rfl rfl rfl hl.1 rfl (Nat.le_of_ble_eq_true rfl) dL_law_641 ⟨by omega, by omega⟩ (fun r_3 hr_3 => ?_)
      subst r_3
      refine lv_iload hx hb dL_law_644 (lv_at hl 1 rfl) ?_
      refine lv_icmp_eq (tgt := 651) hx hb dL_law_646 (by decide) (fun _ => ?_) (fun c9 => absurd (by decide) c9)
      refine lv_iload hx hb dL_law_651 (lv_at hl 1 rfl) ?_
      refine lv_if_ne (tgt := 668) hx hb dL_law_653 (by decide) (fun c9 => absurd c9 (by decide)) (fun _ => ?_)
      refine lv_aload_n hx hb dL_law_656 rfl (lv_at hl 3 rfl) ?_
      refine lv_iconst (v := 0) hx hb dL_law_657 (by decide) ?_
      refine va_lald hx hb hK hP 22 1 rfl rfl (vp_in_nI (n := 0) (by decide) (by decide)) dL_law_658 ?_
      rw [show (0 : Int32).toNatClampNeg = 0 from by decide, updL_0]
      refine lv_iload hx hb dL_law_659 (lv_at hl 0 rfl) ?_
      refine lv_i2l (v := ((mRun pt pd ab cN rN nw tn wy (nI i1) v2).1 : Int32).toInt64) hx hb dL_law_661 rfl ?_
      refine W.lcmp hx hb dL_law_662 ?_
      refine lv_if_eq (tgt := 668) hx hb dL_law_663 (by decide) (fun _ => ?_) (fun c9 => absurd ((lg_cmp_eq _ _).mpr (congrArg Int32.toInt64 q1.symm)) c9)
      refine lv_goto (tgt := 1599) hx hb dL_law_668 (by decide) ?_
      refine W.widen (k := cells + 10) (n := slots + 41) (by omega) (by omega) ?_
      exact K cN rN pa pe ((xRun pa pe st bn hc hm (nI cN) (nI rN) lo (nI i1) v2).2.1) ((xRun pa pe st bn hc hm (nI cN) (nI rN) lo (nI i1) v2).2.2.1) hc ((xRun pa pe st bn hc hm (nI cN) (nI rN) lo (nI i1) v2).2.2.2.2) ((xRun pa pe st bn hc hm (nI cN) (nI rN) lo (nI i1) v2).2.2.2.1) pa2 pe2 st2 bn2 hc2 hm2 C2 R2 lo2 pt pd ab ((mRun pt pd ab cN rN nw tn wy (nI i1) v2).2.1) kp ((mRun pt pd ab cN rN nw tn wy (nI i1) v2).2.2.2) 0 ((mRun pt pd ab cN rN nw tn wy (nI i1) v2).2.2.1) (vp_updL ov 0 ((xRun pa pe st bn hc hm (nI cN) (nI rN) lo (nI i1) v2).1 : Int32).toInt64) _ _ _ q2 hP hD hS (lv_sub hl [2, 3, 4, 5, 6] rfl)
    · have hr3 : xin v2 1 99 = false := Bool.eq_false_iff.mpr hr3
      refine lv_aload_n hx hb dL_law_603 rfl (lv_at hl 3 rfl) ?_
      refine lv_aload_n hx hb dL_law_604 rfl (lv_at hl 4 rfl) ?_
      refine lv_iload hx hb dL_law_605 (lv_at hl 0 rfl) ?_
      refine lv_iconst (v := 1) hx hb dL_law_607 (by decide) ?_
      refine lv_iadd hx hb dL_law_608 ?_
      refine va_sld hx hb hX hbl hbA hS (sx_in hL (j := 1) (by omega)) dL_law_609 ?_
      rw [hv1]
      refine lv_aload_n hx hb dL_law_610 rfl (lv_at hl 4 rfl) ?_
      refine lv_iload hx hb dL_law_611 (lv_at hl 0 rfl) ?_
      refine lv_iconst (v := 2) hx hb dL_law_613 (by decide) ?_
      refine lv_iadd hx hb dL_law_614 ?_
      refine va_sld hx hb hX hbl hbA hS (sx_in hL (j := 2) (by omega)) dL_law_615 ?_
      rw [hv2]
      refine lv_aload_n hx hb dL_law_616 rfl (lv_at hl 1 rfl) ?_
      refine kQWi (As := [.ref x, .int v1, .int v2, .ref o]) (rest := []) (wr := [(v 0, .inr (2, [.int th, .int (nI cN), .int (nI rN), .ref (v 1), .ref (v 2), .ref (v 3), .ref (v 4), .ref (v 5), .int tn, .ref (v 6)])), (v 1, .inl (cI, 72, .inl pt)), (v 2, .inl (cI, 72, .inl pd)), (v 3, .inl (cI, 2, .inl ab)), (v 4, .inl (cI, 84, .inl nw)), (v 5, .inl (cI, 84, .inl kp)), (v 6, .inl (cI, 8, .inl wy))]) (W2 := (fun _ => (wX x a b ++ wM cI a pa pe st bn hc hm (nI cN) (nI rN) lo ++ wM cI b pa2 pe2 st2 bn2 hc2 hm2 C2 R2 lo2 ++ wN cI v pt pd ab nw kp wy th (nI cN) (nI rN) tn ++ wL cL o 1 ov))) ⟨hx, hb, hml, hown, hts⟩ (mL_run_a l hst D cI cL x a pa pe st bn hc hm (nI cN) (nI rN) lo b pa2 pe2 st2 bn2 hc2 hm2 C2 R2 lo2 o ov v1 v2 hp hr3 _) (vx_cwSW 4 hts gL_law_L_run rfl rfl rfl (by decide +kernel) ⟨Nat.le_of_ble_eq_true rfl, Nat.le_of_ble_eq_true rfl⟩) hP hD hK hN hKX (hZ.now hS hA) hS hA [0, 1, 2, 3, 4, 5, 6, 7, 8, 9, 10, 11, 12, 13, 14, 22] (by decide) rfl [15, 16, 17, 18, 19, 20, 21] (by decide) rfl (by decide) [7, 8, 9, 10, 11, 12, 13, 14, 15, 16, 17, 18, 19, 20, 21, 0, 1, 2, 3, 4, 5, 6, 22] (by decide) (fun _ => rfl) [0, 1] rfl rfl hl.1 rfl (Nat.le_of_ble_eq_true rfl) dL_law_617 ⟨by omega, by omega⟩ (fun r_6 u_6 H locs hr_6 hP hD hS => ?_)
      subst r_6
      have hP : va_P D vwCl (wX x a b ++ wM cI a pa pe st bn hc hm (nI cN) (nI rN) lo ++ wM cI b pa2 pe2 st2 bn2 hc2 hm2 C2 R2 lo2 ++ wN cI v pt pd ab nw kp wy th (nI cN) (nI rN) tn ++ wL cL o 1 ov) H := hP
      have hD : va_D A (wX x a b ++ wM cI a pa pe st bn hc hm (nI cN) (nI rN) lo ++ wM cI b pa2 pe2 st2 bn2 hc2 hm2 C2 R2 lo2 ++ wN cI v pt pd ab nw kp wy th (nI cN) (nI rN) tn ++ wL cL o 1 ov) := hD
      refine lv_istore (lv' := [(5, .int 2), (4, .int (nI (4 * k))), (3, .ref o), (2, .ref (v 0)), (1, .ref x), (0, .ref b0)]) hx hb dL_law_620 hl (by decide) rfl (fun ls hl => ?_)
      refine lv_aload_n hx hb dL_law_622 rfl (lv_at hl 3 rfl) ?_
      refine lv_aload_n hx hb dL_law_623 rfl (lv_at hl 5 rfl) ?_
      refine lv_iload hx hb dL_law_624 (lv_at hl 1 rfl) ?_
      refine lv_iconst (v := 1) hx hb dL_law_626 (by decide) ?_
      refine lv_iadd hx hb dL_law_627 ?_
      refine va_sld hx hb hX hbl hbA hS (sx_in hL (j := 1) (by omega)) dL_law_628 ?_
      rw [hv1]
      refine lv_aload_n hx hb dL_law_629 rfl (lv_at hl 5 rfl) ?_
      refine lv_iload hx hb dL_law_630 (lv_at hl 1 rfl) ?_
      refine lv_iconst (v := 2) hx hb dL_law_632 (by decide) ?_
      refine lv_iadd hx hb dL_law_633 ?_
      refine va_sld hx hb hX hbl hbA hS (sx_in hL (j := 2) (by omega)) dL_law_634 ?_
      rw [hv2]
      refine kQVi (As := [.int v1, .int v2]) (rest := []) (wr := [(x, .inr (1, [.ref (a 0), .ref (b 0)])), (a 0, .inr (0, [.ref (a 1), .ref (a 2), .ref (a 3), .ref (a 4), .ref (a 5), .ref (a 6), .int (nI cN), .int (nI rN), .int lo])), (a 1, .inl (cI, 72, .inl pa)), (a 2, .inl (cI, 72, .inl pe)), (a 3, .inl (cI, 72, .inl st)), (a 4, .inl (cI, 9, .inl bn)), (a 5, .inl (cI, 2, .inl hc)), (a 6, .inl (cI, 2, .inl hm)), (b 0, .inr (0, [.ref (b 1), .ref (b 2), .ref (b 3), .ref (b 4), .ref (b 5), .ref (b 6), .int C2, .int R2, .int lo2])), (b 1, .inl (cI, 72, .inl pa2)), (b 2, .inl (cI, 72, .inl pe2)), (b 3, .inl (cI, 72, .inl st2)), (b 4, .inl (cI, 9, .inl bn2)), (b 5, .inl (cI, 2, .inl hc2)), (b 6, .inl (cI, 2, .inl hm2)), (o, .inl (cL, 1, .inr (.inl ov)))]) (W2 := (fun _ => (wX x a b ++ wM cI a pa pe st bn hc hm (nI cN) (nI rN) lo ++ wM cI b pa2 pe2 st2 bn2 hc2 hm2 C2 R2 lo2 ++ wN cI v pt pd ab nw kp wy 2 (nI cN) (nI rN) tn ++ wL cL o 1 ov))) ⟨hx, hb, hml, hown, hts⟩ (mX2_run_2 l D cI v pt pd ab nw kp wy th cN rN tn v1 v2 (hT hp) (iT hr3) _) (cwV 2 hts gL_law_X2_run rfl rfl rfl (by decide +kernel) ⟨Nat.le_of_ble_eq_true rfl, Nat.le_of_ble_eq_true rfl⟩) hP hD hK hN hS hA [15, 16, 17, 18, 19, 20, 21] (by decide) rfl [0, 1, 2, 3, 4, 5, 6, 7, 8, 9, 10, 11, 12, 13, 14, 22] (by decide) rfl (by decide) [0, 1, 2, 3, 4, 5, 6, 7, 8, 9, 10, 11, 12, 13, 14, 16, 17, 18, 19, 20, 21, 22, 15] (by decide) (fun _ => rfl) [0] rfl rfl rfl rfl hl.1 rfl (Nat.le_of_ble_eq_true rfl) dL_law_635 ⟨by omega, by omega⟩ (fun r_7 u_7 H locs hr_7 hP hD hS => ?_)
      subst r_7
      have hP : va_P D vwCl (wX x a b ++ wM cI a pa pe st bn hc hm (nI cN) (nI rN) lo ++ wM cI b pa2 pe2 st2 bn2 hc2 hm2 C2 R2 lo2 ++ wN cI v pt pd ab nw kp wy 2 (nI cN) (nI rN) tn ++ wL cL o 1 ov) H := hP
      have hD : va_D A (wX x a b ++ wM cI a pa pe st bn hc hm (nI cN) (nI rN) lo ++ wM cI b pa2 pe2 st2 bn2 hc2 hm2 C2 R2 lo2 ++ wN cI v pt pd ab nw kp wy 2 (nI cN) (nI rN) tn ++ wL cL o 1 ov) := hD
      refine lv_istore (lv' := [(6, .int 0), (5, .int 2), (4, .int (nI (4 * k))), (3, .ref o), (2, .ref (v 0)), (1, .ref x), (0, .ref b0)]) hx hb dL_law_638 hl (by decide) rfl (fun ls hl => ?_)
      refine lv_aload_n hx hb dL_law_640 rfl (lv_at hl 4 rfl) ?_
      refine kRVi (As := []) (rest := []) ⟨hx, hb, hml, hown, hts⟩ (mX2_thrown l D cI v pt pd ab nw kp wy 2 cN rN tn) (cwV 0 hts gL_law_X2_thrown rfl rfl rfl (by decide +kernel) ⟨Nat.le_of_ble_eq_true rfl, Nat.le_of_ble_eq_true rfl⟩) hP hK hN [15, 16, 17, 18, 19, 20, 21] rfl [0] rfl rfl rfl rfl hl.1 rfl (Nat.le_of_ble_eq_true rfl) dL_law_641 ⟨by omega, by omega⟩ (fun r_8 hr_8 => ?_)
      subst r_8
      refine lv_iload hx hb dL_law_644 (lv_at hl 1 rfl) ?_
      refine lv_icmp_eq (tgt := 651) hx hb dL_law_646 (by decide) (fun _ => ?_) (fun c9 => absurd (by decide) c9)
      refine lv_iload hx hb dL_law_651 (lv_at hl 1 rfl) ?_
      refine lv_if_ne (tgt := 668) hx hb dL_law_653 (by decide) (fun _ => ?_) (fun c9 => absurd c9 (by decide))
      refine lv_goto (tgt := 1599) hx hb dL_law_668 (by decide) ?_
      refine W.widen (k := cells + 10) (n := slots + 41) (by omega) (by omega) ?_
      exact K cN rN pa pe st bn hc hm lo pa2 pe2 st2 bn2 hc2 hm2 C2 R2 lo2 pt pd ab nw kp wy 2 tn ov _ _ _ hR hP hD hS (lv_sub hl [2, 3, 4, 5, 6] rfl)
  · have hp : xhas 2 v1 = false := Bool.eq_false_iff.mpr hp
    refine lv_aload_n hx hb dL_law_603 rfl (lv_at hl 3 rfl) ?_
    refine lv_aload_n hx hb dL_law_604 rfl (lv_at hl 4 rfl) ?_
    refine lv_iload hx hb dL_law_605 (lv_at hl 0 rfl) ?_
    refine lv_iconst (v := 1) hx hb dL_law_607 (by decide) ?_
    refine lv_iadd hx hb dL_law_608 ?_
    refine va_sld hx hb hX hbl hbA hS (sx_in hL (j := 1) (by omega)) dL_law_609 ?_
    rw [hv1]
    refine lv_aload_n hx hb dL_law_610 rfl (lv_at hl 4 rfl) ?_
    refine lv_iload hx hb dL_law_611 (lv_at hl 0 rfl) ?_
    refine lv_iconst (v := 2) hx hb dL_law_613 (by decide) ?_
    refine lv_iadd hx hb dL_law_614 ?_
    refine va_sld hx hb hX hbl hbA hS (sx_in hL (j := 2) (by omega)) dL_law_615 ?_
    rw [hv2]
    refine lv_aload_n hx hb dL_law_616 rfl (lv_at hl 1 rfl) ?_
    refine kQWi (As := [.ref x, .int v1, .int v2, .ref o]) (rest := []) (wr := [(v 0, .inr (2, [.int th, .int (nI cN), .int (nI rN), .ref (v 1), .ref (v 2), .ref (v 3), .ref (v 4), .ref (v 5), .int tn, .ref (v 6)])), (v 1, .inl (cI, 72, .inl pt)), (v 2, .inl (cI, 72, .inl pd)), (v 3, .inl (cI, 2, .inl ab)), (v 4, .inl (cI, 84, .inl nw)), (v 5, .inl (cI, 84, .inl kp)), (v 6, .inl (cI, 8, .inl wy))]) (W2 := (fun _ => (wX x a b ++ wM cI a pa pe st bn hc hm (nI cN) (nI rN) lo ++ wM cI b pa2 pe2 st2 bn2 hc2 hm2 C2 R2 lo2 ++ wN cI v pt pd ab nw kp wy th (nI cN) (nI rN) tn ++ wL cL o 1 ov))) ⟨hx, hb, hml, hown, hts⟩ (mL_run_h l hst D cI cL x a pa pe st bn hc hm (nI cN) (nI rN) lo b pa2 pe2 st2 bn2 hc2 hm2 C2 R2 lo2 o ov v1 v2 hp _) (vx_cwSW 4 hts gL_law_L_run rfl rfl rfl (by decide +kernel) ⟨Nat.le_of_ble_eq_true rfl, Nat.le_of_ble_eq_true rfl⟩) hP hD hK hN hKX (hZ.now hS hA) hS hA [0, 1, 2, 3, 4, 5, 6, 7, 8, 9, 10, 11, 12, 13, 14, 22] (by decide) rfl [15, 16, 17, 18, 19, 20, 21] (by decide) rfl (by decide) [7, 8, 9, 10, 11, 12, 13, 14, 15, 16, 17, 18, 19, 20, 21, 0, 1, 2, 3, 4, 5, 6, 22] (by decide) (fun _ => rfl) [0, 1] rfl rfl hl.1 rfl (Nat.le_of_ble_eq_true rfl) dL_law_617 ⟨by omega, by omega⟩ (fun r_10 u_10 H locs hr_10 hP hD hS => ?_)
    subst r_10
    have hP : va_P D vwCl (wX x a b ++ wM cI a pa pe st bn hc hm (nI cN) (nI rN) lo ++ wM cI b pa2 pe2 st2 bn2 hc2 hm2 C2 R2 lo2 ++ wN cI v pt pd ab nw kp wy th (nI cN) (nI rN) tn ++ wL cL o 1 ov) H := hP
    have hD : va_D A (wX x a b ++ wM cI a pa pe st bn hc hm (nI cN) (nI rN) lo ++ wM cI b pa2 pe2 st2 bn2 hc2 hm2 C2 R2 lo2 ++ wN cI v pt pd ab nw kp wy th (nI cN) (nI rN) tn ++ wL cL o 1 ov) := hD
    refine lv_istore (lv' := [(5, .int 1), (4, .int (nI (4 * k))), (3, .ref o), (2, .ref (v 0)), (1, .ref x), (0, .ref b0)]) hx hb dL_law_620 hl (by decide) rfl (fun ls hl => ?_)
    refine lv_aload_n hx hb dL_law_622 rfl (lv_at hl 3 rfl) ?_
    refine lv_aload_n hx hb dL_law_623 rfl (lv_at hl 5 rfl) ?_
    refine lv_iload hx hb dL_law_624 (lv_at hl 1 rfl) ?_
    refine lv_iconst (v := 1) hx hb dL_law_626 (by decide) ?_
    refine lv_iadd hx hb dL_law_627 ?_
    refine va_sld hx hb hX hbl hbA hS (sx_in hL (j := 1) (by omega)) dL_law_628 ?_
    rw [hv1]
    refine lv_aload_n hx hb dL_law_629 rfl (lv_at hl 5 rfl) ?_
    refine lv_iload hx hb dL_law_630 (lv_at hl 1 rfl) ?_
    refine lv_iconst (v := 2) hx hb dL_law_632 (by decide) ?_
    refine lv_iadd hx hb dL_law_633 ?_
    refine va_sld hx hb hX hbl hbA hS (sx_in hL (j := 2) (by omega)) dL_law_634 ?_
    rw [hv2]
    refine kQVi (As := [.int v1, .int v2]) (rest := []) (wr := [(x, .inr (1, [.ref (a 0), .ref (b 0)])), (a 0, .inr (0, [.ref (a 1), .ref (a 2), .ref (a 3), .ref (a 4), .ref (a 5), .ref (a 6), .int (nI cN), .int (nI rN), .int lo])), (a 1, .inl (cI, 72, .inl pa)), (a 2, .inl (cI, 72, .inl pe)), (a 3, .inl (cI, 72, .inl st)), (a 4, .inl (cI, 9, .inl bn)), (a 5, .inl (cI, 2, .inl hc)), (a 6, .inl (cI, 2, .inl hm)), (b 0, .inr (0, [.ref (b 1), .ref (b 2), .ref (b 3), .ref (b 4), .ref (b 5), .ref (b 6), .int C2, .int R2, .int lo2])), (b 1, .inl (cI, 72, .inl pa2)), (b 2, .inl (cI, 72, .inl pe2)), (b 3, .inl (cI, 72, .inl st2)), (b 4, .inl (cI, 9, .inl bn2)), (b 5, .inl (cI, 2, .inl hc2)), (b 6, .inl (cI, 2, .inl hm2)), (o, .inl (cL, 1, .inr (.inl ov)))]) (W2 := (fun _ => (wX x a b ++ wM cI a pa pe st bn hc hm (nI cN) (nI rN) lo ++ wM cI b pa2 pe2 st2 bn2 hc2 hm2 C2 R2 lo2 ++ wN cI v pt pd ab nw kp wy 1 (nI cN) (nI rN) tn ++ wL cL o 1 ov))) ⟨hx, hb, hml, hown, hts⟩ (mX2_run_1 l D cI v pt pd ab nw kp wy th cN rN tn v1 v2 (hT hp) _) (cwV 2 hts gL_law_X2_run rfl rfl rfl (by decide +kernel) ⟨Nat.le_of_ble_eq_true rfl, Nat.le_of_ble_eq_true rfl⟩) hP hD hK hN hS hA [15, 16, 17, 18, 19, 20, 21] (by decide) rfl [0, 1, 2, 3, 4, 5, 6, 7, 8, 9, 10, 11, 12, 13, 14, 22] (by decide) rfl (by decide) [0, 1, 2, 3, 4, 5, 6, 7, 8, 9, 10, 11, 12, 13, 14, 16, 17, 18, 19, 20, 21, 22, 15] (by decide) (fun _ => rfl) [0] rfl rfl rfl rfl hl.1 rfl (Nat.le_of_ble_eq_true rfl) dL_law_635 ⟨by omega, by omega⟩ (fun r_11 u_11 H locs hr_11 hP hD hS => ?_)
    subst r_11
    have hP : va_P D vwCl (wX x a b ++ wM cI a pa pe st bn hc hm (nI cN) (nI rN) lo ++ wM cI b pa2 pe2 st2 bn2 hc2 hm2 C2 R2 lo2 ++ wN cI v pt pd ab nw kp wy 1 (nI cN) (nI rN) tn ++ wL cL o 1 ov) H := hP
    have hD : va_D A (wX x a b ++ wM cI a pa pe st bn hc hm (nI cN) (nI rN) lo ++ wM cI b pa2 pe2 st2 bn2 hc2 hm2 C2 R2 lo2 ++ wN cI v pt pd ab nw kp wy 1 (nI cN) (nI rN) tn ++ wL cL o 1 ov) := hD
    refine lv_istore (lv' := [(6, .int 0), (5, .int 1), (4, .int (nI (4 * k))), (3, .ref o), (2, .ref (v 0)), (1, .ref x), (0, .ref b0)]) hx hb dL_law_638 hl (by decide) rfl (fun ls hl => ?_)
    refine lv_aload_n hx hb dL_law_640 rfl (lv_at hl 4 rfl) ?_
    refine kRVi (As := []) (rest := []) ⟨hx, hb, hml, hown, hts⟩ (mX2_thrown l D cI v pt pd ab nw kp wy 1 cN rN tn) (cwV 0 hts gL_law_X2_thrown rfl rfl rfl (by decide +kernel) ⟨Nat.le_of_ble_eq_true rfl, Nat.le_of_ble_eq_true rfl⟩) hP hK hN [15, 16, 17, 18, 19, 20, 21] rfl [0] rfl rfl rfl rfl hl.1 rfl (Nat.le_of_ble_eq_true rfl) dL_law_641 ⟨by omega, by omega⟩ (fun r_12 hr_12 => ?_)
    subst r_12
    refine lv_iload hx hb dL_law_644 (lv_at hl 1 rfl) ?_
    refine lv_icmp_eq (tgt := 651) hx hb dL_law_646 (by decide) (fun _ => ?_) (fun c9 => absurd (by decide) c9)
    refine lv_iload hx hb dL_law_651 (lv_at hl 1 rfl) ?_
    refine lv_if_ne (tgt := 668) hx hb dL_law_653 (by decide) (fun _ => ?_) (fun c9 => absurd c9 (by decide))
    refine lv_goto (tgt := 1599) hx hb dL_law_668 (by decide) ?_
    refine W.widen (k := cells + 10) (n := slots + 41) (by omega) (by omega) ?_
    exact K cN rN pa pe st bn hc hm lo pa2 pe2 st2 bn2 hc2 hm2 C2 R2 lo2 pt pd ab nw kp wy 1 tn ov _ _ _ hR hP hD hS (lv_sub hl [2, 3, 4, 5, 6] rfl)
set_option maxHeartbeats 4000000 in
set_option maxRecDepth 100000 in
theorem cs_13 {p : Program} {l : Launch} {e : Env} {s : State} {m : MethodId} {below : List Frame} {meth : Method} {c : Code} {Q : State → Prop} {D : va_G} {cI cL : ClassId} {x o b0 L k : Nat} {a b v : Nat → Nat} {xs : Nat → Int32} {A : Nat → Prop} {cells slots : Nat} {cN rN : Nat} {pa pe st bn hc hm : Nat → Int32} {lo : Int32} {pa2 pe2 st2 bn2 hc2 hm2 : Nat → Int32} {C2 R2 lo2 : Int32} {pt pd ab nw kp wy : Nat → Int32} {th tn : Int32} {ov : Nat → Int64} {H : Heap} {locs : List Loc} {ls : Array Slot} (F : LF p l s m b0 c D cI cL L xs A) (hR : Rel cN rN pa pe st bn hc hm lo pt pd ab nw) (hk : 4 * k + 3 < L) (h1 : cells + 10 ≤ room_1.cells) (h2 : slots + 41 ≤ room_1.slots) (hP : va_P D vwCl (wX x a b ++ wM cI a pa pe st bn hc hm (nI cN) (nI rN) lo ++ wM cI b pa2 pe2 st2 bn2 hc2 hm2 C2 R2 lo2 ++ wN cI v pt pd ab nw kp wy th (nI cN) (nI rN) tn ++ wL cL o 1 ov) H) (hD : va_D A (wX x a b ++ wM cI a pa pe st bn hc hm (nI cN) (nI rN) lo ++ wM cI b pa2 pe2 st2 bn2 hc2 hm2 C2 R2 lo2 ++ wN cI v pt pd ab nw kp wy th (nI cN) (nI rN) tn ++ wL cL o 1 ov)) (hS : va_S A s.heap H locs) (hl : lv_has ls 9 [(4, .int (nI (4 * k))), (3, .ref o), (2, .ref (v 0)), (1, .ref x), (0, .ref b0)]) (K : LK p l e s m b0 below meth c D cI cL x o k a b v A cells slots Q) : W p l e room_1 s m #[Value.ref b0] below meth c H locs cells slots Q (F0 m 921 ls []) := by
  obtain ⟨hx, hb, hml, hown, hts, hK, hN, hKX, hZ, hA, hX, hbl, hbA, hst, hL⟩ := F
  have hI := hR.inv
  obtain ⟨v1, hv1⟩ : ∃ z, xs (nI (4 * k) + 1).toNatClampNeg = z := ⟨_, rfl⟩
  by_cases hq : xhas (nI cN) v1 = true
  · obtain ⟨c1, hc1, rfl⟩ := hR.cE hq
    refine lv_aload_n hx hb dL_law_921 rfl (lv_at hl 3 rfl) ?_
    refine lv_aload_n hx hb dL_law_922 rfl (lv_at hl 4 rfl) ?_
    refine lv_iload hx hb dL_law_923 (lv_at hl 0 rfl) ?_
    refine lv_iconst (v := 1) hx hb dL_law_925 (by decide) ?_
    refine lv_iadd hx hb dL_law_926 ?_
    refine va_sld hx hb hX hbl hbA hS (sx_in hL (j := 1) (by omega)) dL_law_927 ?_
    rw [hv1]
    refine lv_aload_n hx hb dL_law_928 rfl (lv_at hl 1 rfl) ?_
    refine kQWi (As := [.ref x, .int (nI c1), .ref o]) (rest := []) (wr := [(v 0, .inr (2, [.int th, .int (nI cN), .int (nI rN), .ref (v 1), .ref (v 2), .ref (v 3), .ref (v 4), .ref (v 5), .int tn, .ref (v 6)])), (v 1, .inl (cI, 72, .inl pt)), (v 2, .inl (cI, 72, .inl pd)), (v 3, .inl (cI, 2, .inl ab)), (v 4, .inl (cI, 84, .inl nw)), (v 5, .inl (cI, 84, .inl kp)), (v 6, .inl (cI, 8, .inl wy))]) (W2 := (fun _ => (wX x a b ++ wM cI a pa pe st bn hc hm (nI cN) (nI rN) lo ++ wM cI b pa2 pe2 st2 bn2 hc2 hm2 C2 R2 lo2 ++ wN cI v pt pd ab nw kp wy th (nI cN) (nI rN) tn ++ wL cL o 1 ((vp_updL ov 0 ((xcl 9 bn (nI c1)) : Int32).toInt64))))) ⟨hx, hb, hml, hown, hts⟩ (mL_binOf_0 l D cI cL x a pa pe st bn hc hm (nI cN) (nI rN) lo b pa2 pe2 st2 bn2 hc2 hm2 C2 R2 lo2 o ov (nI c1) hq _) (vx_cwSW 3 hts gL_law_L_binOf rfl rfl rfl (by decide +kernel) ⟨Nat.le_of_ble_eq_true rfl, Nat.le_of_ble_eq_true rfl⟩) hP hD hK hN hKX (hZ.now hS hA) hS hA [0, 1, 2, 3, 4, 5, 6, 7, 8, 9, 10, 11, 12, 13, 14, 22] (by decide) rfl [15, 16, 17, 18, 19, 20, 21] (by decide) rfl (by decide) [7, 8, 9, 10, 11, 12, 13, 14, 15, 16, 17, 18, 19, 20, 21, 0, 1, 2, 3, 4, 5, 6, 22] (by decide) (fun _ => rfl) [0, 1] rfl rfl hl.1 rfl (Nat.le_of_ble_eq_true rfl) dL_law_929 ⟨by omega, by omega⟩ (fun r_1 u_1 H locs hr_1 hP hD hS => ?_)
    subst r_1
    have hP : va_P D vwCl (wX x a b ++ wM cI a pa pe st bn hc hm (nI cN) (nI rN) lo ++ wM cI b pa2 pe2 st2 bn2 hc2 hm2 C2 R2 lo2 ++ wN cI v pt pd ab nw kp wy th (nI cN) (nI rN) tn ++ wL cL o 1 ((vp_updL ov 0 ((xcl 9 bn (nI c1)) : Int32).toInt64))) H := hP
    have hD : va_D A (wX x a b ++ wM cI a pa pe st bn hc hm (nI cN) (nI rN) lo ++ wM cI b pa2 pe2 st2 bn2 hc2 hm2 C2 R2 lo2 ++ wN cI v pt pd ab nw kp wy th (nI cN) (nI rN) tn ++ wL cL o 1 ((vp_updL ov 0 ((xcl 9 bn (nI c1)) : Int32).toInt64))) := hD
    refine lv_istore (lv' := [(5, .int 0), (4, .int (nI (4 * k))), (3, .ref o), (2, .ref (v 0)), (1, .ref x), (0, .ref b0)]) hx hb dL_law_932 hl (by decide) rfl (fun ls hl => ?_)
    refine lv_aload_n hx hb dL_law_934 rfl (lv_at hl 3 rfl) ?_
    refine lv_aload_n hx hb dL_law_935 rfl (lv_at hl 5 rfl) ?_
    refine lv_iload hx hb dL_law_936 (lv_at hl 1 rfl) ?_
    refine lv_iconst (v := 1) hx hb dL_law_938 (by decide) ?_
    refine lv_iadd hx hb dL_law_939 ?_
    refine va_sld hx hb hX hbl hbA hS (sx_in hL (j := 1) (by omega)) dL_law_940 ?_
    rw [hv1]
    refine kQVi (As := [.int (nI c1)]) (rest := []) (wr := [(x, .inr (1, [.ref (a 0), .ref (b 0)])), (a 0, .inr (0, [.ref (a 1), .ref (a 2), .ref (a 3), .ref (a 4), .ref (a 5), .ref (a 6), .int (nI cN), .int (nI rN), .int lo])), (a 1, .inl (cI, 72, .inl pa)), (a 2, .inl (cI, 72, .inl pe)), (a 3, .inl (cI, 72, .inl st)), (a 4, .inl (cI, 9, .inl bn)), (a 5, .inl (cI, 2, .inl hc)), (a 6, .inl (cI, 2, .inl hm)), (b 0, .inr (0, [.ref (b 1), .ref (b 2), .ref (b 3), .ref (b 4), .ref (b 5), .ref (b 6), .int C2, .int R2, .int lo2])), (b 1, .inl (cI, 72, .inl pa2)), (b 2, .inl (cI, 72, .inl pe2)), (b 3, .inl (cI, 72, .inl st2)), (b 4, .inl (cI, 9, .inl bn2)), (b 5, .inl (cI, 2, .inl hc2)), (b 6, .inl (cI, 2, .inl hm2)), (o, .inl (cL, 1, .inr (.inl (vp_updL ov 0 ((xcl 9 bn (nI c1)) : Int32).toInt64))))]) (W2 := (fun _ => (wX x a b ++ wM cI a pa pe st bn hc hm (nI cN) (nI rN) lo ++ wM cI b pa2 pe2 st2 bn2 hc2 hm2 C2 R2 lo2 ++ wN cI v pt pd ab nw kp wy 0 (nI cN) (nI rN) tn ++ wL cL o 1 ((vp_updL ov 0 ((xcl 9 bn (nI c1)) : Int32).toInt64))))) ⟨hx, hb, hml, hown, hts⟩ (mX2_binOf_0 l D cI v pt pd ab nw kp wy th cN rN tn (nI c1) hI (hR.cT hq) _) (cwV 1 hts gL_law_X2_binOf rfl rfl rfl (by decide +kernel) ⟨Nat.le_of_ble_eq_true rfl, Nat.le_of_ble_eq_true rfl⟩) hP hD hK hN hS hA [15, 16, 17, 18, 19, 20, 21] (by decide) rfl [0, 1, 2, 3, 4, 5, 6, 7, 8, 9, 10, 11, 12, 13, 14, 22] (by decide) rfl (by decide) [0, 1, 2, 3, 4, 5, 6, 7, 8, 9, 10, 11, 12, 13, 14, 16, 17, 18, 19, 20, 21, 22, 15] (by decide) (fun _ => rfl) [0] rfl rfl rfl rfl hl.1 rfl (Nat.le_of_ble_eq_true rfl) dL_law_941 ⟨by omega, by omega⟩ (fun r_2 u_2 H locs hr_2 hP hD hS => ?_)
    subst r_2
    have hP : va_P D vwCl (wX x a b ++ wM cI a pa pe st bn hc hm (nI cN) (nI rN) lo ++ wM cI b pa2 pe2 st2 bn2 hc2 hm2 C2 R2 lo2 ++ wN cI v pt pd ab nw kp wy 0 (nI cN) (nI rN) tn ++ wL cL o 1 ((vp_updL ov 0 ((xcl 9 bn (nI c1)) : Int32).toInt64))) H := hP
    have hD : va_D A (wX x a b ++ wM cI a pa pe st bn hc hm (nI cN) (nI rN) lo ++ wM cI b pa2 pe2 st2 bn2 hc2 hm2 C2 R2 lo2 ++ wN cI v pt pd ab nw kp wy 0 (nI cN) (nI rN) tn ++ wL cL o 1 ((vp_updL ov 0 ((xcl 9 bn (nI c1)) : Int32).toInt64))) := hD
    refine lv_istore (lv' := [(6, .int (nw (72 + (nI c1)).toNatClampNeg)), (5, .int 0), (4, .int (nI (4 * k))), (3, .ref o), (2, .ref (v 0)), (1, .ref x), (0, .ref b0)]) hx hb dL_law_944 hl (by decide) rfl (fun ls hl => ?_)
    refine lv_aload_n hx hb dL_law_946 rfl (lv_at hl 4 rfl) ?_
    refine kRVi (As := []) (rest := []) ⟨hx, hb, hml, hown, hts⟩ (mX2_thrown l D cI v pt pd ab nw kp wy 0 cN rN tn) (cwV 0 hts gL_law_X2_thrown rfl rfl rfl (by decide +kernel) ⟨Nat.le_of_ble_eq_true rfl, Nat.le_of_ble_eq_true rfl⟩) hP hK hN [15, 16, 17, 18, 19, 20, 21] rfl [0] rfl rfl rfl rfl hl.1 rfl (Nat.le_of_ble_eq_true rfl) dL_law_947 ⟨by omega, by omega⟩ (fun r_3 hr_3 => ?_)
    subst r_3
    refine lv_iload hx hb dL_law_950 (lv_at hl 1 rfl) ?_
    refine lv_icmp_eq (tgt := 957) hx hb dL_law_952 (by decide) (fun _ => ?_) (fun c9 => absurd (by decide) c9)
    refine lv_iload hx hb dL_law_957 (lv_at hl 1 rfl) ?_
    refine lv_if_ne (tgt := 974) hx hb dL_law_959 (by decide) (fun c9 => absurd c9 (by decide)) (fun _ => ?_)
    refine lv_aload_n hx hb dL_law_962 rfl (lv_at hl 3 rfl) ?_
    refine lv_iconst (v := 0) hx hb dL_law_963 (by decide) ?_
    refine va_lald hx hb hK hP 22 1 rfl rfl (vp_in_nI (n := 0) (by decide) (by decide)) dL_law_964 ?_
    rw [show (0 : Int32).toNatClampNeg = 0 from by decide, updL_0]
    refine lv_iload hx hb dL_law_965 (lv_at hl 0 rfl) ?_
    refine lv_i2l (v := (nw (72 + (nI c1)).toNatClampNeg : Int32).toInt64) hx hb dL_law_967 rfl ?_
    refine W.lcmp hx hb dL_law_968 ?_
    refine lv_if_eq (tgt := 974) hx hb dL_law_969 (by decide) (fun _ => ?_) (fun c9 => absurd ((lg_cmp_eq _ _).mpr (congrArg Int32.toInt64 (hR.bin hc1))) c9)
    refine lv_goto (tgt := 1599) hx hb dL_law_974 (by decide) ?_
    refine W.widen (k := cells + 10) (n := slots + 41) (by omega) (by omega) ?_
    exact K cN rN pa pe st bn hc hm lo pa2 pe2 st2 bn2 hc2 hm2 C2 R2 lo2 pt pd ab nw kp wy 0 tn (vp_updL ov 0 ((xcl 9 bn (nI c1)) : Int32).toInt64) _ _ _ hR hP hD hS (lv_sub hl [2, 3, 4, 5, 6] rfl)
  · have hq : xhas (nI cN) v1 = false := Bool.eq_false_iff.mpr hq
    refine lv_aload_n hx hb dL_law_921 rfl (lv_at hl 3 rfl) ?_
    refine lv_aload_n hx hb dL_law_922 rfl (lv_at hl 4 rfl) ?_
    refine lv_iload hx hb dL_law_923 (lv_at hl 0 rfl) ?_
    refine lv_iconst (v := 1) hx hb dL_law_925 (by decide) ?_
    refine lv_iadd hx hb dL_law_926 ?_
    refine va_sld hx hb hX hbl hbA hS (sx_in hL (j := 1) (by omega)) dL_law_927 ?_
    rw [hv1]
    refine lv_aload_n hx hb dL_law_928 rfl (lv_at hl 1 rfl) ?_
    refine kQWi (As := [.ref x, .int v1, .ref o]) (rest := []) (wr := [(v 0, .inr (2, [.int th, .int (nI cN), .int (nI rN), .ref (v 1), .ref (v 2), .ref (v 3), .ref (v 4), .ref (v 5), .int tn, .ref (v 6)])), (v 1, .inl (cI, 72, .inl pt)), (v 2, .inl (cI, 72, .inl pd)), (v 3, .inl (cI, 2, .inl ab)), (v 4, .inl (cI, 84, .inl nw)), (v 5, .inl (cI, 84, .inl kp)), (v 6, .inl (cI, 8, .inl wy))]) (W2 := (fun _ => (wX x a b ++ wM cI a pa pe st bn hc hm (nI cN) (nI rN) lo ++ wM cI b pa2 pe2 st2 bn2 hc2 hm2 C2 R2 lo2 ++ wN cI v pt pd ab nw kp wy th (nI cN) (nI rN) tn ++ wL cL o 1 ov))) ⟨hx, hb, hml, hown, hts⟩ (mL_binOf_c l hst D cI cL x a pa pe st bn hc hm (nI cN) (nI rN) lo b pa2 pe2 st2 bn2 hc2 hm2 C2 R2 lo2 o ov v1 hq _) (vx_cwSW 3 hts gL_law_L_binOf rfl rfl rfl (by decide +kernel) ⟨Nat.le_of_ble_eq_true rfl, Nat.le_of_ble_eq_true rfl⟩) hP hD hK hN hKX (hZ.now hS hA) hS hA [0, 1, 2, 3, 4, 5, 6, 7, 8, 9, 10, 11, 12, 13, 14, 22] (by decide) rfl [15, 16, 17, 18, 19, 20, 21] (by decide) rfl (by decide) [7, 8, 9, 10, 11, 12, 13, 14, 15, 16, 17, 18, 19, 20, 21, 0, 1, 2, 3, 4, 5, 6, 22] (by decide) (fun _ => rfl) [0, 1] rfl rfl hl.1 rfl (Nat.le_of_ble_eq_true rfl) dL_law_929 ⟨by omega, by omega⟩ (fun r_6 u_6 H locs hr_6 hP hD hS => ?_)
    subst r_6
    have hP : va_P D vwCl (wX x a b ++ wM cI a pa pe st bn hc hm (nI cN) (nI rN) lo ++ wM cI b pa2 pe2 st2 bn2 hc2 hm2 C2 R2 lo2 ++ wN cI v pt pd ab nw kp wy th (nI cN) (nI rN) tn ++ wL cL o 1 ov) H := hP
    have hD : va_D A (wX x a b ++ wM cI a pa pe st bn hc hm (nI cN) (nI rN) lo ++ wM cI b pa2 pe2 st2 bn2 hc2 hm2 C2 R2 lo2 ++ wN cI v pt pd ab nw kp wy th (nI cN) (nI rN) tn ++ wL cL o 1 ov) := hD
    refine lv_istore (lv' := [(5, .int 1), (4, .int (nI (4 * k))), (3, .ref o), (2, .ref (v 0)), (1, .ref x), (0, .ref b0)]) hx hb dL_law_932 hl (by decide) rfl (fun ls hl => ?_)
    refine lv_aload_n hx hb dL_law_934 rfl (lv_at hl 3 rfl) ?_
    refine lv_aload_n hx hb dL_law_935 rfl (lv_at hl 5 rfl) ?_
    refine lv_iload hx hb dL_law_936 (lv_at hl 1 rfl) ?_
    refine lv_iconst (v := 1) hx hb dL_law_938 (by decide) ?_
    refine lv_iadd hx hb dL_law_939 ?_
    refine va_sld hx hb hX hbl hbA hS (sx_in hL (j := 1) (by omega)) dL_law_940 ?_
    rw [hv1]
    refine kQVi (As := [.int v1]) (rest := []) (wr := [(x, .inr (1, [.ref (a 0), .ref (b 0)])), (a 0, .inr (0, [.ref (a 1), .ref (a 2), .ref (a 3), .ref (a 4), .ref (a 5), .ref (a 6), .int (nI cN), .int (nI rN), .int lo])), (a 1, .inl (cI, 72, .inl pa)), (a 2, .inl (cI, 72, .inl pe)), (a 3, .inl (cI, 72, .inl st)), (a 4, .inl (cI, 9, .inl bn)), (a 5, .inl (cI, 2, .inl hc)), (a 6, .inl (cI, 2, .inl hm)), (b 0, .inr (0, [.ref (b 1), .ref (b 2), .ref (b 3), .ref (b 4), .ref (b 5), .ref (b 6), .int C2, .int R2, .int lo2])), (b 1, .inl (cI, 72, .inl pa2)), (b 2, .inl (cI, 72, .inl pe2)), (b 3, .inl (cI, 72, .inl st2)), (b 4, .inl (cI, 9, .inl bn2)), (b 5, .inl (cI, 2, .inl hc2)), (b 6, .inl (cI, 2, .inl hm2)), (o, .inl (cL, 1, .inr (.inl ov)))]) (W2 := (fun _ => (wX x a b ++ wM cI a pa pe st bn hc hm (nI cN) (nI rN) lo ++ wM cI b pa2 pe2 st2 bn2 hc2 hm2 C2 R2 lo2 ++ wN cI v pt pd ab nw kp wy 1 (nI cN) (nI rN) tn ++ wL cL o 1 ov))) ⟨hx, hb, hml, hown, hts⟩ (mX2_binOf_1 l D cI v pt pd ab nw kp wy th cN rN tn v1 (hR.cF hq) _) (cwV 1 hts gL_law_X2_binOf rfl rfl rfl (by decide +kernel) ⟨Nat.le_of_ble_eq_true rfl, Nat.le_of_ble_eq_true rfl⟩) hP hD hK hN hS hA [15, 16, 17, 18, 19, 20, 21] (by decide) rfl [0, 1, 2, 3, 4, 5, 6, 7, 8, 9, 10, 11, 12, 13, 14, 22] (by decide) rfl (by decide) [0, 1, 2, 3, 4, 5, 6, 7, 8, 9, 10, 11, 12, 13, 14, 16, 17, 18, 19, 20, 21, 22, 15] (by decide) (fun _ => rfl) [0] rfl rfl rfl rfl hl.1 rfl (Nat.le_of_ble_eq_true rfl) dL_law_941 ⟨by omega, by omega⟩ (fun r_7 u_7 H locs hr_7 hP hD hS => ?_)
    subst r_7
    have hP : va_P D vwCl (wX x a b ++ wM cI a pa pe st bn hc hm (nI cN) (nI rN) lo ++ wM cI b pa2 pe2 st2 bn2 hc2 hm2 C2 R2 lo2 ++ wN cI v pt pd ab nw kp wy 1 (nI cN) (nI rN) tn ++ wL cL o 1 ov) H := hP
    have hD : va_D A (wX x a b ++ wM cI a pa pe st bn hc hm (nI cN) (nI rN) lo ++ wM cI b pa2 pe2 st2 bn2 hc2 hm2 C2 R2 lo2 ++ wN cI v pt pd ab nw kp wy 1 (nI cN) (nI rN) tn ++ wL cL o 1 ov) := hD
    refine lv_istore (lv' := [(6, .int 0), (5, .int 1), (4, .int (nI (4 * k))), (3, .ref o), (2, .ref (v 0)), (1, .ref x), (0, .ref b0)]) hx hb dL_law_944 hl (by decide) rfl (fun ls hl => ?_)
    refine lv_aload_n hx hb dL_law_946 rfl (lv_at hl 4 rfl) ?_
    refine kRVi (As := []) (rest := []) ⟨hx, hb, hml, hown, hts⟩ (mX2_thrown l D cI v pt pd ab nw kp wy 1 cN rN tn) (cwV 0 hts gL_law_X2_thrown rfl rfl rfl (by decide +kernel) ⟨Nat.le_of_ble_eq_true rfl, Nat.le_of_ble_eq_true rfl⟩) hP hK hN [15, 16, 17, 18, 19, 20, 21] rfl [0] rfl rfl rfl rfl hl.1 rfl (Nat.le_of_ble_eq_true rfl) dL_law_947 ⟨by omega, by omega⟩ (fun r_8 hr_8 => ?_)
    subst r_8
    refine lv_iload hx hb dL_law_950 (lv_at hl 1 rfl) ?_
    refine lv_icmp_eq (tgt := 957) hx hb dL_law_952 (by decide) (fun _ => ?_) (fun c9 => absurd (by decide) c9)
    refine lv_iload hx hb dL_law_957 (lv_at hl 1 rfl) ?_
    refine lv_if_ne (tgt := 974) hx hb dL_law_959 (by decide) (fun _ => ?_) (fun c9 => absurd c9 (by decide))
    refine lv_goto (tgt := 1599) hx hb dL_law_974 (by decide) ?_
    refine W.widen (k := cells + 10) (n := slots + 41) (by omega) (by omega) ?_
    exact K cN rN pa pe st bn hc hm lo pa2 pe2 st2 bn2 hc2 hm2 C2 R2 lo2 pt pd ab nw kp wy 1 tn ov _ _ _ hR hP hD hS (lv_sub hl [2, 3, 4, 5, 6] rfl)
