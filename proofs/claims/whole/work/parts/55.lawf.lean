/-! ===== the mean, and the whole walk ===== -/
theorem nan_dec {b : UInt64} (h : isNaN64 b = true) : FP.Core.decode FP.Core.b64 b.toNat = .nan := by
  have h1 := isNaN64_iff.mp h
  rw [show (0x7fffffffffffffff : Nat) = 2 ^ 63 - 1 from by decide, Nat.and_two_pow_sub_one_eq_mod] at h1
  have e1 : FP.Core.Fmt.tails FP.Core.b64 = 4503599627370496 := by decide
  have e2 : FP.Core.Fmt.exps FP.Core.b64 = 2048 := by decide
  have q1 : FP.Core.fieldE FP.Core.b64 b.toNat = FP.Core.Fmt.exps FP.Core.b64 - 1 := by
    unfold FP.Core.fieldE
    rw [e1, e2]
    omega
  have q2 : ¬ FP.Core.fieldT FP.Core.b64 b.toNat = 0 := by
    have hb := b.toNat_lt
    unfold FP.Core.fieldT
    rw [e1]
    omega
  unfold FP.Core.decode
  rw [if_pos q1, if_neg q2]
theorem nan_cmp {b : UInt64} (h : isNaN64 b = true) : FP.dcmp b b = none := by
  unfold FP.dcmp FP.Core.dcmp FP.Core.cmp
  rw [nan_dec h]
  rfl
/-- two answers alike the same: equal, or neither equal to itself -/
theorem mean_cmp {r1 r2 q : UInt64} (h1 : alike64 r1 q = true) (h2 : alike64 r2 q = true) (h0 : ¬ Op.cmpValue (FP.dcmp r1 r2) CmpOp.l = 0) : ¬ Op.cmpValue (FP.dcmp r1 r1) CmpOp.l = 0 ∧ ¬ Op.cmpValue (FP.dcmp r2 r2) CmpOp.l = 0 := by
  have nn : ∀ b : UInt64, isNaN64 b = true → ¬ Op.cmpValue (FP.dcmp b b) CmpOp.l = 0 := fun b hb => by rw [nan_cmp hb]; decide
  unfold alike64 at h1 h2
  rw [Bool.or_eq_true, decide_eq_true_eq, Bool.and_eq_true] at h1 h2
  rcases h1 with h1 | h1
  · rcases h2 with h2 | h2
    · subst h1; subst h2; exact ⟨h0, h0⟩
    · exact ⟨nn _ (by rw [h1]; exact h2.2), nn _ h2.1⟩
  · rcases h2 with h2 | h2
    · exact ⟨nn _ h1.1, nn _ (by rw [h2]; exact h1.2)⟩
    · exact ⟨nn _ h1.1, nn _ h2.1⟩
set_option maxHeartbeats 4000000 in
set_option maxRecDepth 100000 in
theorem cs_26 {p : Program} {l : Launch} {e : Env} {s : State} {m : MethodId} {below : List Frame} {meth : Method} {c : Code} {Q : State → Prop} {D : va_G} {cI cL : ClassId} {x o b0 L k : Nat} {a b v : Nat → Nat} {xs : Nat → Int32} {A : Nat → Prop} {cells slots : Nat} {cN rN : Nat} {pa pe st bn hc hm : Nat → Int32} {lo : Int32} {pa2 pe2 st2 bn2 hc2 hm2 : Nat → Int32} {C2 R2 lo2 : Int32} {pt pd ab nw kp wy : Nat → Int32} {th tn : Int32} {ov : Nat → Int64} {H : Heap} {locs : List Loc} {ls : Array Slot} {d0 : Drawn} (hd0 : s.drawn.sameBut d0 lw_cs) (F : LF p l s m b0 c D cI cL L xs A) (hR : Rel cN rN pa pe st bn hc hm lo pt pd ab nw) (hk : 4 * k + 3 < L) (h1 : cells + 10 ≤ room_1.cells) (h2 : slots + 41 ≤ room_1.slots) (hP : va_P D vwCl (wX x a b ++ wM cI a pa pe st bn hc hm (nI cN) (nI rN) lo ++ wM cI b pa2 pe2 st2 bn2 hc2 hm2 C2 R2 lo2 ++ wN cI v pt pd ab nw kp wy th (nI cN) (nI rN) tn ++ wL cL o 1 ov) H) (hD : va_D A (wX x a b ++ wM cI a pa pe st bn hc hm (nI cN) (nI rN) lo ++ wM cI b pa2 pe2 st2 bn2 hc2 hm2 C2 R2 lo2 ++ wN cI v pt pd ab nw kp wy th (nI cN) (nI rN) tn ++ wL cL o 1 ov)) (hS : va_S A s.heap H locs) (hl : lv_has ls 9 [(4, .int (nI (4 * k))), (3, .ref o), (2, .ref (v 0)), (1, .ref x), (0, .ref b0)]) (K : ∀ d : Drawn, s.drawn.sameBut d lw_cs → LK p l e (s.setDrawn d) m b0 below meth c D cI cL x o k a b v A cells slots Q) : W p l e room_1 (s.setDrawn d0) m #[Value.ref b0] below meth c H locs cells slots Q (F0 m 1544 ls []) := by
  have Fz := F
  obtain ⟨hx, hb, hml, hown, hts, hK, hN, hKX, hZ, hA, hX, hbl, hbA, hst, hL⟩ := F.drawn d0
  have hI := hR.inv
  have hC : ¬ nI cN = 0 := nI_ne0 (by have := hR.c2; omega) (by have := hR.c9; omega)
  refine lv_aload_n hx hb dL_law_1544 rfl (lv_at hl 3 rfl) ?_
  refine kQVdD hd0 (As := []) (rest := []) (wr := [(b 0, .inr (0, [.ref (b 1), .ref (b 2), .ref (b 3), .ref (b 4), .ref (b 5), .ref (b 6), .int C2, .int R2, .int lo2])), (b 1, .inl (cI, 72, .inl pa2)), (b 2, .inl (cI, 72, .inl pe2)), (b 3, .inl (cI, 72, .inl st2)), (b 4, .inl (cI, 9, .inl bn2)), (b 5, .inl (cI, 2, .inl hc2)), (b 6, .inl (cI, 2, .inl hm2)), (v 0, .inr (2, [.int th, .int (nI cN), .int (nI rN), .ref (v 1), .ref (v 2), .ref (v 3), .ref (v 4), .ref (v 5), .int tn, .ref (v 6)])), (v 1, .inl (cI, 72, .inl pt)), (v 2, .inl (cI, 72, .inl pd)), (v 3, .inl (cI, 2, .inl ab)), (v 4, .inl (cI, 84, .inl nw)), (v 5, .inl (cI, 84, .inl kp)), (v 6, .inl (cI, 8, .inl wy)), (o, .inl (cL, 1, .inr (.inl ov)))]) (W2 := (fun _ => (wX x a b ++ wM cI a pa pe st bn hc hm (nI cN) (nI rN) lo ++ wM cI b pa2 pe2 st2 bn2 hc2 hm2 C2 R2 lo2 ++ wN cI v pt pd ab nw kp wy th (nI cN) (nI rN) tn ++ wL cL o 1 ov))) ⟨hx, hb, hml, hown, hts⟩ (mX1_meanInBins l D cI x b a pa pe st bn hc hm (nI cN) (nI rN) lo hC _) (cwV 0 hts gL_law_X1_meanInBins rfl rfl rfl (by decide +kernel) ⟨Nat.le_of_ble_eq_true rfl, Nat.le_of_ble_eq_true rfl⟩) hP hD hK hN hS hA [0, 1, 2, 3, 4, 5, 6, 7] (by decide) rfl [8, 9, 10, 11, 12, 13, 14, 15, 16, 17, 18, 19, 20, 21, 22] (by decide) rfl (by decide) [15, 16, 17, 18, 19, 20, 21, 22, 0, 1, 2, 3, 4, 5, 6, 7, 8, 9, 10, 11, 12, 13, 14] (by decide) (fun _ => rfl) [0] rfl rfl rfl rfl hl.1 rfl (Nat.le_of_ble_eq_true rfl) dL_law_1545 ⟨by omega, by omega⟩ (fun r1 u1 H locs hr1 hP hD hS d1 hd1 => ?_)
  have hP : va_P D vwCl (wX x a b ++ wM cI a pa pe st bn hc hm (nI cN) (nI rN) lo ++ wM cI b pa2 pe2 st2 bn2 hc2 hm2 C2 R2 lo2 ++ wN cI v pt pd ab nw kp wy th (nI cN) (nI rN) tn ++ wL cL o 1 ov) H := hP
  have hD : va_D A (wX x a b ++ wM cI a pa pe st bn hc hm (nI cN) (nI rN) lo ++ wM cI b pa2 pe2 st2 bn2 hc2 hm2 C2 R2 lo2 ++ wN cI v pt pd ab nw kp wy th (nI cN) (nI rN) tn ++ wL cL o 1 ov) := hD
  obtain ⟨hx, hb, hml, hown, hts, hK, hN, hKX, hZ, hA, hX, hbl, hbA, hst, hL⟩ := Fz.drawn d1
  refine lv_dstore (lv' := [(5, .double r1), (4, .int (nI (4 * k))), (3, .ref o), (2, .ref (v 0)), (1, .ref x), (0, .ref b0)]) hx hb dL_law_1548 hl (by decide) rfl (fun ls hl => ?_)
  refine lv_aload_n hx hb dL_law_1550 rfl (lv_at hl 3 rfl) ?_
  refine kQVdD hd1 (As := []) (rest := []) (wr := [(x, .inr (1, [.ref (a 0), .ref (b 0)])), (a 0, .inr (0, [.ref (a 1), .ref (a 2), .ref (a 3), .ref (a 4), .ref (a 5), .ref (a 6), .int (nI cN), .int (nI rN), .int lo])), (a 1, .inl (cI, 72, .inl pa)), (a 2, .inl (cI, 72, .inl pe)), (a 3, .inl (cI, 72, .inl st)), (a 4, .inl (cI, 9, .inl bn)), (a 5, .inl (cI, 2, .inl hc)), (a 6, .inl (cI, 2, .inl hm)), (b 0, .inr (0, [.ref (b 1), .ref (b 2), .ref (b 3), .ref (b 4), .ref (b 5), .ref (b 6), .int C2, .int R2, .int lo2])), (b 1, .inl (cI, 72, .inl pa2)), (b 2, .inl (cI, 72, .inl pe2)), (b 3, .inl (cI, 72, .inl st2)), (b 4, .inl (cI, 9, .inl bn2)), (b 5, .inl (cI, 2, .inl hc2)), (b 6, .inl (cI, 2, .inl hm2)), (o, .inl (cL, 1, .inr (.inl ov)))]) (W2 := (fun _ => (wX x a b ++ wM cI a pa pe st bn hc hm (nI cN) (nI rN) lo ++ wM cI b pa2 pe2 st2 bn2 hc2 hm2 C2 R2 lo2 ++ wN cI v pt pd ab nw kp wy 0 (nI cN) (nI rN) tn ++ wL cL o 1 ov))) ⟨hx, hb, hml, hown, hts⟩ (mX2_meanInBins l D cI v pt pd ab nw kp wy th cN rN tn hR.c9 _) (cwV 0 hts gL_law_X2_meanInBins rfl rfl rfl (by decide +kernel) ⟨Nat.le_of_ble_eq_true rfl, Nat.le_of_ble_eq_true rfl⟩) hP hD hK hN hS hA [15, 16, 17, 18, 19, 20, 21] (by decide) rfl [0, 1, 2, 3, 4, 5, 6, 7, 8, 9, 10, 11, 12, 13, 14, 22] (by decide) rfl (by decide) [0, 1, 2, 3, 4, 5, 6, 7, 8, 9, 10, 11, 12, 13, 14, 16, 17, 18, 19, 20, 21, 22, 15] (by decide) (fun _ => rfl) [0] rfl rfl rfl rfl hl.1 rfl (Nat.le_of_ble_eq_true rfl) dL_law_1551 ⟨by omega, by omega⟩ (fun r2 u2 H locs hr2 hP hD hS d2 hd2 => ?_)
  have hP : va_P D vwCl (wX x a b ++ wM cI a pa pe st bn hc hm (nI cN) (nI rN) lo ++ wM cI b pa2 pe2 st2 bn2 hc2 hm2 C2 R2 lo2 ++ wN cI v pt pd ab nw kp wy 0 (nI cN) (nI rN) tn ++ wL cL o 1 ov) H := hP
  have hD : va_D A (wX x a b ++ wM cI a pa pe st bn hc hm (nI cN) (nI rN) lo ++ wM cI b pa2 pe2 st2 bn2 hc2 hm2 C2 R2 lo2 ++ wN cI v pt pd ab nw kp wy 0 (nI cN) (nI rN) tn ++ wL cL o 1 ov) := hD
  obtain ⟨hx, hb, hml, hown, hts, hK, hN, hKX, hZ, hA, hX, hbl, hbA, hst, hL⟩ := Fz.drawn d2
  refine lv_dstore (lv' := [(7, .double r2), (5, .double r1), (4, .int (nI (4 * k))), (3, .ref o), (2, .ref (v 0)), (1, .ref x), (0, .ref b0)]) hx hb dL_law_1554 hl (by decide) rfl (fun ls hl => ?_)
  have hv := mean_cmp hr1 (by rw [← hR.sum]; exact hr2)
  refine lv_dload hx hb dL_law_1556 (lv_at hl 1 rfl) ?_
  refine lv_dload hx hb dL_law_1558 (lv_at hl 0 rfl) ?_
  refine lv_dcmp hx hb dL_law_1560 ?_
  have done : W p l e room_1 (s.setDrawn d2) m #[Value.ref b0] below meth c H locs (cells + 0 + 0) (slots + 0 + 0) Q (F0 m 1582 ls []) := by
    refine lv_goto (tgt := 1599) hx hb dL_law_1582 (by decide) ?_
    refine W.widen (k := cells + 10) (n := slots + 41) (by omega) (by omega) ?_
    exact K d2 hd2 cN rN pa pe st bn hc hm lo pa2 pe2 st2 bn2 hc2 hm2 C2 R2 lo2 pt pd ab nw kp wy 0 tn ov _ _ _ hR hP hD hS (lv_sub hl [2, 3, 4, 5, 6] rfl)
  refine lv_if_eq (tgt := 1582) hx hb dL_law_1561 (by decide) (fun _ => done) (fun c1 => ?_)
  refine lv_dload hx hb dL_law_1564 (lv_at hl 1 rfl) ?_
  refine lv_dload hx hb dL_law_1566 (lv_at hl 1 rfl) ?_
  refine lv_dcmp hx hb dL_law_1568 ?_
  refine lv_if_eq (tgt := 1580) hx hb dL_law_1569 (by decide) (fun c9 => absurd c9 (hv c1).1) (fun _ => ?_)
  refine lv_dload hx hb dL_law_1572 (lv_at hl 0 rfl) ?_
  refine lv_dload hx hb dL_law_1574 (lv_at hl 0 rfl) ?_
  refine lv_dcmp hx hb dL_law_1576 ?_
  exact lv_if_ne (tgt := 1582) hx hb dL_law_1577 (by decide) (fun _ => done) (fun c9 => absurd c9 (hv c1).2)
