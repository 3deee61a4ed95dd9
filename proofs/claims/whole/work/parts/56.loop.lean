theorem lp_end {L k : Nat} (hL : L ≤ 2048) (hk : k ≤ 512) (h : ¬ Int32.ofNat L - 4 < nI (4 * k)) : 4 * k + 3 < L := by
  have e : (nI L - nI 4).toInt = (L : Int) - 4 := pk_sub_toInt (by omega) (by omega)
  rw [Int32.lt_iff_toInt_lt, show (Int32.ofNat L - 4 : Int32) = nI L - nI 4 from rfl, e, nI_toInt (by omega)] at h
  omega
theorem lp_on {L k : Nat} (hL : L ≤ 2048) (hk : k = 512) : Int32.ofNat L - 4 < nI (4 * k) := by
  have e : (nI L - nI 4).toInt = (L : Int) - 4 := pk_sub_toInt (by omega) (by omega)
  rw [Int32.lt_iff_toInt_lt, show (Int32.ofNat L - 4 : Int32) = nI L - nI 4 from rfl, e, nI_toInt (by omega)]
  omega
theorem lp_4 (k : Nat) : nI (4 * k) + Int32.ofInt 4 = nI (4 * (k + 1)) := by
  rw [show (Int32.ofInt 4 : Int32) = nI 4 from by decide, nI_add, Nat.mul_succ]
set_option maxHeartbeats 4000000 in
set_option maxRecDepth 100000 in
theorem lw_loop {p : Program} {l : Launch} {e : Env} {s : State} {m : MethodId} {below : List Frame} {meth : Method} {c : Code} {Q : State → Prop} {D : va_G} {cI cL : ClassId} {x o b0 L : Nat} {a b v : Nat → Nat} {xs : Nat → Int32} {A : Nat → Prop} {c0 s0 : Nat} (F : LF p l s m b0 c D cI cL L xs A) (hc : c0 + 5120 ≤ room_1.cells) (hs : s0 + 20992 ≤ room_1.slots) (hend : ∀ (d : Drawn) (H : Heap) (locs : List Loc) (cells slots : Nat) (ls : Array Slot), s.drawn.sameBut d lw_cs → va_S A s.heap H locs → cells ≤ c0 + 5120 → slots ≤ s0 + 20992 → W p l e room_1 (s.setDrawn d) m #[Value.ref b0] below meth c H locs cells slots Q (F0 m 1605 ls [])) : ∀ (n k : Nat), k + n = 512 → ∀ (d : Drawn), s.drawn.sameBut d lw_cs → ∀ (cN rN : Nat) (pa pe st bn hc hm : Nat → Int32) (lo : Int32) (pa2 pe2 st2 bn2 hc2 hm2 : Nat → Int32) (C2 R2 lo2 : Int32) (pt pd ab nw kp wy : Nat → Int32) (th tn : Int32) (ov : Nat → Int64) (H : Heap) (locs : List Loc) (ls : Array Slot), Rel cN rN pa pe st bn hc hm lo pt pd ab nw → va_P D vwCl (wX x a b ++ wM cI a pa pe st bn hc hm (nI cN) (nI rN) lo ++ wM cI b pa2 pe2 st2 bn2 hc2 hm2 C2 R2 lo2 ++ wN cI v pt pd ab nw kp wy th (nI cN) (nI rN) tn ++ wL cL o 1 ov) H → va_D A (wX x a b ++ wM cI a pa pe st bn hc hm (nI cN) (nI rN) lo ++ wM cI b pa2 pe2 st2 bn2 hc2 hm2 C2 R2 lo2 ++ wN cI v pt pd ab nw kp wy th (nI cN) (nI rN) tn ++ wL cL o 1 ov) → va_S A s.heap H locs → lv_has ls 9 [(4, .int (nI (4 * k))), (3, .ref o), (2, .ref (v 0)), (1, .ref x), (0, .ref b0)] → W p l e room_1 (s.setDrawn d) m #[Value.ref b0] below meth c H locs (c0 + 10 * k) (s0 + 41 * k) Q (F0 m 23 ls []) := by
  intro n
  induction n with
  | zero =>
    intro k hkn d hd cN rN pa pe st bn hc hm lo pa2 pe2 st2 bn2 hc2 hm2 C2 R2 lo2 pt pd ab nw kp wy th tn ov H locs ls hR hP hD hS hl
    have Fd := F.drawn d
    obtain ⟨hx, hb, hml, hown, hts, hK, hN, hKX, hZ, hA, hX, hbl, hbA, hst, hL⟩ := Fd
    refine lv_iload hx hb dL_law_23 (lv_at hl 0 rfl) ?_
    refine lv_aload_n hx hb dL_law_25 rfl (lv_at hl 4 rfl) ?_
    refine va_slen hx hb hX hbl hbA hS dL_law_26 ?_
    refine lv_iconst (v := 4) hx hb dL_law_27 (by decide) ?_
    refine lv_isub hx hb dL_law_28 ?_
    refine lv_icmp_gt (tgt := 1605) hx hb dL_law_29 (by decide) (fun _ => ?_) (fun c9 => absurd (lp_on hL (by omega)) c9)
    exact hend d H locs _ _ ls hd hS (by omega) (by omega)
  | succ n ih =>
    intro k hkn d hd cN rN pa pe st bn hc hm lo pa2 pe2 st2 bn2 hc2 hm2 C2 R2 lo2 pt pd ab nw kp wy th tn ov H locs ls hR hP hD hS hl
    have Fd := F.drawn d
    obtain ⟨hx, hb, hml, hown, hts, hK, hN, hKX, hZ, hA, hX, hbl, hbA, hst, hL⟩ := Fd
    refine lv_iload hx hb dL_law_23 (lv_at hl 0 rfl) ?_
    refine lv_aload_n hx hb dL_law_25 rfl (lv_at hl 4 rfl) ?_
    refine va_slen hx hb hX hbl hbA hS dL_law_26 ?_
    refine lv_iconst (v := 4) hx hb dL_law_27 (by decide) ?_
    refine lv_isub hx hb dL_law_28 ?_
    refine lv_icmp_gt (tgt := 1605) hx hb dL_law_29 (by decide) (fun _ => hend d H locs _ _ ls hd hS (by omega) (by omega)) (fun c1 => ?_)
    have hk : 4 * k + 3 < L := lp_end hL (by omega) c1
    have h1 : c0 + 10 * k + 10 ≤ room_1.cells := by omega
    have h2 : s0 + 41 * k + 41 ≤ room_1.slots := by omega
    have KK : ∀ d2 : Drawn, s.drawn.sameBut d2 lw_cs → LK p l e (s.setDrawn d2) m b0 below meth c D cI cL x o k a b v A (c0 + 10 * k) (s0 + 41 * k) Q := by
      intro d2 hd2 cN rN pa pe st bn hc hm lo pa2 pe2 st2 bn2 hc2 hm2 C2 R2 lo2 pt pd ab nw kp wy th tn ov H locs ls hR hP hD hS hl
      refine lv_iinc (v := nI (4 * (k + 1))) (lv' := [(4, .int (nI (4 * (k + 1)))), (3, .ref o), (2, .ref (v 0)), (1, .ref x), (0, .ref b0)]) hx hb dL_law_1599 hl (k := 0) rfl (lp_4 k) (by decide) rfl (fun ls hl => ?_)
      refine lv_goto (tgt := 23) hx hb dL_law_1602 (by decide) ?_
      exact ih (k + 1) (by omega) d2 hd2 cN rN pa pe st bn hc hm lo pa2 pe2 st2 bn2 hc2 hm2 C2 R2 lo2 pt pd ab nw kp wy th tn ov H locs ls hR hP hD hS hl
    have KL := KK d hd
    have Fd := F.drawn d
    refine lv_aload_n hx hb dL_law_32 rfl (lv_at hl 4 rfl) ?_
    refine lv_iload hx hb dL_law_33 (lv_at hl 0 rfl) ?_
    refine va_sld hx hb hX hbl hbA hS (vp_in_nI (by omega) (by omega)) dL_law_35 ?_
    refine lv_bipush (v := 31) hx hb dL_law_36 (by decide) ?_
    refine lv_iand hx hb dL_law_38 ?_
    obtain ⟨j, hj, ej⟩ := pk_andE (xs (nI (4 * k)).toNatClampNeg) (m := 31) 5 (by decide)
    rw [ej]
    by_cases hj2 : 28 ≤ j
    · refine lv_tableOut (tgt := 1599) hx hb dL_law_39 (Or.inr (by rw [nI_toInt (by omega)]; omega)) (by decide) ?_
      refine W.widen (k := c0 + 10 * k + 10) (n := s0 + 41 * k + 41) (by omega) (by omega) ?_
      exact KL cN rN pa pe st bn hc hm lo pa2 pe2 st2 bn2 hc2 hm2 C2 R2 lo2 pt pd ab nw kp wy th tn ov H locs ls hR hP hD hS hl
    · have hj3 : j < 28 := by omega
      rcases (show j = 0 ∨ j = 1 ∨ j = 2 ∨ j = 3 ∨ j = 4 ∨ j = 5 ∨ j = 6 ∨ j = 7 ∨ j = 8 ∨ j = 9 ∨ j = 10 ∨ j = 11 ∨ j = 12 ∨ j = 13 ∨ j = 14 ∨ j = 15 ∨ j = 16 ∨ j = 17 ∨ j = 18 ∨ j = 19 ∨ j = 20 ∨ j = 21 ∨ j = 22 ∨ j = 23 ∨ j = 24 ∨ j = 25 ∨ j = 26 ∨ j = 27 by omega) with rfl | rfl | rfl | rfl | rfl | rfl | rfl | rfl | rfl | rfl | rfl | rfl | rfl | rfl | rfl | rfl | rfl | rfl | rfl | rfl | rfl | rfl | rfl | rfl | rfl | rfl | rfl | rfl
      · refine lv_tableIn (tgt := 164) (off := 125) hx hb dL_law_39 (by decide) (by decide) (by rfl) (by decide) ?_
        exact cs_0 Fd hR hk h1 h2 hP hD hS hl KL
      · refine lv_tableIn (tgt := 232) (off := 193) hx hb dL_law_39 (by decide) (by decide) (by rfl) (by decide) ?_
        exact cs_1 Fd hR hk h1 h2 hP hD hS hl KL
      · refine lv_tableIn (tgt := 312) (off := 273) hx hb dL_law_39 (by decide) (by decide) (by rfl) (by decide) ?_
        exact cs_2 Fd hR hk h1 h2 hP hD hS hl KL
      · refine lv_tableIn (tgt := 392) (off := 353) hx hb dL_law_39 (by decide) (by decide) (by rfl) (by decide) ?_
        exact cs_3 Fd hR hk h1 h2 hP hD hS hl KL
      · refine lv_tableIn (tgt := 467) (off := 428) hx hb dL_law_39 (by decide) (by decide) (by rfl) (by decide) ?_
        exact cs_4 Fd hR hk h1 h2 hP hD hS hl KL
      · refine lv_tableIn (tgt := 547) (off := 508) hx hb dL_law_39 (by decide) (by decide) (by rfl) (by decide) ?_
        exact cs_5 Fd hR hk h1 h2 hP hD hS hl KL
      · refine lv_tableIn (tgt := 603) (off := 564) hx hb dL_law_39 (by decide) (by decide) (by rfl) (by decide) ?_
        exact cs_6 Fd hR hk h1 h2 hP hD hS hl KL
      · refine lv_tableIn (tgt := 671) (off := 632) hx hb dL_law_39 (by decide) (by decide) (by rfl) (by decide) ?_
        exact cs_7 Fd hR hk h1 h2 hP hD hS hl KL
      · refine lv_tableIn (tgt := 684) (off := 645) hx hb dL_law_39 (by decide) (by decide) (by rfl) (by decide) ?_
        exact cs_8 Fd hR hk h1 h2 hP hD hS hl KL
      · refine lv_tableIn (tgt := 697) (off := 658) hx hb dL_law_39 (by decide) (by decide) (by rfl) (by decide) ?_
        exact cs_9 Fd hR hk h1 h2 hP hD hS hl KL
      · refine lv_tableIn (tgt := 710) (off := 671) hx hb dL_law_39 (by decide) (by decide) (by rfl) (by decide) ?_
        exact cs_10 Fd hR hk h1 h2 hP hD hS hl KL
      · refine lv_tableIn (tgt := 778) (off := 739) hx hb dL_law_39 (by decide) (by decide) (by rfl) (by decide) ?_
        exact cs_11 Fd hR hk h1 h2 hP hD hS hl KL
      · refine lv_tableIn (tgt := 853) (off := 814) hx hb dL_law_39 (by decide) (by decide) (by rfl) (by decide) ?_
        exact cs_12 Fd hR hk h1 h2 hP hD hS hl KL
      · refine lv_tableIn (tgt := 921) (off := 882) hx hb dL_law_39 (by decide) (by decide) (by rfl) (by decide) ?_
        exact cs_13 Fd hR hk h1 h2 hP hD hS hl KL
      · refine lv_tableIn (tgt := 977) (off := 938) hx hb dL_law_39 (by decide) (by decide) (by rfl) (by decide) ?_
        exact cs_14 Fd hR hk h1 h2 hP hD hS hl KL
      · refine lv_tableIn (tgt := 990) (off := 951) hx hb dL_law_39 (by decide) (by decide) (by rfl) (by decide) ?_
        exact cs_15 Fd hR hk h1 h2 hP hD hS hl KL
      · refine lv_tableIn (tgt := 1046) (off := 1007) hx hb dL_law_39 (by decide) (by decide) (by rfl) (by decide) ?_
        exact cs_16 Fd hR hk h1 h2 hP hD hS hl KL
      · refine lv_tableIn (tgt := 1102) (off := 1063) hx hb dL_law_39 (by decide) (by decide) (by rfl) (by decide) ?_
        exact cs_17 Fd hR hk h1 h2 hP hD hS hl KL
      · refine lv_tableIn (tgt := 1115) (off := 1076) hx hb dL_law_39 (by decide) (by decide) (by rfl) (by decide) ?_
        exact cs_18 Fd hR hk h1 h2 hP hD hS hl KL
      · refine lv_tableIn (tgt := 1171) (off := 1132) hx hb dL_law_39 (by decide) (by decide) (by rfl) (by decide) ?_
        exact cs_19 Fd hR hk h1 h2 hP hD hS hl KL
      · refine lv_tableIn (tgt := 1227) (off := 1188) hx hb dL_law_39 (by decide) (by decide) (by rfl) (by decide) ?_
        exact cs_20 Fd hR hk h1 h2 hP hD hS hl KL
      · refine lv_tableIn (tgt := 1295) (off := 1256) hx hb dL_law_39 (by decide) (by decide) (by rfl) (by decide) ?_
        exact cs_21 Fd hR hk h1 h2 hP hD hS hl KL
      · refine lv_tableIn (tgt := 1351) (off := 1312) hx hb dL_law_39 (by decide) (by decide) (by rfl) (by decide) ?_
        exact cs_22 Fd hR hk h1 h2 hP hD hS hl KL
      · refine lv_tableIn (tgt := 1419) (off := 1380) hx hb dL_law_39 (by decide) (by decide) (by rfl) (by decide) ?_
        exact cs_23 Fd hR hk h1 h2 hP hD hS hl KL
      · refine lv_tableIn (tgt := 1475) (off := 1436) hx hb dL_law_39 (by decide) (by decide) (by rfl) (by decide) ?_
        exact cs_24 Fd hR hk h1 h2 hP hD hS hl KL
      · refine lv_tableIn (tgt := 1531) (off := 1492) hx hb dL_law_39 (by decide) (by decide) (by rfl) (by decide) ?_
        exact cs_25 Fd hR hk h1 h2 hP hD hS hl KL
      · refine lv_tableIn (tgt := 1544) (off := 1505) hx hb dL_law_39 (by decide) (by decide) (by rfl) (by decide) ?_
        exact cs_26 hd F hR hk h1 h2 hP hD hS hl KK
      · refine lv_tableIn (tgt := 1585) (off := 1546) hx hb dL_law_39 (by decide) (by decide) (by rfl) (by decide) ?_
        exact cs_27 Fd hR hk h1 h2 hP hD hS hl KL
