theorem eQd {p : Program} {l : Launch} {e : Env} {R : Room} {s : State} {m : MethodId} {args : Array Value} {below : List Frame} {meth : Method} {c : Code} {H : Heap} {locs : List Loc} {cells slots : Nat} {D : va_G} {tys : List (ClassId × FieldType)} {S : Type} {w : S → va_W} {A : Nat → Prop} {cc : ByteArray} {post : UInt64 → S → Prop} {v : UInt64} {pc : Nat} {ls : Array Slot} (u : S) (hx : p.tables.exec = Jvm.exec) (hb : c.code = cc) (hr : meth.sig.returnType = some .double) (hlocks : meth.locks = false) (hP : va_P D vwCl (w u) H) (hD : va_D A (w u)) (hK : va_K D vwCl tys s) (hS : va_S A s.heap H locs) (hdg : decode cc pc = .ok (.dreturn, 1)) (h : post v u) : W p l e R s m args below meth c H locs cells slots (MQ below (va_Qd post (wB D tys A w) A) args s cells slots A) (F0 m pc ls [.double v]) := W.dret hx hb hr (fun t ht hW => ⟨⟨v, u, rfl, h, by rw [ht]; exact hP, va_K.moved hW.alike hK, hD⟩, hS.F ht⟩) hS.2.2 hdg hlocks
theorem iw_X1_meanInBins_X1 : ∀ w ∈ wsX10, w ∈ wsX1_meanInBins := mem_pos [14, 15] (by decide +kernel)
set_option maxHeartbeats 4000000 in
set_option maxRecDepth 100000 in
theorem mX1_meanInBins (l : Launch) (D : va_G) (cI : ClassId) (x : Nat) (b : Nat → Nat) (a : Nat → Nat) (pa pe st bn hc hm : Nat → Int32) (lo : Int32) (R : Int32) (cN : Nat) (h2 : 2 ≤ cN) (h9 : cN ≤ 9) (sz : Nat) : Met l yX1_meanInBins wsX1_meanInBins ({ frames := 1, cells := 0, slots := 0, locals := 25 } : Room) (va_Pc [.ref x] (wPQ D [(cI, .int)] sz (wX x a b ++ wM cI a pa pe st bn hc hm ((nI cN)) R lo))) (va_Qd (fun (zz : UInt64) (_ : Unit) => zz = FP.ddiv (FP.i2d (xSum bn)) (FP.i2d (nI cN))) (wB D [(cI, .int)] (va_A (wX x a b ++ wM cI a pa pe st bn hc hm ((nI cN)) R lo) sz) (fun _ : Unit => (wX x a b ++ wM cI a pa pe st bn hc hm ((nI cN)) R lo))) (va_A (wX x a b ++ wM cI a pa pe st bn hc hm ((nI cN)) R lo) sz)) 0 0 (va_A (wX x a b ++ wM cI a pa pe st bn hc hm ((nI cN)) R lo) sz) := by
  refine mQ_of (by decide) rfl (Nat.le_of_ble_eq_true rfl) ?_
  intro p e s m below meth c hx hb hr hml hown hin hts hlocks hsz hP hK hN hD hA hS ls hl
  have hown : s.vm.findClass RX1 = some m.cls := hown
  have hl : lv_has ls 2 [(0, .ref x)] := hl
  have hP : va_P D vwCl (wX x a b ++ wM cI a pa pe st bn hc hm ((nI cN)) R lo) s.heap := hP
  refine lv_aload_n hx hb dX1_meanInBins_0 rfl (lv_at hl 0 rfl) ?_
  refine kRVi (As := []) (rest := []) ⟨hx, hb, hml, hown, hts⟩ (mX1_columns l D cI x b a pa pe st bn hc hm (nI cN) R lo) (cwV 0 hts gX1_meanInBins_X1_columns rfl rfl rfl (by decide +kernel) ⟨Nat.le_of_ble_eq_true rfl, Nat.le_of_ble_eq_true rfl⟩) hP hK hN [0, 1, 2, 3, 4, 5, 6, 7] rfl [0] rfl rfl rfl rfl hl.1 rfl (Nat.le_of_ble_eq_true rfl) dX1_meanInBins_1 ⟨Nat.zero_le _, Nat.zero_le _⟩ (fun r_1 hr_1 => ?_)
  subst r_1
  refine lv_istore_n (lv' := [(1, .int (nI cN)), (0, .ref x)]) hx hb dX1_meanInBins_4 rfl hl (by decide) rfl (fun ls hl => ?_)
  refine lv_iload_n hx hb dX1_meanInBins_5 rfl (lv_at hl 0 rfl) ?_
  refine lv_if_ne (tgt := 13) hx hb dX1_meanInBins_6 (by decide) (fun c_2 => ?_) (fun c9 => absurd c9 (nI_ne0 (by omega) (by omega)))
  refine lv_aload_n hx hb dX1_meanInBins_13 rfl (lv_at hl 1 rfl) ?_
  refine va_get (D := D) (ci := 1) (v := .ref (a 0)) (C := RX1) (T := TX1) (N := 2) hx hb hts iw_X1_meanInBins_X1 hown hK hP 0 rfl rfl 0 (by decide) (hts (.fieldLink RX1 10 "MarbleRamps" "now" "LMarbleRamps$Machine;") (mg 1 rfl)) (fun _ h9 => h9) rfl dX1_meanInBins_14 ?_
  refine kRVi (As := []) (rest := []) ⟨hx, hb, hml, hown, hts⟩ (mX0_marblesInBins l D cI a pa pe st bn hc hm (nI cN) R lo) (cwV 0 hts gX1_meanInBins_X0_marblesInBins rfl rfl rfl (by decide +kernel) ⟨Nat.le_of_ble_eq_true rfl, Nat.le_of_ble_eq_true rfl⟩) hP hK hN [1, 2, 3, 4, 5, 6, 7] rfl [0] rfl rfl rfl rfl hl.1 rfl (Nat.le_of_ble_eq_true rfl) dX1_meanInBins_17 ⟨Nat.zero_le _, Nat.zero_le _⟩ (fun r_3 hr_3 => ?_)
  subst r_3
  refine lv_i2d hx hb dX1_meanInBins_20 ?_
  refine lv_iload_n hx hb dX1_meanInBins_21 rfl (lv_at hl 0 rfl) ?_
  refine lv_i2d hx hb dX1_meanInBins_22 ?_
  refine lv_ddiv hx hb dX1_meanInBins_23 (mean_ok _ h2 h9) ?_
  exact eQd () hx hb hr hlocks hP hD hK hS dX1_meanInBins_24 rfl
