/-! ===== a method that may draw (the mean), and its call ===== -/
section KDR
variable {p : Program} {l : Launch} {e : Env} {R : Room} {s : State} {m : MethodId} {args : Array Value} {below : List Frame} {meth : Method} {c : Code} {H : Heap} {locs : List Loc} {cells slots : Nat} {Q : State → Prop}
variable {D : va_G} {tys tys' : List (ClassId × FieldType)} {Wd Wd' : va_W}
theorem KS.drawn {s : State} (d : Drawn) (h : KS s) : KS (s.setDrawn d) := KS.same (u := s) (U := s.setDrawn d) rfl h
theorem mQD_of {y : MethodName} {ws ws' : List Cond} {rm : Room} {cc : ByteArray} {maxL mc ms : Nat} {ret : Option FieldType} {As : List Value} {Qc : Array Value → State → Outcome → State → Prop} {sz : Nat}
    (hy : plainName y.cls = true) (hw : ws = Cond.code y cc maxL ret :: ws') (hn : (lg_sl As).length ≤ maxL)
    (body : ∀ (p : Program) (e : Env) (s : State) (m : MethodId) (below : List Frame) (meth : Method) (c : Code), p.tables.exec = Jvm.exec → c.code = cc → meth.sig.returnType = ret → c.maxLocals = maxL → s.vm.findClass y.cls = some m.cls → (∀ w ∈ ws, w.before As.toArray s = true) → meth.locks = false → s.heap.size = sz → va_P D vwCl Wd s.heap → va_K D vwCl tys s → KS s → va_D (va_A Wd sz) Wd → (∀ q : Nat, s.heap.size ≤ q → va_A Wd sz q) → va_S (va_A Wd sz) s.heap s.heap [] → ∀ ls : Array Slot, lv_has ls maxL (lv_args 0 As) →
      W p l e rm s m As.toArray below meth c s.heap [] 0 0 (MQD lw_cs below Qc As.toArray s mc ms (va_A Wd sz)) (F0 m 0 ls [])) :
    MetD lw_cs l y ws rm (va_Pc As (wPQ D tys sz Wd)) Qc mc ms (va_A Wd sz) := by
  refine MetD.ofW (cc := cc) (maxL := maxL) (ret := ret) hy hw ?_
  intro p e s m args below meth c s₁ B hml hv hd0
  obtain ⟨rfl, hsz, hP, hK, hN, hD⟩ := hv
  have hl := lv_entry As (n := maxL) hn
  rw [lg_entry_eq]
  exact body p e s m below meth c B.exec B.bytes B.returns hml (findClass_of_methodNamed B.named) (atoms_spec (ws := ws) B.pre) B.notSynchronized hsz hP hK hN (hD.self) (fun q h => Or.inr (hsz ▸ h)) va_S.rf _ hl
theorem eQdD {S : Type} {w : S → va_W} {A : Nat → Prop} {cc : ByteArray} {post : UInt64 → S → Prop} {v : UInt64} {pc : Nat} {ls : Array Slot} {d1 : Drawn} (u : S) (hd1 : s.drawn.sameBut d1 lw_cs) (hx : p.tables.exec = Jvm.exec) (hb : c.code = cc) (hr : meth.sig.returnType = some .double) (hlocks : meth.locks = false) (hP : va_P D vwCl (w u) H) (hD : va_D A (w u)) (hK : va_K D vwCl tys s) (hS : va_S A s.heap H locs) (hdg : decode cc pc = .ok (.dreturn, 1)) (h : post v u) : W p l e R (s.setDrawn d1) m args below meth c H locs cells slots (MQD lw_cs below (va_Qd post (wB D tys A w) A) args s cells slots A) (F0 m pc ls [.double v]) :=
  W.endD hd1 (W.dret hx hb hr (fun t ht hW => ⟨⟨v, u, rfl, h, by rw [ht]; exact hP, va_K.moved (u := s) hW.alike hK, hD⟩, va_S.F (s := s.setDrawn d1) hS ht⟩) hS.2.2 hdg hlocks)
variable {y : MethodName} {bytes cc : ByteArray} {maxL nL n index mc ms : Nat} {ret : Option FieldType} {ws : List Cond} {rm : Room} {Ts : List Cond} {own C host : String} {b : Addr} {As st0 rest : List Value} {pc : Nat} {ls : Array Slot} {T : u_T} {N ci : Nat} {fs : List Value}
variable {S : Type} {w W2 : S → va_W} {wr : va_W} {A : Nat → Prop} {H0 : Heap}
theorem kQVdD {post : UInt64 → S → Prop} {d0 : Drawn} (hd0 : s.drawn.sameBut d0 lw_cs) (Sf : CallFix p m c cc nL (s.setDrawn d0) args Ts own) (hM : MetD lw_cs l y ws rm (va_Pc (.ref b :: As) (wPQ D tys' H.size Wd')) (va_Qd post (wB D tys' (va_A Wd' H.size) w) (va_A Wd' H.size)) mc ms (va_A Wd' H.size)) (cw : CallW R (s.setDrawn d0) args own C index y bytes maxL ret ws rm mc ms n)
    (hP : va_P D vwCl Wd H) (hD : va_D A Wd) (hK : va_K D vwCl tys (s.setDrawn d0)) (hN : KS (s.setDrawn d0)) (hS : va_S A H0 H locs) (hA : ∀ q, H0.size ≤ q → A q) (is : List Nat) (hnd : va_nd is = true) (hW : is.map (fun i => Wd[i]?) = Wd'.map some) (ir : List Nat) (hrn : va_nd ir = true) (hR : ir.map (fun i => Wd[i]?) = wr.map some) (hdis : ∀ i ∈ ir, i ∉ is) (pm : List Nat) (hpn : va_nd pm = true) (hpm : ∀ u, pm.map (fun i => (wr ++ w u)[i]?) = (W2 u).map some) (ts : List Nat) (hT : ts.filterMap (fun i => tys[i]?) = tys') (hci : vwCl[ci]? = some (C, T, N)) (hq0 : Wd'[0]? = some (b, .inr (ci, fs)))
    (hn : As.length = n) (hsize : ls.size = nL) (hstack : st0 = As.reverse ++ .ref b :: rest) (hW8 : (rest.map fun v => v.category).sum ≤ 8) (hdg : decode cc pc = .ok (.invokevirtual index, 3)) (hf : cells + mc ≤ R.cells ∧ slots + ms ≤ R.slots)
    (kk : ∀ (r : UInt64) (u : S) (H1 : Heap) (locs1 : List Loc), post r u → va_P D vwCl (W2 u) H1 → va_D A (W2 u) → va_S A H0 H1 locs1 → ∀ d' : Drawn, s.drawn.sameBut d' lw_cs → W p l e R (s.setDrawn d') m args below meth c H1 locs1 (cells + mc) (slots + ms) Q (F0 m (pc + 3) ls (.double r :: rest))) : W p l e R (s.setDrawn d0) m args below meth c H locs cells slots Q (F0 m pc ls st0) := by
  have hFc := va_free (wc := Wd') hD hS hA is hW
  refine va_calldD hd0 (va_runV_D (As := As) (rest := rest) Sf hM cw ⟨wPQ.blind, va_recv hK (hP.sub is (fm_of hW)) hci hq0, wPQ.of (hP.sub is (fm_of hW)) (hK.sub ts hT) hN (hD.sub is hnd hW)⟩ rfl hn hsize hstack (lv_room hW8) hdg hf) hS (fun q _ h => hFc q h) hFc (fun r u t H1 locs1 ht hvm hw hB hz1 hk1 hS1 d' hd' => ?_)
  obtain ⟨hP1, hK1, hD1⟩ := hB
  rw [ht] at hP1
  obtain ⟨hP2, hD2⟩ := va_join hP hD is ir hW hR hrn hdis hk1 hFc hP1 hD1
  exact kk r u H1 locs1 hw (hP2.sub pm (fm_of (hpm u))) (hD2.sub pm hpn (hpm u)) hS1 d' hd'
/-- a static call of a method with handlers, which returns -/
theorem kQWi {post : Int32 → S → Prop} {hh : List (Nat × Nat × Nat × Nat)} (Sf : CallFix p m c cc nL s args Ts own) (hM : Met l y ws rm (va_Pc As (fun U => wPQ D tys' H.size Wd' U ∧ (KX U ∧ ZS U U.heap))) (va_Qi post (wB D tys' (va_A Wd' H.size) w) (va_A Wd' H.size)) mc ms (va_A Wd' H.size)) (cw : vx_CSW R s args own index y bytes maxL ret hh ws rm mc ms n)
    (hP : va_P D vwCl Wd H) (hD : va_D A Wd) (hK : va_K D vwCl tys s) (hN : KS s) (hX : KX s) (hZ : ZS s H) (hS : va_S A H0 H locs) (hA : ∀ q, H0.size ≤ q → A q) (is : List Nat) (hnd : va_nd is = true) (hW : is.map (fun i => Wd[i]?) = Wd'.map some) (ir : List Nat) (hrn : va_nd ir = true) (hR : ir.map (fun i => Wd[i]?) = wr.map some) (hdis : ∀ i ∈ ir, i ∉ is) (pm : List Nat) (hpn : va_nd pm = true) (hpm : ∀ u, pm.map (fun i => (wr ++ w u)[i]?) = (W2 u).map some) (ts : List Nat) (hT : ts.filterMap (fun i => tys[i]?) = tys')
    (hn : As.length = n) (hsize : ls.size = nL) (hstack : st0 = As.reverse ++ rest) (hW8 : (rest.map fun v => v.category).sum ≤ 8) (hdg : decode cc pc = .ok (.invokestatic index, 3)) (hf : cells + mc ≤ R.cells ∧ slots + ms ≤ R.slots)
    (kk : ∀ (r : Int32) (u : S) (H1 : Heap) (locs1 : List Loc), post r u → va_P D vwCl (W2 u) H1 → va_D A (W2 u) → va_S A H0 H1 locs1 → W p l e R s m args below meth c H1 locs1 (cells + mc) (slots + ms) Q (F0 m (pc + 3) ls (.int r :: rest))) : W p l e R s m args below meth c H locs cells slots Q (F0 m pc ls st0) := by
  have hFc := va_free (wc := Wd') hD hS hA is hW
  have hbl : FrameBlind (va_Pc As (fun U => wPQ D tys' H.size Wd' U ∧ (KX U ∧ ZS U U.heap))) := fun a U g mk q => ⟨q.1, (wPQ.blind (As := As) a U g mk ⟨q.1, q.2.1⟩).2, KX.same (u := U) (U := U.calling g mk a) rfl q.2.2.1, ⟨vx_Zq.moved (u := U) (U := U.calling g mk a) (Vm.Alike.refl U.vm) q.2.2.2.1, vx_Zq.moved (u := U) (U := U.calling g mk a) (Vm.Alike.refl U.vm) q.2.2.2.2⟩⟩
  have hof : ∀ U : State, U.heap = H → s.WarmedH U.vm → va_Pc As (fun U => wPQ D tys' H.size Wd' U ∧ (KX U ∧ ZS U U.heap)) As.toArray U := fun U hU hWm => ⟨rfl, (wPQ.of (As := As) (hP.sub is (fm_of hW)) (hK.sub ts hT) hN (hD.sub is hnd hW) U hU hWm).2, KX.warm hWm hX, by subst hU; exact ⟨vx_Zq.moved hWm.alike hZ.1, vx_Zq.moved hWm.alike hZ.2⟩⟩
  refine va_calli (vx_runSW (As := As) (rest := rest) Sf hM cw ⟨hbl, hof⟩ rfl hn hsize hstack (lv_room hW8) hdg hf) hS (fun q _ h => hFc q h) hFc (fun r u t H1 locs1 ht hvm hw hB hz1 hk1 hS1 => ?_)
  obtain ⟨hP1, hK1, hD1⟩ := hB
  rw [ht] at hP1
  obtain ⟨hP2, hD2⟩ := va_join hP hD is ir hW hR hrn hdis hk1 hFc hP1 hD1
  exact kk r u H1 locs1 hw (hP2.sub pm (fm_of (hpm u))) (hD2.sub pm hpn (hpm u)) hS1
end KDR
