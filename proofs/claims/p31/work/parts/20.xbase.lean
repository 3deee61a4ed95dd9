/-! ===== calls that throw: the class's own exceptions leave a method, and are caught in the law ===== -/
abbrev eIO : String := "java/lang/IndexOutOfBoundsException"
abbrev eIA : String := "java/lang/IllegalArgumentException"
abbrev eIS : String := "java/lang/IllegalStateException"
abbrev eNm : List String := ["java/lang/RuntimeException", "java/lang/Exception"]
def XT (E : String) : String → State → State → Prop := fun E' st t => E' = E ∧ st.heap.size ≤ t.heap.size ∧ ∀ q : Nat, q < st.heap.size → t.heap[q]? = st.heap[q]?
def XN : Array Value → State → Outcome → State → Prop := fun _ _ _ _ => False
def KX (U : State) : Prop := (∃ a, vk_R RX1 195 "there is no such column" a U) ∧ (∃ a, vk_R RX1 197 "there is no such hopper" a U) ∧ (∃ a, vk_R RX1 189 "there is no such row" a U) ∧ (∃ a, vk_R RX1 201 "a number is too small or too large" a U) ∧ (∃ a, vk_R RX1 44 "there is no toggle" a U) ∧ va_Nw (.castable eIO eIO) U ∧ va_Nw (.castable eIA eIA) U ∧ va_Nw (.castable eIS eIS) U ∧ va_Nw (.declares (Bundle.initS "java/lang/RuntimeException")) U ∧ va_Nw (.declares (Bundle.initS "java/lang/Exception")) U ∧ va_Nw (.declares (Bundle.initS Bundle.tN)) U
theorem KX.warm {s U : State} (hW : s.WarmedH U.vm) (h : KX s) : KX U := by
  obtain ⟨⟨a1, h1⟩, ⟨a2, h2⟩, ⟨a3, h3⟩, ⟨a4, h4⟩, ⟨a5, h5⟩, h6, h7, h8, h11, h12, h13⟩ := h
  exact ⟨⟨a1, vk_R.warm hW h1⟩, ⟨a2, vk_R.warm hW h2⟩, ⟨a3, vk_R.warm hW h3⟩, ⟨a4, vk_R.warm hW h4⟩, ⟨a5, vk_R.warm hW h5⟩, va_Nw.warmC hW h6, va_Nw.warmC hW h7, va_Nw.warmC hW h8, va_Nw.warmD hW h11, va_Nw.warmD hW h12, va_Nw.warmD hW h13⟩
theorem KX.same {u U : State} (hv : U.vm = u.vm) (h : KX u) : KX U := by
  obtain ⟨⟨a1, h1⟩, ⟨a2, h2⟩, ⟨a3, h3⟩, ⟨a4, h4⟩, ⟨a5, h5⟩, h6, h7, h8, h11, h12, h13⟩ := h
  exact ⟨⟨a1, vk_R.same hv h1⟩, ⟨a2, vk_R.same hv h2⟩, ⟨a3, vk_R.same hv h3⟩, ⟨a4, vk_R.same hv h4⟩, ⟨a5, vk_R.same hv h5⟩, va_Nw.same rfl hv.symm h6, va_Nw.same rfl hv.symm h7, va_Nw.same rfl hv.symm h8, va_Nw.same rfl hv.symm h11, va_Nw.same rfl hv.symm h12, va_Nw.same rfl hv.symm h13⟩
/-- Throwable's two statics, in cells that are old -/
def ZA (A : Nat → Prop) (U : State) (H : Heap) : Prop := vx_Zq Bundle.tN "UNASSIGNED_STACK" Bundle.steD A U H ∧ vx_Zq Bundle.tN "SUPPRESSED_SENTINEL" Bundle.listD A U H
def ZS (U : State) (H : Heap) : Prop := ZA (fun q => H.size ≤ q) U H
theorem ZA.to {A : Nat → Prop} {s : State} {H0 H : Heap} (hz : H0.size ≤ H.size) (hA : ∀ q, H0.size ≤ q → A q) (h : ZA A s H) : ZS s H := ⟨h.1.narrow (fun q hq => hA q (Nat.le_trans hz hq)), h.2.narrow (fun q hq => hA q (Nat.le_trans hz hq))⟩
def wPX (D : va_G) (tys : List (ClassId × FieldType)) (ws : va_W) (U : State) : Prop := va_P D vwCl ws U.heap ∧ va_K D vwCl tys U ∧ KS U ∧ KX U ∧ ZS U U.heap
theorem wPX.blind {D : va_G} {tys : List (ClassId × FieldType)} {ws : va_W} {As : List Value} : FrameBlind (va_Pc As (wPX D tys ws)) := fun a U g mk q => ⟨q.1, q.2.1, va_K.moved (u := U) (U := U.calling g mk a) (Vm.Alike.refl U.vm) q.2.2.1, KS.same (u := U) rfl q.2.2.2.1, KX.same (u := U) (U := U.calling g mk a) rfl q.2.2.2.2.1, ⟨vx_Zq.moved (u := U) (U := U.calling g mk a) (Vm.Alike.refl U.vm) q.2.2.2.2.2.1, vx_Zq.moved (u := U) (U := U.calling g mk a) (Vm.Alike.refl U.vm) q.2.2.2.2.2.2⟩⟩
theorem wPX.of {D : va_G} {tys : List (ClassId × FieldType)} {ws : va_W} {s : State} {H : Heap} {As : List Value} (hP : va_P D vwCl ws H) (hK : va_K D vwCl tys s) (hN : KS s) (hX : KX s) (hZ : ZS s H) : ∀ U : State, U.heap = H → s.WarmedH U.vm → va_Pc As (wPX D tys ws) As.toArray U := fun U hU hW => ⟨rfl, by rw [hU]; exact hP, va_K.moved hW.alike hK, KS.warm hW hN, KX.warm hW hX, by subst hU; exact ⟨vx_Zq.moved hW.alike hZ.1, vx_Zq.moved hW.alike hZ.2⟩⟩
section KXT
variable {p : Program} {l : Launch} {e : Env} {R : Room} {s : State} {m : MethodId} {args : Array Value} {below : List Frame} {meth : Method} {c : Code} {H : Heap} {locs : List Loc} {cells slots : Nat} {Q : State → Prop}
variable {D : va_G} {tys tys' : List (ClassId × FieldType)} {Wd Wd' : va_W} {E : String}
/-- a body that throws in the end -/
theorem mX_of {y : MethodName} {ws ws' : List Cond} {rm : Room} {cc : ByteArray} {maxL : Nat} {ret : Option FieldType} {As : List Value}
    (hy : plainName y.cls = true) (hw : ws = Cond.code y cc maxL ret :: ws') (hn : (lg_sl As).length ≤ maxL)
    (body : ∀ (p : Program) (e : Env) (s : State) (m : MethodId) (below : List Frame) (meth : Method) (c : Code), p.tables.exec = Jvm.exec → c.code = cc → meth.sig.returnType = ret → c.maxLocals = maxL → s.vm.findClass y.cls = some m.cls → (∀ w ∈ ws, w.before As.toArray s = true) → meth.locks = false → (∀ x ∈ c.exceptionTable.toList, False) → va_P D vwCl Wd s.heap → va_K D vwCl tys s → KS s → KX s → ZS s s.heap → ∀ ls : Array Slot, lv_has ls maxL (lv_args 0 As) →
      W p l e rm s m As.toArray below meth c s.heap [] 0 0 (vx_MQ below XN (XT E) As.toArray s 1 6 (fun _ => False)) (F0 m 0 ls [])) :
    vx_Met l y ws rm (va_Pc As (wPX D tys Wd)) XN (XT E) 1 6 (fun _ => False) := by
  refine vx_ofW (cc := cc) (maxL := maxL) (ret := ret) hy hw ?_
  intro p e s m args below meth c s₁ B hml ht hv
  obtain ⟨rfl, hP, hK, hN, hX, hZ⟩ := hv
  have hl := lv_entry As (n := maxL) hn
  rw [lg_entry_eq]
  exact body p e s m below meth c B.exec B.bytes B.returns hml (findClass_of_methodNamed B.named) (atoms_spec (ws := ws) B.pre) B.notSynchronized ht hP hK hN hX hZ _ hl
variable {y : MethodName} {bytes cc : ByteArray} {maxL nL n index : Nat} {ret : Option FieldType} {ws : List Cond} {rm : Room} {Ts : List Cond} {own C : String} {b : Addr} {As st0 rest : List Value} {pc : Nat} {ls : Array Slot} {T : u_T} {N ci : Nat} {fs : List Value}
/-- the end of a run that throws: on to the caller -/
theorem vxGo {Hm : Heap} (hr : vx_Run p l e R s m args below meth c s.heap [] 0 0 1 6 (F0 m pc ls st0) rest (XN args) (XT E) (fun _ => False)) (hlocks : meth.locks = false) (ht : ∀ x ∈ c.exceptionTable.toList, False) : W p l e R s m args below meth c s.heap [] 0 0 (vx_MQ below XN (XT E) args s 1 6 (fun _ => False)) (F0 m pc ls st0) := by
  intro T hT X
  rcases hr T hT X with ⟨v, st₀, t, T', L, h0, X', hL, e1, e2, hq, st⟩ | ⟨q, st₀, t, T', L, E', ce, h0, X', hL, e1, e2, hXC, hce, hcv, hcl, st⟩
  · exact hq.elim
  · obtain ⟨hE, hz, hk⟩ := hXC
    rw [h0] at hz hk
    have hout : vx_W p l e R s m args below meth c T'.heap ([] ++ L) (0 + 1) (0 + 6) (vx_MQ below XN (XT E) args s 1 6 (fun _ => False)) (F0 m pc ls rest) q :=
      vx_out (fun x hx => (ht x hx).elim) hlocks (by rw [e1]; exact hce) hcv hcl (fun t3 ht3 _ => ⟨hE, by rw [ht3, e1]; exact hz, fun q2 hq2 => by rw [ht3, e1]; exact hk q2 hq2⟩) (fun z hz2 => (hL z (by simpa using hz2)).elim) (Nat.le_refl _) (Nat.le_refl _)
    obtain ⟨t2, a1, b1⟩ := hout T' rfl X'
    exact ⟨t2, st.trans a1, b1⟩
theorem vxAny {Qa Qb : State → Outcome → State → Prop} {XC : String → State → State → Prop} {mc ms : Nat} {free : Addr → Prop} (h : ∀ st o t, Qa st o t → Qb st o t) (hr : vx_Run p l e R s m args below meth c H locs cells slots mc ms (F0 m pc ls st0) rest Qa XC free) : vx_Run p l e R s m args below meth c H locs cells slots mc ms (F0 m pc ls st0) rest Qb XC free := by
  intro T hT X
  rcases hr T hT X with ⟨v, st₀, t, T', L, h0, X', hL, e1, e2, hq, st⟩ | h2
  · exact Or.inl ⟨v, st₀, t, T', L, h0, X', hL, e1, e2, h _ _ _ hq, st⟩
  · exact Or.inr h2
theorem kXVo (Sf : CallFix p m c cc nL s args Ts own) (hM : vx_Met l y ws rm (va_Pc (.ref b :: As) (wPX D tys' Wd')) XN (XT E) 1 6 (fun _ => False)) (cw : CallW R s args own C index y bytes maxL ret ws rm 1 6 n)
    (hP : va_P D vwCl Wd s.heap) (hK : va_K D vwCl tys s) (hN : KS s) (hX : KX s) (hZ : ZS s s.heap) (is : List Nat) (hW : is.map (fun i => Wd[i]?) = Wd'.map some) (ts : List Nat) (hT : ts.filterMap (fun i => tys[i]?) = tys') (hci : vwCl[ci]? = some (C, T, N)) (hq0 : Wd'[0]? = some (b, .inr (ci, fs)))
    (hn : As.length = n) (hsize : ls.size = nL) (hstack : st0 = As.reverse ++ .ref b :: rest) (hW8 : (rest.map fun v => v.category).sum ≤ 8) (hdg : decode cc pc = .ok (.invokevirtual index, 3)) (hf : 0 + 1 ≤ R.cells ∧ 0 + 6 ≤ R.slots) (hlocks : meth.locks = false) (ht : ∀ x ∈ c.exceptionTable.toList, False) : W p l e R s m args below meth c s.heap [] 0 0 (vx_MQ below XN (XT E) args s 1 6 (fun _ => False)) (F0 m pc ls st0) :=
  vxGo (Hm := s.heap) (vxAny (fun _ _ _ h => h) (vx_runV (As := As) (rest := rest) Sf hM cw ⟨wPX.blind, va_recv hK (hP.sub is (fm_of hW)) hci hq0, wPX.of (hP.sub is (fm_of hW)) (hK.sub ts hT) hN hX hZ⟩ rfl hn hsize hstack (lv_room hW8) hdg hf)) hlocks ht
theorem kXSo (Sf : CallFix p m c cc nL s args Ts own) (hM : vx_Met l y ws rm (va_Pc As (wPX D tys' Wd')) XN (XT E) 1 6 (fun _ => False)) (cw : CallB R s args own index y bytes maxL ret ws rm 1 6 n ∧ (Cond.static y).before args s = true)
    (hP : va_P D vwCl Wd s.heap) (hK : va_K D vwCl tys s) (hN : KS s) (hX : KX s) (hZ : ZS s s.heap) (is : List Nat) (hW : is.map (fun i => Wd[i]?) = Wd'.map some) (ts : List Nat) (hT : ts.filterMap (fun i => tys[i]?) = tys')
    (hn : As.length = n) (hsize : ls.size = nL) (hstack : st0 = As.reverse ++ rest) (hW8 : (rest.map fun v => v.category).sum ≤ 8) (hdg : decode cc pc = .ok (.invokestatic index, 3)) (hf : 0 + 1 ≤ R.cells ∧ 0 + 6 ≤ R.slots) (hlocks : meth.locks = false) (ht : ∀ x ∈ c.exceptionTable.toList, False) : W p l e R s m args below meth c s.heap [] 0 0 (vx_MQ below XN (XT E) args s 1 6 (fun _ => False)) (F0 m pc ls st0) :=
  vxGo (Hm := s.heap) (vxAny (fun _ _ _ h => h) (vx_runS (As := As) (rest := rest) Sf hM cw ⟨wPX.blind, wPX.of (hP.sub is (fm_of hW)) (hK.sub ts hT) hN hX hZ⟩ rfl hn hsize hstack (lv_room hW8) hdg hf)) hlocks ht
/-- a call that throws, caught by a row of this method's own table -/
theorem kXVc {A : Nat → Prop} {H0 : Heap} {name : String} (Sf : CallFix p m c cc nL s args Ts own) (hM : vx_Met l y ws rm (va_Pc (.ref b :: As) (wPX D tys' Wd')) XN (XT E) 1 6 (fun _ => False)) (cw : CallW R s args own C index y bytes maxL ret ws rm 1 6 n)
    (hP : va_P D vwCl Wd H) (hK : va_K D vwCl tys s) (hN : KS s) (hX : KX s) (hZ : ZS s H) (hS : va_S A H0 H locs) (is : List Nat) (hW : is.map (fun i => Wd[i]?) = Wd'.map some) (ts : List Nat) (hT : ts.filterMap (fun i => tys[i]?) = tys') (hci : vwCl[ci]? = some (C, T, N)) (hq0 : Wd'[0]? = some (b, .inr (ci, fs)))
    (hn : As.length = n) (hsize : ls.size = nL) (hstack : st0 = As.reverse ++ .ref b :: rest) (hW8 : (rest.map fun v => v.category).sum ≤ 8) (hdg : decode cc pc = .ok (.invokevirtual index, 3)) (hf : cells + 1 ≤ R.cells ∧ slots + 6 ≤ R.slots)
    (pre : List ExceptionTableEntry) (x : ExceptionTableEntry) (suf : List ExceptionTableEntry) (hsplit : c.exceptionTable.toList = pre ++ x :: suf)
    (hpass : ∀ z ∈ pre, covers z pc = false ∨ (z.catchType ≠ 0 ∧ ∃ nm : String, (Cond.classLink own z.catchType nm).before args s = true ∧ va_Nc E nm s)) (hx : covers x pc = true) (h0 : x.catchType ≠ 0)
    (hlink : (Cond.classLink own x.catchType name).before args s = true) (hcast : va_Nw (.castable E name) s)
    (kk : ∀ (q9 : Nat) (H : Heap) (locs : List Loc), va_P D vwCl Wd H → va_S A H0 H locs → W p l e R s m args below meth c H locs (cells + 1) (slots + 6) Q (F0 m x.handlerPc ls [.ref q9])) : W p l e R s m args below meth c H locs cells slots Q (F0 m pc ls st0) := by
  intro U hU X
  rcases vx_runV (As := As) (rest := rest) Sf hM cw ⟨wPX.blind, va_recv hK (hP.sub is (fm_of hW)) hci hq0, wPX.of (hP.sub is (fm_of hW)) (hK.sub ts hT) hN hX hZ⟩ rfl hn hsize hstack (lv_room hW8) hdg hf U hU X with ⟨v, st₀, t, T', L, h0, X', hL, e1, e2, hq, st⟩ | ⟨q, st₀, t, T', L, E', ce, g0, X', hL, e1, e2, hXC, hce, hcv, hcl, st⟩
  · exact hq.elim
  · obtain ⟨hE, hz, hk⟩ := hXC
    subst hE
    rw [g0, ← e1] at hz
    rw [g0, ← e1] at hk
    have hL0 : L = [] := by
      cases L with
      | nil => rfl
      | cons z r => exact (hL z List.mem_cons_self).elim
    subst hL0
    have hP1 : va_P D vwCl Wd T'.heap := hP.kept (fun k q hq => hk q.1 ((hP k q hq).lt))
    have hS1 : va_S A H0 T'.heap (locs ++ []) := ⟨Nat.le_trans hS.1 hz, fun q h1 h2 => by rw [hk q (Nat.lt_of_lt_of_le h1 hS.1)]; exact hS.2.1 q h1 h2, by simpa using hS.2.2⟩
    have hcat : vx_W p l e R s m args below meth c T'.heap (locs ++ []) (cells + 1) (slots + 6) Q (F0 m pc ls rest) q :=
      vx_catch Sf.2.2.2.1 pre x suf hsplit hpass hx h0 hlink (va_Nw.use rfl hcast) (by rw [e1]; exact hce) hcv hcl (kk q T'.heap (locs ++ []) hP1 hS1)
    obtain ⟨t2, a1, b1⟩ := hcat T' rfl X'
    exact ⟨t2, st.trans a1, b1⟩
/-- a body with handlers -/
theorem mW_of {y : MethodName} {ws ws' : List Cond} {rm : Room} {cc : ByteArray} {maxL mc ms : Nat} {ret : Option FieldType} {hh : List (Nat × Nat × Nat × Nat)} {As : List Value} {Qc : Array Value → State → Outcome → State → Prop} {sz : Nat} {K2 : State → Prop}
    (hy : plainName y.cls = true) (hw : ws = Cond.codeWith y cc maxL ret hh :: ws') (hn : (lg_sl As).length ≤ maxL)
    (body : ∀ (p : Program) (e : Env) (s : State) (m : MethodId) (below : List Frame) (meth : Method) (c : Code), p.tables.exec = Jvm.exec → c.code = cc → meth.sig.returnType = ret → c.maxLocals = maxL → s.vm.findClass y.cls = some m.cls → c.exceptionTable.toList = tableOf hh → (∀ w ∈ ws, w.before As.toArray s = true) → meth.locks = false → s.heap.size = sz → va_P D vwCl Wd s.heap → va_K D vwCl tys s → KS s → va_D (va_A Wd sz) Wd → K2 s → (∀ q : Nat, s.heap.size ≤ q → va_A Wd sz q) → va_S (va_A Wd sz) s.heap s.heap [] → ∀ ls : Array Slot, lv_has ls maxL (lv_args 0 As) →
      W p l e rm s m As.toArray below meth c s.heap [] 0 0 (MQ below Qc As.toArray s mc ms (va_A Wd sz)) (F0 m 0 ls [])) :
    Met l y ws rm (va_Pc As (fun U => wPQ D tys sz Wd U ∧ K2 U)) Qc mc ms (va_A Wd sz) := by
  refine va_MetW (cc := cc) (maxL := maxL) (ret := ret) (hh := hh) hy hw ?_
  intro p e s m args below meth c s₁ B hml hv
  obtain ⟨rfl, ⟨hsz, hP, hK, hN, hD⟩, hK2⟩ := hv
  have hl := lv_entry As (n := maxL) hn
  rw [lg_entry_eq]
  have hts := atoms_spec (ws := ws) B.pre
  exact body p e s m below meth c B.exec B.bytes B.returns hml (findClass_of_methodNamed B.named) (vx_table (x := y) B (hts _ (by rw [hw]; exact List.mem_cons_self))) hts B.notSynchronized hsz hP hK hN (hD.self) hK2 (fun q h => Or.inr (hsz ▸ h)) va_S.rf _ hl
end KXT
