/-! ===== own base: contracts that only read (wPR), contracts that change their world (wPQ, wB), and calls of both, one row a call ===== -/
theorem mg {w : Cond} {L : List Cond} (i : Nat) (h : L[i]? = some w) : w ∈ L := List.mem_of_getElem? h
theorem fm_of {α β : Type} {f : α → Option β} {is : List α} {ws : List β} (h : is.map f = ws.map some) : is.filterMap f = ws := by
  have h1 : is.filterMap f = (is.map f).filterMap id := by simp [List.filterMap_map]
  rw [h1, h]
  simp [List.filterMap_map]
def KS (U : State) : Prop := va_Nw (.methodLinkNest RX0 53 yX1_setCell RX1) U ∧ va_Nw (.methodLinkNest RX0 57 yX1_copyCells RX1) U ∧ va_Nw (.methodLinkNest RX0 61 yX1_cell RX1) U
theorem KS.warm {s U : State} (hW : s.WarmedH U.vm) (h : KS s) : KS U := ⟨va_Nw.warmM hW h.1, va_Nw.warmM hW h.2.1, va_Nw.warmM hW h.2.2⟩
theorem KS.same {u U : State} (hv : u.vm = U.vm) (h : KS u) : KS U := ⟨va_Nw.same rfl hv h.1, va_Nw.same rfl hv h.2.1, va_Nw.same rfl hv h.2.2⟩
def wPR (D : va_G) (tys : List (ClassId × FieldType)) (ws : va_W) (U : State) : Prop := va_P D vwCl ws U.heap ∧ va_K D vwCl tys U ∧ KS U
theorem wPR.blind {D : va_G} {tys : List (ClassId × FieldType)} {ws : va_W} {As : List Value} : FrameBlind (va_Pc As (wPR D tys ws)) := fun a U g mk q => ⟨q.1, q.2.1, va_K.moved (u := U) (U := U.calling g mk a) (Vm.Alike.refl U.vm) q.2.2.1, KS.same (u := U) rfl q.2.2.2⟩
theorem wPR.of {D : va_G} {tys : List (ClassId × FieldType)} {ws : va_W} {s : State} {H : Heap} {As : List Value} (hP : va_P D vwCl ws H) (hK : va_K D vwCl tys s) (hN : KS s) : ∀ U : State, U.heap = H → s.WarmedH U.vm → va_Pc As (wPR D tys ws) As.toArray U := fun U hU hW => ⟨rfl, by rw [hU]; exact hP, va_K.moved hW.alike hK, KS.warm hW hN⟩
def wPQ (D : va_G) (tys : List (ClassId × FieldType)) (sz : Nat) (ws : va_W) (U : State) : Prop := U.heap.size = sz ∧ va_P D vwCl ws U.heap ∧ va_K D vwCl tys U ∧ KS U ∧ va_D (fun _ => True) ws
theorem wPQ.blind {D : va_G} {tys : List (ClassId × FieldType)} {sz : Nat} {ws : va_W} {As : List Value} : FrameBlind (va_Pc As (wPQ D tys sz ws)) := fun a U g mk q => ⟨q.1, q.2.1, q.2.2.1, va_K.moved (u := U) (U := U.calling g mk a) (Vm.Alike.refl U.vm) q.2.2.2.1, KS.same (u := U) rfl q.2.2.2.2.1, q.2.2.2.2.2⟩
theorem wPQ.of {D : va_G} {tys : List (ClassId × FieldType)} {ws : va_W} {A : Nat → Prop} {s : State} {H : Heap} {As : List Value} (hP : va_P D vwCl ws H) (hK : va_K D vwCl tys s) (hN : KS s) (hD : va_D A ws) : ∀ U : State, U.heap = H → s.WarmedH U.vm → va_Pc As (wPQ D tys H.size ws) As.toArray U := fun U hU hW => ⟨rfl, by rw [hU], by rw [hU]; exact hP, va_K.moved hW.alike hK, KS.warm hW hN, hD.weaken (fun _ _ _ _ => trivial)⟩
def wB (D : va_G) (tys : List (ClassId × FieldType)) (A : Nat → Prop) {S : Type} (w : S → va_W) (u : S) (t : State) : Prop := va_P D vwCl (w u) t.heap ∧ va_K D vwCl tys t ∧ va_D A (w u)
section KB
variable {p : Program} {l : Launch} {e : Env} {R : Room} {s : State} {m : MethodId} {args : Array Value} {below : List Frame} {meth : Method} {c : Code} {H : Heap} {locs : List Loc} {cells slots : Nat} {Q : State → Prop}
variable {D : va_G} {tys tys' : List (ClassId × FieldType)} {Wd Wd' : va_W}
/-- a body that only reads -/
theorem mR_of {y : MethodName} {ws ws' : List Cond} {rm : Room} {cc : ByteArray} {maxL : Nat} {ret : Option FieldType} {As : List Value} {Qc : Array Value → State → Outcome → State → Prop}
    (hy : plainName y.cls = true) (hw : ws = Cond.code y cc maxL ret :: ws') (hn : (lg_sl As).length ≤ maxL)
    (body : ∀ (p : Program) (e : Env) (s : State) (m : MethodId) (below : List Frame) (meth : Method) (c : Code), p.tables.exec = Jvm.exec → c.code = cc → meth.sig.returnType = ret → c.maxLocals = maxL → s.vm.findClass y.cls = some m.cls → (∀ w ∈ ws, w.before As.toArray s = true) → meth.locks = false → va_P D vwCl Wd s.heap → va_K D vwCl tys s → KS s → ∀ ls : Array Slot, lv_has ls maxL (lv_args 0 As) →
      W p l e rm s m As.toArray below meth c s.heap [] 0 0 (MQ below Qc As.toArray s 0 0 (fun _ => False)) (F0 m 0 ls [])) :
    Met l y ws rm (va_Pc As (wPR D tys Wd)) Qc 0 0 (fun _ => False) := by
  refine Met.ofW (cc := cc) (maxL := maxL) (ret := ret) hy hw ?_
  intro p e s m args below meth c s₁ B hml hv
  obtain ⟨rfl, hP, hK, hN⟩ := hv
  have hl := lv_entry As (n := maxL) hn
  rw [lg_entry_eq]
  exact body p e s m below meth c B.exec B.bytes B.returns hml (findClass_of_methodNamed B.named) (atoms_spec (ws := ws) B.pre) B.notSynchronized hP hK hN _ hl
/-- a body that changes its world, and may make cells -/
theorem mQ_of {y : MethodName} {ws ws' : List Cond} {rm : Room} {cc : ByteArray} {maxL mc ms : Nat} {ret : Option FieldType} {As : List Value} {Qc : Array Value → State → Outcome → State → Prop} {sz : Nat}
    (hy : plainName y.cls = true) (hw : ws = Cond.code y cc maxL ret :: ws') (hn : (lg_sl As).length ≤ maxL)
    (body : ∀ (p : Program) (e : Env) (s : State) (m : MethodId) (below : List Frame) (meth : Method) (c : Code), p.tables.exec = Jvm.exec → c.code = cc → meth.sig.returnType = ret → c.maxLocals = maxL → s.vm.findClass y.cls = some m.cls → meth.name = y.name → (∀ w ∈ ws, w.before As.toArray s = true) → meth.locks = false → s.heap.size = sz → va_P D vwCl Wd s.heap → va_K D vwCl tys s → KS s → va_D (va_A Wd sz) Wd → (∀ q : Nat, s.heap.size ≤ q → va_A Wd sz q) → va_S (va_A Wd sz) s.heap s.heap [] → ∀ ls : Array Slot, lv_has ls maxL (lv_args 0 As) →
      W p l e rm s m As.toArray below meth c s.heap [] 0 0 (MQ below Qc As.toArray s mc ms (va_A Wd sz)) (F0 m 0 ls [])) :
    Met l y ws rm (va_Pc As (wPQ D tys sz Wd)) Qc mc ms (va_A Wd sz) := by
  refine Met.ofW (cc := cc) (maxL := maxL) (ret := ret) hy hw ?_
  intro p e s m args below meth c s₁ B hml hv
  obtain ⟨rfl, hsz, hP, hK, hN, hD⟩ := hv
  have hl := lv_entry As (n := maxL) hn
  rw [lg_entry_eq]
  exact body p e s m below meth c B.exec B.bytes B.returns hml (findClass_of_methodNamed B.named) (name_of_methodNamed B.named B.method).1 (atoms_spec (ws := ws) B.pre) B.notSynchronized hsz hP hK hN (hD.self) (fun q h => Or.inr (hsz ▸ h)) va_S.rf _ hl
theorem eRi {cc : ByteArray} {post : Int32 → Prop} {v : Int32} {pc : Nat} {ls : Array Slot} (hx : p.tables.exec = Jvm.exec) (hb : c.code = cc) (hr : meth.sig.returnType = some .int) (hlocks : meth.locks = false) (hdg : decode cc pc = .ok (.ireturn, 1)) (h : post v) : W p l e R s m args below meth c s.heap [] 0 0 (MQ below (vp_Si post) args s 0 0 (fun _ => False)) (F0 m pc ls [.int v]) := W.iret hx hb hr (fun t ht _ => ⟨v, rfl, h, ht⟩) (fun q hq => absurd hq List.not_mem_nil) hdg hlocks
theorem nar_b {v : Int32} (hv : v = 0 ∨ v = 1) : narrow .boolean (.int v) = .int v := by rcases hv with rfl | rfl <;> rfl
theorem eRz {cc : ByteArray} {post : Int32 → Prop} {v : Int32} {pc : Nat} {ls : Array Slot} (hx : p.tables.exec = Jvm.exec) (hb : c.code = cc) (hr : meth.sig.returnType = some .boolean) (hlocks : meth.locks = false) (hdg : decode cc pc = .ok (.ireturn, 1)) (hv : v = 0 ∨ v = 1) (h : post v) : W p l e R s m args below meth c s.heap [] 0 0 (MQ below (vp_Si post) args s 0 0 (fun _ => False)) (F0 m pc ls [.int v]) := W.zret hx hb hr (nar_b hv) (fun t ht _ => ⟨v, rfl, h, ht⟩) (fun q hq => absurd hq List.not_mem_nil) hdg hlocks
theorem eRv {cc : ByteArray} {post : Unit → Prop} {pc : Nat} {ls : Array Slot} (hx : p.tables.exec = Jvm.exec) (hb : c.code = cc) (hr : meth.sig.returnType = none) (hlocks : meth.locks = false) (hdg : decode cc pc = .ok (.return_, 1)) (h : post ()) : W p l e R s m args below meth c s.heap [] 0 0 (MQ below (va_Sv post) args s 0 0 (fun _ => False)) (F0 m pc ls []) := W.vret hx hb hr (fun t ht _ => ⟨rfl, h, ht⟩) (fun q hq => absurd hq List.not_mem_nil) hdg hlocks
section EQ
variable {S : Type} {w : S → va_W} {A : Nat → Prop}
theorem eQi {cc : ByteArray} {post : Int32 → S → Prop} {v : Int32} {pc : Nat} {ls : Array Slot} (u : S) (hx : p.tables.exec = Jvm.exec) (hb : c.code = cc) (hr : meth.sig.returnType = some .int) (hlocks : meth.locks = false) (hP : va_P D vwCl (w u) H) (hD : va_D A (w u)) (hK : va_K D vwCl tys s) (hS : va_S A s.heap H locs) (hdg : decode cc pc = .ok (.ireturn, 1)) (h : post v u) : W p l e R s m args below meth c H locs cells slots (MQ below (va_Qi post (wB D tys A w) A) args s cells slots A) (F0 m pc ls [.int v]) := W.iret hx hb hr (fun t ht hW => ⟨⟨v, u, rfl, h, by rw [ht]; exact hP, va_K.moved hW.alike hK, hD⟩, hS.F ht⟩) hS.2.2 hdg hlocks
theorem eQz {cc : ByteArray} {post : Int32 → S → Prop} {v : Int32} {pc : Nat} {ls : Array Slot} (u : S) (hx : p.tables.exec = Jvm.exec) (hb : c.code = cc) (hr : meth.sig.returnType = some .boolean) (hlocks : meth.locks = false) (hP : va_P D vwCl (w u) H) (hD : va_D A (w u)) (hK : va_K D vwCl tys s) (hS : va_S A s.heap H locs) (hdg : decode cc pc = .ok (.ireturn, 1)) (hv : v = 0 ∨ v = 1) (h : post v u) : W p l e R s m args below meth c H locs cells slots (MQ below (va_Qi post (wB D tys A w) A) args s cells slots A) (F0 m pc ls [.int v]) := W.zret hx hb hr (nar_b hv) (fun t ht hW => ⟨⟨v, u, rfl, h, by rw [ht]; exact hP, va_K.moved hW.alike hK, hD⟩, hS.F ht⟩) hS.2.2 hdg hlocks
theorem eQl {cc : ByteArray} {post : Int64 → S → Prop} {v : Int64} {pc : Nat} {ls : Array Slot} (u : S) (hx : p.tables.exec = Jvm.exec) (hb : c.code = cc) (hr : meth.sig.returnType = some .long) (hlocks : meth.locks = false) (hP : va_P D vwCl (w u) H) (hD : va_D A (w u)) (hK : va_K D vwCl tys s) (hS : va_S A s.heap H locs) (hdg : decode cc pc = .ok (.lreturn, 1)) (h : post v u) : W p l e R s m args below meth c H locs cells slots (MQ below (va_Ql post (wB D tys A w) A) args s cells slots A) (F0 m pc ls [.long v]) := W.lret hx hb hr (fun t ht hW => ⟨⟨v, u, rfl, h, by rw [ht]; exact hP, va_K.moved hW.alike hK, hD⟩, hS.F ht⟩) hS.2.2 hdg hlocks
theorem eQv {cc : ByteArray} {post : S → Prop} {pc : Nat} {ls : Array Slot} (u : S) (hx : p.tables.exec = Jvm.exec) (hb : c.code = cc) (hr : meth.sig.returnType = none) (hlocks : meth.locks = false) (hP : va_P D vwCl (w u) H) (hD : va_D A (w u)) (hK : va_K D vwCl tys s) (hS : va_S A s.heap H locs) (hdg : decode cc pc = .ok (.return_, 1)) (h : post u) : W p l e R s m args below meth c H locs cells slots (MQ below (va_Qv post (wB D tys A w) A) args s cells slots A) (F0 m pc ls []) := W.vret hx hb hr (fun t ht hW => ⟨⟨u, rfl, h, by rw [ht]; exact hP, va_K.moved hW.alike hK, hD⟩, hS.F ht⟩) hS.2.2 hdg hlocks
end EQ
variable {y : MethodName} {bytes cc : ByteArray} {maxL nL n index mc ms : Nat} {ret : Option FieldType} {ws : List Cond} {rm : Room} {Ts : List Cond} {own C host : String} {b : Addr} {As st0 rest : List Value} {pc : Nat} {ls : Array Slot} {T : u_T} {N ci : Nat} {fs : List Value}
-- calls of what only reads
theorem kRVi {post : Int32 → Prop} (Sf : CallFix p m c cc nL s args Ts own) (hM : Met l y ws rm (va_Pc (.ref b :: As) (wPR D tys' Wd')) (vp_Si post) 0 0 (fun _ => False)) (cw : CallW R s args own C index y bytes maxL ret ws rm 0 0 n)
    (hP : va_P D vwCl Wd H) (hK : va_K D vwCl tys s) (hN : KS s) (is : List Nat) (hW : is.map (fun i => Wd[i]?) = Wd'.map some) (ts : List Nat) (hT : ts.filterMap (fun i => tys[i]?) = tys') (hci : vwCl[ci]? = some (C, T, N)) (hq0 : Wd'[0]? = some (b, .inr (ci, fs)))
    (hn : As.length = n) (hsize : ls.size = nL) (hstack : st0 = As.reverse ++ .ref b :: rest) (hW8 : (rest.map fun v => v.category).sum ≤ 8) (hdg : decode cc pc = .ok (.invokevirtual index, 3)) (hf : cells ≤ R.cells ∧ slots ≤ R.slots)
    (kk : ∀ r : Int32, post r → W p l e R s m args below meth c H locs cells slots Q (F0 m (pc + 3) ls (.int r :: rest))) : W p l e R s m args below meth c H locs cells slots Q (F0 m pc ls st0) :=
  vp_callSi (va_runV (As := As) (rest := rest) Sf hM cw ⟨wPR.blind, va_recv hK (hP.sub is (fm_of hW)) hci hq0, wPR.of (hP.sub is (fm_of hW)) (hK.sub ts hT) hN⟩ rfl hn hsize hstack (lv_room hW8) hdg hf).run kk
theorem kRVv {post : Unit → Prop} (Sf : CallFix p m c cc nL s args Ts own) (hM : Met l y ws rm (va_Pc (.ref b :: As) (wPR D tys' Wd')) (va_Sv post) 0 0 (fun _ => False)) (cw : CallW R s args own C index y bytes maxL ret ws rm 0 0 n)
    (hP : va_P D vwCl Wd H) (hK : va_K D vwCl tys s) (hN : KS s) (is : List Nat) (hW : is.map (fun i => Wd[i]?) = Wd'.map some) (ts : List Nat) (hT : ts.filterMap (fun i => tys[i]?) = tys') (hci : vwCl[ci]? = some (C, T, N)) (hq0 : Wd'[0]? = some (b, .inr (ci, fs)))
    (hn : As.length = n) (hsize : ls.size = nL) (hstack : st0 = As.reverse ++ .ref b :: rest) (hW8 : (rest.map fun v => v.category).sum ≤ 8) (hdg : decode cc pc = .ok (.invokevirtual index, 3)) (hf : cells ≤ R.cells ∧ slots ≤ R.slots)
    (kk : W p l e R s m args below meth c H locs cells slots Q (F0 m (pc + 3) ls rest)) : W p l e R s m args below meth c H locs cells slots Q (F0 m pc ls st0) :=
  va_csv (va_runV (As := As) (rest := rest) Sf hM cw ⟨wPR.blind, va_recv hK (hP.sub is (fm_of hW)) hci hq0, wPR.of (hP.sub is (fm_of hW)) (hK.sub ts hT) hN⟩ rfl hn hsize hstack (lv_room hW8) hdg hf).run (fun _ => kk)
theorem kRSi {post : Int32 → Prop} (Sf : CallFix p m c cc nL s args Ts own) (hM : Met l y ws rm (va_Pc As (wPR D tys' Wd')) (vp_Si post) 0 0 (fun _ => False)) (cw : CallB R s args own index y bytes maxL ret ws rm 0 0 n ∧ (Cond.static y).before args s = true)
    (hP : va_P D vwCl Wd H) (hK : va_K D vwCl tys s) (hN : KS s) (is : List Nat) (hW : is.map (fun i => Wd[i]?) = Wd'.map some) (ts : List Nat) (hT : ts.filterMap (fun i => tys[i]?) = tys')
    (hn : As.length = n) (hsize : ls.size = nL) (hstack : st0 = As.reverse ++ rest) (hW8 : (rest.map fun v => v.category).sum ≤ 8) (hdg : decode cc pc = .ok (.invokestatic index, 3)) (hf : cells ≤ R.cells ∧ slots ≤ R.slots)
    (kk : ∀ r : Int32, post r → W p l e R s m args below meth c H locs cells slots Q (F0 m (pc + 3) ls (.int r :: rest))) : W p l e R s m args below meth c H locs cells slots Q (F0 m pc ls st0) :=
  vp_callSi (va_runS (As := As) (rest := rest) Sf hM cw ⟨wPR.blind, wPR.of (hP.sub is (fm_of hW)) (hK.sub ts hT) hN⟩ rfl hn hsize hstack (lv_room hW8) hdg hf).run kk
theorem kRSv {post : Unit → Prop} (Sf : CallFix p m c cc nL s args Ts own) (hM : Met l y ws rm (va_Pc As (wPR D tys' Wd')) (va_Sv post) 0 0 (fun _ => False)) (cw : CallB R s args own index y bytes maxL ret ws rm 0 0 n ∧ (Cond.static y).before args s = true)
    (hP : va_P D vwCl Wd H) (hK : va_K D vwCl tys s) (hN : KS s) (is : List Nat) (hW : is.map (fun i => Wd[i]?) = Wd'.map some) (ts : List Nat) (hT : ts.filterMap (fun i => tys[i]?) = tys')
    (hn : As.length = n) (hsize : ls.size = nL) (hstack : st0 = As.reverse ++ rest) (hW8 : (rest.map fun v => v.category).sum ≤ 8) (hdg : decode cc pc = .ok (.invokestatic index, 3)) (hf : cells ≤ R.cells ∧ slots ≤ R.slots)
    (kk : W p l e R s m args below meth c H locs cells slots Q (F0 m (pc + 3) ls rest)) : W p l e R s m args below meth c H locs cells slots Q (F0 m pc ls st0) :=
  va_csv (va_runS (As := As) (rest := rest) Sf hM cw ⟨wPR.blind, wPR.of (hP.sub is (fm_of hW)) (hK.sub ts hT) hN⟩ rfl hn hsize hstack (lv_room hW8) hdg hf).run (fun _ => kk)
theorem kRNi {post : Int32 → Prop} (Sf : CallFix p m c cc nL s args Ts own) (hM : Met l y ws rm (va_Pc As (wPR D tys' Wd')) (vp_Si post) 0 0 (fun _ => False)) (cw : va_CN R s args own index y host bytes maxL ret ws rm 0 0 n ∧ (Cond.static y).before args s = true ∧ True)
    (hP : va_P D vwCl Wd H) (hK : va_K D vwCl tys s) (hN : KS s) (is : List Nat) (hW : is.map (fun i => Wd[i]?) = Wd'.map some) (ts : List Nat) (hT : ts.filterMap (fun i => tys[i]?) = tys')
    (hn : As.length = n) (hsize : ls.size = nL) (hstack : st0 = As.reverse ++ rest) (hW8 : (rest.map fun v => v.category).sum ≤ 8) (hdg : decode cc pc = .ok (.invokestatic index, 3)) (hf : cells ≤ R.cells ∧ slots ≤ R.slots)
    (kk : ∀ r : Int32, post r → W p l e R s m args below meth c H locs cells slots Q (F0 m (pc + 3) ls (.int r :: rest))) : W p l e R s m args below meth c H locs cells slots Q (F0 m pc ls st0) :=
  vp_callSi (va_runSN (As := As) (rest := rest) Sf hM cw ⟨wPR.blind, wPR.of (hP.sub is (fm_of hW)) (hK.sub ts hT) hN⟩ rfl hn hsize hstack (lv_room hW8) hdg hf).run kk
-- calls of what changes its world
section CQ
variable {S : Type} {w W2 : S → va_W} {wr : va_W} {A : Nat → Prop} {H0 : Heap}
theorem kQVi {post : Int32 → S → Prop} (Sf : CallFix p m c cc nL s args Ts own) (hM : Met l y ws rm (va_Pc (.ref b :: As) (wPQ D tys' H.size Wd')) (va_Qi post (wB D tys' (va_A Wd' H.size) w) (va_A Wd' H.size)) mc ms (va_A Wd' H.size)) (cw : CallW R s args own C index y bytes maxL ret ws rm mc ms n)
    (hP : va_P D vwCl Wd H) (hD : va_D A Wd) (hK : va_K D vwCl tys s) (hN : KS s) (hS : va_S A H0 H locs) (hA : ∀ q, H0.size ≤ q → A q) (is : List Nat) (hnd : va_nd is = true) (hW : is.map (fun i => Wd[i]?) = Wd'.map some) (ir : List Nat) (hrn : va_nd ir = true) (hR : ir.map (fun i => Wd[i]?) = wr.map some) (hdis : ∀ i ∈ ir, i ∉ is) (pm : List Nat) (hpn : va_nd pm = true) (hpm : ∀ u, pm.map (fun i => (wr ++ w u)[i]?) = (W2 u).map some) (ts : List Nat) (hT : ts.filterMap (fun i => tys[i]?) = tys') (hci : vwCl[ci]? = some (C, T, N)) (hq0 : Wd'[0]? = some (b, .inr (ci, fs)))
    (hn : As.length = n) (hsize : ls.size = nL) (hstack : st0 = As.reverse ++ .ref b :: rest) (hW8 : (rest.map fun v => v.category).sum ≤ 8) (hdg : decode cc pc = .ok (.invokevirtual index, 3)) (hf : cells + mc ≤ R.cells ∧ slots + ms ≤ R.slots)
    (kk : ∀ (r : Int32) (u : S) (H1 : Heap) (locs1 : List Loc), post r u → va_P D vwCl (W2 u) H1 → va_D A (W2 u) → va_S A H0 H1 locs1 → W p l e R s m args below meth c H1 locs1 (cells + mc) (slots + ms) Q (F0 m (pc + 3) ls (.int r :: rest))) : W p l e R s m args below meth c H locs cells slots Q (F0 m pc ls st0) := by
  have hFc := va_free (wc := Wd') hD hS hA is hW
  refine va_calli (va_runV (As := As) (rest := rest) Sf hM cw ⟨wPQ.blind, va_recv hK (hP.sub is (fm_of hW)) hci hq0, wPQ.of (hP.sub is (fm_of hW)) (hK.sub ts hT) hN (hD.sub is hnd hW)⟩ rfl hn hsize hstack (lv_room hW8) hdg hf) hS (fun q _ h => hFc q h) hFc (fun r u t H1 locs1 ht hvm hw hB hz1 hk1 hS1 => ?_)
  obtain ⟨hP1, hK1, hD1⟩ := hB
  rw [ht] at hP1
  obtain ⟨hP2, hD2⟩ := va_join hP hD is ir hW hR hrn hdis hk1 hFc hP1 hD1
  exact kk r u H1 locs1 hw (hP2.sub pm (fm_of (hpm u))) (hD2.sub pm hpn (hpm u)) hS1
theorem kQVl {post : Int64 → S → Prop} (Sf : CallFix p m c cc nL s args Ts own) (hM : Met l y ws rm (va_Pc (.ref b :: As) (wPQ D tys' H.size Wd')) (va_Ql post (wB D tys' (va_A Wd' H.size) w) (va_A Wd' H.size)) mc ms (va_A Wd' H.size)) (cw : CallW R s args own C index y bytes maxL ret ws rm mc ms n)
    (hP : va_P D vwCl Wd H) (hD : va_D A Wd) (hK : va_K D vwCl tys s) (hN : KS s) (hS : va_S A H0 H locs) (hA : ∀ q, H0.size ≤ q → A q) (is : List Nat) (hnd : va_nd is = true) (hW : is.map (fun i => Wd[i]?) = Wd'.map some) (ir : List Nat) (hrn : va_nd ir = true) (hR : ir.map (fun i => Wd[i]?) = wr.map some) (hdis : ∀ i ∈ ir, i ∉ is) (pm : List Nat) (hpn : va_nd pm = true) (hpm : ∀ u, pm.map (fun i => (wr ++ w u)[i]?) = (W2 u).map some) (ts : List Nat) (hT : ts.filterMap (fun i => tys[i]?) = tys') (hci : vwCl[ci]? = some (C, T, N)) (hq0 : Wd'[0]? = some (b, .inr (ci, fs)))
    (hn : As.length = n) (hsize : ls.size = nL) (hstack : st0 = As.reverse ++ .ref b :: rest) (hW8 : (rest.map fun v => v.category).sum ≤ 8) (hdg : decode cc pc = .ok (.invokevirtual index, 3)) (hf : cells + mc ≤ R.cells ∧ slots + ms ≤ R.slots)
    (kk : ∀ (r : Int64) (u : S) (H1 : Heap) (locs1 : List Loc), post r u → va_P D vwCl (W2 u) H1 → va_D A (W2 u) → va_S A H0 H1 locs1 → W p l e R s m args below meth c H1 locs1 (cells + mc) (slots + ms) Q (F0 m (pc + 3) ls (.long r :: rest))) : W p l e R s m args below meth c H locs cells slots Q (F0 m pc ls st0) := by
  have hFc := va_free (wc := Wd') hD hS hA is hW
  refine va_calll (va_runV (As := As) (rest := rest) Sf hM cw ⟨wPQ.blind, va_recv hK (hP.sub is (fm_of hW)) hci hq0, wPQ.of (hP.sub is (fm_of hW)) (hK.sub ts hT) hN (hD.sub is hnd hW)⟩ rfl hn hsize hstack (lv_room hW8) hdg hf) hS (fun q _ h => hFc q h) hFc (fun r u t H1 locs1 ht hvm hw hB hz1 hk1 hS1 => ?_)
  obtain ⟨hP1, hK1, hD1⟩ := hB
  rw [ht] at hP1
  obtain ⟨hP2, hD2⟩ := va_join hP hD is ir hW hR hrn hdis hk1 hFc hP1 hD1
  exact kk r u H1 locs1 hw (hP2.sub pm (fm_of (hpm u))) (hD2.sub pm hpn (hpm u)) hS1
theorem kQVv {post : S → Prop} (Sf : CallFix p m c cc nL s args Ts own) (hM : Met l y ws rm (va_Pc (.ref b :: As) (wPQ D tys' H.size Wd')) (va_Qv post (wB D tys' (va_A Wd' H.size) w) (va_A Wd' H.size)) mc ms (va_A Wd' H.size)) (cw : CallW R s args own C index y bytes maxL ret ws rm mc ms n)
    (hP : va_P D vwCl Wd H) (hD : va_D A Wd) (hK : va_K D vwCl tys s) (hN : KS s) (hS : va_S A H0 H locs) (hA : ∀ q, H0.size ≤ q → A q) (is : List Nat) (hnd : va_nd is = true) (hW : is.map (fun i => Wd[i]?) = Wd'.map some) (ir : List Nat) (hrn : va_nd ir = true) (hR : ir.map (fun i => Wd[i]?) = wr.map some) (hdis : ∀ i ∈ ir, i ∉ is) (pm : List Nat) (hpn : va_nd pm = true) (hpm : ∀ u, pm.map (fun i => (wr ++ w u)[i]?) = (W2 u).map some) (ts : List Nat) (hT : ts.filterMap (fun i => tys[i]?) = tys') (hci : vwCl[ci]? = some (C, T, N)) (hq0 : Wd'[0]? = some (b, .inr (ci, fs)))
    (hn : As.length = n) (hsize : ls.size = nL) (hstack : st0 = As.reverse ++ .ref b :: rest) (hW8 : (rest.map fun v => v.category).sum ≤ 8) (hdg : decode cc pc = .ok (.invokevirtual index, 3)) (hf : cells + mc ≤ R.cells ∧ slots + ms ≤ R.slots)
    (kk : ∀ (u : S) (H1 : Heap) (locs1 : List Loc), post u → va_P D vwCl (W2 u) H1 → va_D A (W2 u) → va_S A H0 H1 locs1 → W p l e R s m args below meth c H1 locs1 (cells + mc) (slots + ms) Q (F0 m (pc + 3) ls rest)) : W p l e R s m args below meth c H locs cells slots Q (F0 m pc ls st0) := by
  have hFc := va_free (wc := Wd') hD hS hA is hW
  refine va_callv (va_runV (As := As) (rest := rest) Sf hM cw ⟨wPQ.blind, va_recv hK (hP.sub is (fm_of hW)) hci hq0, wPQ.of (hP.sub is (fm_of hW)) (hK.sub ts hT) hN (hD.sub is hnd hW)⟩ rfl hn hsize hstack (lv_room hW8) hdg hf) hS (fun q _ h => hFc q h) hFc (fun u t H1 locs1 ht hvm hw hB hz1 hk1 hS1 => ?_)
  obtain ⟨hP1, hK1, hD1⟩ := hB
  rw [ht] at hP1
  obtain ⟨hP2, hD2⟩ := va_join hP hD is ir hW hR hrn hdis hk1 hFc hP1 hD1
  exact kk u H1 locs1 hw (hP2.sub pm (fm_of (hpm u))) (hD2.sub pm hpn (hpm u)) hS1
theorem kQSv {post : S → Prop} (Sf : CallFix p m c cc nL s args Ts own) (hM : Met l y ws rm (va_Pc As (wPQ D tys' H.size Wd')) (va_Qv post (wB D tys' (va_A Wd' H.size) w) (va_A Wd' H.size)) mc ms (va_A Wd' H.size)) (cw : CallB R s args own index y bytes maxL ret ws rm mc ms n ∧ (Cond.static y).before args s = true)
    (hP : va_P D vwCl Wd H) (hD : va_D A Wd) (hK : va_K D vwCl tys s) (hN : KS s) (hS : va_S A H0 H locs) (hA : ∀ q, H0.size ≤ q → A q) (is : List Nat) (hnd : va_nd is = true) (hW : is.map (fun i => Wd[i]?) = Wd'.map some) (ir : List Nat) (hrn : va_nd ir = true) (hR : ir.map (fun i => Wd[i]?) = wr.map some) (hdis : ∀ i ∈ ir, i ∉ is) (pm : List Nat) (hpn : va_nd pm = true) (hpm : ∀ u, pm.map (fun i => (wr ++ w u)[i]?) = (W2 u).map some) (ts : List Nat) (hT : ts.filterMap (fun i => tys[i]?) = tys')
    (hn : As.length = n) (hsize : ls.size = nL) (hstack : st0 = As.reverse ++ rest) (hW8 : (rest.map fun v => v.category).sum ≤ 8) (hdg : decode cc pc = .ok (.invokestatic index, 3)) (hf : cells + mc ≤ R.cells ∧ slots + ms ≤ R.slots)
    (kk : ∀ (u : S) (H1 : Heap) (locs1 : List Loc), post u → va_P D vwCl (W2 u) H1 → va_D A (W2 u) → va_S A H0 H1 locs1 → W p l e R s m args below meth c H1 locs1 (cells + mc) (slots + ms) Q (F0 m (pc + 3) ls rest)) : W p l e R s m args below meth c H locs cells slots Q (F0 m pc ls st0) := by
  have hFc := va_free (wc := Wd') hD hS hA is hW
  refine va_callv (va_runS (As := As) (rest := rest) Sf hM cw ⟨wPQ.blind, wPQ.of (hP.sub is (fm_of hW)) (hK.sub ts hT) hN (hD.sub is hnd hW)⟩ rfl hn hsize hstack (lv_room hW8) hdg hf) hS (fun q _ h => hFc q h) hFc (fun u t H1 locs1 ht hvm hw hB hz1 hk1 hS1 => ?_)
  obtain ⟨hP1, hK1, hD1⟩ := hB
  rw [ht] at hP1
  obtain ⟨hP2, hD2⟩ := va_join hP hD is ir hW hR hrn hdis hk1 hFc hP1 hD1
  exact kk u H1 locs1 hw (hP2.sub pm (fm_of (hpm u))) (hD2.sub pm hpn (hpm u)) hS1
theorem kQNv {post : S → Prop} (Sf : CallFix p m c cc nL s args Ts own) (hM : Met l y ws rm (va_Pc As (wPQ D tys' H.size Wd')) (va_Qv post (wB D tys' (va_A Wd' H.size) w) (va_A Wd' H.size)) mc ms (va_A Wd' H.size)) (cw : va_CN R s args own index y host bytes maxL ret ws rm mc ms n ∧ (Cond.static y).before args s = true ∧ True)
    (hP : va_P D vwCl Wd H) (hD : va_D A Wd) (hK : va_K D vwCl tys s) (hN : KS s) (hS : va_S A H0 H locs) (hA : ∀ q, H0.size ≤ q → A q) (is : List Nat) (hnd : va_nd is = true) (hW : is.map (fun i => Wd[i]?) = Wd'.map some) (ir : List Nat) (hrn : va_nd ir = true) (hR : ir.map (fun i => Wd[i]?) = wr.map some) (hdis : ∀ i ∈ ir, i ∉ is) (pm : List Nat) (hpn : va_nd pm = true) (hpm : ∀ u, pm.map (fun i => (wr ++ w u)[i]?) = (W2 u).map some) (ts : List Nat) (hT : ts.filterMap (fun i => tys[i]?) = tys')
    (hn : As.length = n) (hsize : ls.size = nL) (hstack : st0 = As.reverse ++ rest) (hW8 : (rest.map fun v => v.category).sum ≤ 8) (hdg : decode cc pc = .ok (.invokestatic index, 3)) (hf : cells + mc ≤ R.cells ∧ slots + ms ≤ R.slots)
    (kk : ∀ (u : S) (H1 : Heap) (locs1 : List Loc), post u → va_P D vwCl (W2 u) H1 → va_D A (W2 u) → va_S A H0 H1 locs1 → W p l e R s m args below meth c H1 locs1 (cells + mc) (slots + ms) Q (F0 m (pc + 3) ls rest)) : W p l e R s m args below meth c H locs cells slots Q (F0 m pc ls st0) := by
  have hFc := va_free (wc := Wd') hD hS hA is hW
  refine va_callv (va_runSN (As := As) (rest := rest) Sf hM cw ⟨wPQ.blind, wPQ.of (hP.sub is (fm_of hW)) (hK.sub ts hT) hN (hD.sub is hnd hW)⟩ rfl hn hsize hstack (lv_room hW8) hdg hf) hS (fun q _ h => hFc q h) hFc (fun u t H1 locs1 ht hvm hw hB hz1 hk1 hS1 => ?_)
  obtain ⟨hP1, hK1, hD1⟩ := hB
  rw [ht] at hP1
  obtain ⟨hP2, hD2⟩ := va_join hP hD is ir hW hR hrn hdis hk1 hFc hP1 hD1
  exact kk u H1 locs1 hw (hP2.sub pm (fm_of (hpm u))) (hD2.sub pm hpn (hpm u)) hS1
theorem kQIv {post : S → Prop} (Sf : CallFix p m c cc nL s args Ts own) (hM : Met l y ws rm (va_Pc (.ref b :: As) (wPQ D tys' H.size Wd')) (va_Qv post (wB D tys' (va_A Wd' H.size) w) (va_A Wd' H.size)) mc ms (va_A Wd' H.size)) (cw : CallB R s args own index y bytes maxL none ws rm mc ms n ∧ y.name = "<init>" ∧ (Cond.instanceMethod y).before args s = true)
    (hP : va_P D vwCl Wd H) (hD : va_D A Wd) (hK : va_K D vwCl tys s) (hN : KS s) (hS : va_S A H0 H locs) (hA : ∀ q, H0.size ≤ q → A q) (is : List Nat) (hnd : va_nd is = true) (hW : is.map (fun i => Wd[i]?) = Wd'.map some) (ir : List Nat) (hrn : va_nd ir = true) (hR : ir.map (fun i => Wd[i]?) = wr.map some) (hdis : ∀ i ∈ ir, i ∉ is) (pm : List Nat) (hpn : va_nd pm = true) (hpm : ∀ u, pm.map (fun i => (wr ++ w u)[i]?) = (W2 u).map some) (ts : List Nat) (hT : ts.filterMap (fun i => tys[i]?) = tys')
    (hn : As.length = n) (hsize : ls.size = nL) (hstack : st0 = As.reverse ++ .ref b :: rest) (hW8 : (rest.map fun v => v.category).sum ≤ 8) (hdg : decode cc pc = .ok (.invokespecial index, 3)) (hf : cells + mc ≤ R.cells ∧ slots + ms ≤ R.slots)
    (kk : ∀ (u : S) (H1 : Heap) (locs1 : List Loc), post u → va_P D vwCl (W2 u) H1 → va_D A (W2 u) → va_S A H0 H1 locs1 → W p l e R s m args below meth c H1 locs1 (cells + mc) (slots + ms) Q (F0 m (pc + 3) ls rest)) : W p l e R s m args below meth c H locs cells slots Q (F0 m pc ls st0) := by
  have hFc := va_free (wc := Wd') hD hS hA is hW
  refine va_callv (va_runI (As := As) (rest := rest) Sf hM cw ⟨wPQ.blind, wPQ.of (hP.sub is (fm_of hW)) (hK.sub ts hT) hN (hD.sub is hnd hW)⟩ rfl hn hsize hstack (lv_room hW8) hdg hf) hS (fun q _ h => hFc q h) hFc (fun u t H1 locs1 ht hvm hw hB hz1 hk1 hS1 => ?_)
  obtain ⟨hP1, hK1, hD1⟩ := hB
  rw [ht] at hP1
  obtain ⟨hP2, hD2⟩ := va_join hP hD is ir hW hR hrn hdis hk1 hFc hP1 hD1
  exact kk u H1 locs1 hw (hP2.sub pm (fm_of (hpm u))) (hD2.sub pm hpn (hpm u)) hS1
/-- a new row of ints, whose class is the one known -/
theorem newI {cA : ClassId} (hexec : p.tables.exec = Jvm.exec) (hb : c.code = cc) (harr : (Cond.arrayClass .int).before args s = true) (hK : va_K D vwCl tys s) (hP : va_P D vwCl Wd H) (hD : va_D A Wd) (hS : va_S A H0 H locs) (hA : ∀ q, H0.size ≤ q → A q) (t0 : Nat) (ht : tys[t0]? = some (cA, .int))
    {nn : Int32} {N' : Nat} (hn : ¬ nn < 0) (hN : nn.toNatClampNeg = N') (hbytes : N' * componentBytes .int ≤ 536870912) (hcells : cells + 1 ≤ R.cells) (hslots : slots + N' ≤ R.slots) (hdg : decode cc pc = .ok (.newarray .int, 2))
    (kk : ∀ (q : Nat) (H1 : Heap), va_P D vwCl (Wd ++ [(q, .inl (cA, N', .inl (fun _ => 0)))]) H1 → va_D A (Wd ++ [(q, .inl (cA, N', .inl (fun _ => 0)))]) → va_S A H0 H1 locs →
      W p l e R s m args below meth c H1 locs (cells + 1) (slots + N') Q (F0 m (pc + 2) ls (.ref q :: rest))) : W p l e R s m args below meth c H locs cells slots Q (F0 m pc ls (.int nn :: rest)) := by
  refine va_newa (atype := .int) (ty := .int) (a0 := (N', .inl (fun _ => 0))) hexec hb harr rfl hK hP hD hS hA (fun cA => rfl) hn hN hbytes hcells hslots hdg (fun q cB H1 hK1 hP1 hD1 hS1 => ?_)
  have h1 := (hK.2 t0 _ ht).2
  have h2 := (hK1.2 tys.length (cB, .int) (by simp)).2
  have h3 : cB = cA := Option.some.inj ((show s.vm.findClass _ = some cB from h2).symm.trans (show s.vm.findClass _ = some cA from h1))
  subst h3
  exact kk q H1 hP1 hD1 hS1
end CQ
end KB
/-- the class of the rows of ints, out of the tables' word -/
theorem arrI {s : State} {args : Array Value} (h : (Cond.arrayClass .int).before args s = true) : ∃ cA : ClassId, ArrOfT s cA .int ∧ va_RA s cA .int := by
  obtain ⟨cA, kA, comp, h1, h2, h3⟩ := Cond.arrayClass_spec (show (Cond.arrayClass .int).holds args s none s [] = true from h)
  exact ⟨cA, fun n z => ⟨fun k h => (by cases h), kA, h2, comp, h3⟩, h1⟩
theorem arrL {s : State} {args : Array Value} (h : (Cond.arrayClass .long).before args s = true) : ∃ cA : ClassId, ArrOfT s cA .long ∧ va_RA s cA .long := by
  obtain ⟨cA, kA, comp, h1, h2, h3⟩ := Cond.arrayClass_spec (show (Cond.arrayClass .long).holds args s none s [] = true from h)
  exact ⟨cA, fun n z => ⟨fun k h => (by cases h), kA, h2, comp, h3⟩, h1⟩
/-- two pictures of one row, which are the same within -/
theorem va_P.ext {D : va_G} {ws ws' : va_W} {H : Heap} (h : va_P D vwCl ws H) (q0 : Nat) {a n : Nat} {cA : ClassId} {f g : Nat → Int32} (h0 : ws[q0]? = some (a, .inl (cA, n, .inl f))) (hfg : ∀ j, j < n → f j = g j) (hw : ws.set q0 (a, .inl (cA, n, .inl g)) = ws') : va_P D vwCl ws' H := by
  subst hw
  intro k q hk
  by_cases hkq : k = q0
  · subst hkq
    have hl := (List.getElem?_eq_some_iff.mp h0).1
    rw [List.getElem?_set_self hl] at hk
    cases hk
    have h1 : H[a]? = some (vp_cell cA (n, .inl f)) := h k _ h0
    show H[a]? = some (vp_cell cA (n, .inl g))
    rw [h1, vp_cell_i, vp_cell_i]
    have h2 : (fun j : Fin n => Value.int (f j.val)) = (fun j : Fin n => Value.int (g j.val)) := funext fun j => by rw [hfg j.val j.isLt]
    exact congrArg (fun z : Fin n → Value => some ({ cls := cA, slots := Array.ofFn (n := n) z, vm := .none } : Cell)) h2
  · rw [List.getElem?_set_ne (Ne.symm hkq)] at hk
    exact h k q hk
