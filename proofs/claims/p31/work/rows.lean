section
-- ===== PART A: goes FIRST, ahead of the names: the tables' words, and 'selects' of the private methods out of them =====
/-- a private method of a class that the tables say can be made, by its rows of tables_1 -/
def lw_okq (q : MethodName × Nat) : Prop := (q.1.cls ≠ "java/lang/invoke/MethodHandle" ∧ q.1.cls ≠ "java/lang/invoke/VarHandle") ∧ Cond.instantiable q.1.cls q.2 ∈ tables_1 ∧ Cond.privateMethod q.1 ∈ tables_1 ∧ Cond.instanceMethod q.1 ∈ tables_1
theorem lw_p0 : lw_okq (⟨"MarbleRamps", "needColumn", "(I)V"⟩, 2) := ⟨⟨by decide +kernel, by decide +kernel⟩, List.mem_of_getElem? (i := 13) (by decide +kernel), List.mem_of_getElem? (i := 87) (by decide +kernel), List.mem_of_getElem? (i := 88) (by decide +kernel)⟩
theorem lw_p1 : lw_okq (⟨"java/lang/Throwable", "fillInStackTrace", "(I)Ljava/lang/Throwable;"⟩, 6) := ⟨⟨by decide +kernel, by decide +kernel⟩, List.mem_of_getElem? (i := 133) (by decide +kernel), List.mem_of_getElem? (i := 131) (by decide +kernel), List.mem_of_getElem? (i := 132) (by decide +kernel)⟩
theorem lw_p2 : lw_okq (⟨"MarbleRamps", "needPlace", "(II)V"⟩, 2) := ⟨⟨by decide +kernel, by decide +kernel⟩, List.mem_of_getElem? (i := 13) (by decide +kernel), List.mem_of_getElem? (i := 231) (by decide +kernel), List.mem_of_getElem? (i := 232) (by decide +kernel)⟩
theorem lw_p3 : lw_okq (⟨"MarbleRamps", "needRow", "(I)V"⟩, 2) := ⟨⟨by decide +kernel, by decide +kernel⟩, List.mem_of_getElem? (i := 13) (by decide +kernel), List.mem_of_getElem? (i := 235) (by decide +kernel), List.mem_of_getElem? (i := 236) (by decide +kernel)⟩
def lw_privs_1 : List (MethodName × Nat) := [(⟨"MarbleRamps", "needColumn", "(I)V"⟩, 2), (⟨"java/lang/Throwable", "fillInStackTrace", "(I)Ljava/lang/Throwable;"⟩, 6), (⟨"MarbleRamps", "needPlace", "(II)V"⟩, 2), (⟨"MarbleRamps", "needRow", "(I)V"⟩, 2)]
theorem lw_r1 : ∀ q ∈ lw_privs_1, lw_okq q := List.forall_mem_cons.mpr ⟨lw_p0, List.forall_mem_cons.mpr ⟨lw_p1, List.forall_mem_cons.mpr ⟨lw_p2, List.forall_mem_cons.mpr ⟨lw_p3, fun _ h => absurd h List.not_mem_nil⟩⟩⟩⟩
def lw_privs : List (MethodName × Nat) := lw_privs_1
def lw_tbl : List Cond := k2_sels lw_privs ++ tables_1
theorem lw_privs_ok : ∀ q ∈ lw_privs, lw_okq q := lw_r1
/-- the streams that the claim lets the run draw from -/
abbrev lw_cs : List Choice := [Jvm.Choice.named "NaN.bits"]
theorem lw_bits : nanBits ∈ lw_cs := by first | decide | exact List.mem_cons_self | simp [lw_cs, nanBits]
-- ===== end of PART A; then your names; then what follows =====
end
section
/-! ===== BEGIN words of one list among another's, by their places ===== -/
theorem goodIn_r {big : List Cond} (ws : List Cond) (ps : List Nat) (hp : ws = ps.filterMap (fun i => big[i]?)) (h : ws.all goodWord = true) : GoodIn big ws := by
  intro w hw
  have h1 := List.all_eq_true.mp h w hw
  rw [hp] at hw
  obtain ⟨i, -, hi⟩ := List.mem_filterMap.mp hw
  have hm : w ∈ big := by first | exact List.mem_of_getElem? hi | exact List.getElem?_mem hi
  exact ⟨hm, good_of_word h1⟩
theorem goodIn_app {big a b : List Cond} (ha : GoodIn big a) (hb : GoodIn big b) : GoodIn big (a ++ b) := fun w h => (List.mem_append.mp h).elim (ha w) (hb w)
theorem goodIn_ca {big a b : List Cond} {c : Cond} (ha : GoodIn big (c :: a)) (hb : GoodIn big b) : GoodIn big (c :: (a ++ b)) := fun w h => (List.mem_cons.mp h).elim (fun e => ha w (List.mem_cons.mpr (Or.inl e))) (fun h => (List.mem_append.mp h).elim (fun h => ha w (List.mem_cons.mpr (Or.inr h))) (hb w))
theorem goodIn_sub {big ws : List Cond} (hm : ∀ w ∈ ws, w ∈ big) (h : ws.all goodWord = true) : GoodIn big ws := fun w hw => ⟨hm w hw, good_of_word (List.all_eq_true.mp h w hw)⟩
/-! ===== END ===== -/


/-! ===== BEGIN exceptions that leave a method, and their catching by the caller (launches without stack traces) ===== -/
section VXA
/-! The laws vx_back, vx_callV, vx_callS, vx_callSW, vx_throw0, vx_throwS follow proofs of the library, with one case more: JvmDerived/Free/Laws.lean (Back.of_free), Shelf42/LK1.lean (callV, callS), Shelf/KitTraced.lean (throwNew0V, throwNewS). -/
/-- where a method has thrown q: the class by its name, the cell, what was written, the world -/
def vx_T (XC : String → State → State → Prop) (st : State) (q : Addr) (t : State) (mc ms : Nat) (free : Addr → Prop) : Prop :=
  ∃ (E : String) (ce : Cell) (L : List Loc), XC E st t ∧ t.heap[q]? = some ce ∧ ce.vm = .none ∧ st.vm.findClass E = some ce.cls ∧ st.WarmedH t.vm ∧ st.sameButNew ({ t with vm := st.vm } : State) L mc ms ∧ ∀ z ∈ L, free z.base
def vx_Q (Qc : Array Value → State → Outcome → State → Prop) (XC : String → State → State → Prop) (mc ms : Nat) (free : Addr → Prop) : Array Value → State → Outcome → State → Prop := fun a st o t =>
  (Qc a st o t ∧ ∃ L, FrameEnd st o t L mc ms ∧ ∀ q ∈ L, free q.base) ∨ ∃ q, o = .threw q ∧ vx_T XC st q t mc ms free
/-- a callee that returns or throws -/
def vx_Met (l : Launch) (y : MethodName) (ws : List Cond) (rm : Room) (Pc : Array Value → State → Prop) (Qc : Array Value → State → Outcome → State → Prop) (XC : String → State → State → Prop) (mc ms : Nat) (free : Addr → Prop) : Prop :=
  MetFree l y (headSpec ws rm) Pc (fun _ _ _ _ _ => True) (vx_Q Qc XC mc ms free)
def vx_Post (XC : String → State → State → Prop) (mc ms : Nat) (free : Addr → Prop) : Pt → Array Value → Addr → Pt → Prop := fun A a q B =>
  ∃ (g : JFrame) (mk : MethodId) (t : State) (L : List Loc) (E : String) (ce : Cell), B.U.heap = t.heap ∧ B.U.vm = t.vm ∧ XC E (A.U.calling g mk a) t ∧ t.heap[q]? = some ce ∧ ce.vm = .none ∧ A.U.vm.findClass E = some ce.cls ∧ B.locs = A.locs ++ L ∧ (∀ z ∈ L, free z.base) ∧ B.cells = A.cells + mc ∧ B.slots = A.slots + ms
def vx_Back (l : Launch) (R : Room) (p : Program) (e : Env) (below : List Frame) (s : State) (sargs : Array Value) (y : MethodName) (len W9 : Nat)
    (Pre : Pt → Array Value → Prop) (Post : Pt → Array Value → Option Value → Pt → Prop) (PostX : Pt → Array Value → Addr → Pt → Prop) : Prop :=
  ∀ (m : MethodId) (meth : Method) (c : Code) (A : Pt) (g : JFrame) (ig : Instr) (mk : MethodId) (a : Array Value),
    Stand p l e R s m sargs below meth c A.U A.locs A.cells A.slots → g.method = m → g.locals.size = c.maxLocals → decode c.code g.pc = .ok (ig, len) →
    2 * g.monitorRoom + (g.stack.map fun v => v.category).sum ≤ W9 → A.U.methodNamed? y = some mk → Pre A a →
    (∃ (v : Option Value) (B : Pt), Stand p l e R s m sargs below meth c B.U B.locs B.cells B.slots ∧ Post A a v B ∧
      Steps p.tables e below (doInvoke e (A.U.setTop g) [] mk a).1 (B.U.setTop { g with pc := g.pc + len, stack := v.toList ++ g.stack })) ∨
    (∃ (q : Addr) (B : Pt), Stand p l e R s m sargs below meth c B.U B.locs B.cells B.slots ∧ PostX A a q B ∧
      Steps p.tables e below (doInvoke e (A.U.setTop g) [] mk a).1 ((B.U.setTop g).pushFrame (.throwing q)))
section Payer
variable {l : Launch} {R : Room} {p : Program} {e : Env} {below : List Frame} {s : State} {sargs : Array Value} {y : MethodName} {len W9 : Nat}
theorem vx_back {ws : List Cond} {rm : Room} {Pc : Array Value → State → Prop} {Qc : Array Value → State → Outcome → State → Prop} {XC : String → State → State → Prop} {mc ms : Nat} {free : Addr → Prop} {bytes : ByteArray} {maxL : Nat} {ret : Option FieldType}
    (hM : vx_Met l y ws rm Pc Qc XC mc ms free) (hblind : FrameBlind Pc) (hrc : rm.cells = mc) (hrs : rm.slots = ms)
    (hframes : rm.frames + 1 ≤ R.frames) (hlocals : W9 + (maxL + 11) + rm.locals ≤ R.locals)
    (hws : ∀ w ∈ ws, ∀ a' U, s.WarmedH U.vm → w.before a' U = true) (hcode : Cond.code y bytes maxL ret ∈ ws) (hinit : ∀ a' U, s.WarmedH U.vm → (Cond.initialized y.cls).before a' U = true) :
    vx_Back l R p e below s sargs y len W9 (PreOf R mc ms Pc) (PostOf Qc mc ms free) (vx_Post XC mc ms free) := by
  intro m meth c A g ig mk a X hg hsize hdg hW hn hp
  have h1 : (headSpec ws rm).pre.before a A.U = true := atoms_intro fun w hw => hws w hw _ _ X.warmed
  have h2 : (Cond.code y bytes maxL ret).before a A.U = true := hws _ hcode _ _ X.warmed
  have h3 : (Cond.initialized y.cls).before a A.U = true := hinit _ _ X.warmed
  have h4 : A.cells + (headSpec ws rm).room.cells ≤ R.cells := by rw [show (headSpec ws rm).room.cells = mc from hrc]; exact hp.1
  have h5 : A.slots + (headSpec ws rm).room.slots ≤ R.slots := by rw [show (headSpec ws rm).room.slots = ms from hrs]; exact hp.2.1
  have hPc : Pc a (A.U.calling g mk a) := hblind _ _ _ _ hp.2.2
  obtain ⟨U, Ls, c0, s0⟩ := A
  dsimp only [Pt.U, Pt.locs, Pt.cells, Pt.slots] at h1 h2 h3 h4 h5 X hn hPc ⊢
  obtain ⟨methY, cY, hmY, hcY, -, hlY, -, -, -, -⟩ := Cond.code_spec hn h2
  obtain ⟨kY, hkY, -⟩ := className_of_methodNamed hn
  have hinitY : kY.init = .initialized := Cond.initialized_spec (findClass_of_methodNamed hn) hkY h3
  have h : At U g.method c below := by rw [hg]; exact X.here
  have hlocals9 : W9 + (maxL + 11) + (headSpec ws rm).room.locals ≤ R.locals := hlocals
  have happ : (headSpec ws rm).appliesLoose y e.platform (U.calling g mk a) = true :=
    Spec.appliesLoose_calling (g := g) h hdg hn hkY hinitY
      (X.room_calling (g := g) (R' := (headSpec ws rm).room) hsize hmY hcY hframes (by rw [hlY]; omega) h4 h5) h1
  obtain ⟨mid, hmid⟩ := h.above
  have hfr : (U.setTop g).frames = (.java g :: mid) ++ below := by rw [State.frames_setTop' g h.top, hmid]; rfl
  obtain ⟨o, s₂, hsteps, -, hend, hq⟩ := Steps.callFree hM p X.admits X.cas X.clock (acts := []) hfr happ hPc trivial
  have hq' : vx_Q Qc XC mc ms free a (U.calling g mk a) o s₂ := hq
  rw [State.frames_setTop' g h.top] at hend
  obtain ⟨g₀, hg0⟩ := Option.isSome_iff_exists.mp h.top
  obtain ⟨r, hr⟩ := State.topJava?_eq_some.mp hg0
  have hr' : (({ U with heap := s₂.heap, slotsUsed := s₂.slotsUsed } : State).setVm s₂.vm).frames = .java g₀ :: r := hr
  rcases hq' with ⟨hqc, L, hfe, hL⟩ | ⟨q, rfl, E, ce, L, hx, hce, hcv, hcl, hW₂, hsm, hL⟩
  · obtain ⟨⟨v, rfl⟩, hW₂, e2, q2, q3, q4, q5, q6⟩ := id hfe
    have e3 : s₂ = ({ (U.calling g mk a).setFrames s₂.frames with heap := s₂.heap, slotsUsed := s₂.slotsUsed } : State).setVm s₂.vm := by
      have : s₂ = ({ s₂ with vm := (U.calling g mk a).vm } : State).setVm s₂.vm := rfl
      rw [e2] at this
      exact this
    obtain ⟨c₂, i₂, len₂, hc₂, hd₂, hf₂⟩ := hend
    have hW' : U.WarmedH s₂.vm := hW₂
    have hcc : c₂ = c := by
      have h1 : s₂.code? g.method = U.code? g.method := by
        rw [State.code?_eq, State.code?_eq, hW'.alike.method?]
      exact Option.some.inj (hc₂.symm.trans (h1.trans h.code))
    subst hcc
    have hlen : len₂ = len := by rw [hdg] at hd₂; cases hd₂; rfl
    subst hlen
    have hs₂ : s₂ = (({ U with heap := s₂.heap, slotsUsed := s₂.slotsUsed } : State).setVm s₂.vm).setTop { g with pc := g.pc + len₂, stack := v.toList ++ g.stack } := by
      refine e3.trans ?_
      rw [hf₂, State.calling_eq h.top, State.setFrames_setFrames, State.setTop_of_frames _ hr', hr]
      rfl
    have hsame : U.sameButNew ({ U with heap := s₂.heap, slotsUsed := s₂.slotsUsed } : State) L mc ms := by
      refine ⟨?_, q2, q3, q4, q5, q6⟩
      obtain ⟨t, ht, -⟩ := State.frames_cons hr
      show ({ U with heap := s₂.heap, slotsUsed := s₂.slotsUsed } : State) = { U.setFrames U.frames with heap := s₂.heap, slotsUsed := s₂.slotsUsed }
      rw [State.setFrames_self ht]
    subst hg
    refine Or.inl ⟨v, ⟨(({ U with heap := s₂.heap, slotsUsed := s₂.slotsUsed } : State).setVm s₂.vm), Ls ++ L, c0 + mc, s0 + ms⟩,
      ⟨X.admits, X.cas, X.clock, X.frames, X.room, X.hears, X.method, X.code, (X.here.setHeapUsed s₂.heap s₂.slotsUsed).setVm hW'.alike, X.tail, State.WarmedH.trans X.warmed hW', X.limits, X.bytes, X.same.trans (hsame.setVm s.vm)⟩,
      ⟨g, mk, s₂, L, rfl, rfl, hqc, rfl, hL, rfl, rfl⟩, ?_⟩
    show Steps p.tables e below _ ((({ U with heap := s₂.heap, slotsUsed := s₂.slotsUsed } : State).setVm s₂.vm).setTop { g with pc := g.pc + len₂, stack := v.toList ++ g.stack })
    rw [← hs₂]
    exact hsteps
  · obtain ⟨e2, q2, q3, q4, q5, q6⟩ := id hsm
    have e3 : s₂ = ({ (U.calling g mk a).setFrames s₂.frames with heap := s₂.heap, slotsUsed := s₂.slotsUsed } : State).setVm s₂.vm := by
      have : s₂ = ({ s₂ with vm := (U.calling g mk a).vm } : State).setVm s₂.vm := rfl
      rw [e2] at this
      exact this
    have hf₂ : s₂.frames = .throwing q :: .java g :: U.frames.tail := hend
    have hW' : U.WarmedH s₂.vm := hW₂
    have hs₂ : s₂ = ((({ U with heap := s₂.heap, slotsUsed := s₂.slotsUsed } : State).setVm s₂.vm).setTop g).pushFrame (.throwing q) := by
      refine e3.trans ?_
      rw [hf₂, State.calling_eq h.top, State.setFrames_setFrames, State.pushFrame, State.frames_setTop _ hr', State.setTop_of_frames _ hr', State.setFrames_setFrames, hr]
      rfl
    have hsame : U.sameButNew ({ U with heap := s₂.heap, slotsUsed := s₂.slotsUsed } : State) L mc ms := by
      refine ⟨?_, q2, q3, q4, q5, q6⟩
      obtain ⟨t, ht, -⟩ := State.frames_cons hr
      show ({ U with heap := s₂.heap, slotsUsed := s₂.slotsUsed } : State) = { U.setFrames U.frames with heap := s₂.heap, slotsUsed := s₂.slotsUsed }
      rw [State.setFrames_self ht]
    subst hg
    refine Or.inr ⟨q, ⟨(({ U with heap := s₂.heap, slotsUsed := s₂.slotsUsed } : State).setVm s₂.vm), Ls ++ L, c0 + mc, s0 + ms⟩,
      ⟨X.admits, X.cas, X.clock, X.frames, X.room, X.hears, X.method, X.code, (X.here.setHeapUsed s₂.heap s₂.slotsUsed).setVm hW'.alike, X.tail, State.WarmedH.trans X.warmed hW', X.limits, X.bytes, X.same.trans (hsame.setVm s.vm)⟩,
      ⟨g, mk, s₂, L, E, ce, rfl, rfl, hx, hce, hcv, hcl, rfl, hL, rfl, rfl⟩, ?_⟩
    show Steps p.tables e below _ (((({ U with heap := s₂.heap, slotsUsed := s₂.slotsUsed } : State).setVm s₂.vm).setTop g).pushFrame (.throwing q))
    rw [← hs₂]
    exact hsteps
end Payer
section Calls
variable {p : Program} {l : Launch} {e : Env} {R : Room} {s : State} {m : MethodId} {args : Array Value} {below : List Frame} {meth : Method} {c : Code} {T : State} {locs : List Loc} {cells slots : Nat}
theorem vx_callV (X : Stand p l e R s m args below meth c T locs cells slots) (hexec : p.tables.exec = Jvm.exec) {own C : String} {index : Nat} {y : MethodName} {bytes : ByteArray} {maxL : Nat} {ret : Option FieldType}
    (hown : s.vm.findClass own = some m.cls) (hlink : (Cond.methodLink own index y).before args s = true) (hinst : (Cond.instanceMethod y).before args s = true) (hsel : (Cond.selects C y y).before args s = true)
    (hcode : (Cond.code y bytes maxL ret).before args s = true) (hy : y.cls ≠ "java/lang/invoke/MethodHandle" ∧ y.cls ≠ "java/lang/invoke/VarHandle")
    {W9 : Nat} {Pre : Pt → Array Value → Prop} {Post : Pt → Array Value → Option Value → Pt → Prop} {PostX : Pt → Array Value → Addr → Pt → Prop} (hK : vx_Back l R p e below s args y 3 W9 Pre Post PostX)
    {b : Addr} {cellB : Cell} (hcell : T.heap[b]? = some cellB) (hobj : cellB.vm.isStatics = false) (hcls : s.vm.findClass C = some cellB.cls)
    {g : JFrame} (hg : g.method = m) (hsize : g.locals.size = c.maxLocals) {argsL rest : List Value} (hlen : ∀ sig, parseMethodDescriptor y.desc = some sig → argsL.length = sig.parameters.length)
    (hstack : g.stack = argsL.reverse ++ .ref b :: rest) (hW : 2 * g.monitorRoom + (rest.map fun v => v.category).sum ≤ W9) (hdg : decode c.code g.pc = .ok (.invokevirtual index, 3))
    (hpre : ∀ vm₁, s.WarmedH vm₁ → Pre ⟨T.setVm vm₁, locs, cells, slots⟩ (Value.ref b :: argsL).toArray) :
    (∃ (v : Option Value) (vm₁ : Vm) (B : Pt), s.WarmedH vm₁ ∧ Stand p l e R s m args below meth c B.U B.locs B.cells B.slots ∧ Post ⟨T.setVm vm₁, locs, cells, slots⟩ (Value.ref b :: argsL).toArray v B ∧
      ∀ target, Steps p.tables e below (B.U.setTop { g with pc := g.pc + 3, stack := v.toList ++ rest }) target → Steps p.tables e below (T.setTop g) target) ∨
    (∃ (q : Addr) (vm₁ : Vm) (B : Pt), s.WarmedH vm₁ ∧ Stand p l e R s m args below meth c B.U B.locs B.cells B.slots ∧ PostX ⟨T.setVm vm₁, locs, cells, slots⟩ (Value.ref b :: argsL).toArray q B ∧
      Steps p.tables e below (T.setTop g) ((B.U.setTop { g with stack := rest }).pushFrame (.throwing q))) := by
  obtain ⟨mk, methM, hnamed, hmethM, hstM, habM⟩ := Cond.instanceMethod_spec hinst
  obtain ⟨methM', cM, hmethM', -, -, -, -, -, -, hsigM⟩ := Cond.code_spec hnamed hcode
  cases hmethM.symm.trans hmethM'
  obtain ⟨c2, r2, m2, q1, q2, q3, q4, kP, hkP, hkPi⟩ := Cond.selects_spec hsel
  cases hcls.symm.trans q1
  cases (State.methodFound?_of_named hnamed hy).symm.trans q2
  cases hnamed.symm.trans q3
  have hselP : selectMethod e.platform s.vm cellB.cls mk = .method mk := by rw [Launch.admits_selectMethod X.admits]; exact q4
  obtain ⟨vm₁, X₁, hstep₁⟩ := X.invokevirtual hexec hown hlink hnamed hmethM hstM hkP hkPi hy (a := b) (cell := cellB) hcell
    (fun z h => by rw [h] at hobj; cases hobj) hselP hmethM habM hkP hkPi (g := g) hg (argsL := argsL) (rest := rest) (hlen _ hsigM) hstack hdg
  rcases hK m meth c ⟨T.setVm vm₁, locs, cells, slots⟩ { g with stack := rest } (.invokevirtual index) mk (Value.ref b :: argsL).toArray X₁ hg hsize hdg hW (X₁.named hnamed) (hpre vm₁ X₁.warmed) with ⟨v, B, X', hpost, hsteps⟩ | ⟨q, B, X', hpost, hsteps⟩
  · exact Or.inl ⟨v, vm₁, B, X₁.warmed, X', hpost, fun target h => hstep₁ _ fun acts => by rw [doInvoke_state]; exact hsteps.trans h⟩
  · exact Or.inr ⟨q, vm₁, B, X₁.warmed, X', hpost, hstep₁ _ fun acts => by rw [doInvoke_state]; exact hsteps⟩
theorem vx_callS (X : Stand p l e R s m args below meth c T locs cells slots) (hexec : p.tables.exec = Jvm.exec) {own : String} {index : Nat} {y : MethodName} {bytes : ByteArray} {maxL : Nat} {ret : Option FieldType}
    (hown : s.vm.findClass own = some m.cls) (hlink : (Cond.methodLink own index y).before args s = true) (hstat : (Cond.static y).before args s = true) (hinit : (Cond.initialized y.cls).before args s = true)
    (hcode : (Cond.code y bytes maxL ret).before args s = true) (hy : y.cls ≠ "java/lang/invoke/MethodHandle" ∧ y.cls ≠ "java/lang/invoke/VarHandle")
    {W9 : Nat} {Pre : Pt → Array Value → Prop} {Post : Pt → Array Value → Option Value → Pt → Prop} {PostX : Pt → Array Value → Addr → Pt → Prop} (hK : vx_Back l R p e below s args y 3 W9 Pre Post PostX)
    {g : JFrame} (hg : g.method = m) (hsize : g.locals.size = c.maxLocals) {argsL rest : List Value} (hlen : ∀ sig, parseMethodDescriptor y.desc = some sig → argsL.length = sig.parameters.length)
    (hstack : g.stack = argsL.reverse ++ rest) (hW : 2 * g.monitorRoom + (rest.map fun v => v.category).sum ≤ W9) (hdg : decode c.code g.pc = .ok (.invokestatic index, 3))
    (hpre : ∀ vm₁, s.WarmedH vm₁ → Pre ⟨T.setVm vm₁, locs, cells, slots⟩ argsL.toArray) :
    (∃ (v : Option Value) (vm₁ : Vm) (B : Pt), s.WarmedH vm₁ ∧ Stand p l e R s m args below meth c B.U B.locs B.cells B.slots ∧ Post ⟨T.setVm vm₁, locs, cells, slots⟩ argsL.toArray v B ∧
      ∀ target, Steps p.tables e below (B.U.setTop { g with pc := g.pc + 3, stack := v.toList ++ rest }) target → Steps p.tables e below (T.setTop g) target) ∨
    (∃ (q : Addr) (vm₁ : Vm) (B : Pt), s.WarmedH vm₁ ∧ Stand p l e R s m args below meth c B.U B.locs B.cells B.slots ∧ PostX ⟨T.setVm vm₁, locs, cells, slots⟩ argsL.toArray q B ∧
      Steps p.tables e below (T.setTop g) ((B.U.setTop { g with stack := rest }).pushFrame (.throwing q))) := by
  obtain ⟨mk, hnamed⟩ := Cond.code_named hcode
  obtain ⟨methM, cM, hmethM, -, -, -, -, -, -, hsigM⟩ := Cond.code_spec hnamed hcode
  have hstatic : methM.isStatic = true := Cond.static_spec hnamed hmethM hstat
  obtain ⟨kP, hkP, -⟩ := className_of_methodNamed hnamed
  have hinitP : kP.init = .initialized := Cond.initialized_spec (findClass_of_methodNamed hnamed) hkP hinit
  obtain ⟨vm₁, X₁, hstep₁⟩ := X.invokestatic hexec hown hlink hnamed hmethM hstatic hkP hinitP hy (g := g) hg (argsL := argsL) (rest := rest) (hlen _ hsigM) hstack hdg
  rcases hK m meth c ⟨T.setVm vm₁, locs, cells, slots⟩ { g with stack := rest } (.invokestatic index) mk argsL.toArray X₁ hg hsize hdg hW (X₁.named hnamed) (hpre vm₁ X₁.warmed) with ⟨v, B, X', hpost, hsteps⟩ | ⟨q, B, X', hpost, hsteps⟩
  · exact Or.inl ⟨v, vm₁, B, X₁.warmed, X', hpost, fun target h => hstep₁ _ fun acts => by rw [doInvoke_state]; exact hsteps.trans h⟩
  · exact Or.inr ⟨q, vm₁, B, X₁.warmed, X', hpost, hstep₁ _ fun acts => by rw [doInvoke_state]; exact hsteps⟩
end Calls
theorem vx_cls {s : State} {T : State} {vm₁ : Vm} {E : String} {k : ClassId} (hW : s.WarmedH vm₁) (h : (T.setVm vm₁).vm.findClass E = some k) : s.vm.findClass E = some k := by
  have h1 : vm₁.findClass E = some k := h
  rw [hW.alike.findClass] at h1
  exact h1
/-- the method's frame g, with q thrown over it -/
def vx_W (p : Program) (l : Launch) (e : Env) (R : Room) (s : State) (m : MethodId) (args : Array Value) (below : List Frame) (meth : Method) (c : Code) (H : Heap) (locs : List Loc) (cells slots : Nat) (Q : State → Prop) (g : JFrame) (q : Addr) : Prop :=
  ∀ T : State, T.heap = H → Stand p l e R s m args below meth c T locs cells slots → ∃ t, Steps p.tables e below ((T.setTop g).pushFrame (.throwing q)) t ∧ Q t
def vx_Run (p : Program) (l : Launch) (e : Env) (R : Room) (s : State) (m : MethodId) (args : Array Value) (below : List Frame) (meth : Method) (c : Code) (H : Heap) (locs : List Loc) (cells slots mc ms : Nat) (g : JFrame) (rest : List Value) (Qa : State → Outcome → State → Prop) (XC : String → State → State → Prop) (free : Addr → Prop) : Prop :=
  ∀ T : State, T.heap = H → Stand p l e R s m args below meth c T locs cells slots →
    (∃ (v : Option Value) (st₀ t T' : State) (L : List Loc), st₀.heap = H ∧ Stand p l e R s m args below meth c T' (locs ++ L) (cells + mc) (slots + ms) ∧ (∀ q ∈ L, free q.base) ∧ T'.heap = t.heap ∧ T'.vm = t.vm ∧ Qa st₀ (.returned v) t ∧
      Goes p e below T g T' { g with pc := g.pc + 3, stack := v.toList ++ rest }) ∨
    (∃ (q : Addr) (st₀ t T' : State) (L : List Loc) (E : String) (ce : Cell), st₀.heap = H ∧ Stand p l e R s m args below meth c T' (locs ++ L) (cells + mc) (slots + ms) ∧ (∀ z ∈ L, free z.base) ∧ T'.heap = t.heap ∧ T'.vm = t.vm ∧ XC E st₀ t ∧ t.heap[q]? = some ce ∧ ce.vm = .none ∧ s.vm.findClass E = some ce.cls ∧
      Steps p.tables e below (T.setTop g) ((T'.setTop { g with stack := rest }).pushFrame (.throwing q)))
def vx_X {S : Type} (px : S → Prop) (B : String → S → State → Prop) (A : Nat → Prop) : String → State → State → Prop := fun E st t => ∃ u : S, px u ∧ B E u t ∧ va_F A st t
section Runs
variable {p : Program} {l : Launch} {e : Env} {R : Room} {s : State} {m : MethodId} {args : Array Value} {below : List Frame} {meth : Method} {c : Code} {H : Heap} {locs : List Loc} {cells slots : Nat}
variable {y : MethodName} {bytes cc : ByteArray} {maxL nL mc ms n index : Nat} {ret : Option FieldType} {ws : List Cond} {rm : Room} {Pc : Array Value → State → Prop} {Qc : Array Value → State → Outcome → State → Prop} {XC : String → State → State → Prop} {free : Addr → Prop} {Ts : List Cond} {own C : String} {b : Addr} {As rest : List Value} {g : JFrame}
theorem vx_callBack (cb : CallB R s args own index y bytes maxL ret ws rm mc ms n) (hM : vx_Met l y ws rm Pc Qc XC mc ms free) (hbl : FrameBlind Pc) : vx_Back l R p e below s args y 3 8 (PreOf R mc ms Pc) (PostOf Qc mc ms free) (vx_Post XC mc ms free) := by
  obtain ⟨hrc, hrs, hfr, hlo, hws, hcw, -, hini, -⟩ := cb
  exact vx_back (bytes := bytes) (maxL := maxL) (ret := ret) hM hbl hrc hrs hfr hlo hws hcw (fun a' U hW => word_at hW (Or.inl (by first | rfl | simp [Cond.onTables, Cond.keeps, Cond.steady])) hini)
theorem vx_runV (S : CallFix p m c cc nL s args Ts own) (hM : vx_Met l y ws rm Pc Qc XC mc ms free) (cw : CallW R s args own C index y bytes maxL ret ws rm mc ms n) (hp : PreV s H C b Pc As)
    (hg : g.method = m) (hn : As.length = n) (hsize : g.locals.size = nL) (hstack : g.stack = As.reverse ++ .ref b :: rest) (hW : 2 * g.monitorRoom + (rest.map fun v => v.category).sum ≤ 8) (hdg : decode cc g.pc = .ok (.invokevirtual index, 3)) (hf : cells + mc ≤ R.cells ∧ slots + ms ≤ R.slots) :
    vx_Run p l e R s m args below meth c H locs cells slots mc ms g rest (Qc (Value.ref b :: As).toArray) XC free := by
  have hK : vx_Back l R p e below s args y 3 8 (PreOf R mc ms Pc) (PostOf Qc mc ms free) (vx_Post XC mc ms free) := vx_callBack cw.1 hM hp.1
  obtain ⟨⟨-, -, -, -, -, -, hcode, -, hy, hlen, hl⟩, hin, hse⟩ := cw
  obtain ⟨hx, hb, hml, ho, -⟩ := S
  obtain ⟨-, ⟨cellB, hcB, hoB, hclB⟩, hPc⟩ := hp
  intro T hT X
  rcases vx_callV X hx (C := C) (bytes := bytes) (maxL := maxL) (ret := ret) ho hl hin hse hcode hy hK (by rw [hT]; exact hcB) hoB hclB hg (hsize.trans hml.symm) (argsL := As) (rest := rest) (fun sig h => hn.trans (hlen sig h)) hstack hW (by rw [hb]; exact hdg)
    (fun vm₁ hW₁ => ⟨hf.1, hf.2, hPc (T.setVm vm₁) hT hW₁⟩) with ⟨v, vm₁, ⟨U', l2, c2, s2⟩, hW₁, X', ⟨g', mk, t, L, e1, e2, hq, h1, hL, h2, h3⟩, st⟩ | ⟨q, vm₁, ⟨U', l2, c2, s2⟩, hW₁, X', ⟨g', mk, t, L, E, ce, e1, e2, hq, hce, hcv, hcl, h1, hL, h2, h3⟩, st⟩
  · dsimp only [Pt.U, Pt.locs, Pt.cells, Pt.slots] at X' e1 e2 h1 h2 h3 st
    subst h1; subst h2; subst h3
    exact Or.inl ⟨v, (T.setVm vm₁).calling g' mk (Value.ref b :: As).toArray, t, U', L, hT, X', hL, e1, e2, hq, st⟩
  · dsimp only [Pt.U, Pt.locs, Pt.cells, Pt.slots] at X' e1 e2 h1 h2 h3 st hcl
    subst h1; subst h2; subst h3
    exact Or.inr ⟨q, (T.setVm vm₁).calling g' mk (Value.ref b :: As).toArray, t, U', L, E, ce, hT, X', hL, e1, e2, hq, hce, hcv, vx_cls hW₁ hcl, st⟩
theorem vx_runS (S : CallFix p m c cc nL s args Ts own) (hM : vx_Met l y ws rm Pc Qc XC mc ms free) (cw : CallB R s args own index y bytes maxL ret ws rm mc ms n ∧ (Cond.static y).before args s = true) (hp : PreS s H Pc As)
    (hg : g.method = m) (hn : As.length = n) (hsize : g.locals.size = nL) (hstack : g.stack = As.reverse ++ rest) (hW : 2 * g.monitorRoom + (rest.map fun v => v.category).sum ≤ 8) (hdg : decode cc g.pc = .ok (.invokestatic index, 3)) (hf : cells + mc ≤ R.cells ∧ slots + ms ≤ R.slots) :
    vx_Run p l e R s m args below meth c H locs cells slots mc ms g rest (Qc As.toArray) XC free := by
  have hK : vx_Back l R p e below s args y 3 8 (PreOf R mc ms Pc) (PostOf Qc mc ms free) (vx_Post XC mc ms free) := vx_callBack cw.1 hM hp.1
  obtain ⟨⟨-, -, -, -, -, -, hcode, hini, hy, hlen, hl⟩, hstt⟩ := cw
  obtain ⟨hx, hb, hml, ho, -⟩ := S
  intro T hT X
  rcases vx_callS X hx (bytes := bytes) (maxL := maxL) (ret := ret) ho hl hstt hini hcode hy hK hg (hsize.trans hml.symm) (argsL := As) (rest := rest) (fun sig h => hn.trans (hlen sig h)) hstack hW (by rw [hb]; exact hdg)
    (fun vm₁ hW₁ => ⟨hf.1, hf.2, hp.2 (T.setVm vm₁) hT hW₁⟩) with ⟨v, vm₁, ⟨U', l2, c2, s2⟩, hW₁, X', ⟨g', mk, t, L, e1, e2, hq, h1, hL, h2, h3⟩, st⟩ | ⟨q, vm₁, ⟨U', l2, c2, s2⟩, hW₁, X', ⟨g', mk, t, L, E, ce, e1, e2, hq, hce, hcv, hcl, h1, hL, h2, h3⟩, st⟩
  · dsimp only [Pt.U, Pt.locs, Pt.cells, Pt.slots] at X' e1 e2 h1 h2 h3 st
    subst h1; subst h2; subst h3
    exact Or.inl ⟨v, (T.setVm vm₁).calling g' mk As.toArray, t, U', L, hT, X', hL, e1, e2, hq, st⟩
  · dsimp only [Pt.U, Pt.locs, Pt.cells, Pt.slots] at X' e1 e2 h1 h2 h3 st hcl
    subst h1; subst h2; subst h3
    exact Or.inr ⟨q, (T.setVm vm₁).calling g' mk As.toArray, t, U', L, E, ce, hT, X', hL, e1, e2, hq, hce, hcv, vx_cls hW₁ hcl, st⟩
end Runs
section Rows
variable {p : Program} {l : Launch} {e : Env} {R : Room} {s : State} {m : MethodId} {args : Array Value} {below : List Frame} {meth : Method} {c : Code} {H : Heap} {locs : List Loc} {cells slots : Nat} {Q : State → Prop}
variable {mc ms : Nat} {free : Addr → Prop} {A0 A1 : Nat → Prop} {H0 : Heap} {a : Array Value} {pc : Nat} {ls : Array Slot} {st0 rest : List Value}
theorem vx_keep {st₀ t T' : State} {L : List Loc} (h0 : st₀.heap = H) (e1 : T'.heap = t.heap) (hS : va_S A0 H0 H locs) (hA : ∀ q, q < H.size → A1 q → A0 q) (hf : ∀ q, free q → A0 q) (hL : ∀ q ∈ L, free q.base) (hF : va_F A1 st₀ t) :
    H.size ≤ T'.heap.size ∧ (∀ q : Nat, q < H.size → ¬ A1 q → T'.heap[q]? = H[q]?) ∧ va_S A0 H0 T'.heap (locs ++ L) := by
  obtain ⟨hz, hk⟩ := hF
  rw [h0] at hz hk
  exact ⟨by rw [e1]; exact hz, fun q h1 h2 => by rw [e1]; exact hk q h1 h2,
    ⟨Nat.le_trans hS.1 (by rw [e1]; exact hz), fun q h1 h2 => by rw [e1, hk q (Nat.lt_of_lt_of_le h1 hS.1) (fun z => h2 (hA q (Nat.lt_of_lt_of_le h1 hS.1) z))]; exact hS.2.1 q h1 h2, fun q hq => by
      rcases List.mem_append.mp hq with h | h
      · exact hS.2.2 q h
      · exact hf _ (hL q h)⟩⟩
theorem vx_calli {S SX : Type} {post : Int32 → S → Prop} {px : SX → Prop} {B : S → State → Prop} {BX : String → SX → State → Prop} {AX : Nat → Prop} (hr : vx_Run p l e R s m args below meth c H locs cells slots mc ms (F0 m pc ls st0) rest (va_Qi post B A1 a) (vx_X px BX AX) free) (hS : va_S A0 H0 H locs) (hA : ∀ q, q < H.size → A1 q → A0 q) (hf : ∀ q, free q → A0 q) (hAX : ∀ q, q < H.size → AX q → A0 q)
    (kx : ∀ (E : String) (ce : Cell) (q9 : Addr) (u : SX) (t : State) (H1 : Heap) (locs1 : List Loc), t.heap = H1 → s.vm.Alike t.vm → px u → BX E u t → H.size ≤ H1.size → (∀ q : Nat, q < H.size → ¬ AX q → H1[q]? = H[q]?) → va_S A0 H0 H1 locs1 → H1[q9]? = some ce → ce.vm = .none → s.vm.findClass E = some ce.cls → vx_W p l e R s m args below meth c H1 locs1 (cells + mc) (slots + ms) Q (F0 m pc ls rest) q9)
    (kk : ∀ (r : Int32) (u : S) (t : State) (H1 : Heap) (locs1 : List Loc), t.heap = H1 → s.vm.Alike t.vm → post r u → B u t → H.size ≤ H1.size → (∀ q : Nat, q < H.size → ¬ A1 q → H1[q]? = H[q]?) → va_S A0 H0 H1 locs1 → W p l e R s m args below meth c H1 locs1 (cells + mc) (slots + ms) Q (F0 m (pc + 3) ls (.int r :: rest))) : W p l e R s m args below meth c H locs cells slots Q (F0 m pc ls st0) := by
  intro T hT X
  rcases hr T hT X with ⟨v, st₀, t, T', L, h0, X', hL, e1, e2, ⟨⟨r, u, hv, hp, hb⟩, hF⟩, st⟩ | ⟨q, st₀, t, T', L, E, ce, h0, X', hL, e1, e2, ⟨u, hp, hb, hF⟩, hce, hcv, hcl, st⟩
  · cases hv
    obtain ⟨k1, k2, k3⟩ := vx_keep h0 e1 hS hA hf hL hF
    obtain ⟨t2, a1, b1⟩ := kk r u t T'.heap (locs ++ L) e1.symm (by rw [← e2]; exact X'.warmed.alike) hp hb k1 k2 k3 T' rfl X'
    exact ⟨t2, st t2 a1, b1⟩
  · obtain ⟨k1, k2, k3⟩ := vx_keep h0 e1 hS hAX hf hL hF
    obtain ⟨t2, a1, b1⟩ := kx E ce q u t T'.heap (locs ++ L) e1.symm (by rw [← e2]; exact X'.warmed.alike) hp hb k1 k2 k3 (by rw [e1]; exact hce) hcv hcl T' rfl X'
    exact ⟨t2, st.trans a1, b1⟩
theorem vx_calll {S SX : Type} {post : Int64 → S → Prop} {px : SX → Prop} {B : S → State → Prop} {BX : String → SX → State → Prop} {AX : Nat → Prop} (hr : vx_Run p l e R s m args below meth c H locs cells slots mc ms (F0 m pc ls st0) rest (va_Ql post B A1 a) (vx_X px BX AX) free) (hS : va_S A0 H0 H locs) (hA : ∀ q, q < H.size → A1 q → A0 q) (hf : ∀ q, free q → A0 q) (hAX : ∀ q, q < H.size → AX q → A0 q)
    (kx : ∀ (E : String) (ce : Cell) (q9 : Addr) (u : SX) (t : State) (H1 : Heap) (locs1 : List Loc), t.heap = H1 → s.vm.Alike t.vm → px u → BX E u t → H.size ≤ H1.size → (∀ q : Nat, q < H.size → ¬ AX q → H1[q]? = H[q]?) → va_S A0 H0 H1 locs1 → H1[q9]? = some ce → ce.vm = .none → s.vm.findClass E = some ce.cls → vx_W p l e R s m args below meth c H1 locs1 (cells + mc) (slots + ms) Q (F0 m pc ls rest) q9)
    (kk : ∀ (r : Int64) (u : S) (t : State) (H1 : Heap) (locs1 : List Loc), t.heap = H1 → s.vm.Alike t.vm → post r u → B u t → H.size ≤ H1.size → (∀ q : Nat, q < H.size → ¬ A1 q → H1[q]? = H[q]?) → va_S A0 H0 H1 locs1 → W p l e R s m args below meth c H1 locs1 (cells + mc) (slots + ms) Q (F0 m (pc + 3) ls (.long r :: rest))) : W p l e R s m args below meth c H locs cells slots Q (F0 m pc ls st0) := by
  intro T hT X
  rcases hr T hT X with ⟨v, st₀, t, T', L, h0, X', hL, e1, e2, ⟨⟨r, u, hv, hp, hb⟩, hF⟩, st⟩ | ⟨q, st₀, t, T', L, E, ce, h0, X', hL, e1, e2, ⟨u, hp, hb, hF⟩, hce, hcv, hcl, st⟩
  · cases hv
    obtain ⟨k1, k2, k3⟩ := vx_keep h0 e1 hS hA hf hL hF
    obtain ⟨t2, a1, b1⟩ := kk r u t T'.heap (locs ++ L) e1.symm (by rw [← e2]; exact X'.warmed.alike) hp hb k1 k2 k3 T' rfl X'
    exact ⟨t2, st t2 a1, b1⟩
  · obtain ⟨k1, k2, k3⟩ := vx_keep h0 e1 hS hAX hf hL hF
    obtain ⟨t2, a1, b1⟩ := kx E ce q u t T'.heap (locs ++ L) e1.symm (by rw [← e2]; exact X'.warmed.alike) hp hb k1 k2 k3 (by rw [e1]; exact hce) hcv hcl T' rfl X'
    exact ⟨t2, st.trans a1, b1⟩
theorem vx_callf {S SX : Type} {post : UInt32 → S → Prop} {px : SX → Prop} {B : S → State → Prop} {BX : String → SX → State → Prop} {AX : Nat → Prop} (hr : vx_Run p l e R s m args below meth c H locs cells slots mc ms (F0 m pc ls st0) rest (va_Qf post B A1 a) (vx_X px BX AX) free) (hS : va_S A0 H0 H locs) (hA : ∀ q, q < H.size → A1 q → A0 q) (hf : ∀ q, free q → A0 q) (hAX : ∀ q, q < H.size → AX q → A0 q)
    (kx : ∀ (E : String) (ce : Cell) (q9 : Addr) (u : SX) (t : State) (H1 : Heap) (locs1 : List Loc), t.heap = H1 → s.vm.Alike t.vm → px u → BX E u t → H.size ≤ H1.size → (∀ q : Nat, q < H.size → ¬ AX q → H1[q]? = H[q]?) → va_S A0 H0 H1 locs1 → H1[q9]? = some ce → ce.vm = .none → s.vm.findClass E = some ce.cls → vx_W p l e R s m args below meth c H1 locs1 (cells + mc) (slots + ms) Q (F0 m pc ls rest) q9)
    (kk : ∀ (r : UInt32) (u : S) (t : State) (H1 : Heap) (locs1 : List Loc), t.heap = H1 → s.vm.Alike t.vm → post r u → B u t → H.size ≤ H1.size → (∀ q : Nat, q < H.size → ¬ A1 q → H1[q]? = H[q]?) → va_S A0 H0 H1 locs1 → W p l e R s m args below meth c H1 locs1 (cells + mc) (slots + ms) Q (F0 m (pc + 3) ls (.float r :: rest))) : W p l e R s m args below meth c H locs cells slots Q (F0 m pc ls st0) := by
  intro T hT X
  rcases hr T hT X with ⟨v, st₀, t, T', L, h0, X', hL, e1, e2, ⟨⟨r, u, hv, hp, hb⟩, hF⟩, st⟩ | ⟨q, st₀, t, T', L, E, ce, h0, X', hL, e1, e2, ⟨u, hp, hb, hF⟩, hce, hcv, hcl, st⟩
  · cases hv
    obtain ⟨k1, k2, k3⟩ := vx_keep h0 e1 hS hA hf hL hF
    obtain ⟨t2, a1, b1⟩ := kk r u t T'.heap (locs ++ L) e1.symm (by rw [← e2]; exact X'.warmed.alike) hp hb k1 k2 k3 T' rfl X'
    exact ⟨t2, st t2 a1, b1⟩
  · obtain ⟨k1, k2, k3⟩ := vx_keep h0 e1 hS hAX hf hL hF
    obtain ⟨t2, a1, b1⟩ := kx E ce q u t T'.heap (locs ++ L) e1.symm (by rw [← e2]; exact X'.warmed.alike) hp hb k1 k2 k3 (by rw [e1]; exact hce) hcv hcl T' rfl X'
    exact ⟨t2, st.trans a1, b1⟩
theorem vx_calld {S SX : Type} {post : UInt64 → S → Prop} {px : SX → Prop} {B : S → State → Prop} {BX : String → SX → State → Prop} {AX : Nat → Prop} (hr : vx_Run p l e R s m args below meth c H locs cells slots mc ms (F0 m pc ls st0) rest (va_Qd post B A1 a) (vx_X px BX AX) free) (hS : va_S A0 H0 H locs) (hA : ∀ q, q < H.size → A1 q → A0 q) (hf : ∀ q, free q → A0 q) (hAX : ∀ q, q < H.size → AX q → A0 q)
    (kx : ∀ (E : String) (ce : Cell) (q9 : Addr) (u : SX) (t : State) (H1 : Heap) (locs1 : List Loc), t.heap = H1 → s.vm.Alike t.vm → px u → BX E u t → H.size ≤ H1.size → (∀ q : Nat, q < H.size → ¬ AX q → H1[q]? = H[q]?) → va_S A0 H0 H1 locs1 → H1[q9]? = some ce → ce.vm = .none → s.vm.findClass E = some ce.cls → vx_W p l e R s m args below meth c H1 locs1 (cells + mc) (slots + ms) Q (F0 m pc ls rest) q9)
    (kk : ∀ (r : UInt64) (u : S) (t : State) (H1 : Heap) (locs1 : List Loc), t.heap = H1 → s.vm.Alike t.vm → post r u → B u t → H.size ≤ H1.size → (∀ q : Nat, q < H.size → ¬ A1 q → H1[q]? = H[q]?) → va_S A0 H0 H1 locs1 → W p l e R s m args below meth c H1 locs1 (cells + mc) (slots + ms) Q (F0 m (pc + 3) ls (.double r :: rest))) : W p l e R s m args below meth c H locs cells slots Q (F0 m pc ls st0) := by
  intro T hT X
  rcases hr T hT X with ⟨v, st₀, t, T', L, h0, X', hL, e1, e2, ⟨⟨r, u, hv, hp, hb⟩, hF⟩, st⟩ | ⟨q, st₀, t, T', L, E, ce, h0, X', hL, e1, e2, ⟨u, hp, hb, hF⟩, hce, hcv, hcl, st⟩
  · cases hv
    obtain ⟨k1, k2, k3⟩ := vx_keep h0 e1 hS hA hf hL hF
    obtain ⟨t2, a1, b1⟩ := kk r u t T'.heap (locs ++ L) e1.symm (by rw [← e2]; exact X'.warmed.alike) hp hb k1 k2 k3 T' rfl X'
    exact ⟨t2, st t2 a1, b1⟩
  · obtain ⟨k1, k2, k3⟩ := vx_keep h0 e1 hS hAX hf hL hF
    obtain ⟨t2, a1, b1⟩ := kx E ce q u t T'.heap (locs ++ L) e1.symm (by rw [← e2]; exact X'.warmed.alike) hp hb k1 k2 k3 (by rw [e1]; exact hce) hcv hcl T' rfl X'
    exact ⟨t2, st.trans a1, b1⟩
theorem vx_callv {S SX : Type} {post : S → Prop} {px : SX → Prop} {B : S → State → Prop} {BX : String → SX → State → Prop} {AX : Nat → Prop} (hr : vx_Run p l e R s m args below meth c H locs cells slots mc ms (F0 m pc ls st0) rest (va_Qv post B A1 a) (vx_X px BX AX) free) (hS : va_S A0 H0 H locs) (hA : ∀ q, q < H.size → A1 q → A0 q) (hf : ∀ q, free q → A0 q) (hAX : ∀ q, q < H.size → AX q → A0 q)
    (kx : ∀ (E : String) (ce : Cell) (q9 : Addr) (u : SX) (t : State) (H1 : Heap) (locs1 : List Loc), t.heap = H1 → s.vm.Alike t.vm → px u → BX E u t → H.size ≤ H1.size → (∀ q : Nat, q < H.size → ¬ AX q → H1[q]? = H[q]?) → va_S A0 H0 H1 locs1 → H1[q9]? = some ce → ce.vm = .none → s.vm.findClass E = some ce.cls → vx_W p l e R s m args below meth c H1 locs1 (cells + mc) (slots + ms) Q (F0 m pc ls rest) q9)
    (kk : ∀ (u : S) (t : State) (H1 : Heap) (locs1 : List Loc), t.heap = H1 → s.vm.Alike t.vm → post u → B u t → H.size ≤ H1.size → (∀ q : Nat, q < H.size → ¬ A1 q → H1[q]? = H[q]?) → va_S A0 H0 H1 locs1 → W p l e R s m args below meth c H1 locs1 (cells + mc) (slots + ms) Q (F0 m (pc + 3) ls (rest))) : W p l e R s m args below meth c H locs cells slots Q (F0 m pc ls st0) := by
  intro T hT X
  rcases hr T hT X with ⟨v, st₀, t, T', L, h0, X', hL, e1, e2, ⟨⟨u, hv, hp, hb⟩, hF⟩, st⟩ | ⟨q, st₀, t, T', L, E, ce, h0, X', hL, e1, e2, ⟨u, hp, hb, hF⟩, hce, hcv, hcl, st⟩
  · cases hv
    obtain ⟨k1, k2, k3⟩ := vx_keep h0 e1 hS hA hf hL hF
    obtain ⟨t2, a1, b1⟩ := kk u t T'.heap (locs ++ L) e1.symm (by rw [← e2]; exact X'.warmed.alike) hp hb k1 k2 k3 T' rfl X'
    exact ⟨t2, st t2 a1, b1⟩
  · obtain ⟨k1, k2, k3⟩ := vx_keep h0 e1 hS hAX hf hL hF
    obtain ⟨t2, a1, b1⟩ := kx E ce q u t T'.heap (locs ++ L) e1.symm (by rw [← e2]; exact X'.warmed.alike) hp hb k1 k2 k3 (by rw [e1]; exact hce) hcv hcl T' rfl X'
    exact ⟨t2, st.trans a1, b1⟩
/-- caught by the row x of this method's table; the rows ahead don't take it -/
theorem vx_catch {own name : String} {E : String} {ce : Cell} {q : Addr} (hown : s.vm.findClass own = some m.cls) (pre : List ExceptionTableEntry) (x : ExceptionTableEntry) (suf : List ExceptionTableEntry) (hsplit : c.exceptionTable.toList = pre ++ x :: suf)
    (hpass : ∀ z ∈ pre, covers z pc = false ∨ (z.catchType ≠ 0 ∧ ∃ nm : String, (Cond.classLink own z.catchType nm).before args s = true ∧ va_Nc E nm s)) (hx : covers x pc = true) (h0 : x.catchType ≠ 0)
    (hlink : (Cond.classLink own x.catchType name).before args s = true) (hcast : (Cond.castable E name).before args s = true) (hcell : H[q]? = some ce) (hv : ce.vm = .none) (hcl : s.vm.findClass E = some ce.cls)
    (kk : W p l e R s m args below meth c H locs cells slots Q (F0 m x.handlerPc ls [.ref q])) : vx_W p l e R s m args below meth c H locs cells slots Q (F0 m pc ls rest) q := by
  intro T hT X
  have hpl : e.platform.magicAccessors = ({} : Platform).magicAccessors := by rw [X.admits.platform]
  obtain ⟨c3, c4, hc3, hc4, hasg⟩ := Cond.castable_spec hcast
  cases Option.some.inj (hc3.symm.trans hcl)
  obtain ⟨c5, hc5, hcl5⟩ := Cond.classLink_spec hown hlink e.platform hpl
  cases Option.some.inj (hc4.symm.trans hc5)
  obtain ⟨vm', X', st⟩ := X.thenCaughtThrough q (g := F0 m pc ls rest) rfl (Steps.refl _) (by rw [hT]; exact hcell) (by rw [hv]; rfl) (by obtain ⟨k9, h9, -⟩ := Vm.findClass_spec hcl; exact ⟨k9, h9⟩) pre x suf hsplit
    (fun z hz => by
      rcases hpass z hz with h | ⟨hz0, nm, hl1, hn1⟩
      · exact Or.inl h
      · obtain ⟨c6, hc6, hcl6⟩ := Cond.classLink_spec hown hl1 e.platform hpl
        obtain ⟨a8, b8, h1, h2, h3⟩ := hn1
        cases Option.some.inj (h1.symm.trans hcl)
        cases Option.some.inj (h2.symm.trans hc6)
        exact Or.inr ⟨hz0, _, hcl6, h3⟩) hx (Or.inr ⟨h0, c4, hcl5, hasg⟩)
  obtain ⟨t, a1, b1⟩ := kk (T.setVm vm') hT X'
  exact ⟨t, st.trans a1, b1⟩
end Rows
section Ends
variable {p : Program} {l : Launch} {e : Env} {R : Room} {s : State} {m : MethodId} {args : Array Value} {below : List Frame} {meth : Method} {c : Code} {H : Heap} {locs : List Loc} {cells slots : Nat} {Q : State → Prop}
variable {mc ms : Nat} {free : Addr → Prop} {A0 A1 : Nat → Prop} {H0 : Heap} {a : Array Value} {ls : Array Slot} {st0 rest : List Value}
variable {Qc : Array Value → State → Outcome → State → Prop} {XC : String → State → State → Prop}
/-- what a body that may throw owes at its end -/
def vx_MQ (below : List Frame) (Qc : Array Value → State → Outcome → State → Prop) (XC : String → State → State → Prop) (a : Array Value) (s : State) (mc ms : Nat) (free : Addr → Prop) : State → Prop := fun t =>
  ∃ o, t.status = .running ∧ Ended t below o ∧ vx_Q Qc XC mc ms free a s o t
theorem vx_ret {g : JFrame} {mc ms : Nat} (k : W p l e R s m args below meth c H locs cells slots (MQ below Qc args s mc ms free) g) : W p l e R s m args below meth c H locs cells slots (vx_MQ below Qc XC args s mc ms free) g := by
  intro T hT X
  obtain ⟨t, a1, o, b1, b2, b3, b4⟩ := k T hT X
  exact ⟨t, a1, o, b1, b2, Or.inl ⟨b3, b4⟩⟩
/-- not caught here: it goes on to the caller -/
theorem vx_widen {g : JFrame} {q : Addr} {k n : Nat} (h1 : cells ≤ k) (h2 : slots ≤ n) (kk : vx_W p l e R s m args below meth c H locs k n Q g q) : vx_W p l e R s m args below meth c H locs cells slots Q g q := fun T hT X => kk T hT (stand_widen X h1 h2)
theorem vx_out {pc : Nat} {E : String} {ce : Cell} {q : Addr} {mc ms : Nat} (hout : ∀ x ∈ c.exceptionTable.toList, covers x pc = false) (hlocks : meth.locks = false) (hcell : H[q]? = some ce) (hv : ce.vm = .none) (hcl : s.vm.findClass E = some ce.cls)
    (hx : ∀ t : State, t.heap = H → s.vm.Alike t.vm → XC E s t) (hf : ∀ z ∈ locs, free z.base) (hc : cells ≤ mc) (hs : slots ≤ ms) :
    vx_W p l e R s m args below meth c H locs cells slots (vx_MQ below Qc XC args s mc ms free) (F0 m pc ls rest) q := by
  intro T hT X
  obtain ⟨st1, hrun, hend, hW, hsm⟩ := X.leaveThrown q (g := F0 m pc ls rest) rfl rfl rfl hout hlocks
  have hcell9 : (T.setFrames (.throwing q :: below)).heap[q]? = some ce := by
    show T.heap[q]? = some ce
    rw [hT]; exact hcell
  exact ⟨_, st1, .threw q, hrun, hend, Or.inr ⟨q, rfl, E, ce, locs, hx _ hT hW.alike, hcell9, hv, hcl, hW, hsm.mono hc hs, hf⟩⟩
theorem vx_frame {U : State} {k n : Nat} (h : s.sameButNew ({ U with vm := s.vm } : State) locs k n) : s.heap.size ≤ U.heap.size ∧ ∀ q : Nat, q < s.heap.size → (∀ z ∈ locs, z.base ≠ q) → U.heap[q]? = s.heap[q]? := by
  obtain ⟨-, h2, -, -, -, h6⟩ := h
  refine ⟨h2, fun q hq hz => ?_⟩
  obtain ⟨c9, e1, e2, e3, e4⟩ := h6 q _ (Array.getElem?_eq_getElem hq)
  have hs : c9.slots = (s.heap[q]).slots := Array.ext_getElem? fun i => e4 i fun hm => hz _ hm rfl
  have h9 : c9 = s.heap[q] := by
    rw [hs] at e2
    exact e2
  have e5 : U.heap[q]? = some c9 := e1
  rw [e5, h9, Array.getElem?_eq_getElem hq]
/-- the words of a throw but the four that speak of the heap -/
def vx_no (w : Cond) : Bool := decide (w ≠ .isRef (.static Bundle.tN "UNASSIGNED_STACK" Bundle.steD)) && decide (w ≠ .isRef (.static Bundle.tN "SUPPRESSED_SENTINEL" Bundle.listD)) && decide (w ≠ .laysStatic Bundle.tN "UNASSIGNED_STACK" Bundle.steD) && decide (w ≠ .laysStatic Bundle.tN "SUPPRESSED_SENTINEL" Bundle.listD)
def vx_at0 (own : String) (ic : Nat) (X : String) (names : List String) : List Cond := (Bundle.ownAtoms0 own ic X names).filter vx_no
def vx_atS (own : String) (ic : Nat) (X : String) (names : List String) : List Cond := (Bundle.ownAtoms own ic X names).filter vx_no
/-- a word that the tables alone decide, or a good one -/
def vx_ot (w : Cond) : Bool := w.onTables || goodWord w
theorem vx_ot_at {args a' : Array Value} {s U : State} {w : Cond} (hW : s.WarmedH U.vm) (hvm : s.vm = U.vm) (hg : vx_ot w = true) (h : w.before args s = true) : w.before a' U = true := by
  simp only [vx_ot, Bool.or_eq_true] at hg
  rcases hg with hg | hg
  · exact va_tabs hg hvm h
  · exact word_at hW (good_of_word hg) h
/-- a list's words: the good ones out of the method's own list, the others by premises of their own -/
theorem vx_hat {args : Array Value} {s : State} {L B : List Cond} (h1 : ∀ w ∈ L.filter goodWord, w.before args s = true) (h2 : ∀ w ∈ L.filter (fun w => !goodWord w), w ∈ B) (h3 : ∀ w ∈ B, w.before args s = true) : ∀ w ∈ L, w.before args s = true := by
  intro w hw
  by_cases g : goodWord w = true
  · exact h1 w (List.mem_filter.mpr ⟨hw, g⟩)
  · refine h3 w (h2 w (List.mem_filter.mpr ⟨hw, ?_⟩))
    show (!goodWord w) = true
    cases hgw : goodWord w
    · rfl
    · exact absurd hgw g
theorem vx_c {args : Array Value} {s : State} {w : Cond} {B : List Cond} (h : w.before args s = true) (t : ∀ w ∈ B, w.before args s = true) : ∀ w' ∈ w :: B, w'.before args s = true := fun w' h' => (List.mem_cons.mp h').elim (fun e => by rw [e]; exact h) (t w')
theorem vx_n {args : Array Value} {s : State} : ∀ w ∈ ([] : List Cond), w.before args s = true := fun _ h => nomatch h
theorem vx_own {args : Array Value} {s : State} {L : List Cond} (h1 : ∀ w ∈ L.filter vx_no, w.before args s = true)
    (hU : (Cond.isRef (.static Bundle.tN "UNASSIGNED_STACK" Bundle.steD)).before args s = true) (hN : (Cond.isRef (.static Bundle.tN "SUPPRESSED_SENTINEL" Bundle.listD)).before args s = true)
    (lU : (Cond.laysStatic Bundle.tN "UNASSIGNED_STACK" Bundle.steD).before args s = true) (lN : (Cond.laysStatic Bundle.tN "SUPPRESSED_SENTINEL" Bundle.listD).before args s = true) : ∀ w ∈ L, w.before args s = true := by
  intro w hw
  by_cases e1 : w = .isRef (.static Bundle.tN "UNASSIGNED_STACK" Bundle.steD)
  · rw [e1]; exact hU
  · by_cases e2 : w = .isRef (.static Bundle.tN "SUPPRESSED_SENTINEL" Bundle.listD)
    · rw [e2]; exact hN
    · by_cases e3 : w = .laysStatic Bundle.tN "UNASSIGNED_STACK" Bundle.steD
      · rw [e3]; exact lU
      · by_cases e4 : w = .laysStatic Bundle.tN "SUPPRESSED_SENTINEL" Bundle.listD
        · rw [e4]; exact lN
        · exact h1 w (List.mem_filter.mpr ⟨hw, by unfold vx_no; rw [decide_eq_true e1, decide_eq_true e2, decide_eq_true e3, decide_eq_true e4]; rfl⟩)
/-- where a static field lies, its class's statics cell in H -/
def vx_L (C n d : String) (A : Nat → Prop) (U : State) (H : Heap) : Prop := ∃ (c : ClassId) (k : Class) (i : Nat) (f : Field) (a : Nat) (cell : Cell), U.vm.findClass C = some c ∧ U.fieldFound? C n d = some (c, k, i, f) ∧ f.isStatic = true ∧ k.statics = some a ∧ H[a]? = some cell ∧ cell.vm.isStatics = true ∧ cell.cls = c ∧ f.slot < cell.slots.size ∧ k.staticTypes[f.slot]? = some f.type ∧ ¬ A a
theorem vx_L.moved {C n d : String} {A : Nat → Prop} {u U : State} {H : Heap} (hvm : u.vm.Alike U.vm) (h : vx_L C n d A u H) : vx_L C n d A U H := by
  obtain ⟨c, k, i, f, a, cell, h1, h2, h3, h4, h5, h6, h7, h8, h9, h10⟩ := h
  obtain ⟨k', hi', he⟩ := State.fieldFound?_setVm hvm h2
  exact ⟨c, k', i, f, a, cell, by rw [hvm.findClass]; exact h1, hi', h3, by rw [he]; exact h4, h5, h6, h7, h8, by rw [he]; exact h9, h10⟩
theorem vx_L.kept {C n d : String} {A : Nat → Prop} {U : State} {H H1 : Heap} (h : vx_L C n d A U H) (hq : ∀ a : Nat, a < H.size → ¬ A a → H1[a]? = H[a]?) : vx_L C n d A U H1 := by
  obtain ⟨c, k, i, f, a, cell, h1, h2, h3, h4, h5, h6, h7, h8, h9, h10⟩ := h
  exact ⟨c, k, i, f, a, cell, h1, h2, h3, h4, by rw [hq a (Array.getElem?_eq_some_iff.mp h5).1 h10]; exact h5, h6, h7, h8, h9, h10⟩
theorem vx_L.narrow {C n d : String} {A B : Nat → Prop} {U : State} {H : Heap} (h : vx_L C n d A U H) (hAB : ∀ q, B q → A q) : vx_L C n d B U H := by
  obtain ⟨c, k, i, f, a, cell, h1, h2, h3, h4, h5, h6, h7, h8, h9, h10⟩ := h
  exact ⟨c, k, i, f, a, cell, h1, h2, h3, h4, h5, h6, h7, h8, h9, fun z => h10 (hAB _ z)⟩
theorem vx_L.word {C n d : String} {A : Nat → Prop} {s : State} {args : Array Value} (h : vx_L C n d A s s.heap) : (Cond.laysStatic C n d).before args s = true := by
  obtain ⟨c, k, i, f, a, cell, h1, h2, h3, h4, h5, h6, h7, h8, h9, -⟩ := h
  show (Cond.laysStatic C n d).holds args s none s [] = true
  exact Cond.laysStatic_of h1 h2 h3 h4 h5 h6 h7 h8 h9
/-- .. and what it holds: null or some reference -/
def vx_Zq (C n d : String) (A : Nat → Prop) (U : State) (H : Heap) : Prop := va_Zq C n d A U H ∧ vx_L C n d A U H
theorem vx_Zq.moved {C n d : String} {A : Nat → Prop} {u U : State} {H : Heap} (hvm : u.vm.Alike U.vm) (h : vx_Zq C n d A u H) : vx_Zq C n d A U H := ⟨va_Zq.moved hvm h.1, vx_L.moved hvm h.2⟩
theorem vx_Zq.kept {C n d : String} {A : Nat → Prop} {U : State} {H H1 : Heap} (h : vx_Zq C n d A U H) (hq : ∀ a : Nat, a < H.size → ¬ A a → H1[a]? = H[a]?) : vx_Zq C n d A U H1 := ⟨va_Zq.kept h.1 hq, vx_L.kept h.2 hq⟩
theorem vx_Zq.narrow {C n d : String} {A B : Nat → Prop} {U : State} {H : Heap} (h : vx_Zq C n d A U H) (hAB : ∀ q, B q → A q) : vx_Zq C n d B U H := ⟨va_Zq.narrow h.1 hAB, vx_L.narrow h.2 hAB⟩
theorem vx_Zqof {args : Array Value} {s : State} {C n d : String} {A : Nat → Prop} (hl : (Cond.laysStatic C n d).before args s = true) (hini : (Cond.initialized C).before args s = true) (h : (Cond.isRef (.static C n d)).before args s = true) (hA : ∀ a : Nat, a < s.heap.size → ¬ A a) : vx_Zq C n d A s s.heap := by
  refine ⟨va_Zqof hl hini h hA, ?_⟩
  obtain ⟨c, k, i, f, a, cell, h1, h2, h3, h4, h5, h6, h7, h8, h9⟩ := Cond.laysStatic_spec hl
  exact ⟨c, k, i, f, a, cell, h1, h2, h3, h4, h5, h6, h7, h8, h9, hA a (Array.getElem?_eq_some_iff.mp h5).1⟩
theorem vx_isRef {C n d : String} {v : Value} {A : Nat → Prop} {s : State} {args : Array Value} (h : va_Z C n d v A s s.heap) (hv : v.isRef = true) : (Cond.isRef (.static C n d)).before args s = true := by
  obtain ⟨cf, kf, fi, f, a, cell, h1, h2, h3, h4, h5, h6, h7, -⟩ := h
  have he : (Term.static C n d).eval args s none [] s = some v := by
    simp [Term.eval, State.fieldNamed?, h1, h2, h4, h5, h6, h7]
  simp only [Cond.before, Cond.holds, Cond.value, he]
  cases v <;> simp_all [Value.isRef]
theorem vx_isRefq {C n d : String} {A : Nat → Prop} {s : State} {args : Array Value} (h : va_Zq C n d A s s.heap) : (Cond.isRef (.static C n d)).before args s = true := by
  rcases h with h | ⟨t, h⟩
  · exact vx_isRef h rfl
  · exact vx_isRef h rfl
/-- the same frame, seen from here: as if the method were called anew in this heap -/
theorem vx_rebase {T : State} (X : Stand p l e R s m args below meth c T locs cells slots) {R' : Room} (hf : R'.frames ≤ R.frames) (hl : R'.locals ≤ R.locals) (hc : cells + R'.cells ≤ R.cells) (hs : slots + R'.slots ≤ R.slots) :
    Stand p l e R' ((T.setVm s.vm).setFrames (.invoking m args :: below)) m args below meth c T [] 0 0 := by
  have htop : (T.setVm s.vm).topJava?.isSome := X.here.top
  have hF : ((T.setVm s.vm).setFrames (.invoking m args :: below)).frames = .invoking m args :: below := State.frames_setFrames _ (State.cur_lt_of_top htop)
  obtain ⟨g₀, hg0⟩ := Option.isSome_iff_exists.mp htop
  obtain ⟨r, hr⟩ := State.topJava?_eq_some.mp hg0
  have hl9 : e.platform.stackLimits (T.setVm s.vm).me = e.platform.stackLimits s.me := X.limits
  have hb9 : (T.setVm s.vm).me.stackBytes = s.me.stackBytes := X.bytes
  refine ⟨X.admits, X.cas, X.clock, hF, ?_, X.hears, X.method, X.code, X.here, X.tail, X.warmed, ?_, ?_, ?_⟩
  · have h := X.room
    have hU : ((T.setVm s.vm).setFrames (.invoking m args :: below)).localsInUse = s.localsInUse := by
      rw [State.localsInUse_invoking hF (meth := meth) (c := c) X.method X.code, State.localsInUse_invoking X.frames X.method X.code]
    simp only [State.hasRoom, Bool.and_eq_true, decide_eq_true_eq] at h ⊢
    obtain ⟨⟨⟨⟨h1, h2, h3, h4, h5, h6⟩, h7⟩, h8⟩, h9⟩ := h
    rw [X.frames, List.length_cons] at h2 h3
    have q1 := X.heapSize
    have q2 := X.used
    simp only [hF, hU, List.length_cons, State.stackLimits_setFrames, State.stackBytes_setFrames, hl9, hb9]
    refine ⟨⟨⟨⟨by omega, by omega, by omega, by omega, by omega, h6⟩, ?_⟩, ?_⟩, X.book⟩
    · show T.heap.size + R'.cells ≤ e.platform.maxCells
      omega
    · show T.slotsUsed + R'.slots ≤ e.platform.maxSlots
      omega
  · rw [State.stackLimits_setFrames]; rfl
  · rw [State.stackBytes_setFrames]; rfl
  · refine ⟨?_, Nat.le_refl _, Nat.le_refl _, ?_, ?_, fun a c9 h9 => ⟨c9, h9, rfl, rfl, fun _ _ => rfl⟩⟩
    · obtain ⟨t, ht, -⟩ := State.frames_cons hr
      show T.setVm s.vm = { ((T.setVm s.vm).setFrames (.invoking m args :: below)).setFrames (T.setVm s.vm).frames with heap := T.heap, slotsUsed := T.slotsUsed }
      rw [State.setFrames_setFrames, State.setFrames_self ht]
      rfl
    · show T.slotsUsed = T.slotsUsed + ((T.heap.toList.drop T.heap.size).map (·.slots.size)).sum
      rw [List.drop_eq_nil_of_le (Nat.le_of_eq Array.length_toList)]
      rfl
    · show ((T.heap.toList.drop T.heap.size).map (·.slots.size)).sum ≤ 0
      rw [List.drop_eq_nil_of_le (Nat.le_of_eq Array.length_toList)]
      exact Nat.le_refl _
/-- 'throw new E()': new; dup; invokespecial; athrow -/
theorem vx_throw0 {cc : ByteArray} {pc : Nat} (hexec : p.tables.exec = Jvm.exec) (hb : c.code = cc) (hl : l.stackTraces = false) {own cls : String} {names : List String} {ik ic mc ms : Nat} {A : Nat → Prop}
    (hown : s.vm.findClass own = some m.cls) (hcls : Bundle.fit cls = true) (hnames : ∀ n ∈ names, Bundle.fit n = true)
    (hk : (Cond.classLink own ik cls).before args s = true) (hini : (Cond.initialized cls).before args s = true) (hat : ∀ w ∈ vx_at0 own ic cls names, w.before args s = true)
    (hgood : ∀ w ∈ Cond.classLink own ik cls :: Cond.initialized cls :: vx_at0 own ic cls names, vx_ot w = true)
    (hU : vx_Zq Bundle.tN "UNASSIGNED_STACK" Bundle.steD A s s.heap) (hN : vx_Zq Bundle.tN "SUPPRESSED_SENTINEL" Bundle.listD A s s.heap) (hS : va_S A s.heap H locs) (hsize : ls.size = c.maxLocals)
    (d0 : decode cc pc = .ok (.new ik, 3)) (d3 : decode cc (pc + 3) = .ok (.dup, 1)) (d4 : decode cc (pc + 4) = .ok (.invokespecial ic, 3)) (d7 : decode cc (pc + 7) = .ok (.athrow, 1))
    (hout : ∀ x ∈ c.exceptionTable.toList, covers x (pc + 7) = false)
    (hRframes : names.length + 3 < R.frames) (hRlocals : (rest.map fun v => v.category).sum + (13 * (names.length + 1) + 42) ≤ R.locals) (hRcells : cells + 1 ≤ R.cells) (hRslots : slots + 6 ≤ R.slots) (hlocks : meth.locks = false)
    (hx : ∀ t : State, s.vm.Alike t.vm → H.size ≤ t.heap.size → (∀ q : Nat, q < H.size → t.heap[q]? = H[q]?) → XC cls s t)
    (hf : ∀ z ∈ locs, free z.base) (hc : cells + 1 ≤ mc) (hs : slots + 6 ≤ ms) :
    W p l e R s m args below meth c H locs cells slots (vx_MQ below Qc XC args s mc ms free) (F0 m pc ls rest) := by
  intro T hT X
  have htr : e.platform.stackTraces = false := (show e.platform.stackTraces = l.stackTraces by rw [X.admits.platform]).trans hl
  have Y := vx_rebase X (R' := { frames := R.frames, locals := R.locals, cells := 1, slots := 6 }) (Nat.le_refl _) (Nat.le_refl _) hRcells hRslots
  obtain ⟨s', hA⟩ : ∃ z, z = (T.setVm s.vm).setFrames (.invoking m args :: below) := ⟨_, rfl⟩
  rw [← hA] at Y
  have hvm : s'.vm = s.vm := by rw [hA]; rfl
  have hhp : s'.heap = H := by rw [hA]; exact hT
  have hW0 : s.WarmedH s'.vm := by rw [hvm]; exact State.WarmedH.refl s
  have hat' : ∀ w ∈ vx_at0 own ic cls names, w.before args s' = true := fun w hw => vx_ot_at hW0 hvm.symm (hgood w (List.mem_cons_of_mem _ (List.mem_cons_of_mem _ hw))) (hat w hw)
  have hk' : (Cond.classLink own ik cls).before args s' = true := vx_ot_at hW0 hvm.symm (hgood _ List.mem_cons_self) hk
  have hini' : (Cond.initialized cls).before args s' = true := vx_ot_at hW0 hvm.symm (hgood _ (List.mem_cons_of_mem _ List.mem_cons_self)) hini
  have hU' : vx_Zq Bundle.tN "UNASSIGNED_STACK" Bundle.steD A s' s'.heap := by rw [hhp]; exact vx_Zq.moved hW0.alike (hU.kept hS.2.1)
  have hN' : vx_Zq Bundle.tN "SUPPRESSED_SENTINEL" Bundle.listD A s' s'.heap := by rw [hhp]; exact vx_Zq.moved hW0.alike (hN.kept hS.2.1)
  have h : ∀ w ∈ Bundle.ownAtoms0 own ic cls names, w.before args s' = true := vx_own hat' (vx_isRefq hU'.1) (vx_isRefq hN'.1) hU'.2.word hN'.2.word
  have hown' : s'.vm.findClass own = some m.cls := by rw [hvm]; exact hown
  have hins : (Cond.instantiable cls 6).before args s' = true := h _ (by simp [Bundle.ownAtoms0])
  obtain ⟨vm₁, cX, kX, hfX, hkX, -, -, X₁, st1⟩ := Y.newCold hexec (own := own) (C := cls) (index := ik) (n := 6) hown' hk' hins hini'
    (g := F0 m pc ls rest) rfl (by rw [hb]; exact d0) (Nat.le_refl _) (Nat.le_refl _)
  generalize hT1 : (T.setVm vm₁).pushCell { cls := cX, slots := kX.instanceTypes.map defaultValue, vm := .none } = T1 at X₁ st1
  have hcat : (Value.ref T.heap.size).category = 1 := rfl
  have hcellA : T1.heap[T.heap.size]? = some (freshCell cX kX) := by rw [← hT1]; exact State.heap_pushCell_size _ _
  have d3' : decode c.code (pc + 3) = .ok (.dup, 1) := by rw [hb]; exact d3
  obtain ⟨U, hsteps, hrun, hend, hW, hsame, ce, hce, hO⟩ := X₁.ctorThrow0 hexec htr (own := own) (cls := cls) (names := names) (ic := ic) hown' hcls hnames h (fun x hx => nomatch hx) hfX hkX hcellA (by rw [hhp, hT]; exact Nat.le_refl _)
    (g := { method := m, pc := pc + 4, locals := ls, stack := .ref T.heap.size :: .ref T.heap.size :: rest, locked := none }) rfl hsize rfl rfl (rest := rest) rfl
    (by rw [hb]; exact d4) (by rw [hb]; exact d7) hout hRframes (by simp only [List.map_cons, List.sum_cons, hcat]; omega) hlocks
  obtain ⟨f1, f2⟩ := vx_frame hsame
  rw [hhp] at f1 f2
  have hWs : s.WarmedH U.vm := State.WarmedH.trans hW0 hW
  have hcl : s.vm.findClass cls = some ce.cls := by
    have h9 := hO.cls
    rw [hvm] at h9
    exact h9
  have hall : s.sameButNew ({ U with vm := s.vm } : State) locs mc ms := by
    subst hA
    obtain ⟨e1, e2⟩ := hsame
    rw [State.setFrames_setFrames] at e1
    have h2 : (T.setVm s.vm).sameButNew ({ U with vm := s.vm } : State) [] (0 + 1) (0 + 6) := ⟨e1, e2⟩
    have h3 := X.same.trans h2
    rw [List.append_nil] at h3
    exact h3.mono hc hs
  refine ⟨U, ?_, .threw T.heap.size, hrun, hend, Or.inr ⟨T.heap.size, rfl, cls, ce, locs, hx U hWs.alike f1 (fun q hq => f2 q hq (fun z hz => nomatch hz)), hce, hO.vm, hcl, hWs, hall, hf⟩⟩
  refine st1 _ ?_
  show Steps p.tables e below (T1.setTop { method := m, pc := pc + 3, locals := ls, stack := .ref T.heap.size :: rest, locked := none }) _
  jvm_step X₁.here [X₁.here.top, hexec, d3', Value.category]
  exact hsteps
/-- 'throw new E("text")': new; dup; ldc; invokespecial; athrow -/
theorem vx_throwS {cc : ByteArray} {pc : Nat} (hexec : p.tables.exec = Jvm.exec) (hb : c.code = cc) (hl : l.stackTraces = false) {own cls text : String} {names : List String} {ik is ic mc ms sa : Nat} {A : Nat → Prop}
    (hown : s.vm.findClass own = some m.cls) (hcls : Bundle.fit cls = true) (hnames : ∀ n ∈ names, Bundle.fit n = true)
    (hk : (Cond.classLink own ik cls).before args s = true) (hini : (Cond.initialized cls).before args s = true) (hstr : vk_R own is text sa s) (hat : ∀ w ∈ vx_atS own ic cls names, w.before args s = true)
    (hgood : ∀ w ∈ Cond.classLink own ik cls :: Cond.initialized cls :: vx_atS own ic cls names, vx_ot w = true)
    (hU : vx_Zq Bundle.tN "UNASSIGNED_STACK" Bundle.steD A s s.heap) (hN : vx_Zq Bundle.tN "SUPPRESSED_SENTINEL" Bundle.listD A s s.heap) (hS : va_S A s.heap H locs) (hsize : ls.size = c.maxLocals)
    (d0 : decode cc pc = .ok (.new ik, 3)) (d3 : decode cc (pc + 3) = .ok (.dup, 1)) (d4 : decode cc (pc + 4) = .ok (.ldc is, 2)) (d6 : decode cc (pc + 6) = .ok (.invokespecial ic, 3)) (d9 : decode cc (pc + 9) = .ok (.athrow, 1))
    (hout : ∀ x ∈ c.exceptionTable.toList, covers x (pc + 9) = false)
    (hRframes : names.length + 3 < R.frames) (hRlocals : (rest.map fun v => v.category).sum + (13 * (names.length + 1) + 43) ≤ R.locals) (hRcells : cells + 1 ≤ R.cells) (hRslots : slots + 6 ≤ R.slots) (hlocks : meth.locks = false)
    (hx : ∀ t : State, s.vm.Alike t.vm → H.size ≤ t.heap.size → (∀ q : Nat, q < H.size → t.heap[q]? = H[q]?) → XC cls s t)
    (hf : ∀ z ∈ locs, free z.base) (hc : cells + 1 ≤ mc) (hs : slots + 6 ≤ ms) :
    W p l e R s m args below meth c H locs cells slots (vx_MQ below Qc XC args s mc ms free) (F0 m pc ls rest) := by
  intro T hT X
  have htr : e.platform.stackTraces = false := (show e.platform.stackTraces = l.stackTraces by rw [X.admits.platform]).trans hl
  have Y := vx_rebase X (R' := { frames := R.frames, locals := R.locals, cells := 1, slots := 6 }) (Nat.le_refl _) (Nat.le_refl _) hRcells hRslots
  obtain ⟨s', hA⟩ : ∃ z, z = (T.setVm s.vm).setFrames (.invoking m args :: below) := ⟨_, rfl⟩
  rw [← hA] at Y
  have hvm : s'.vm = s.vm := by rw [hA]; rfl
  have hhp : s'.heap = H := by rw [hA]; exact hT
  have hW0 : s.WarmedH s'.vm := by rw [hvm]; exact State.WarmedH.refl s
  have hat' : ∀ w ∈ vx_atS own ic cls names, w.before args s' = true := fun w hw => vx_ot_at hW0 hvm.symm (hgood w (List.mem_cons_of_mem _ (List.mem_cons_of_mem _ hw))) (hat w hw)
  have hk' : (Cond.classLink own ik cls).before args s' = true := vx_ot_at hW0 hvm.symm (hgood _ List.mem_cons_self) hk
  have hini' : (Cond.initialized cls).before args s' = true := vx_ot_at hW0 hvm.symm (hgood _ (List.mem_cons_of_mem _ List.mem_cons_self)) hini
  have hU' : vx_Zq Bundle.tN "UNASSIGNED_STACK" Bundle.steD A s' s'.heap := by rw [hhp]; exact vx_Zq.moved hW0.alike (hU.kept hS.2.1)
  have hN' : vx_Zq Bundle.tN "SUPPRESSED_SENTINEL" Bundle.listD A s' s'.heap := by rw [hhp]; exact vx_Zq.moved hW0.alike (hN.kept hS.2.1)
  have h : ∀ w ∈ Bundle.ownAtoms own ic cls names, w.before args s' = true := vx_own hat' (vx_isRefq hU'.1) (vx_isRefq hN'.1) hU'.2.word hN'.2.word
  have hown' : s'.vm.findClass own = some m.cls := by rw [hvm]; exact hown
  have hins : (Cond.instantiable cls 6).before args s' = true := h _ (by simp [Bundle.ownAtoms])
  obtain ⟨vm₁, cX, kX, hfX, hkX, -, -, X₁, st1⟩ := Y.newCold hexec (own := own) (C := cls) (index := ik) (n := 6) hown' hk' hins hini'
    (g := F0 m pc ls rest) rfl (by rw [hb]; exact d0) (Nat.le_refl _) (Nat.le_refl _)
  generalize hT1 : (T.setVm vm₁).pushCell { cls := cX, slots := kX.instanceTypes.map defaultValue, vm := .none } = T1 at X₁ st1
  have hcat : (Value.ref T.heap.size).category = 1 := rfl
  have hcellA : T1.heap[T.heap.size]? = some (freshCell cX kX) := by rw [← hT1]; exact State.heap_pushCell_size _ _
  have d3' : decode c.code (pc + 3) = .ok (.dup, 1) := by rw [hb]; exact d3
  have d4' : decode c.code (pc + 4) = .ok (.ldc is, 2) := by rw [hb]; exact d4
  have hstr' : vk_R own is text sa s' := vk_R.warm hW0 hstr
  obtain ⟨U, hsteps, hrun, hend, hW, hsame, ce, hce, hO⟩ := X₁.ctorThrowS hexec htr (own := own) (cls := cls) (names := names) (ic := ic) hown' hcls hnames h (fun x hx => nomatch hx) hfX hkX hcellA (by rw [hhp, hT]; exact Nat.le_refl _) (msg := .ref sa) rfl
    (g := { method := m, pc := pc + 6, locals := ls, stack := .ref sa :: .ref T.heap.size :: .ref T.heap.size :: rest, locked := none }) rfl hsize rfl rfl (rest := rest) rfl
    (by rw [hb]; exact d6) (by rw [hb]; exact d9) hout hRframes (by simp only [List.map_cons, List.sum_cons, hcat]; omega) hlocks
  obtain ⟨f1, f2⟩ := vx_frame hsame
  rw [hhp] at f1 f2
  have hWs : s.WarmedH U.vm := State.WarmedH.trans hW0 hW
  have hcl : s.vm.findClass cls = some ce.cls := by
    have h9 := hO.cls
    rw [hvm] at h9
    exact h9
  have hall : s.sameButNew ({ U with vm := s.vm } : State) locs mc ms := by
    subst hA
    obtain ⟨e1, e2⟩ := hsame
    rw [State.setFrames_setFrames] at e1
    have h2 : (T.setVm s.vm).sameButNew ({ U with vm := s.vm } : State) [] (0 + 1) (0 + 6) := ⟨e1, e2⟩
    have h3 := X.same.trans h2
    rw [List.append_nil] at h3
    exact h3.mono hc hs
  refine ⟨U, ?_, .threw T.heap.size, hrun, hend, Or.inr ⟨T.heap.size, rfl, cls, ce, locs, hx U hWs.alike f1 (fun q hq => f2 q hq (fun z hz => nomatch hz)), hce, hO.vm, hcl, hWs, hall, hf⟩⟩
  refine st1 _ ?_
  show Steps p.tables e below (T1.setTop { method := m, pc := pc + 3, locals := ls, stack := .ref T.heap.size :: rest, locked := none }) _
  jvm_step X₁.here [X₁.here.top, hexec, d3', Value.category]
  exact X₁.ldcString hexec (own := own) (text := text) (index := is) (a := sa) hown' hstr'.1 hstr'.2
    (g := { method := m, pc := pc + 4, locals := ls, stack := .ref T.heap.size :: .ref T.heap.size :: rest, locked := none }) rfl d4' _ hsteps
/-- 'throw new E("text")', the text by a wide index -/
theorem vx_throwSW {cc : ByteArray} {pc : Nat} (hexec : p.tables.exec = Jvm.exec) (hb : c.code = cc) (hl : l.stackTraces = false) {own cls text : String} {names : List String} {ik is ic mc ms sa : Nat} {A : Nat → Prop}
    (hown : s.vm.findClass own = some m.cls) (hcls : Bundle.fit cls = true) (hnames : ∀ n ∈ names, Bundle.fit n = true)
    (hk : (Cond.classLink own ik cls).before args s = true) (hini : (Cond.initialized cls).before args s = true) (hstr : vk_R own is text sa s) (hat : ∀ w ∈ vx_atS own ic cls names, w.before args s = true)
    (hgood : ∀ w ∈ Cond.classLink own ik cls :: Cond.initialized cls :: vx_atS own ic cls names, vx_ot w = true)
    (hU : vx_Zq Bundle.tN "UNASSIGNED_STACK" Bundle.steD A s s.heap) (hN : vx_Zq Bundle.tN "SUPPRESSED_SENTINEL" Bundle.listD A s s.heap) (hS : va_S A s.heap H locs) (hsize : ls.size = c.maxLocals)
    (d0 : decode cc pc = .ok (.new ik, 3)) (d3 : decode cc (pc + 3) = .ok (.dup, 1)) (d4 : decode cc (pc + 4) = .ok (.ldc_w is, 3)) (d7 : decode cc (pc + 7) = .ok (.invokespecial ic, 3)) (d10 : decode cc (pc + 10) = .ok (.athrow, 1))
    (hout : ∀ x ∈ c.exceptionTable.toList, covers x (pc + 10) = false)
    (hRframes : names.length + 3 < R.frames) (hRlocals : (rest.map fun v => v.category).sum + (13 * (names.length + 1) + 43) ≤ R.locals) (hRcells : cells + 1 ≤ R.cells) (hRslots : slots + 6 ≤ R.slots) (hlocks : meth.locks = false)
    (hx : ∀ t : State, s.vm.Alike t.vm → H.size ≤ t.heap.size → (∀ q : Nat, q < H.size → t.heap[q]? = H[q]?) → XC cls s t)
    (hf : ∀ z ∈ locs, free z.base) (hc : cells + 1 ≤ mc) (hs : slots + 6 ≤ ms) :
    W p l e R s m args below meth c H locs cells slots (vx_MQ below Qc XC args s mc ms free) (F0 m pc ls rest) := by
  intro T hT X
  have htr : e.platform.stackTraces = false := (show e.platform.stackTraces = l.stackTraces by rw [X.admits.platform]).trans hl
  have Y := vx_rebase X (R' := { frames := R.frames, locals := R.locals, cells := 1, slots := 6 }) (Nat.le_refl _) (Nat.le_refl _) hRcells hRslots
  obtain ⟨s', hA⟩ : ∃ z, z = (T.setVm s.vm).setFrames (.invoking m args :: below) := ⟨_, rfl⟩
  rw [← hA] at Y
  have hvm : s'.vm = s.vm := by rw [hA]; rfl
  have hhp : s'.heap = H := by rw [hA]; exact hT
  have hW0 : s.WarmedH s'.vm := by rw [hvm]; exact State.WarmedH.refl s
  have hat' : ∀ w ∈ vx_atS own ic cls names, w.before args s' = true := fun w hw => vx_ot_at hW0 hvm.symm (hgood w (List.mem_cons_of_mem _ (List.mem_cons_of_mem _ hw))) (hat w hw)
  have hk' : (Cond.classLink own ik cls).before args s' = true := vx_ot_at hW0 hvm.symm (hgood _ List.mem_cons_self) hk
  have hini' : (Cond.initialized cls).before args s' = true := vx_ot_at hW0 hvm.symm (hgood _ (List.mem_cons_of_mem _ List.mem_cons_self)) hini
  have hU' : vx_Zq Bundle.tN "UNASSIGNED_STACK" Bundle.steD A s' s'.heap := by rw [hhp]; exact vx_Zq.moved hW0.alike (hU.kept hS.2.1)
  have hN' : vx_Zq Bundle.tN "SUPPRESSED_SENTINEL" Bundle.listD A s' s'.heap := by rw [hhp]; exact vx_Zq.moved hW0.alike (hN.kept hS.2.1)
  have h : ∀ w ∈ Bundle.ownAtoms own ic cls names, w.before args s' = true := vx_own hat' (vx_isRefq hU'.1) (vx_isRefq hN'.1) hU'.2.word hN'.2.word
  have hown' : s'.vm.findClass own = some m.cls := by rw [hvm]; exact hown
  have hins : (Cond.instantiable cls 6).before args s' = true := h _ (by simp [Bundle.ownAtoms])
  obtain ⟨vm₁, cX, kX, hfX, hkX, -, -, X₁, st1⟩ := Y.newCold hexec (own := own) (C := cls) (index := ik) (n := 6) hown' hk' hins hini'
    (g := F0 m pc ls rest) rfl (by rw [hb]; exact d0) (Nat.le_refl _) (Nat.le_refl _)
  generalize hT1 : (T.setVm vm₁).pushCell { cls := cX, slots := kX.instanceTypes.map defaultValue, vm := .none } = T1 at X₁ st1
  have hcat : (Value.ref T.heap.size).category = 1 := rfl
  have hcellA : T1.heap[T.heap.size]? = some (freshCell cX kX) := by rw [← hT1]; exact State.heap_pushCell_size _ _
  have d3' : decode c.code (pc + 3) = .ok (.dup, 1) := by rw [hb]; exact d3
  have d4' : decode c.code (pc + 4) = .ok (.ldc_w is, 3) := by rw [hb]; exact d4
  have hstr' : vk_R own is text sa s' := vk_R.warm hW0 hstr
  obtain ⟨U, hsteps, hrun, hend, hW, hsame, ce, hce, hO⟩ := X₁.ctorThrowS hexec htr (own := own) (cls := cls) (names := names) (ic := ic) hown' hcls hnames h (fun x hx => nomatch hx) hfX hkX hcellA (by rw [hhp, hT]; exact Nat.le_refl _) (msg := .ref sa) rfl
    (g := { method := m, pc := pc + 7, locals := ls, stack := .ref sa :: .ref T.heap.size :: .ref T.heap.size :: rest, locked := none }) rfl hsize rfl rfl (rest := rest) rfl
    (by rw [hb]; exact d7) (by rw [hb]; exact d10) hout hRframes (by simp only [List.map_cons, List.sum_cons, hcat]; omega) hlocks
  obtain ⟨f1, f2⟩ := vx_frame hsame
  rw [hhp] at f1 f2
  have hWs : s.WarmedH U.vm := State.WarmedH.trans hW0 hW
  have hcl : s.vm.findClass cls = some ce.cls := by
    have h9 := hO.cls
    rw [hvm] at h9
    exact h9
  have hall : s.sameButNew ({ U with vm := s.vm } : State) locs mc ms := by
    subst hA
    obtain ⟨e1, e2⟩ := hsame
    rw [State.setFrames_setFrames] at e1
    have h2 : (T.setVm s.vm).sameButNew ({ U with vm := s.vm } : State) [] (0 + 1) (0 + 6) := ⟨e1, e2⟩
    have h3 := X.same.trans h2
    rw [List.append_nil] at h3
    exact h3.mono hc hs
  refine ⟨U, ?_, .threw T.heap.size, hrun, hend, Or.inr ⟨T.heap.size, rfl, cls, ce, locs, hx U hWs.alike f1 (fun q hq => f2 q hq (fun z hz => nomatch hz)), hce, hO.vm, hcl, hWs, hall, hf⟩⟩
  refine st1 _ ?_
  show Steps p.tables e below (T1.setTop { method := m, pc := pc + 3, locals := ls, stack := .ref T.heap.size :: rest, locked := none }) _
  jvm_step X₁.here [X₁.here.top, hexec, d3', Value.category]
  exact X₁.ldcStringW hexec (own := own) (text := text) (index := is) (a := sa) hown' hstr'.1 hstr'.2
    (g := { method := m, pc := pc + 4, locals := ls, stack := .ref T.heap.size :: .ref T.heap.size :: rest, locked := none }) rfl d4' _ hsteps
end Ends
section Bodies
variable {l : Launch}
theorem vx_ofW {y : MethodName} {ws ws' : List Cond} {rm : Room} {Pc : Array Value → State → Prop} {Qc : Array Value → State → Outcome → State → Prop} {XC : String → State → State → Prop} {mc ms : Nat} {free : Addr → Prop} {cc : ByteArray} {maxL : Nat} {ret : Option FieldType}
    (hy : plainName y.cls = true) (hw : ws = Cond.code y cc maxL ret :: ws')
    (body : ∀ p e s m args below meth c s₁, BodyLoose p l y (headSpec ws rm) cc maxL ret e s m args below meth c s₁ → c.maxLocals = maxL → (∀ x ∈ c.exceptionTable.toList, False) → Pc args s →
      W p l e (headSpec ws rm).room s m args below meth c s.heap [] 0 0 (vx_MQ below Qc XC args s mc ms free) (entryFrame m args maxL)) : vx_Met l y ws rm Pc Qc XC mc ms free := by
  refine MetFree.of_bodyS (code := cc) (maxLocals := maxL) (ret := ret) hy ?_ ?_
  · intro args s m h hn
    obtain ⟨meth, c, h1, h2, h3, h4, h5, h6, -, -⟩ := Cond.code_spec hn (atoms_spec (ws := ws) h _ (by rw [hw]; exact List.mem_cons_self))
    exact ⟨meth, c, h1, h2, h3, h4, h5, h6⟩
  · intro p e s m args below meth c s₁ B hml hP _
    have hh0 : s₁.heap = s.heap := by rw [B.state]; rfl
    have ht : ∀ x ∈ c.exceptionTable.toList, False := by
      obtain ⟨meth9, c9, h1, h2, -, -, -, -, h7, -⟩ := Cond.code_spec B.named (atoms_spec (ws := ws) B.pre _ (by rw [hw]; exact List.mem_cons_self))
      cases Option.some.inj (h1.symm.trans B.method)
      cases Option.some.inj (h2.symm.trans (Stand.of_body B).code)
      intro x hx
      rw [Array.isEmpty_iff.mp h7] at hx
      cases hx
    obtain ⟨t, a1, o, b1, b2, b3⟩ := body p e s m args below meth c s₁ B hml ht hP s₁ hh0 (Stand.of_body B)
    exact ⟨t, o, a1, b1, b2, b3⟩
/-- the table of a body with handlers -/
theorem vx_table {p : Program} {x y : MethodName} {S : Spec} {cc bytes : ByteArray} {maxL maxL' : Nat} {ret ret' : Option FieldType} {e : Env} {s s₁ : State} {m : MethodId} {args : Array Value} {below : List Frame} {meth : Method} {c : Code} {hh : List (Nat × Nat × Nat × Nat)}
    (B : BodyLoose p l y S cc maxL ret e s m args below meth c s₁) (h : (Cond.codeWith y bytes maxL' ret' hh).before args s = true) : c.exceptionTable.toList = tableOf hh := by
  obtain ⟨m9, meth9, c9, hn9, h1, h2, -, -, h6, -⟩ := Cond.codeWith_spec h
  cases Option.some.inj (hn9.symm.trans B.named)
  cases Option.some.inj (h1.symm.trans B.method)
  cases Option.some.inj (h2.symm.trans (Stand.of_body B).code)
  rw [← h6, table_eq]
end Bodies
end VXA
/-! ===== END ===== -/
/-! ===== BEGIN a static call of a method with an exception table ===== -/
section VXS
variable {p : Program} {l : Launch} {e : Env} {R : Room} {s : State} {m : MethodId} {args : Array Value} {below : List Frame} {meth : Method} {c : Code} {T : State} {H : Heap} {locs : List Loc} {cells slots : Nat}
abbrev vx_CSW (R : Room) (s : State) (args : Array Value) (own : String) (index : Nat) (y : MethodName) (bytes : ByteArray) (maxL : Nat) (ret : Option FieldType) (hh : List (Nat × Nat × Nat × Nat)) (ws : List Cond) (rm : Room) (mc ms n : Nat) : Prop :=
  (rm.cells = mc ∧ rm.slots = ms ∧ rm.frames + 1 ≤ R.frames ∧ 8 + (maxL + 11) + rm.locals ≤ R.locals ∧ (∀ w ∈ ws, ∀ (a' : Array Value) (U : State), s.WarmedH U.vm → w.before a' U = true) ∧ Cond.codeWith y bytes maxL ret hh ∈ ws) ∧
  (Cond.codeWith y bytes maxL ret hh).before args s = true ∧ (Cond.initialized y.cls).before args s = true ∧ (y.cls ≠ "java/lang/invoke/MethodHandle" ∧ y.cls ≠ "java/lang/invoke/VarHandle") ∧
  (∀ sig, parseMethodDescriptor y.desc = some sig → n = sig.parameters.length) ∧ (Cond.methodLink own index y).before args s = true ∧ (Cond.static y).before args s = true
theorem vx_cwSW {own : String} {index maxL mc ms : Nat} {y : MethodName} {bytes : ByteArray} {ret : Option FieldType} {hh : List (Nat × Nat × Nat × Nat)} {Ts ws ws' : List Cond} {rm : Room} (n : Nat) (ht : ∀ w ∈ Ts, w.before args s = true) (hT : GoodIn Ts (va_wsS own index y ws)) (hw : ws = Cond.codeWith y bytes maxL ret hh :: ws') (hrc : rm.cells = mc) (hrs : rm.slots = ms)
    (hd : y.cls ≠ "java/lang/invoke/MethodHandle" ∧ y.cls ≠ "java/lang/invoke/VarHandle" ∧ (parseMethodDescriptor y.desc).map (fun d => d.parameters.length) = some n) (hR : rm.frames + 1 ≤ R.frames ∧ 8 + (maxL + 11) + rm.locals ≤ R.locals) :
    vx_CSW R s args own index y bytes maxL ret hh ws rm mc ms n := by
  have ok : ∀ w ∈ va_wsS own index y ws, w.before args s = true := fun w h => ht w (hT w h).1
  have hG : GoodIn Ts ws := fun w h => hT w (by unfold va_wsS; exact List.mem_append_right _ h)
  have hc : Cond.codeWith y bytes maxL ret hh ∈ ws := by rw [hw]; exact List.mem_cons_self
  refine ⟨⟨hrc, hrs, hR.1, hR.2, pay_in ht hG, hc⟩, ht _ (hG _ hc).1, ok _ (by simp [va_wsS]), ⟨hd.1, hd.2.1⟩, fun sig h => ?_, ok _ (by simp [va_wsS]), ok _ (by simp [va_wsS])⟩
  have h2 := hd.2.2
  rw [h] at h2
  exact (Option.some.inj h2).symm
theorem vx_callSW (X : Stand p l e R s m args below meth c T locs cells slots) (hexec : p.tables.exec = Jvm.exec) {own : String} {index : Nat} {y : MethodName} {bytes : ByteArray} {maxL : Nat} {ret : Option FieldType} {hh : List (Nat × Nat × Nat × Nat)}
    (hown : s.vm.findClass own = some m.cls) (hlink : (Cond.methodLink own index y).before args s = true) (hstat : (Cond.static y).before args s = true) (hinit : (Cond.initialized y.cls).before args s = true)
    (hcode : (Cond.codeWith y bytes maxL ret hh).before args s = true) (hy : y.cls ≠ "java/lang/invoke/MethodHandle" ∧ y.cls ≠ "java/lang/invoke/VarHandle")
    {W9 : Nat} {Pre : Pt → Array Value → Prop} {Post : Pt → Array Value → Option Value → Pt → Prop} (hK : Back l R p e below s args y 3 W9 Pre Post)
    {g : JFrame} (hg : g.method = m) (hsize : g.locals.size = c.maxLocals) {argsL rest : List Value} (hlen : ∀ sig, parseMethodDescriptor y.desc = some sig → argsL.length = sig.parameters.length)
    (hstack : g.stack = argsL.reverse ++ rest) (hW : 2 * g.monitorRoom + (rest.map fun v => v.category).sum ≤ W9) (hdg : decode c.code g.pc = .ok (.invokestatic index, 3))
    (hpre : ∀ vm₁, s.WarmedH vm₁ → Pre ⟨T.setVm vm₁, locs, cells, slots⟩ argsL.toArray) :
    ∃ (v : Option Value) (vm₁ : Vm) (B : Pt), s.WarmedH vm₁ ∧ Stand p l e R s m args below meth c B.U B.locs B.cells B.slots ∧ Post ⟨T.setVm vm₁, locs, cells, slots⟩ argsL.toArray v B ∧
      ∀ target, Steps p.tables e below (B.U.setTop { g with pc := g.pc + 3, stack := v.toList ++ rest }) target → Steps p.tables e below (T.setTop g) target := by
  obtain ⟨mk, methM, cM, hnamed, hmethM, -, -, -, -, -, -, hsigM⟩ := Cond.codeWith_spec hcode
  have hstatic : methM.isStatic = true := Cond.static_spec hnamed hmethM hstat
  obtain ⟨kP, hkP, -⟩ := className_of_methodNamed hnamed
  have hinitP : kP.init = .initialized := Cond.initialized_spec (findClass_of_methodNamed hnamed) hkP hinit
  obtain ⟨vm₁, X₁, hstep₁⟩ := X.invokestatic hexec hown hlink hnamed hmethM hstatic hkP hinitP hy (g := g) hg (argsL := argsL) (rest := rest) (hlen _ hsigM) hstack hdg
  obtain ⟨v, B, X', hpost, hsteps⟩ := hK m meth c ⟨T.setVm vm₁, locs, cells, slots⟩ { g with stack := rest } (.invokestatic index) mk argsL.toArray X₁ hg hsize hdg hW (X₁.named hnamed) (hpre vm₁ X₁.warmed)
  exact ⟨v, vm₁, B, X₁.warmed, X', hpost, fun target h => hstep₁ _ fun acts => by rw [doInvoke_state]; exact hsteps.trans h⟩
theorem vx_runSW {y : MethodName} {bytes cc : ByteArray} {maxL nL mc ms n index : Nat} {ret : Option FieldType} {hh : List (Nat × Nat × Nat × Nat)} {ws : List Cond} {rm : Room} {Pc : Array Value → State → Prop} {Qc : Array Value → State → Outcome → State → Prop} {free : Addr → Prop} {Ts : List Cond} {own : String} {As rest : List Value} {g : JFrame}
    (S : CallFix p m c cc nL s args Ts own) (hM : Met l y ws rm Pc Qc mc ms free) (cw : vx_CSW R s args own index y bytes maxL ret hh ws rm mc ms n) (hp : PreS s H Pc As)
    (hg : g.method = m) (hn : As.length = n) (hsize : g.locals.size = nL) (hstack : g.stack = As.reverse ++ rest) (hW : 2 * g.monitorRoom + (rest.map fun v => v.category).sum ≤ 8) (hdg : decode cc g.pc = .ok (.invokestatic index, 3)) (hf : cells + mc ≤ R.cells ∧ slots + ms ≤ R.slots) :
    va_Run p l e R s m args below meth c H locs cells slots mc ms g rest (Qc As.toArray) (free) := by
  obtain ⟨⟨hrc, hrs, hfr, hlo, hws, hcw⟩, hcode, hini, hy, hlen, hl, hstt⟩ := cw
  have hK : Back l R p e below s args y 3 8 (PreOf R mc ms Pc) (PostOf Qc mc ms free) := va_backW (hh := hh) (bytes := bytes) (maxL := maxL) (ret := ret) hM hp.1 hrc hrs hfr hlo hws hcw (fun a' U hW => word_at hW (Or.inl (by first | rfl | simp [Cond.onTables, Cond.keeps, Cond.steady])) hini)
  obtain ⟨hx, hb, hml, ho, -⟩ := S
  intro T hT X
  obtain ⟨v, vm₁, ⟨U', l2, c2, s2⟩, hW₁, X', ⟨g', mk, t, L, e1, e2, hq, h1, hL, h2, h3⟩, st⟩ := vx_callSW X hx (hh := hh) (bytes := bytes) (maxL := maxL) (ret := ret) ho hl hstt hini hcode hy hK hg (hsize.trans hml.symm) (argsL := As) (rest := rest) (fun sig h => hn.trans (hlen sig h)) hstack hW (by rw [hb]; exact hdg)
    (fun vm₁ hW₁ => ⟨hf.1, hf.2, hp.2 (T.setVm vm₁) hT hW₁⟩)
  dsimp only [Pt.U, Pt.locs, Pt.cells, Pt.slots] at X' e1 e2 h1 h2 h3 st
  subst h1; subst h2; subst h3
  exact ⟨v, (T.setVm vm₁).calling g' mk As.toArray, t, U', L, hT, X', hL, e1, e2, hq, st⟩
/-- not caught here, past rows that name other classes: it goes on to the caller -/
theorem vx_outP {p : Program} {l : Launch} {e : Env} {R : Room} {s : State} {m : MethodId} {args : Array Value} {below : List Frame} {meth : Method} {c : Code} {H : Heap} {locs : List Loc} {cells slots : Nat} {free : Addr → Prop} {ls : Array Slot} {rest : List Value} {Qc : Array Value → State → Outcome → State → Prop} {XC : String → State → State → Prop}
    {pc : Nat} {own E : String} {ce : Cell} {q : Addr} {mc ms : Nat} (hown : s.vm.findClass own = some m.cls) (hlocks : meth.locks = false)
    (hpass : ∀ z ∈ c.exceptionTable.toList, covers z pc = false ∨ (z.catchType ≠ 0 ∧ ∃ nm : String, (Cond.classLink own z.catchType nm).before args s = true ∧ va_Nc E nm s)) (hcell : H[q]? = some ce) (hv : ce.vm = .none) (hcl : s.vm.findClass E = some ce.cls)
    (hx : ∀ t : State, t.heap = H → s.vm.Alike t.vm → XC E s t) (hf : ∀ z ∈ locs, free z.base) (hc : cells ≤ mc) (hs : slots ≤ ms) :
    vx_W p l e R s m args below meth c H locs cells slots (vx_MQ below Qc XC args s mc ms free) (F0 m pc ls rest) q := by
  intro T hT X
  have hpl : e.platform.magicAccessors = ({} : Platform).magicAccessors := by rw [X.admits.platform]
  obtain ⟨vm', hW', X', st⟩ := X.outThrough hlocks q (g := F0 m pc ls rest) rfl rfl rfl (cell := ce) (by rw [hT]; exact hcell) (by rw [hv]; rfl)
    (by obtain ⟨k9, h9, -⟩ := Vm.findClass_spec hcl; exact ⟨k9, h9⟩) (fun z hz => by
      rcases hpass z hz with h | ⟨hz0, nm, hl1, hn1⟩
      · exact Or.inl h
      · obtain ⟨c6, hc6, hcl6⟩ := Cond.classLink_spec hown hl1 e.platform hpl
        obtain ⟨a8, b8, h1, h2, h3⟩ := hn1
        cases Option.some.inj (h1.symm.trans hcl)
        cases Option.some.inj (h2.symm.trans hc6)
        exact Or.inr ⟨hz0, _, hcl6, h3⟩)
  obtain ⟨g₀, hfr⟩ := X'.frames_eq
  have hcell9 : ((T.setVm vm').setFrames (.throwing q :: below)).heap[q]? = some ce := by
    show T.heap[q]? = some ce
    rw [hT]; exact hcell
  have hend : Ended ((T.setVm vm').setFrames (.throwing q :: below)) below (.threw q) := State.frames_setFrames _ (State.cur_lt_of_frames hfr)
  refine ⟨(T.setVm vm').setFrames (.throwing q :: below), ?_, .threw q, X'.here.running, hend, Or.inr ⟨q, rfl, E, ce, locs, hx _ hT (X'.ends _).1.alike, hcell9, hv, hcl, (X'.ends _).1, (X'.ends _).2.mono hc hs, hf⟩⟩
  rw [X.pushThrowing_eq]
  exact st
/-- a thing of a world lies in the heap -/
theorem vx_lt {D : va_G} {cl : List vw_C} {ws : va_W} {H1 : Heap} (h : va_P D cl ws H1) {k : Nat} {q : Nat × va_E} (hk : ws[k]? = some q) : q.1 < H1.size := (h k q hk).lt
end VXS
/-! ===== END ===== -/
/-! ===== BEGIN methods with a table of their own: called by a name, returning or throwing ===== -/
section VXH
/-! vx_backW, vx_callVX, vx_callSX, vx_callVW, vx_runVW, vx_runVX, vx_runSX, vx_ofWH follow the same proofs as their sisters above (Free/Laws.lean, Shelf42/LK1.lean); vx_outP calls Shelf42/NT130.lean (outThrough). -/
section
variable {l : Launch} {R : Room} {p : Program} {e : Env} {below : List Frame} {s : State} {sargs : Array Value} {y : MethodName} {len W9 : Nat}
theorem vx_backW {ws : List Cond} {rm : Room} {Pc : Array Value → State → Prop} {Qc : Array Value → State → Outcome → State → Prop} {XC : String → State → State → Prop} {mc ms : Nat} {free : Addr → Prop} {bytes : ByteArray} {maxL : Nat} {ret : Option FieldType} {hh : List (Nat × Nat × Nat × Nat)}
    (hM : vx_Met l y ws rm Pc Qc XC mc ms free) (hblind : FrameBlind Pc) (hrc : rm.cells = mc) (hrs : rm.slots = ms)
    (hframes : rm.frames + 1 ≤ R.frames) (hlocals : W9 + (maxL + 11) + rm.locals ≤ R.locals)
    (hws : ∀ w ∈ ws, ∀ a' U, s.WarmedH U.vm → w.before a' U = true) (hcode : Cond.codeWith y bytes maxL ret hh ∈ ws) (hinit : ∀ a' U, s.WarmedH U.vm → (Cond.initialized y.cls).before a' U = true) :
    vx_Back l R p e below s sargs y len W9 (PreOf R mc ms Pc) (PostOf Qc mc ms free) (vx_Post XC mc ms free) := by
  intro m meth c A g ig mk a X hg hsize hdg hW hn hp
  have h1 : (headSpec ws rm).pre.before a A.U = true := atoms_intro fun w hw => hws w hw _ _ X.warmed
  have h2 : (Cond.codeWith y bytes maxL ret hh).before a A.U = true := hws _ hcode _ _ X.warmed
  have h3 : (Cond.initialized y.cls).before a A.U = true := hinit _ _ X.warmed
  have h4 : A.cells + (headSpec ws rm).room.cells ≤ R.cells := by rw [show (headSpec ws rm).room.cells = mc from hrc]; exact hp.1
  have h5 : A.slots + (headSpec ws rm).room.slots ≤ R.slots := by rw [show (headSpec ws rm).room.slots = ms from hrs]; exact hp.2.1
  have hPc : Pc a (A.U.calling g mk a) := hblind _ _ _ _ hp.2.2
  obtain ⟨U, Ls, c0, s0⟩ := A
  dsimp only [Pt.U, Pt.locs, Pt.cells, Pt.slots] at h1 h2 h3 h4 h5 X hn hPc ⊢
  obtain ⟨m9, methY, cY, hn9, hmY, hcY, -, hlY, -⟩ := Cond.codeWith_spec h2
  cases Option.some.inj (hn9.symm.trans hn)
  obtain ⟨kY, hkY, -⟩ := className_of_methodNamed hn
  have hinitY : kY.init = .initialized := Cond.initialized_spec (findClass_of_methodNamed hn) hkY h3
  have h : At U g.method c below := by rw [hg]; exact X.here
  have hlocals9 : W9 + (maxL + 11) + (headSpec ws rm).room.locals ≤ R.locals := hlocals
  have happ : (headSpec ws rm).appliesLoose y e.platform (U.calling g mk a) = true :=
    Spec.appliesLoose_calling (g := g) h hdg hn hkY hinitY
      (X.room_calling (g := g) (R' := (headSpec ws rm).room) hsize hmY hcY hframes (by rw [hlY]; omega) h4 h5) h1
  obtain ⟨mid, hmid⟩ := h.above
  have hfr : (U.setTop g).frames = (.java g :: mid) ++ below := by rw [State.frames_setTop' g h.top, hmid]; rfl
  obtain ⟨o, s₂, hsteps, -, hend, hq⟩ := Steps.callFree hM p X.admits X.cas X.clock (acts := []) hfr happ hPc trivial
  have hq' : vx_Q Qc XC mc ms free a (U.calling g mk a) o s₂ := hq
  rw [State.frames_setTop' g h.top] at hend
  obtain ⟨g₀, hg0⟩ := Option.isSome_iff_exists.mp h.top
  obtain ⟨r, hr⟩ := State.topJava?_eq_some.mp hg0
  have hr' : (({ U with heap := s₂.heap, slotsUsed := s₂.slotsUsed } : State).setVm s₂.vm).frames = .java g₀ :: r := hr
  rcases hq' with ⟨hqc, L, hfe, hL⟩ | ⟨q, rfl, E, ce, L, hx, hce, hcv, hcl, hW₂, hsm, hL⟩
  · obtain ⟨⟨v, rfl⟩, hW₂, e2, q2, q3, q4, q5, q6⟩ := id hfe
    have e3 : s₂ = ({ (U.calling g mk a).setFrames s₂.frames with heap := s₂.heap, slotsUsed := s₂.slotsUsed } : State).setVm s₂.vm := by
      have : s₂ = ({ s₂ with vm := (U.calling g mk a).vm } : State).setVm s₂.vm := rfl
      rw [e2] at this
      exact this
    obtain ⟨c₂, i₂, len₂, hc₂, hd₂, hf₂⟩ := hend
    have hW' : U.WarmedH s₂.vm := hW₂
    have hcc : c₂ = c := by
      have h1 : s₂.code? g.method = U.code? g.method := by
        rw [State.code?_eq, State.code?_eq, hW'.alike.method?]
      exact Option.some.inj (hc₂.symm.trans (h1.trans h.code))
    subst hcc
    have hlen : len₂ = len := by rw [hdg] at hd₂; cases hd₂; rfl
    subst hlen
    have hs₂ : s₂ = (({ U with heap := s₂.heap, slotsUsed := s₂.slotsUsed } : State).setVm s₂.vm).setTop { g with pc := g.pc + len₂, stack := v.toList ++ g.stack } := by
      refine e3.trans ?_
      rw [hf₂, State.calling_eq h.top, State.setFrames_setFrames, State.setTop_of_frames _ hr', hr]
      rfl
    have hsame : U.sameButNew ({ U with heap := s₂.heap, slotsUsed := s₂.slotsUsed } : State) L mc ms := by
      refine ⟨?_, q2, q3, q4, q5, q6⟩
      obtain ⟨t, ht, -⟩ := State.frames_cons hr
      show ({ U with heap := s₂.heap, slotsUsed := s₂.slotsUsed } : State) = { U.setFrames U.frames with heap := s₂.heap, slotsUsed := s₂.slotsUsed }
      rw [State.setFrames_self ht]
    subst hg
    refine Or.inl ⟨v, ⟨(({ U with heap := s₂.heap, slotsUsed := s₂.slotsUsed } : State).setVm s₂.vm), Ls ++ L, c0 + mc, s0 + ms⟩,
      ⟨X.admits, X.cas, X.clock, X.frames, X.room, X.hears, X.method, X.code, (X.here.setHeapUsed s₂.heap s₂.slotsUsed).setVm hW'.alike, X.tail, State.WarmedH.trans X.warmed hW', X.limits, X.bytes, X.same.trans (hsame.setVm s.vm)⟩,
      ⟨g, mk, s₂, L, rfl, rfl, hqc, rfl, hL, rfl, rfl⟩, ?_⟩
    show Steps p.tables e below _ ((({ U with heap := s₂.heap, slotsUsed := s₂.slotsUsed } : State).setVm s₂.vm).setTop { g with pc := g.pc + len₂, stack := v.toList ++ g.stack })
    rw [← hs₂]
    exact hsteps
  · obtain ⟨e2, q2, q3, q4, q5, q6⟩ := id hsm
    have e3 : s₂ = ({ (U.calling g mk a).setFrames s₂.frames with heap := s₂.heap, slotsUsed := s₂.slotsUsed } : State).setVm s₂.vm := by
      have : s₂ = ({ s₂ with vm := (U.calling g mk a).vm } : State).setVm s₂.vm := rfl
      rw [e2] at this
      exact this
    have hf₂ : s₂.frames = .throwing q :: .java g :: U.frames.tail := hend
    have hW' : U.WarmedH s₂.vm := hW₂
    have hs₂ : s₂ = ((({ U with heap := s₂.heap, slotsUsed := s₂.slotsUsed } : State).setVm s₂.vm).setTop g).pushFrame (.throwing q) := by
      refine e3.trans ?_
      rw [hf₂, State.calling_eq h.top, State.setFrames_setFrames, State.pushFrame, State.frames_setTop _ hr', State.setTop_of_frames _ hr', State.setFrames_setFrames, hr]
      rfl
    have hsame : U.sameButNew ({ U with heap := s₂.heap, slotsUsed := s₂.slotsUsed } : State) L mc ms := by
      refine ⟨?_, q2, q3, q4, q5, q6⟩
      obtain ⟨t, ht, -⟩ := State.frames_cons hr
      show ({ U with heap := s₂.heap, slotsUsed := s₂.slotsUsed } : State) = { U.setFrames U.frames with heap := s₂.heap, slotsUsed := s₂.slotsUsed }
      rw [State.setFrames_self ht]
    subst hg
    refine Or.inr ⟨q, ⟨(({ U with heap := s₂.heap, slotsUsed := s₂.slotsUsed } : State).setVm s₂.vm), Ls ++ L, c0 + mc, s0 + ms⟩,
      ⟨X.admits, X.cas, X.clock, X.frames, X.room, X.hears, X.method, X.code, (X.here.setHeapUsed s₂.heap s₂.slotsUsed).setVm hW'.alike, X.tail, State.WarmedH.trans X.warmed hW', X.limits, X.bytes, X.same.trans (hsame.setVm s.vm)⟩,
      ⟨g, mk, s₂, L, E, ce, rfl, rfl, hx, hce, hcv, hcl, rfl, hL, rfl, rfl⟩, ?_⟩
    show Steps p.tables e below _ (((({ U with heap := s₂.heap, slotsUsed := s₂.slotsUsed } : State).setVm s₂.vm).setTop g).pushFrame (.throwing q))
    rw [← hs₂]
    exact hsteps
end
variable {p : Program} {l : Launch} {e : Env} {R : Room} {s : State} {m : MethodId} {args : Array Value} {below : List Frame} {meth : Method} {c : Code} {T : State} {H : Heap} {locs : List Loc} {cells slots : Nat}
theorem vx_callVX (X : Stand p l e R s m args below meth c T locs cells slots) (hexec : p.tables.exec = Jvm.exec) {own C : String} {index : Nat} {y : MethodName} {bytes : ByteArray} {maxL : Nat} {ret : Option FieldType} {hh : List (Nat × Nat × Nat × Nat)}
    (hown : s.vm.findClass own = some m.cls) (hlink : (Cond.methodLink own index y).before args s = true) (hinst : (Cond.instanceMethod y).before args s = true) (hsel : (Cond.selects C y y).before args s = true)
    (hcode : (Cond.codeWith y bytes maxL ret hh).before args s = true) (hy : y.cls ≠ "java/lang/invoke/MethodHandle" ∧ y.cls ≠ "java/lang/invoke/VarHandle")
    {W9 : Nat} {Pre : Pt → Array Value → Prop} {Post : Pt → Array Value → Option Value → Pt → Prop} {PostX : Pt → Array Value → Addr → Pt → Prop} (hK : vx_Back l R p e below s args y 3 W9 Pre Post PostX)
    {b : Addr} {cellB : Cell} (hcell : T.heap[b]? = some cellB) (hobj : cellB.vm.isStatics = false) (hcls : s.vm.findClass C = some cellB.cls)
    {g : JFrame} (hg : g.method = m) (hsize : g.locals.size = c.maxLocals) {argsL rest : List Value} (hlen : ∀ sig, parseMethodDescriptor y.desc = some sig → argsL.length = sig.parameters.length)
    (hstack : g.stack = argsL.reverse ++ .ref b :: rest) (hW : 2 * g.monitorRoom + (rest.map fun v => v.category).sum ≤ W9) (hdg : decode c.code g.pc = .ok (.invokevirtual index, 3))
    (hpre : ∀ vm₁, s.WarmedH vm₁ → Pre ⟨T.setVm vm₁, locs, cells, slots⟩ (Value.ref b :: argsL).toArray) :
    (∃ (v : Option Value) (vm₁ : Vm) (B : Pt), s.WarmedH vm₁ ∧ Stand p l e R s m args below meth c B.U B.locs B.cells B.slots ∧ Post ⟨T.setVm vm₁, locs, cells, slots⟩ (Value.ref b :: argsL).toArray v B ∧
      ∀ target, Steps p.tables e below (B.U.setTop { g with pc := g.pc + 3, stack := v.toList ++ rest }) target → Steps p.tables e below (T.setTop g) target) ∨
    (∃ (q : Addr) (vm₁ : Vm) (B : Pt), s.WarmedH vm₁ ∧ Stand p l e R s m args below meth c B.U B.locs B.cells B.slots ∧ PostX ⟨T.setVm vm₁, locs, cells, slots⟩ (Value.ref b :: argsL).toArray q B ∧
      Steps p.tables e below (T.setTop g) ((B.U.setTop { g with stack := rest }).pushFrame (.throwing q))) := by
  obtain ⟨mk, methM, hnamed, hmethM, hstM, habM⟩ := Cond.instanceMethod_spec hinst
  obtain ⟨m8, methM', cM, hn8, hmethM', -, -, -, -, -, -, hsigM⟩ := Cond.codeWith_spec hcode
  cases Option.some.inj (hn8.symm.trans hnamed)
  cases hmethM.symm.trans hmethM'
  obtain ⟨c2, r2, m2, q1, q2, q3, q4, kP, hkP, hkPi⟩ := Cond.selects_spec hsel
  cases hcls.symm.trans q1
  cases (State.methodFound?_of_named hnamed hy).symm.trans q2
  cases hnamed.symm.trans q3
  have hselP : selectMethod e.platform s.vm cellB.cls mk = .method mk := by rw [Launch.admits_selectMethod X.admits]; exact q4
  obtain ⟨vm₁, X₁, hstep₁⟩ := X.invokevirtual hexec hown hlink hnamed hmethM hstM hkP hkPi hy (a := b) (cell := cellB) hcell
    (fun z h => by rw [h] at hobj; cases hobj) hselP hmethM habM hkP hkPi (g := g) hg (argsL := argsL) (rest := rest) (hlen _ hsigM) hstack hdg
  rcases hK m meth c ⟨T.setVm vm₁, locs, cells, slots⟩ { g with stack := rest } (.invokevirtual index) mk (Value.ref b :: argsL).toArray X₁ hg hsize hdg hW (X₁.named hnamed) (hpre vm₁ X₁.warmed) with ⟨v, B, X', hpost, hsteps⟩ | ⟨q, B, X', hpost, hsteps⟩
  · exact Or.inl ⟨v, vm₁, B, X₁.warmed, X', hpost, fun target h => hstep₁ _ fun acts => by rw [doInvoke_state]; exact hsteps.trans h⟩
  · exact Or.inr ⟨q, vm₁, B, X₁.warmed, X', hpost, hstep₁ _ fun acts => by rw [doInvoke_state]; exact hsteps⟩
theorem vx_callSX (X : Stand p l e R s m args below meth c T locs cells slots) (hexec : p.tables.exec = Jvm.exec) {own : String} {index : Nat} {y : MethodName} {bytes : ByteArray} {maxL : Nat} {ret : Option FieldType} {hh : List (Nat × Nat × Nat × Nat)}
    (hown : s.vm.findClass own = some m.cls) (hlink : (Cond.methodLink own index y).before args s = true) (hstat : (Cond.static y).before args s = true) (hinit : (Cond.initialized y.cls).before args s = true)
    (hcode : (Cond.codeWith y bytes maxL ret hh).before args s = true) (hy : y.cls ≠ "java/lang/invoke/MethodHandle" ∧ y.cls ≠ "java/lang/invoke/VarHandle")
    {W9 : Nat} {Pre : Pt → Array Value → Prop} {Post : Pt → Array Value → Option Value → Pt → Prop} {PostX : Pt → Array Value → Addr → Pt → Prop} (hK : vx_Back l R p e below s args y 3 W9 Pre Post PostX)
    {g : JFrame} (hg : g.method = m) (hsize : g.locals.size = c.maxLocals) {argsL rest : List Value} (hlen : ∀ sig, parseMethodDescriptor y.desc = some sig → argsL.length = sig.parameters.length)
    (hstack : g.stack = argsL.reverse ++ rest) (hW : 2 * g.monitorRoom + (rest.map fun v => v.category).sum ≤ W9) (hdg : decode c.code g.pc = .ok (.invokestatic index, 3))
    (hpre : ∀ vm₁, s.WarmedH vm₁ → Pre ⟨T.setVm vm₁, locs, cells, slots⟩ argsL.toArray) :
    (∃ (v : Option Value) (vm₁ : Vm) (B : Pt), s.WarmedH vm₁ ∧ Stand p l e R s m args below meth c B.U B.locs B.cells B.slots ∧ Post ⟨T.setVm vm₁, locs, cells, slots⟩ argsL.toArray v B ∧
      ∀ target, Steps p.tables e below (B.U.setTop { g with pc := g.pc + 3, stack := v.toList ++ rest }) target → Steps p.tables e below (T.setTop g) target) ∨
    (∃ (q : Addr) (vm₁ : Vm) (B : Pt), s.WarmedH vm₁ ∧ Stand p l e R s m args below meth c B.U B.locs B.cells B.slots ∧ PostX ⟨T.setVm vm₁, locs, cells, slots⟩ argsL.toArray q B ∧
      Steps p.tables e below (T.setTop g) ((B.U.setTop { g with stack := rest }).pushFrame (.throwing q))) := by
  obtain ⟨mk, methM, cM, hnamed, hmethM, -, -, -, -, -, -, hsigM⟩ := Cond.codeWith_spec hcode
  have hstatic : methM.isStatic = true := Cond.static_spec hnamed hmethM hstat
  obtain ⟨kP, hkP, -⟩ := className_of_methodNamed hnamed
  have hinitP : kP.init = .initialized := Cond.initialized_spec (findClass_of_methodNamed hnamed) hkP hinit
  obtain ⟨vm₁, X₁, hstep₁⟩ := X.invokestatic hexec hown hlink hnamed hmethM hstatic hkP hinitP hy (g := g) hg (argsL := argsL) (rest := rest) (hlen _ hsigM) hstack hdg
  rcases hK m meth c ⟨T.setVm vm₁, locs, cells, slots⟩ { g with stack := rest } (.invokestatic index) mk argsL.toArray X₁ hg hsize hdg hW (X₁.named hnamed) (hpre vm₁ X₁.warmed) with ⟨v, B, X', hpost, hsteps⟩ | ⟨q, B, X', hpost, hsteps⟩
  · exact Or.inl ⟨v, vm₁, B, X₁.warmed, X', hpost, fun target h => hstep₁ _ fun acts => by rw [doInvoke_state]; exact hsteps.trans h⟩
  · exact Or.inr ⟨q, vm₁, B, X₁.warmed, X', hpost, hstep₁ _ fun acts => by rw [doInvoke_state]; exact hsteps⟩
theorem vx_callVW (X : Stand p l e R s m args below meth c T locs cells slots) (hexec : p.tables.exec = Jvm.exec) {own C : String} {index : Nat} {y : MethodName} {bytes : ByteArray} {maxL : Nat} {ret : Option FieldType} {hh : List (Nat × Nat × Nat × Nat)}
    (hown : s.vm.findClass own = some m.cls) (hlink : (Cond.methodLink own index y).before args s = true) (hinst : (Cond.instanceMethod y).before args s = true) (hsel : (Cond.selects C y y).before args s = true)
    (hcode : (Cond.codeWith y bytes maxL ret hh).before args s = true) (hy : y.cls ≠ "java/lang/invoke/MethodHandle" ∧ y.cls ≠ "java/lang/invoke/VarHandle")
    {W9 : Nat} {Pre : Pt → Array Value → Prop} {Post : Pt → Array Value → Option Value → Pt → Prop} (hK : Back l R p e below s args y 3 W9 Pre Post)
    {b : Addr} {cellB : Cell} (hcell : T.heap[b]? = some cellB) (hobj : cellB.vm.isStatics = false) (hcls : s.vm.findClass C = some cellB.cls)
    {g : JFrame} (hg : g.method = m) (hsize : g.locals.size = c.maxLocals) {argsL rest : List Value} (hlen : ∀ sig, parseMethodDescriptor y.desc = some sig → argsL.length = sig.parameters.length)
    (hstack : g.stack = argsL.reverse ++ .ref b :: rest) (hW : 2 * g.monitorRoom + (rest.map fun v => v.category).sum ≤ W9) (hdg : decode c.code g.pc = .ok (.invokevirtual index, 3))
    (hpre : ∀ vm₁, s.WarmedH vm₁ → Pre ⟨T.setVm vm₁, locs, cells, slots⟩ (Value.ref b :: argsL).toArray) :
    ∃ (v : Option Value) (vm₁ : Vm) (B : Pt), s.WarmedH vm₁ ∧ Stand p l e R s m args below meth c B.U B.locs B.cells B.slots ∧ Post ⟨T.setVm vm₁, locs, cells, slots⟩ (Value.ref b :: argsL).toArray v B ∧
      ∀ target, Steps p.tables e below (B.U.setTop { g with pc := g.pc + 3, stack := v.toList ++ rest }) target → Steps p.tables e below (T.setTop g) target := by
  obtain ⟨mk, methM, hnamed, hmethM, hstM, habM⟩ := Cond.instanceMethod_spec hinst
  obtain ⟨m8, methM', cM, hn8, hmethM', -, -, -, -, -, -, hsigM⟩ := Cond.codeWith_spec hcode
  cases Option.some.inj (hn8.symm.trans hnamed)
  cases hmethM.symm.trans hmethM'
  obtain ⟨c2, r2, m2, q1, q2, q3, q4, kP, hkP, hkPi⟩ := Cond.selects_spec hsel
  cases hcls.symm.trans q1
  cases (State.methodFound?_of_named hnamed hy).symm.trans q2
  cases hnamed.symm.trans q3
  have hselP : selectMethod e.platform s.vm cellB.cls mk = .method mk := by rw [Launch.admits_selectMethod X.admits]; exact q4
  obtain ⟨vm₁, X₁, hstep₁⟩ := X.invokevirtual hexec hown hlink hnamed hmethM hstM hkP hkPi hy (a := b) (cell := cellB) hcell
    (fun z h => by rw [h] at hobj; cases hobj) hselP hmethM habM hkP hkPi (g := g) hg (argsL := argsL) (rest := rest) (hlen _ hsigM) hstack hdg
  obtain ⟨v, B, X', hpost, hsteps⟩ := hK m meth c ⟨T.setVm vm₁, locs, cells, slots⟩ { g with stack := rest } (.invokevirtual index) mk (Value.ref b :: argsL).toArray X₁ hg hsize hdg hW (X₁.named hnamed) (hpre vm₁ X₁.warmed)
  exact ⟨v, vm₁, B, X₁.warmed, X', hpost, fun target h => hstep₁ _ fun acts => by rw [doInvoke_state]; exact hsteps.trans h⟩
abbrev vx_CVW (R : Room) (s : State) (args : Array Value) (own C : String) (index : Nat) (y : MethodName) (bytes : ByteArray) (maxL : Nat) (ret : Option FieldType) (hh : List (Nat × Nat × Nat × Nat)) (ws : List Cond) (rm : Room) (mc ms n : Nat) : Prop :=
  (rm.cells = mc ∧ rm.slots = ms ∧ rm.frames + 1 ≤ R.frames ∧ 8 + (maxL + 11) + rm.locals ≤ R.locals ∧ (∀ w ∈ ws, ∀ (a' : Array Value) (U : State), s.WarmedH U.vm → w.before a' U = true) ∧ Cond.codeWith y bytes maxL ret hh ∈ ws) ∧
  (Cond.codeWith y bytes maxL ret hh).before args s = true ∧ (Cond.initialized y.cls).before args s = true ∧ (y.cls ≠ "java/lang/invoke/MethodHandle" ∧ y.cls ≠ "java/lang/invoke/VarHandle") ∧
  (∀ sig, parseMethodDescriptor y.desc = some sig → n = sig.parameters.length) ∧ (Cond.methodLink own index y).before args s = true ∧ (Cond.instanceMethod y).before args s = true ∧ (Cond.selects C y y).before args s = true
theorem vx_cwVW {own C : String} {index maxL mc ms : Nat} {y : MethodName} {bytes : ByteArray} {ret : Option FieldType} {hh : List (Nat × Nat × Nat × Nat)} {Ts ws ws' : List Cond} {rm : Room} (n : Nat) (ht : ∀ w ∈ Ts, w.before args s = true) (hT : GoodIn Ts (wsV own index C y ws)) (hw : ws = Cond.codeWith y bytes maxL ret hh :: ws') (hrc : rm.cells = mc) (hrs : rm.slots = ms)
    (hd : y.cls = C ∧ y.cls ≠ "java/lang/invoke/MethodHandle" ∧ y.cls ≠ "java/lang/invoke/VarHandle" ∧ (parseMethodDescriptor y.desc).map (fun d => d.parameters.length) = some n) (hR : rm.frames + 1 ≤ R.frames ∧ 8 + (maxL + 11) + rm.locals ≤ R.locals) :
    vx_CVW R s args own C index y bytes maxL ret hh ws rm mc ms n := by
  obtain ⟨hC, hd⟩ := hd
  subst hC
  have ok : ∀ w ∈ wsV own index y.cls y ws, w.before args s = true := fun w h => ht w (hT w h).1
  have hG : GoodIn Ts ws := fun w h => hT w (by unfold wsV; exact List.mem_append_right _ h)
  have hc : Cond.codeWith y bytes maxL ret hh ∈ ws := by rw [hw]; exact List.mem_cons_self
  refine ⟨⟨hrc, hrs, hR.1, hR.2, pay_in ht hG, hc⟩, ht _ (hG _ hc).1, ok _ (by simp [wsV]), ⟨hd.1, hd.2.1⟩, fun sig h => ?_, ok _ (by simp [wsV]), ok _ (by simp [wsV]), ok _ (by simp [wsV])⟩
  have h2 := hd.2.2
  rw [h] at h2
  exact (Option.some.inj h2).symm
theorem vx_runVW {y : MethodName} {bytes cc : ByteArray} {maxL nL mc ms n index : Nat} {ret : Option FieldType} {hh : List (Nat × Nat × Nat × Nat)} {ws : List Cond} {rm : Room} {Pc : Array Value → State → Prop} {Qc : Array Value → State → Outcome → State → Prop} {free : Addr → Prop} {Ts : List Cond} {own C : String} {b : Addr} {As rest : List Value} {g : JFrame}
    (S : CallFix p m c cc nL s args Ts own) (hM : Met l y ws rm Pc Qc mc ms free) (cw : vx_CVW R s args own C index y bytes maxL ret hh ws rm mc ms n) (hp : PreV s H C b Pc As)
    (hg : g.method = m) (hn : As.length = n) (hsize : g.locals.size = nL) (hstack : g.stack = As.reverse ++ .ref b :: rest) (hW : 2 * g.monitorRoom + (rest.map fun v => v.category).sum ≤ 8) (hdg : decode cc g.pc = .ok (.invokevirtual index, 3)) (hf : cells + mc ≤ R.cells ∧ slots + ms ≤ R.slots) :
    va_Run p l e R s m args below meth c H locs cells slots mc ms g rest (Qc (Value.ref b :: As).toArray) free := by
  obtain ⟨⟨hrc, hrs, hfr, hlo, hws, hcw⟩, hcode, hini, hy, hlen, hl, hin, hse⟩ := cw
  have hK : Back l R p e below s args y 3 8 (PreOf R mc ms Pc) (PostOf Qc mc ms free) := va_backW (hh := hh) (bytes := bytes) (maxL := maxL) (ret := ret) hM hp.1 hrc hrs hfr hlo hws hcw (fun a' U hW => word_at hW (Or.inl (by first | rfl | simp [Cond.onTables, Cond.keeps, Cond.steady])) hini)
  obtain ⟨hx, hb, hml, ho, -⟩ := S
  obtain ⟨-, ⟨cellB, hcB, hoB, hclB⟩, hPc⟩ := hp
  intro T hT X
  obtain ⟨v, vm₁, ⟨U', l2, c2, s2⟩, hW₁, X', ⟨g', mk, t, L, e1, e2, hq, h1, hL, h2, h3⟩, st⟩ := vx_callVW X hx (C := C) (hh := hh) (bytes := bytes) (maxL := maxL) (ret := ret) ho hl hin hse hcode hy hK (by rw [hT]; exact hcB) hoB hclB hg (hsize.trans hml.symm) (argsL := As) (rest := rest) (fun sig h => hn.trans (hlen sig h)) hstack hW (by rw [hb]; exact hdg)
    (fun vm₁ hW₁ => ⟨hf.1, hf.2, hPc (T.setVm vm₁) hT hW₁⟩)
  dsimp only [Pt.U, Pt.locs, Pt.cells, Pt.slots] at X' e1 e2 h1 h2 h3 st
  subst h1; subst h2; subst h3
  exact ⟨v, (T.setVm vm₁).calling g' mk (Value.ref b :: As).toArray, t, U', L, hT, X', hL, e1, e2, hq, st⟩
section
variable {y : MethodName} {bytes cc : ByteArray} {maxL nL mc ms n index : Nat} {ret : Option FieldType} {ws : List Cond} {rm : Room} {Pc : Array Value → State → Prop} {Qc : Array Value → State → Outcome → State → Prop} {XC : String → State → State → Prop} {free : Addr → Prop} {Ts : List Cond} {own C : String} {b : Addr} {As rest : List Value} {g : JFrame}
theorem vx_runVX {hh : List (Nat × Nat × Nat × Nat)} (S : CallFix p m c cc nL s args Ts own) (hM : vx_Met l y ws rm Pc Qc XC mc ms free) (cw : vx_CVW R s args own C index y bytes maxL ret hh ws rm mc ms n) (hp : PreV s H C b Pc As)
    (hg : g.method = m) (hn : As.length = n) (hsize : g.locals.size = nL) (hstack : g.stack = As.reverse ++ .ref b :: rest) (hW : 2 * g.monitorRoom + (rest.map fun v => v.category).sum ≤ 8) (hdg : decode cc g.pc = .ok (.invokevirtual index, 3)) (hf : cells + mc ≤ R.cells ∧ slots + ms ≤ R.slots) :
    vx_Run p l e R s m args below meth c H locs cells slots mc ms g rest (Qc (Value.ref b :: As).toArray) XC free := by
  obtain ⟨⟨hrc, hrs, hfr, hlo, hws, hcw⟩, hcode, hini, hy, hlen, hl, hin, hse⟩ := cw
  have hK : vx_Back l R p e below s args y 3 8 (PreOf R mc ms Pc) (PostOf Qc mc ms free) (vx_Post XC mc ms free) := vx_backW (hh := hh) (bytes := bytes) (maxL := maxL) (ret := ret) hM hp.1 hrc hrs hfr hlo hws hcw (fun a' U hW => word_at hW (Or.inl (by first | rfl | simp [Cond.onTables, Cond.keeps, Cond.steady])) hini)
  obtain ⟨hx, hb, hml, ho, -⟩ := S
  obtain ⟨-, ⟨cellB, hcB, hoB, hclB⟩, hPc⟩ := hp
  intro T hT X
  rcases vx_callVX X hx (C := C) (hh := hh) (bytes := bytes) (maxL := maxL) (ret := ret) ho hl hin hse hcode hy hK (by rw [hT]; exact hcB) hoB hclB hg (hsize.trans hml.symm) (argsL := As) (rest := rest) (fun sig h => hn.trans (hlen sig h)) hstack hW (by rw [hb]; exact hdg)
    (fun vm₁ hW₁ => ⟨hf.1, hf.2, hPc (T.setVm vm₁) hT hW₁⟩) with ⟨v, vm₁, ⟨U', l2, c2, s2⟩, hW₁, X', ⟨g', mk, t, L, e1, e2, hq, h1, hL, h2, h3⟩, st⟩ | ⟨q, vm₁, ⟨U', l2, c2, s2⟩, hW₁, X', ⟨g', mk, t, L, E, ce, e1, e2, hq, hce, hcv, hcl, h1, hL, h2, h3⟩, st⟩
  · dsimp only [Pt.U, Pt.locs, Pt.cells, Pt.slots] at X' e1 e2 h1 h2 h3 st
    subst h1; subst h2; subst h3
    exact Or.inl ⟨v, (T.setVm vm₁).calling g' mk (Value.ref b :: As).toArray, t, U', L, hT, X', hL, e1, e2, hq, st⟩
  · dsimp only [Pt.U, Pt.locs, Pt.cells, Pt.slots] at X' e1 e2 h1 h2 h3 st hcl
    subst h1; subst h2; subst h3
    exact Or.inr ⟨q, (T.setVm vm₁).calling g' mk (Value.ref b :: As).toArray, t, U', L, E, ce, hT, X', hL, e1, e2, hq, hce, hcv, vx_cls hW₁ hcl, st⟩
theorem vx_runSX {hh : List (Nat × Nat × Nat × Nat)} (S : CallFix p m c cc nL s args Ts own) (hM : vx_Met l y ws rm Pc Qc XC mc ms free) (cw : vx_CSW R s args own index y bytes maxL ret hh ws rm mc ms n) (hp : PreS s H Pc As)
    (hg : g.method = m) (hn : As.length = n) (hsize : g.locals.size = nL) (hstack : g.stack = As.reverse ++ rest) (hW : 2 * g.monitorRoom + (rest.map fun v => v.category).sum ≤ 8) (hdg : decode cc g.pc = .ok (.invokestatic index, 3)) (hf : cells + mc ≤ R.cells ∧ slots + ms ≤ R.slots) :
    vx_Run p l e R s m args below meth c H locs cells slots mc ms g rest (Qc As.toArray) XC free := by
  obtain ⟨⟨hrc, hrs, hfr, hlo, hws, hcw⟩, hcode, hini, hy, hlen, hl, hstt⟩ := cw
  have hK : vx_Back l R p e below s args y 3 8 (PreOf R mc ms Pc) (PostOf Qc mc ms free) (vx_Post XC mc ms free) := vx_backW (hh := hh) (bytes := bytes) (maxL := maxL) (ret := ret) hM hp.1 hrc hrs hfr hlo hws hcw (fun a' U hW => word_at hW (Or.inl (by first | rfl | simp [Cond.onTables, Cond.keeps, Cond.steady])) hini)
  obtain ⟨hx, hb, hml, ho, -⟩ := S
  intro T hT X
  rcases vx_callSX X hx (hh := hh) (bytes := bytes) (maxL := maxL) (ret := ret) ho hl hstt hini hcode hy hK hg (hsize.trans hml.symm) (argsL := As) (rest := rest) (fun sig h => hn.trans (hlen sig h)) hstack hW (by rw [hb]; exact hdg)
    (fun vm₁ hW₁ => ⟨hf.1, hf.2, hp.2 (T.setVm vm₁) hT hW₁⟩) with ⟨v, vm₁, ⟨U', l2, c2, s2⟩, hW₁, X', ⟨g', mk, t, L, e1, e2, hq, h1, hL, h2, h3⟩, st⟩ | ⟨q, vm₁, ⟨U', l2, c2, s2⟩, hW₁, X', ⟨g', mk, t, L, E, ce, e1, e2, hq, hce, hcv, hcl, h1, hL, h2, h3⟩, st⟩
  · dsimp only [Pt.U, Pt.locs, Pt.cells, Pt.slots] at X' e1 e2 h1 h2 h3 st
    subst h1; subst h2; subst h3
    exact Or.inl ⟨v, (T.setVm vm₁).calling g' mk As.toArray, t, U', L, hT, X', hL, e1, e2, hq, st⟩
  · dsimp only [Pt.U, Pt.locs, Pt.cells, Pt.slots] at X' e1 e2 h1 h2 h3 st hcl
    subst h1; subst h2; subst h3
    exact Or.inr ⟨q, (T.setVm vm₁).calling g' mk As.toArray, t, U', L, E, ce, hT, X', hL, e1, e2, hq, hce, hcv, vx_cls hW₁ hcl, st⟩
end
end VXH
theorem vx_ofWH {l : Launch} {y : MethodName} {ws ws' : List Cond} {rm : Room} {Pc : Array Value → State → Prop} {Qc : Array Value → State → Outcome → State → Prop} {XC : String → State → State → Prop} {mc ms : Nat} {free : Addr → Prop} {cc : ByteArray} {maxL : Nat} {ret : Option FieldType} {hh : List (Nat × Nat × Nat × Nat)}
    (hy : plainName y.cls = true) (hw : ws = Cond.codeWith y cc maxL ret hh :: ws')
    (body : ∀ p e s m args below meth c s₁, BodyLoose p l y (headSpec ws rm) cc maxL ret e s m args below meth c s₁ → c.maxLocals = maxL → Pc args s →
      W p l e (headSpec ws rm).room s m args below meth c s.heap [] 0 0 (vx_MQ below Qc XC args s mc ms free) (entryFrame m args maxL)) : vx_Met l y ws rm Pc Qc XC mc ms free := by
  refine MetFree.of_bodyS (code := cc) (maxLocals := maxL) (ret := ret) hy ?_ ?_
  · intro args s m h hn
    obtain ⟨m9, meth, c, hn9, h1, h2, h3, h4, -, h5, h6, -⟩ := Cond.codeWith_spec (atoms_spec (ws := ws) h _ (by rw [hw]; exact List.mem_cons_self))
    cases hn.symm.trans hn9
    exact ⟨meth, c, h1, h2, h3, h4, h5, h6⟩
  · intro p e s m args below meth c s₁ B hml hP _
    have hh0 : s₁.heap = s.heap := by rw [B.state]; rfl
    obtain ⟨t, a1, o, b1, b2, b3⟩ := body p e s m args below meth c s₁ B hml hP s₁ hh0 (Stand.of_body B)
    exact ⟨t, o, a1, b1, b2, b3⟩
/-! ===== END ===== -/

/-! ===== BEGIN printed: names, fields, word lists, decode rows ===== -/
end
section
def RX0 : String := "MarbleRamps$Machine"
def TX0 : u_T := fun k => match k with
  | 0 => ("MarbleRamps$Machine", "parts", "[I", true)
  | 1 => ("MarbleRamps$Machine", "periods", "[I", true)
  | 2 => ("MarbleRamps$Machine", "states", "[I", true)
  | 3 => ("MarbleRamps$Machine", "bins", "[I", true)
  | 4 => ("MarbleRamps$Machine", "hopperColumns", "[I", true)
  | 5 => ("MarbleRamps$Machine", "hopperMarbles", "[I", true)
  | 6 => ("MarbleRamps$Machine", "columnCount", "I", false)
  | 7 => ("MarbleRamps$Machine", "rowCount", "I", false)
  | _ => ("MarbleRamps$Machine", "lostCount", "I", false)
def tyX0 : Nat → FieldType := fun k => match k with
  | 0 => .array .int
  | 1 => .array .int
  | 2 => .array .int
  | 3 => .array .int
  | 4 => .array .int
  | 5 => .array .int
  | 6 => .int
  | 7 => .int
  | _ => .int
abbrev wsX00 : List Cond := u_ws RX0 TX0 9
theorem nmX0 : ∀ a, a < 9 → ∀ b, b < 9 → a ≠ b → (TX0 a).2.1 ≠ (TX0 b).2.1 := by decide +kernel
theorem tyX0_ok : ∀ k, k < 9 → parseFieldDescriptor (TX0 k).2.2.1 = some (tyX0 k) := by decide +kernel
abbrev cX0_init : ByteArray := prog_2_method_1_code
def yX0_init : MethodName := ⟨RX0, "<init>", "()V"⟩
abbrev cX0_layBoard : ByteArray := prog_2_method_2_code
def yX0_layBoard : MethodName := ⟨RX0, "layBoard", "(II)V"⟩
abbrev cX0_becomeLike : ByteArray := prog_2_method_3_code
def yX0_becomeLike : MethodName := ⟨RX0, "becomeLike", "(LMarbleRamps$Machine;)V"⟩
abbrev cX0_hasRow : ByteArray := prog_2_method_4_code
def yX0_hasRow : MethodName := ⟨RX0, "hasRow", "(I)Z"⟩
abbrev cX0_hasColumn : ByteArray := prog_2_method_5_code
def yX0_hasColumn : MethodName := ⟨RX0, "hasColumn", "(I)Z"⟩
abbrev cX0_placeOf : ByteArray := prog_2_method_6_code
def yX0_placeOf : MethodName := ⟨RX0, "placeOf", "(II)I"⟩
abbrev cX0_partIn : ByteArray := prog_2_method_7_code
def yX0_partIn : MethodName := ⟨RX0, "partIn", "(I)I"⟩
abbrev cX0_isRightToggle : ByteArray := prog_2_method_8_code
def yX0_isRightToggle : MethodName := ⟨RX0, "isRightToggle", "(I)Z"⟩
abbrev cX0_countedIn : ByteArray := prog_2_method_9_code
def yX0_countedIn : MethodName := ⟨RX0, "countedIn", "(I)I"⟩
abbrev cX0_replacePart : ByteArray := prog_2_method_10_code
def yX0_replacePart : MethodName := ⟨RX0, "replacePart", "(IIII)I"⟩
abbrev cX0_turnOver : ByteArray := prog_2_method_11_code
def yX0_turnOver : MethodName := ⟨RX0, "turnOver", "(I)V"⟩
abbrev cX0_countToggles : ByteArray := prog_2_method_12_code
def yX0_countToggles : MethodName := ⟨RX0, "countToggles", "()I"⟩
abbrev cX0_numberToldBy : ByteArray := prog_2_method_13_code
def yX0_numberToldBy : MethodName := ⟨RX0, "numberToldBy", "(I)I"⟩
abbrev cX0_togglesUnlike : ByteArray := prog_2_method_14_code
def yX0_togglesUnlike : MethodName := ⟨RX0, "togglesUnlike", "(LMarbleRamps$Machine;)I"⟩
abbrev cX0_hasStatesOf : ByteArray := prog_2_method_15_code
def yX0_hasStatesOf : MethodName := ⟨RX0, "hasStatesOf", "(LMarbleRamps$Machine;)Z"⟩
abbrev cX0_letFall : ByteArray := prog_2_method_16_code
def yX0_letFall : MethodName := ⟨RX0, "letFall", "(I)I"⟩
abbrev cX0_fallTo : ByteArray := prog_2_method_17_code
def yX0_fallTo : MethodName := ⟨RX0, "fallTo", "(II)I"⟩
abbrev cX0_wayOut : ByteArray := prog_2_method_18_code
def yX0_wayOut : MethodName := ⟨RX0, "wayOut", "(II)I"⟩
abbrev cX0_marblesInBins : ByteArray := prog_2_method_19_code
def yX0_marblesInBins : MethodName := ⟨RX0, "marblesInBins", "()I"⟩
abbrev cX0_clearBins : ByteArray := prog_2_method_20_code
def yX0_clearBins : MethodName := ⟨RX0, "clearBins", "()V"⟩
abbrev cX0_fillHopper : ByteArray := prog_2_method_21_code
def yX0_fillHopper : MethodName := ⟨RX0, "fillHopper", "(III)I"⟩
abbrev cX0_runFrom : ByteArray := prog_2_method_22_code
def yX0_runFrom : MethodName := ⟨RX0, "runFrom", "(II)I"⟩
abbrev cX0_hopperBehind : ByteArray := prog_2_method_23_code
def yX0_hopperBehind : MethodName := ⟨RX0, "hopperBehind", "(I)I"⟩
def RX1 : String := "MarbleRamps"
def TX1 : u_T := fun k => match k with
  | 0 => ("MarbleRamps", "now", "LMarbleRamps$Machine;", true)
  | _ => ("MarbleRamps", "trial", "LMarbleRamps$Machine;", true)
def tyX1 : Nat → FieldType := fun k => match k with
  | 0 => .object "MarbleRamps$Machine"
  | _ => .object "MarbleRamps$Machine"
abbrev wsX10 : List Cond := u_ws RX1 TX1 2
theorem nmX1 : ∀ a, a < 2 → ∀ b, b < 2 → a ≠ b → (TX1 a).2.1 ≠ (TX1 b).2.1 := by decide +kernel
theorem tyX1_ok : ∀ k, k < 2 → parseFieldDescriptor (TX1 k).2.2.1 = some (tyX1 k) := by decide +kernel
abbrev cX1_init : ByteArray := prog_1_method_1_code
def yX1_init : MethodName := ⟨RX1, "<init>", "()V"⟩
abbrev cX1_lay : ByteArray := prog_1_method_2_code
def yX1_lay : MethodName := ⟨RX1, "lay", "(II)I"⟩
abbrev cX1_put : ByteArray := prog_1_method_3_code
def yX1_put : MethodName := ⟨RX1, "put", "(III)I"⟩
abbrev cX1_putCounter : ByteArray := prog_1_method_4_code
def yX1_putCounter : MethodName := ⟨RX1, "putCounter", "(III)I"⟩
abbrev cX1_turn : ByteArray := prog_1_method_5_code
def yX1_turn : MethodName := ⟨RX1, "turn", "(II)Z"⟩
abbrev cX1_setHopper : ByteArray := prog_1_method_6_code
def yX1_setHopper : MethodName := ⟨RX1, "setHopper", "(III)I"⟩
abbrev cX1_drop : ByteArray := prog_1_method_7_code
def yX1_drop : MethodName := ⟨RX1, "drop", "(I)I"⟩
abbrev cX1_run : ByteArray := prog_1_method_8_code
def yX1_run : MethodName := ⟨RX1, "run", "(II)I"⟩
abbrev cX1_emptyBins : ByteArray := prog_1_method_9_code
def yX1_emptyBins : MethodName := ⟨RX1, "emptyBins", "()I"⟩
abbrev cX1_columns : ByteArray := prog_1_method_10_code
def yX1_columns : MethodName := ⟨RX1, "columns", "()I"⟩
abbrev cX1_rows : ByteArray := prog_1_method_11_code
def yX1_rows : MethodName := ⟨RX1, "rows", "()I"⟩
abbrev cX1_partAt : ByteArray := prog_1_method_12_code
def yX1_partAt : MethodName := ⟨RX1, "partAt", "(II)I"⟩
abbrev cX1_leadsRight : ByteArray := prog_1_method_13_code
def yX1_leadsRight : MethodName := ⟨RX1, "leadsRight", "(II)Z"⟩
abbrev cX1_countAt : ByteArray := prog_1_method_14_code
def yX1_countAt : MethodName := ⟨RX1, "countAt", "(II)I"⟩
abbrev cX1_binOf : ByteArray := prog_1_method_15_code
def yX1_binOf : MethodName := ⟨RX1, "binOf", "(I)I"⟩
abbrev cX1_lost : ByteArray := prog_1_method_16_code
def yX1_lost : MethodName := ⟨RX1, "lost", "()I"⟩
abbrev cX1_marblesIn : ByteArray := prog_1_method_17_code
def yX1_marblesIn : MethodName := ⟨RX1, "marblesIn", "(I)I"⟩
abbrev cX1_columnOf : ByteArray := prog_1_method_18_code
def yX1_columnOf : MethodName := ⟨RX1, "columnOf", "(I)I"⟩
abbrev cX1_toggles : ByteArray := prog_1_method_19_code
def yX1_toggles : MethodName := ⟨RX1, "toggles", "()I"⟩
abbrev cX1_numberIn : ByteArray := prog_1_method_20_code
def yX1_numberIn : MethodName := ⟨RX1, "numberIn", "(I)I"⟩
abbrev cX1_wouldLand : ByteArray := prog_1_method_21_code
def yX1_wouldLand : MethodName := ⟨RX1, "wouldLand", "(I)I"⟩
abbrev cX1_wouldBeIn : ByteArray := prog_1_method_22_code
def yX1_wouldBeIn : MethodName := ⟨RX1, "wouldBeIn", "(II)I"⟩
abbrev cX1_wouldTurn : ByteArray := prog_1_method_23_code
def yX1_wouldTurn : MethodName := ⟨RX1, "wouldTurn", "(I)I"⟩
abbrev cX1_lastLands : ByteArray := prog_1_method_24_code
def yX1_lastLands : MethodName := ⟨RX1, "lastLands", "(II)I"⟩
abbrev cX1_asBeforeIn : ByteArray := prog_1_method_25_code
def yX1_asBeforeIn : MethodName := ⟨RX1, "asBeforeIn", "(I)I"⟩
abbrev cX1_wouldRun : ByteArray := prog_1_method_26_code
def yX1_wouldRun : MethodName := ⟨RX1, "wouldRun", "(I)I"⟩
abbrev cX1_bestColumn : ByteArray := prog_1_method_27_code
def yX1_bestColumn : MethodName := ⟨RX1, "bestColumn", "()I"⟩
abbrev cX1_meanInBins : ByteArray := prog_1_method_28_code
def yX1_meanInBins : MethodName := ⟨RX1, "meanInBins", "()D"⟩
abbrev cX1_digest : ByteArray := prog_1_method_29_code
def yX1_digest : MethodName := ⟨RX1, "digest", "()J"⟩
abbrev cX1_needPlace : ByteArray := prog_1_method_30_code
def yX1_needPlace : MethodName := ⟨RX1, "needPlace", "(II)V"⟩
abbrev cX1_needRow : ByteArray := prog_1_method_31_code
def yX1_needRow : MethodName := ⟨RX1, "needRow", "(I)V"⟩
abbrev cX1_needColumn : ByteArray := prog_1_method_32_code
def yX1_needColumn : MethodName := ⟨RX1, "needColumn", "(I)V"⟩
abbrev cX1_needHopper : ByteArray := prog_1_method_33_code
def yX1_needHopper : MethodName := ⟨RX1, "needHopper", "(I)V"⟩
abbrev cX1_needWithin : ByteArray := prog_1_method_34_code
def yX1_needWithin : MethodName := ⟨RX1, "needWithin", "(III)V"⟩
abbrev cX1_cell : ByteArray := prog_1_method_35_code
def yX1_cell : MethodName := ⟨RX1, "cell", "([II)I"⟩
abbrev cX1_setCell : ByteArray := prog_1_method_36_code
def yX1_setCell : MethodName := ⟨RX1, "setCell", "([III)V"⟩
abbrev cX1_copyCells : ByteArray := prog_1_method_37_code
def yX1_copyCells : MethodName := ⟨RX1, "copyCells", "([I[I)V"⟩
def RX2 : String := "MarbleRampsLaw$Sim"
def TX2 : u_T := fun k => match k with
  | 0 => ("MarbleRampsLaw$Sim", "board", "[[[I", false)
  | 1 => ("MarbleRampsLaw$Sim", "bins", "[I", false)
  | 2 => ("MarbleRampsLaw$Sim", "lost", "I", false)
  | 3 => ("MarbleRampsLaw$Sim", "above", "[I", false)
  | 4 => ("MarbleRampsLaw$Sim", "marbles", "[I", false)
  | _ => ("MarbleRampsLaw$Sim", "turned", "I", false)
def tyX2 : Nat → FieldType := fun k => match k with
  | 0 => .array (.array (.array .int))
  | 1 => .array .int
  | 2 => .int
  | 3 => .array .int
  | 4 => .array .int
  | _ => .int
abbrev wsX20 : List Cond := u_ws RX2 TX2 6
theorem nmX2 : ∀ a, a < 6 → ∀ b, b < 6 → a ≠ b → (TX2 a).2.1 ≠ (TX2 b).2.1 := by decide +kernel
theorem tyX2_ok : ∀ k, k < 6 → parseFieldDescriptor (TX2 k).2.2.1 = some (tyX2 k) := by decide +kernel
abbrev cX2_init : ByteArray := prog_4_method_1_code
def yX2_init : MethodName := ⟨RX2, "<init>", "()V"⟩
abbrev cX2_copy : ByteArray := prog_4_method_2_code
def yX2_copy : MethodName := ⟨RX2, "copy", "()LMarbleRampsLaw$Sim;"⟩
abbrev cX2_lay : ByteArray := prog_4_method_3_code
def yX2_lay : MethodName := ⟨RX2, "lay", "(II)V"⟩
abbrev cX2_fall : ByteArray := prog_4_method_4_code
def yX2_fall : MethodName := ⟨RX2, "fall", "(II)I"⟩
abbrev cX2_drop : ByteArray := prog_4_method_5_code
def yX2_drop : MethodName := ⟨RX2, "drop", "(I)I"⟩
abbrev cX2_run : ByteArray := prog_4_method_6_code
def yX2_run : MethodName := ⟨RX2, "run", "(II)I"⟩
abbrev cX2_hasSame : ByteArray := prog_4_method_7_code
def yX2_hasSame : MethodName := ⟨RX2, "hasSame", "(LMarbleRampsLaw$Sim;)Z"⟩
abbrev cX2_isSame : ByteArray := prog_4_method_8_code
def yX2_isSame : MethodName := ⟨RX2, "isSame", "(LMarbleRamps;)Z"⟩
def RX3 : String := "MarbleRampsModel"
def TX3 : u_T := fun k => match k with
  | _ => ("", "", "", false)
def tyX3 : Nat → FieldType := fun k => match k with
  | _ => .int
abbrev wsX30 : List Cond := u_ws RX3 TX3 0
theorem nmX3 : ∀ a, a < 0 → ∀ b, b < 0 → a ≠ b → (TX3 a).2.1 ≠ (TX3 b).2.1 := by decide +kernel
theorem tyX3_ok : ∀ k, k < 0 → parseFieldDescriptor (TX3 k).2.2.1 = some (tyX3 k) := by decide +kernel
def RJx145de : String := "java/io/Serializable"
def TJx145de : u_T := fun k => match k with
  | _ => ("", "", "", false)
def tyJx145de : Nat → FieldType := fun k => match k with
  | _ => .int
abbrev wsJx145de0 : List Cond := u_ws RJx145de TJx145de 0
theorem nmJx145de : ∀ a, a < 0 → ∀ b, b < 0 → a ≠ b → (TJx145de a).2.1 ≠ (TJx145de b).2.1 := by decide +kernel
theorem tyJx145de_ok : ∀ k, k < 0 → parseFieldDescriptor (TJx145de k).2.2.1 = some (tyJx145de k) := by decide +kernel
def RJx8e188 : String := "java/lang/Cloneable"
def TJx8e188 : u_T := fun k => match k with
  | _ => ("", "", "", false)
def tyJx8e188 : Nat → FieldType := fun k => match k with
  | _ => .int
abbrev wsJx8e1880 : List Cond := u_ws RJx8e188 TJx8e188 0
theorem nmJx8e188 : ∀ a, a < 0 → ∀ b, b < 0 → a ≠ b → (TJx8e188 a).2.1 ≠ (TJx8e188 b).2.1 := by decide +kernel
theorem tyJx8e188_ok : ∀ k, k < 0 → parseFieldDescriptor (TJx8e188 k).2.2.1 = some (tyJx8e188 k) := by decide +kernel
def RJ9 : String := "java/lang/Math"
def TJ9 : u_T := fun k => match k with
  | _ => ("", "", "", false)
def tyJ9 : Nat → FieldType := fun k => match k with
  | _ => .int
abbrev wsJ90 : List Cond := u_ws RJ9 TJ9 0
theorem nmJ9 : ∀ a, a < 0 → ∀ b, b < 0 → a ≠ b → (TJ9 a).2.1 ≠ (TJ9 b).2.1 := by decide +kernel
theorem tyJ9_ok : ∀ k, k < 0 → parseFieldDescriptor (TJ9 k).2.2.1 = some (tyJ9 k) := by decide +kernel
abbrev cJ9_abs_0f7a4 : ByteArray := prog_11_method_59_code
def yJ9_abs_0f7a4 : MethodName := ⟨RJ9, "abs", "(I)I"⟩
abbrev cJ9_min_7cf53 : ByteArray := prog_11_method_69_code
def yJ9_min_7cf53 : MethodName := ⟨RJ9, "min", "(II)I"⟩
def RJ0 : String := "java/lang/String"
def TJ0 : u_T := fun k => match k with
  | _ => ("", "", "", false)
def tyJ0 : Nat → FieldType := fun k => match k with
  | _ => .int
abbrev wsJ00 : List Cond := u_ws RJ0 TJ0 0
theorem nmJ0 : ∀ a, a < 0 → ∀ b, b < 0 → a ≠ b → (TJ0 a).2.1 ≠ (TJ0 b).2.1 := by decide +kernel
theorem tyJ0_ok : ∀ k, k < 0 → parseFieldDescriptor (TJ0 k).2.2.1 = some (tyJ0 k) := by decide +kernel
def RJ7 : String := "java/util/Arrays"
def TJ7 : u_T := fun k => match k with
  | _ => ("", "", "", false)
def tyJ7 : Nat → FieldType := fun k => match k with
  | _ => .int
abbrev wsJ70 : List Cond := u_ws RJ7 TJ7 0
theorem nmJ7 : ∀ a, a < 0 → ∀ b, b < 0 → a ≠ b → (TJ7 a).2.1 ≠ (TJ7 b).2.1 := by decide +kernel
theorem tyJ7_ok : ∀ k, k < 0 → parseFieldDescriptor (TJ7 k).2.2.1 = some (tyJ7 k) := by decide +kernel
abbrev cJ7_fill_53178 : ByteArray := prog_15_method_103_code
def yJ7_fill_53178 : MethodName := ⟨RJ7, "fill", "([II)V"⟩
def RL : String := "MarbleRampsLaw"
abbrev cL_below : ByteArray := method_2_code
def yL_below : MethodName := ⟨RL, "below", "(II)I"⟩
abbrev cL_cell : ByteArray := method_3_code
def yL_cell : MethodName := ⟨RL, "cell", "([II)I"⟩
abbrev cL_act : ByteArray := method_4_code
def yL_act : MethodName := ⟨RL, "act", "(LMarbleRamps;LMarbleRampsLaw$Sim;I)Z"⟩
abbrev cL_build : ByteArray := method_5_code
def yL_build : MethodName := ⟨RL, "build", "(LMarbleRamps;[I)LMarbleRampsLaw$Sim;"⟩
abbrev cL_law : ByteArray := code
def yL_law : MethodName := ⟨RL, "law", "([I)Z"⟩
def wsJ7_fill_53178 : List Cond := .code yJ7_fill_53178 cJ7_fill_53178 4 none :: ([])
def wsX0_clearBins : List Cond := .code yX0_clearBins cX0_clearBins 1 none :: ([.fieldLink RX0 21 "MarbleRamps$Machine" "bins" "[I", .methodLink RX0 44 yJ7_fill_53178, .static yJ7_fill_53178, .initialized RJ7, .code yJ7_fill_53178 cJ7_fill_53178 4 none] ++ wsX00)
def wsX1_setCell : List Cond := .code yX1_setCell cX1_setCell 3 none :: ([])
def wsX0_layBoard : List Cond := .code yX0_layBoard cX0_layBoard 3 none :: ([.fieldLink RX0 34 "MarbleRamps$Machine" "columnCount" "I", .fieldLink RX0 38 "MarbleRamps$Machine" "rowCount" "I", .fieldLink RX0 41 "MarbleRamps$Machine" "lostCount" "I", .fieldLink RX0 9 "MarbleRamps$Machine" "parts" "[I", .fieldLink RX0 15 "MarbleRamps$Machine" "periods" "[I", .fieldLink RX0 18 "MarbleRamps$Machine" "states" "[I", .fieldLink RX0 24 "MarbleRamps$Machine" "hopperColumns" "[I", .methodLink RX0 44 yJ7_fill_53178, .static yJ7_fill_53178, .initialized RJ7, .code yJ7_fill_53178 cJ7_fill_53178 4 none, .methodLink RX0 50 yX0_clearBins, .instanceMethod yX0_clearBins, .selects RX0 yX0_clearBins yX0_clearBins, .initialized RX0, .code yX0_clearBins cX0_clearBins 1 none, .fieldLink RX0 21 "MarbleRamps$Machine" "bins" "[I", .static yX1_setCell, .initialized RX1, .code yX1_setCell cX1_setCell 3 none] ++ wsX00)
def wsX0_init_r1 : List Cond := [Cond.methodLink RX0 3 objectInit, Cond.instanceMethod objectInit, Cond.code objectInit ⟨#[0xb1]⟩ 1 none, Cond.arrayClass .int, Cond.fieldLink RX0 9 "MarbleRamps$Machine" "parts" "[I", Cond.fieldLink RX0 15 "MarbleRamps$Machine" "periods" "[I", Cond.fieldLink RX0 18 "MarbleRamps$Machine" "states" "[I", Cond.fieldLink RX0 21 "MarbleRamps$Machine" "bins" "[I", Cond.fieldLink RX0 24 "MarbleRamps$Machine" "hopperColumns" "[I", Cond.fieldLink RX0 27 "MarbleRamps$Machine" "hopperMarbles" "[I", Cond.methodLink RX0 30 yX0_layBoard, Cond.instanceMethod yX0_layBoard, Cond.selects RX0 yX0_layBoard yX0_layBoard, Cond.initialized RX0, Cond.code yX0_layBoard cX0_layBoard 3 none, Cond.fieldLink RX0 34 "MarbleRamps$Machine" "columnCount" "I", Cond.fieldLink RX0 38 "MarbleRamps$Machine" "rowCount" "I", Cond.fieldLink RX0 41 "MarbleRamps$Machine" "lostCount" "I", Cond.methodLink RX0 44 yJ7_fill_53178, Cond.static yJ7_fill_53178, Cond.initialized RJ7, Cond.code yJ7_fill_53178 cJ7_fill_53178 4 none, Cond.methodLink RX0 50 yX0_clearBins, Cond.instanceMethod yX0_clearBins]
def wsX0_init_r2 : List Cond := [Cond.selects RX0 yX0_clearBins yX0_clearBins, Cond.code yX0_clearBins cX0_clearBins 1 none, Cond.static yX1_setCell, Cond.initialized RX1, Cond.code yX1_setCell cX1_setCell 3 none]
def wsX0_init : List Cond := .code yX0_init cX0_init 1 none :: ((wsX0_init_r1 ++ wsX0_init_r2) ++ wsX00)
def wsX1_copyCells : List Cond := .code yX1_copyCells cX1_copyCells 3 none :: ([.methodLink RX1 204 yX1_setCell, .static yX1_setCell, .initialized RX1, .code yX1_setCell cX1_setCell 3 none])
def wsX0_becomeLike : List Cond := .code yX0_becomeLike cX0_becomeLike 2 none :: ([.fieldLink RX0 34 "MarbleRamps$Machine" "columnCount" "I", .fieldLink RX0 38 "MarbleRamps$Machine" "rowCount" "I", .fieldLink RX0 41 "MarbleRamps$Machine" "lostCount" "I", .fieldLink RX0 9 "MarbleRamps$Machine" "parts" "[I", .fieldLink RX0 15 "MarbleRamps$Machine" "periods" "[I", .fieldLink RX0 18 "MarbleRamps$Machine" "states" "[I", .fieldLink RX0 21 "MarbleRamps$Machine" "bins" "[I", .fieldLink RX0 24 "MarbleRamps$Machine" "hopperColumns" "[I", .fieldLink RX0 27 "MarbleRamps$Machine" "hopperMarbles" "[I", .static yX1_copyCells, .initialized RX1, .code yX1_copyCells cX1_copyCells 3 none, .methodLink RX1 204 yX1_setCell, .static yX1_setCell, .code yX1_setCell cX1_setCell 3 none] ++ wsX00)
def wsX0_hasRow : List Cond := .code yX0_hasRow cX0_hasRow 2 (some .boolean) :: ([.fieldLink RX0 38 "MarbleRamps$Machine" "rowCount" "I"] ++ wsX00)
def wsX0_hasColumn : List Cond := .code yX0_hasColumn cX0_hasColumn 2 (some .boolean) :: ([.fieldLink RX0 34 "MarbleRamps$Machine" "columnCount" "I"] ++ wsX00)
def wsX0_placeOf : List Cond := .code yX0_placeOf cX0_placeOf 3 (some .int) :: ([.fieldLink RX0 34 "MarbleRamps$Machine" "columnCount" "I"] ++ wsX00)
def wsX1_cell : List Cond := .code yX1_cell cX1_cell 2 (some .int) :: ([])
def wsX0_partIn : List Cond := .code yX0_partIn cX0_partIn 2 (some .int) :: ([.fieldLink RX0 9 "MarbleRamps$Machine" "parts" "[I", .static yX1_cell, .initialized RX1, .code yX1_cell cX1_cell 2 (some .int)] ++ wsX00)
def wsX0_isRightToggle : List Cond := .code yX0_isRightToggle cX0_isRightToggle 2 (some .boolean) :: ([.fieldLink RX0 18 "MarbleRamps$Machine" "states" "[I", .methodLink RX0 65 yX0_partIn, .instanceMethod yX0_partIn, .selects RX0 yX0_partIn yX0_partIn, .initialized RX0, .code yX0_partIn cX0_partIn 2 (some .int), .fieldLink RX0 9 "MarbleRamps$Machine" "parts" "[I", .static yX1_cell, .initialized RX1, .code yX1_cell cX1_cell 2 (some .int)] ++ wsX00)
def wsX0_countedIn : List Cond := .code yX0_countedIn cX0_countedIn 2 (some .int) :: ([.fieldLink RX0 18 "MarbleRamps$Machine" "states" "[I", .methodLink RX0 65 yX0_partIn, .instanceMethod yX0_partIn, .selects RX0 yX0_partIn yX0_partIn, .initialized RX0, .code yX0_partIn cX0_partIn 2 (some .int), .fieldLink RX0 9 "MarbleRamps$Machine" "parts" "[I", .static yX1_cell, .initialized RX1, .code yX1_cell cX1_cell 2 (some .int)] ++ wsX00)
def wsX0_replacePart : List Cond := .code yX0_replacePart cX0_replacePart 7 (some .int) :: ([.fieldLink RX0 9 "MarbleRamps$Machine" "parts" "[I", .fieldLink RX0 15 "MarbleRamps$Machine" "periods" "[I", .fieldLink RX0 18 "MarbleRamps$Machine" "states" "[I", .methodLink RX0 69 yX0_placeOf, .instanceMethod yX0_placeOf, .selects RX0 yX0_placeOf yX0_placeOf, .initialized RX0, .code yX0_placeOf cX0_placeOf 3 (some .int), .fieldLink RX0 34 "MarbleRamps$Machine" "columnCount" "I", .methodLink RX0 65 yX0_partIn, .instanceMethod yX0_partIn, .selects RX0 yX0_partIn yX0_partIn, .code yX0_partIn cX0_partIn 2 (some .int), .static yX1_cell, .initialized RX1, .code yX1_cell cX1_cell 2 (some .int), .static yX1_setCell, .code yX1_setCell cX1_setCell 3 none] ++ wsX00)
def wsX0_turnOver : List Cond := .code yX0_turnOver cX0_turnOver 2 none :: ([.fieldLink RX0 18 "MarbleRamps$Machine" "states" "[I", .methodLink RX0 73 yX0_isRightToggle, .instanceMethod yX0_isRightToggle, .selects RX0 yX0_isRightToggle yX0_isRightToggle, .initialized RX0, .code yX0_isRightToggle cX0_isRightToggle 2 (some .boolean), .methodLink RX0 65 yX0_partIn, .instanceMethod yX0_partIn, .selects RX0 yX0_partIn yX0_partIn, .code yX0_partIn cX0_partIn 2 (some .int), .fieldLink RX0 9 "MarbleRamps$Machine" "parts" "[I", .static yX1_cell, .initialized RX1, .code yX1_cell cX1_cell 2 (some .int), .static yX1_setCell, .code yX1_setCell cX1_setCell 3 none] ++ wsX00)
def wsX0_countToggles : List Cond := .code yX0_countToggles cX0_countToggles 6 (some .int) :: ([.fieldLink RX0 9 "MarbleRamps$Machine" "parts" "[I"] ++ wsX00)
def wsX0_numberToldBy : List Cond := .code yX0_numberToldBy cX0_numberToldBy 6 (some .int) :: ([.fieldLink RX0 34 "MarbleRamps$Machine" "columnCount" "I", .methodLink RX0 69 yX0_placeOf, .instanceMethod yX0_placeOf, .selects RX0 yX0_placeOf yX0_placeOf, .initialized RX0, .code yX0_placeOf cX0_placeOf 3 (some .int), .methodLink RX0 65 yX0_partIn, .instanceMethod yX0_partIn, .selects RX0 yX0_partIn yX0_partIn, .code yX0_partIn cX0_partIn 2 (some .int), .fieldLink RX0 9 "MarbleRamps$Machine" "parts" "[I", .static yX1_cell, .initialized RX1, .code yX1_cell cX1_cell 2 (some .int), .methodLink RX0 73 yX0_isRightToggle, .instanceMethod yX0_isRightToggle, .selects RX0 yX0_isRightToggle yX0_isRightToggle, .code yX0_isRightToggle cX0_isRightToggle 2 (some .boolean), .fieldLink RX0 18 "MarbleRamps$Machine" "states" "[I"] ++ wsX00)
def wsX0_togglesUnlike : List Cond := .code yX0_togglesUnlike cX0_togglesUnlike 4 (some .int) :: ([.fieldLink RX0 9 "MarbleRamps$Machine" "parts" "[I", .methodLink RX0 73 yX0_isRightToggle, .instanceMethod yX0_isRightToggle, .selects RX0 yX0_isRightToggle yX0_isRightToggle, .initialized RX0, .code yX0_isRightToggle cX0_isRightToggle 2 (some .boolean), .fieldLink RX0 18 "MarbleRamps$Machine" "states" "[I", .methodLink RX0 65 yX0_partIn, .instanceMethod yX0_partIn, .selects RX0 yX0_partIn yX0_partIn, .code yX0_partIn cX0_partIn 2 (some .int), .static yX1_cell, .initialized RX1, .code yX1_cell cX1_cell 2 (some .int)] ++ wsX00)
def wsX0_hasStatesOf : List Cond := .code yX0_hasStatesOf cX0_hasStatesOf 3 (some .boolean) :: ([.fieldLink RX0 18 "MarbleRamps$Machine" "states" "[I", .static yX1_cell, .initialized RX1, .code yX1_cell cX1_cell 2 (some .int)] ++ wsX00)
def wsX0_wayOut : List Cond := .code yX0_wayOut cX0_wayOut 5 (some .int) :: ([.fieldLink RX0 9 "MarbleRamps$Machine" "parts" "[I", .fieldLink RX0 18 "MarbleRamps$Machine" "states" "[I", .fieldLink RX0 15 "MarbleRamps$Machine" "periods" "[I", .static yX1_cell, .initialized RX1, .code yX1_cell cX1_cell 2 (some .int), .static yX1_setCell, .code yX1_setCell cX1_setCell 3 none] ++ wsX00)
def wsX0_fallTo : List Cond := .code yX0_fallTo cX0_fallTo 6 (some .int) :: ([.methodLink RX0 69 yX0_placeOf, .instanceMethod yX0_placeOf, .selects RX0 yX0_placeOf yX0_placeOf, .initialized RX0, .code yX0_placeOf cX0_placeOf 3 (some .int), .fieldLink RX0 34 "MarbleRamps$Machine" "columnCount" "I", .methodLink RX0 80 yX0_wayOut, .instanceMethod yX0_wayOut, .selects RX0 yX0_wayOut yX0_wayOut, .code yX0_wayOut cX0_wayOut 5 (some .int), .fieldLink RX0 9 "MarbleRamps$Machine" "parts" "[I", .fieldLink RX0 18 "MarbleRamps$Machine" "states" "[I", .fieldLink RX0 15 "MarbleRamps$Machine" "periods" "[I", .static yX1_cell, .initialized RX1, .code yX1_cell cX1_cell 2 (some .int), .static yX1_setCell, .code yX1_setCell cX1_setCell 3 none, .methodLink RX0 83 yX0_hasColumn, .instanceMethod yX0_hasColumn, .selects RX0 yX0_hasColumn yX0_hasColumn, .code yX0_hasColumn cX0_hasColumn 2 (some .boolean)] ++ wsX00)
def wsX0_letFall_r1 : List Cond := [Cond.fieldLink RX0 38 "MarbleRamps$Machine" "rowCount" "I", Cond.fieldLink RX0 41 "MarbleRamps$Machine" "lostCount" "I", Cond.fieldLink RX0 21 "MarbleRamps$Machine" "bins" "[I", Cond.methodLink RX0 77 yX0_fallTo, Cond.instanceMethod yX0_fallTo, Cond.selects RX0 yX0_fallTo yX0_fallTo, Cond.initialized RX0, Cond.code yX0_fallTo cX0_fallTo 6 (some .int), Cond.methodLink RX0 69 yX0_placeOf, Cond.instanceMethod yX0_placeOf, Cond.selects RX0 yX0_placeOf yX0_placeOf, Cond.code yX0_placeOf cX0_placeOf 3 (some .int), Cond.fieldLink RX0 34 "MarbleRamps$Machine" "columnCount" "I", Cond.methodLink RX0 80 yX0_wayOut, Cond.instanceMethod yX0_wayOut, Cond.selects RX0 yX0_wayOut yX0_wayOut, Cond.code yX0_wayOut cX0_wayOut 5 (some .int), Cond.fieldLink RX0 9 "MarbleRamps$Machine" "parts" "[I", Cond.fieldLink RX0 18 "MarbleRamps$Machine" "states" "[I", Cond.fieldLink RX0 15 "MarbleRamps$Machine" "periods" "[I", Cond.static yX1_cell, Cond.initialized RX1, Cond.code yX1_cell cX1_cell 2 (some .int), Cond.static yX1_setCell]
def wsX0_letFall_r2 : List Cond := [Cond.code yX1_setCell cX1_setCell 3 none, Cond.methodLink RX0 83 yX0_hasColumn, Cond.instanceMethod yX0_hasColumn, Cond.selects RX0 yX0_hasColumn yX0_hasColumn, Cond.code yX0_hasColumn cX0_hasColumn 2 (some .boolean)]
def wsX0_letFall : List Cond := .code yX0_letFall cX0_letFall 3 (some .int) :: ((wsX0_letFall_r1 ++ wsX0_letFall_r2) ++ wsX00)
def wsX0_marblesInBins : List Cond := .code yX0_marblesInBins cX0_marblesInBins 6 (some .int) :: ([.fieldLink RX0 21 "MarbleRamps$Machine" "bins" "[I"] ++ wsX00)
def wsX0_fillHopper : List Cond := .code yX0_fillHopper cX0_fillHopper 5 (some .int) :: ([.fieldLink RX0 27 "MarbleRamps$Machine" "hopperMarbles" "[I", .fieldLink RX0 24 "MarbleRamps$Machine" "hopperColumns" "[I", .static yX1_cell, .initialized RX1, .code yX1_cell cX1_cell 2 (some .int), .static yX1_setCell, .code yX1_setCell cX1_setCell 3 none] ++ wsX00)
def wsX0_hopperBehind : List Cond := .code yX0_hopperBehind cX0_hopperBehind 3 (some .int) :: ([.fieldLink RX0 34 "MarbleRamps$Machine" "columnCount" "I"] ++ wsX00)
def wsX0_runFrom_r1 : List Cond := [Cond.fieldLink RX0 27 "MarbleRamps$Machine" "hopperMarbles" "[I", Cond.fieldLink RX0 24 "MarbleRamps$Machine" "hopperColumns" "[I", Cond.static yX1_cell, Cond.initialized RX1, Cond.code yX1_cell cX1_cell 2 (some .int), Cond.static yX1_setCell, Cond.code yX1_setCell cX1_setCell 3 none, Cond.methodLink RX0 86 yX0_letFall, Cond.instanceMethod yX0_letFall, Cond.selects RX0 yX0_letFall yX0_letFall, Cond.initialized RX0, Cond.code yX0_letFall cX0_letFall 3 (some .int), Cond.fieldLink RX0 38 "MarbleRamps$Machine" "rowCount" "I", Cond.fieldLink RX0 41 "MarbleRamps$Machine" "lostCount" "I", Cond.fieldLink RX0 21 "MarbleRamps$Machine" "bins" "[I", Cond.methodLink RX0 77 yX0_fallTo, Cond.instanceMethod yX0_fallTo, Cond.selects RX0 yX0_fallTo yX0_fallTo, Cond.code yX0_fallTo cX0_fallTo 6 (some .int), Cond.methodLink RX0 69 yX0_placeOf, Cond.instanceMethod yX0_placeOf, Cond.selects RX0 yX0_placeOf yX0_placeOf, Cond.code yX0_placeOf cX0_placeOf 3 (some .int), Cond.fieldLink RX0 34 "MarbleRamps$Machine" "columnCount" "I"]
def wsX0_runFrom_r2 : List Cond := [Cond.methodLink RX0 80 yX0_wayOut, Cond.instanceMethod yX0_wayOut, Cond.selects RX0 yX0_wayOut yX0_wayOut, Cond.code yX0_wayOut cX0_wayOut 5 (some .int), Cond.fieldLink RX0 9 "MarbleRamps$Machine" "parts" "[I", Cond.fieldLink RX0 18 "MarbleRamps$Machine" "states" "[I", Cond.fieldLink RX0 15 "MarbleRamps$Machine" "periods" "[I", Cond.methodLink RX0 83 yX0_hasColumn, Cond.instanceMethod yX0_hasColumn, Cond.selects RX0 yX0_hasColumn yX0_hasColumn, Cond.code yX0_hasColumn cX0_hasColumn 2 (some .boolean), Cond.methodLink RX0 89 yX0_hopperBehind, Cond.instanceMethod yX0_hopperBehind, Cond.selects RX0 yX0_hopperBehind yX0_hopperBehind, Cond.code yX0_hopperBehind cX0_hopperBehind 3 (some .int)]
def wsX0_runFrom : List Cond := .code yX0_runFrom cX0_runFrom 5 (some .int) :: ((wsX0_runFrom_r1 ++ wsX0_runFrom_r2) ++ wsX00)
def wsX1_init_r1 : List Cond := [Cond.methodLink RX1 1 objectInit, Cond.instanceMethod objectInit, Cond.code objectInit ⟨#[0xb1]⟩ 1 none, Cond.classLink RX1 7 RX0, Cond.instantiable RX0 9, Cond.initialized RX0, Cond.fieldLink RX1 10 "MarbleRamps" "now" "LMarbleRamps$Machine;", Cond.fieldLink RX1 16 "MarbleRamps" "trial" "LMarbleRamps$Machine;", Cond.methodLink RX1 9 yX0_init, Cond.instanceMethod yX0_init, Cond.code yX0_init cX0_init 1 none, Cond.methodLink RX0 3 objectInit, Cond.arrayClass .int, Cond.fieldLink RX0 9 "MarbleRamps$Machine" "parts" "[I", Cond.fieldLink RX0 15 "MarbleRamps$Machine" "periods" "[I", Cond.fieldLink RX0 18 "MarbleRamps$Machine" "states" "[I", Cond.fieldLink RX0 21 "MarbleRamps$Machine" "bins" "[I", Cond.fieldLink RX0 24 "MarbleRamps$Machine" "hopperColumns" "[I", Cond.fieldLink RX0 27 "MarbleRamps$Machine" "hopperMarbles" "[I", Cond.methodLink RX0 30 yX0_layBoard, Cond.instanceMethod yX0_layBoard, Cond.selects RX0 yX0_layBoard yX0_layBoard, Cond.code yX0_layBoard cX0_layBoard 3 none, Cond.fieldLink RX0 34 "MarbleRamps$Machine" "columnCount" "I"]
def wsX1_init_r2 : List Cond := [Cond.fieldLink RX0 38 "MarbleRamps$Machine" "rowCount" "I", Cond.fieldLink RX0 41 "MarbleRamps$Machine" "lostCount" "I", Cond.methodLink RX0 44 yJ7_fill_53178, Cond.static yJ7_fill_53178, Cond.initialized RJ7, Cond.code yJ7_fill_53178 cJ7_fill_53178 4 none, Cond.methodLink RX0 50 yX0_clearBins, Cond.instanceMethod yX0_clearBins, Cond.selects RX0 yX0_clearBins yX0_clearBins, Cond.code yX0_clearBins cX0_clearBins 1 none, Cond.static yX1_setCell, Cond.initialized RX1, Cond.code yX1_setCell cX1_setCell 3 none]
def wsX1_init : List Cond := .code yX1_init cX1_init 1 none :: ((wsX1_init_r1 ++ wsX1_init_r2) ++ wsX00 ++ wsX10)
def wsX1_needWithin : List Cond := .code yX1_needWithin cX1_needWithin 3 none :: ([.classLink RX1 199 "java/lang/IllegalArgumentException", .initialized "java/lang/IllegalArgumentException"] ++ (vx_atS RX1 203 "java/lang/IllegalArgumentException" ["java/lang/RuntimeException", "java/lang/Exception"]).filter goodWord)
def wsX1_lay_r1 : List Cond := [Cond.fieldLink RX1 10 "MarbleRamps" "now" "LMarbleRamps$Machine;", Cond.methodLink RX1 19 yX1_needWithin, Cond.static yX1_needWithin, Cond.initialized RX1, Cond.code yX1_needWithin cX1_needWithin 3 none, Cond.classLink RX1 199 "java/lang/IllegalArgumentException", Cond.initialized "java/lang/IllegalArgumentException", Cond.methodLink RX1 23 yX0_layBoard, Cond.instanceMethod yX0_layBoard, Cond.selects RX0 yX0_layBoard yX0_layBoard, Cond.initialized RX0, Cond.code yX0_layBoard cX0_layBoard 3 none, Cond.fieldLink RX0 34 "MarbleRamps$Machine" "columnCount" "I", Cond.fieldLink RX0 38 "MarbleRamps$Machine" "rowCount" "I", Cond.fieldLink RX0 41 "MarbleRamps$Machine" "lostCount" "I", Cond.fieldLink RX0 9 "MarbleRamps$Machine" "parts" "[I", Cond.fieldLink RX0 15 "MarbleRamps$Machine" "periods" "[I", Cond.fieldLink RX0 18 "MarbleRamps$Machine" "states" "[I", Cond.fieldLink RX0 24 "MarbleRamps$Machine" "hopperColumns" "[I", Cond.methodLink RX0 44 yJ7_fill_53178, Cond.static yJ7_fill_53178, Cond.initialized RJ7, Cond.code yJ7_fill_53178 cJ7_fill_53178 4 none, Cond.methodLink RX0 50 yX0_clearBins]
def wsX1_lay_r2 : List Cond := [Cond.instanceMethod yX0_clearBins, Cond.selects RX0 yX0_clearBins yX0_clearBins, Cond.code yX0_clearBins cX0_clearBins 1 none, Cond.fieldLink RX0 21 "MarbleRamps$Machine" "bins" "[I", Cond.static yX1_setCell, Cond.code yX1_setCell cX1_setCell 3 none]
def wsX1_lay : List Cond := .code yX1_lay cX1_lay 3 (some .int) :: ((wsX1_lay_r1 ++ wsX1_lay_r2) ++ wsX10 ++ wsX00 ++ (vx_atS RX1 203 "java/lang/IllegalArgumentException" ["java/lang/RuntimeException", "java/lang/Exception"]).filter goodWord)
def wsX1_needRow : List Cond := .code yX1_needRow cX1_needRow 2 none :: ([.classLink RX1 187 "java/lang/IndexOutOfBoundsException", .initialized "java/lang/IndexOutOfBoundsException", .fieldLink RX1 10 "MarbleRamps" "now" "LMarbleRamps$Machine;", .methodLink RX1 184 yX0_hasRow, .instanceMethod yX0_hasRow, .selects RX0 yX0_hasRow yX0_hasRow, .initialized RX0, .code yX0_hasRow cX0_hasRow 2 (some .boolean), .fieldLink RX0 38 "MarbleRamps$Machine" "rowCount" "I"] ++ wsX10 ++ wsX00 ++ (vx_atS RX1 191 "java/lang/IndexOutOfBoundsException" ["java/lang/RuntimeException", "java/lang/Exception"]).filter goodWord)
def wsX1_needColumn : List Cond := .code yX1_needColumn cX1_needColumn 2 none :: ([.classLink RX1 187 "java/lang/IndexOutOfBoundsException", .initialized "java/lang/IndexOutOfBoundsException", .fieldLink RX1 10 "MarbleRamps" "now" "LMarbleRamps$Machine;", .methodLink RX1 192 yX0_hasColumn, .instanceMethod yX0_hasColumn, .selects RX0 yX0_hasColumn yX0_hasColumn, .initialized RX0, .code yX0_hasColumn cX0_hasColumn 2 (some .boolean), .fieldLink RX0 34 "MarbleRamps$Machine" "columnCount" "I"] ++ wsX10 ++ wsX00 ++ (vx_atS RX1 191 "java/lang/IndexOutOfBoundsException" ["java/lang/RuntimeException", "java/lang/Exception"]).filter goodWord)
def wsX1_needPlace : List Cond := .code yX1_needPlace cX1_needPlace 3 none :: ([.methodLink RX1 110 yX1_needRow, .instanceMethod yX1_needRow, .selects RX1 yX1_needRow yX1_needRow, .initialized RX1, .code yX1_needRow cX1_needRow 2 none, .classLink RX1 187 "java/lang/IndexOutOfBoundsException", .initialized "java/lang/IndexOutOfBoundsException", .fieldLink RX1 10 "MarbleRamps" "now" "LMarbleRamps$Machine;", .methodLink RX1 184 yX0_hasRow, .instanceMethod yX0_hasRow, .selects RX0 yX0_hasRow yX0_hasRow, .initialized RX0, .code yX0_hasRow cX0_hasRow 2 (some .boolean), .fieldLink RX0 38 "MarbleRamps$Machine" "rowCount" "I", .methodLink RX1 60 yX1_needColumn, .instanceMethod yX1_needColumn, .selects RX1 yX1_needColumn yX1_needColumn, .code yX1_needColumn cX1_needColumn 2 none, .methodLink RX1 192 yX0_hasColumn, .instanceMethod yX0_hasColumn, .selects RX0 yX0_hasColumn yX0_hasColumn, .code yX0_hasColumn cX0_hasColumn 2 (some .boolean), .fieldLink RX0 34 "MarbleRamps$Machine" "columnCount" "I"] ++ wsX10 ++ wsX00 ++ (vx_atS RX1 191 "java/lang/IndexOutOfBoundsException" ["java/lang/RuntimeException", "java/lang/Exception"]).filter goodWord)
def wsX1_put_r1 : List Cond := [Cond.fieldLink RX1 10 "MarbleRamps" "now" "LMarbleRamps$Machine;", Cond.methodLink RX1 27 yX1_needPlace, Cond.instanceMethod yX1_needPlace, Cond.selects RX1 yX1_needPlace yX1_needPlace, Cond.initialized RX1, Cond.code yX1_needPlace cX1_needPlace 3 none, Cond.methodLink RX1 110 yX1_needRow, Cond.instanceMethod yX1_needRow, Cond.selects RX1 yX1_needRow yX1_needRow, Cond.code yX1_needRow cX1_needRow 2 none, Cond.classLink RX1 187 "java/lang/IndexOutOfBoundsException", Cond.initialized "java/lang/IndexOutOfBoundsException", Cond.methodLink RX1 184 yX0_hasRow, Cond.instanceMethod yX0_hasRow, Cond.selects RX0 yX0_hasRow yX0_hasRow, Cond.initialized RX0, Cond.code yX0_hasRow cX0_hasRow 2 (some .boolean), Cond.fieldLink RX0 38 "MarbleRamps$Machine" "rowCount" "I", Cond.methodLink RX1 60 yX1_needColumn, Cond.instanceMethod yX1_needColumn, Cond.selects RX1 yX1_needColumn yX1_needColumn, Cond.code yX1_needColumn cX1_needColumn 2 none, Cond.methodLink RX1 192 yX0_hasColumn, Cond.instanceMethod yX0_hasColumn]
def wsX1_put_r2 : List Cond := [Cond.selects RX0 yX0_hasColumn yX0_hasColumn, Cond.code yX0_hasColumn cX0_hasColumn 2 (some .boolean), Cond.fieldLink RX0 34 "MarbleRamps$Machine" "columnCount" "I", Cond.methodLink RX1 19 yX1_needWithin, Cond.static yX1_needWithin, Cond.code yX1_needWithin cX1_needWithin 3 none, Cond.classLink RX1 199 "java/lang/IllegalArgumentException", Cond.initialized "java/lang/IllegalArgumentException", Cond.methodLink RX1 30 yX0_replacePart, Cond.instanceMethod yX0_replacePart, Cond.selects RX0 yX0_replacePart yX0_replacePart, Cond.code yX0_replacePart cX0_replacePart 7 (some .int), Cond.fieldLink RX0 9 "MarbleRamps$Machine" "parts" "[I", Cond.fieldLink RX0 15 "MarbleRamps$Machine" "periods" "[I", Cond.fieldLink RX0 18 "MarbleRamps$Machine" "states" "[I", Cond.methodLink RX0 69 yX0_placeOf, Cond.instanceMethod yX0_placeOf, Cond.selects RX0 yX0_placeOf yX0_placeOf, Cond.code yX0_placeOf cX0_placeOf 3 (some .int), Cond.methodLink RX0 65 yX0_partIn, Cond.instanceMethod yX0_partIn, Cond.selects RX0 yX0_partIn yX0_partIn, Cond.code yX0_partIn cX0_partIn 2 (some .int), Cond.static yX1_cell]
def wsX1_put_r3 : List Cond := [Cond.code yX1_cell cX1_cell 2 (some .int), Cond.static yX1_setCell, Cond.code yX1_setCell cX1_setCell 3 none]
def wsX1_put : List Cond := .code yX1_put cX1_put 4 (some .int) :: ((wsX1_put_r1 ++ (wsX1_put_r2 ++ wsX1_put_r3)) ++ wsX10 ++ wsX00 ++ (vx_atS RX1 191 "java/lang/IndexOutOfBoundsException" ["java/lang/RuntimeException", "java/lang/Exception"]).filter goodWord ++ (vx_atS RX1 203 "java/lang/IllegalArgumentException" ["java/lang/RuntimeException", "java/lang/Exception"]).filter goodWord)
def wsX1_putCounter_r1 : List Cond := [Cond.fieldLink RX1 10 "MarbleRamps" "now" "LMarbleRamps$Machine;", Cond.methodLink RX1 27 yX1_needPlace, Cond.instanceMethod yX1_needPlace, Cond.selects RX1 yX1_needPlace yX1_needPlace, Cond.initialized RX1, Cond.code yX1_needPlace cX1_needPlace 3 none, Cond.methodLink RX1 110 yX1_needRow, Cond.instanceMethod yX1_needRow, Cond.selects RX1 yX1_needRow yX1_needRow, Cond.code yX1_needRow cX1_needRow 2 none, Cond.classLink RX1 187 "java/lang/IndexOutOfBoundsException", Cond.initialized "java/lang/IndexOutOfBoundsException", Cond.methodLink RX1 184 yX0_hasRow, Cond.instanceMethod yX0_hasRow, Cond.selects RX0 yX0_hasRow yX0_hasRow, Cond.initialized RX0, Cond.code yX0_hasRow cX0_hasRow 2 (some .boolean), Cond.fieldLink RX0 38 "MarbleRamps$Machine" "rowCount" "I", Cond.methodLink RX1 60 yX1_needColumn, Cond.instanceMethod yX1_needColumn, Cond.selects RX1 yX1_needColumn yX1_needColumn, Cond.code yX1_needColumn cX1_needColumn 2 none, Cond.methodLink RX1 192 yX0_hasColumn, Cond.instanceMethod yX0_hasColumn]
def wsX1_putCounter_r2 : List Cond := [Cond.selects RX0 yX0_hasColumn yX0_hasColumn, Cond.code yX0_hasColumn cX0_hasColumn 2 (some .boolean), Cond.fieldLink RX0 34 "MarbleRamps$Machine" "columnCount" "I", Cond.methodLink RX1 19 yX1_needWithin, Cond.static yX1_needWithin, Cond.code yX1_needWithin cX1_needWithin 3 none, Cond.classLink RX1 199 "java/lang/IllegalArgumentException", Cond.initialized "java/lang/IllegalArgumentException", Cond.methodLink RX1 30 yX0_replacePart, Cond.instanceMethod yX0_replacePart, Cond.selects RX0 yX0_replacePart yX0_replacePart, Cond.code yX0_replacePart cX0_replacePart 7 (some .int), Cond.fieldLink RX0 9 "MarbleRamps$Machine" "parts" "[I", Cond.fieldLink RX0 15 "MarbleRamps$Machine" "periods" "[I", Cond.fieldLink RX0 18 "MarbleRamps$Machine" "states" "[I", Cond.methodLink RX0 69 yX0_placeOf, Cond.instanceMethod yX0_placeOf, Cond.selects RX0 yX0_placeOf yX0_placeOf, Cond.code yX0_placeOf cX0_placeOf 3 (some .int), Cond.methodLink RX0 65 yX0_partIn, Cond.instanceMethod yX0_partIn, Cond.selects RX0 yX0_partIn yX0_partIn, Cond.code yX0_partIn cX0_partIn 2 (some .int), Cond.static yX1_cell]
def wsX1_putCounter_r3 : List Cond := [Cond.code yX1_cell cX1_cell 2 (some .int), Cond.static yX1_setCell, Cond.code yX1_setCell cX1_setCell 3 none]
def wsX1_putCounter : List Cond := .code yX1_putCounter cX1_putCounter 4 (some .int) :: ((wsX1_putCounter_r1 ++ (wsX1_putCounter_r2 ++ wsX1_putCounter_r3)) ++ wsX10 ++ wsX00 ++ (vx_atS RX1 191 "java/lang/IndexOutOfBoundsException" ["java/lang/RuntimeException", "java/lang/Exception"]).filter goodWord ++ (vx_atS RX1 203 "java/lang/IllegalArgumentException" ["java/lang/RuntimeException", "java/lang/Exception"]).filter goodWord)
def wsX1_turn_r1 : List Cond := [Cond.classLink RX1 42 "java/lang/IllegalStateException", Cond.initialized "java/lang/IllegalStateException", Cond.fieldLink RX1 10 "MarbleRamps" "now" "LMarbleRamps$Machine;", Cond.methodLink RX1 27 yX1_needPlace, Cond.instanceMethod yX1_needPlace, Cond.selects RX1 yX1_needPlace yX1_needPlace, Cond.initialized RX1, Cond.code yX1_needPlace cX1_needPlace 3 none, Cond.methodLink RX1 110 yX1_needRow, Cond.instanceMethod yX1_needRow, Cond.selects RX1 yX1_needRow yX1_needRow, Cond.code yX1_needRow cX1_needRow 2 none, Cond.classLink RX1 187 "java/lang/IndexOutOfBoundsException", Cond.initialized "java/lang/IndexOutOfBoundsException", Cond.methodLink RX1 184 yX0_hasRow, Cond.instanceMethod yX0_hasRow, Cond.selects RX0 yX0_hasRow yX0_hasRow, Cond.initialized RX0, Cond.code yX0_hasRow cX0_hasRow 2 (some .boolean), Cond.fieldLink RX0 38 "MarbleRamps$Machine" "rowCount" "I", Cond.methodLink RX1 60 yX1_needColumn, Cond.instanceMethod yX1_needColumn, Cond.selects RX1 yX1_needColumn yX1_needColumn, Cond.code yX1_needColumn cX1_needColumn 2 none]
def wsX1_turn_r2 : List Cond := [Cond.methodLink RX1 192 yX0_hasColumn, Cond.instanceMethod yX0_hasColumn, Cond.selects RX0 yX0_hasColumn yX0_hasColumn, Cond.code yX0_hasColumn cX0_hasColumn 2 (some .boolean), Cond.fieldLink RX0 34 "MarbleRamps$Machine" "columnCount" "I", Cond.methodLink RX1 34 yX0_placeOf, Cond.instanceMethod yX0_placeOf, Cond.selects RX0 yX0_placeOf yX0_placeOf, Cond.code yX0_placeOf cX0_placeOf 3 (some .int), Cond.methodLink RX1 38 yX0_partIn, Cond.instanceMethod yX0_partIn, Cond.selects RX0 yX0_partIn yX0_partIn, Cond.code yX0_partIn cX0_partIn 2 (some .int), Cond.fieldLink RX0 9 "MarbleRamps$Machine" "parts" "[I", Cond.static yX1_cell, Cond.code yX1_cell cX1_cell 2 (some .int), Cond.methodLink RX1 49 yX0_turnOver, Cond.instanceMethod yX0_turnOver, Cond.selects RX0 yX0_turnOver yX0_turnOver, Cond.code yX0_turnOver cX0_turnOver 2 none, Cond.fieldLink RX0 18 "MarbleRamps$Machine" "states" "[I", Cond.methodLink RX0 73 yX0_isRightToggle, Cond.instanceMethod yX0_isRightToggle, Cond.selects RX0 yX0_isRightToggle yX0_isRightToggle]
def wsX1_turn_r3 : List Cond := [Cond.code yX0_isRightToggle cX0_isRightToggle 2 (some .boolean), Cond.methodLink RX0 65 yX0_partIn, Cond.static yX1_setCell, Cond.code yX1_setCell cX1_setCell 3 none, Cond.methodLink RX1 53 yX0_isRightToggle]
def wsX1_turn : List Cond := .code yX1_turn cX1_turn 4 (some .boolean) :: ((wsX1_turn_r1 ++ (wsX1_turn_r2 ++ wsX1_turn_r3)) ++ wsX10 ++ wsX00 ++ (vx_atS RX1 46 "java/lang/IllegalStateException" ["java/lang/RuntimeException", "java/lang/Exception"]).filter goodWord ++ (vx_atS RX1 191 "java/lang/IndexOutOfBoundsException" ["java/lang/RuntimeException", "java/lang/Exception"]).filter goodWord)
def wsX1_needHopper : List Cond := .code yX1_needHopper cX1_needHopper 1 none :: ([.classLink RX1 187 "java/lang/IndexOutOfBoundsException", .initialized "java/lang/IndexOutOfBoundsException"] ++ (vx_atS RX1 191 "java/lang/IndexOutOfBoundsException" ["java/lang/RuntimeException", "java/lang/Exception"]).filter goodWord)
def wsX1_setHopper_r1 : List Cond := [Cond.fieldLink RX1 10 "MarbleRamps" "now" "LMarbleRamps$Machine;", Cond.methodLink RX1 57 yX1_needHopper, Cond.static yX1_needHopper, Cond.initialized RX1, Cond.code yX1_needHopper cX1_needHopper 1 none, Cond.classLink RX1 187 "java/lang/IndexOutOfBoundsException", Cond.initialized "java/lang/IndexOutOfBoundsException", Cond.methodLink RX1 60 yX1_needColumn, Cond.instanceMethod yX1_needColumn, Cond.selects RX1 yX1_needColumn yX1_needColumn, Cond.code yX1_needColumn cX1_needColumn 2 none, Cond.methodLink RX1 192 yX0_hasColumn, Cond.instanceMethod yX0_hasColumn, Cond.selects RX0 yX0_hasColumn yX0_hasColumn, Cond.initialized RX0, Cond.code yX0_hasColumn cX0_hasColumn 2 (some .boolean), Cond.fieldLink RX0 34 "MarbleRamps$Machine" "columnCount" "I", Cond.methodLink RX1 19 yX1_needWithin, Cond.static yX1_needWithin, Cond.code yX1_needWithin cX1_needWithin 3 none, Cond.classLink RX1 199 "java/lang/IllegalArgumentException", Cond.initialized "java/lang/IllegalArgumentException", Cond.methodLink RX1 63 yX0_fillHopper, Cond.instanceMethod yX0_fillHopper]
def wsX1_setHopper_r2 : List Cond := [Cond.selects RX0 yX0_fillHopper yX0_fillHopper, Cond.code yX0_fillHopper cX0_fillHopper 5 (some .int), Cond.fieldLink RX0 27 "MarbleRamps$Machine" "hopperMarbles" "[I", Cond.fieldLink RX0 24 "MarbleRamps$Machine" "hopperColumns" "[I", Cond.static yX1_cell, Cond.code yX1_cell cX1_cell 2 (some .int), Cond.static yX1_setCell, Cond.code yX1_setCell cX1_setCell 3 none]
def wsX1_setHopper : List Cond := .code yX1_setHopper cX1_setHopper 4 (some .int) :: ((wsX1_setHopper_r1 ++ wsX1_setHopper_r2) ++ wsX10 ++ wsX00 ++ (vx_atS RX1 191 "java/lang/IndexOutOfBoundsException" ["java/lang/RuntimeException", "java/lang/Exception"]).filter goodWord ++ (vx_atS RX1 203 "java/lang/IllegalArgumentException" ["java/lang/RuntimeException", "java/lang/Exception"]).filter goodWord)
def wsX1_drop_r1 : List Cond := [Cond.fieldLink RX1 10 "MarbleRamps" "now" "LMarbleRamps$Machine;", Cond.methodLink RX1 60 yX1_needColumn, Cond.instanceMethod yX1_needColumn, Cond.selects RX1 yX1_needColumn yX1_needColumn, Cond.initialized RX1, Cond.code yX1_needColumn cX1_needColumn 2 none, Cond.classLink RX1 187 "java/lang/IndexOutOfBoundsException", Cond.initialized "java/lang/IndexOutOfBoundsException", Cond.methodLink RX1 192 yX0_hasColumn, Cond.instanceMethod yX0_hasColumn, Cond.selects RX0 yX0_hasColumn yX0_hasColumn, Cond.initialized RX0, Cond.code yX0_hasColumn cX0_hasColumn 2 (some .boolean), Cond.fieldLink RX0 34 "MarbleRamps$Machine" "columnCount" "I", Cond.methodLink RX1 67 yX0_letFall, Cond.instanceMethod yX0_letFall, Cond.selects RX0 yX0_letFall yX0_letFall, Cond.code yX0_letFall cX0_letFall 3 (some .int), Cond.fieldLink RX0 38 "MarbleRamps$Machine" "rowCount" "I", Cond.fieldLink RX0 41 "MarbleRamps$Machine" "lostCount" "I", Cond.fieldLink RX0 21 "MarbleRamps$Machine" "bins" "[I", Cond.methodLink RX0 77 yX0_fallTo, Cond.instanceMethod yX0_fallTo, Cond.selects RX0 yX0_fallTo yX0_fallTo]
def wsX1_drop_r2 : List Cond := [Cond.code yX0_fallTo cX0_fallTo 6 (some .int), Cond.methodLink RX0 69 yX0_placeOf, Cond.instanceMethod yX0_placeOf, Cond.selects RX0 yX0_placeOf yX0_placeOf, Cond.code yX0_placeOf cX0_placeOf 3 (some .int), Cond.methodLink RX0 80 yX0_wayOut, Cond.instanceMethod yX0_wayOut, Cond.selects RX0 yX0_wayOut yX0_wayOut, Cond.code yX0_wayOut cX0_wayOut 5 (some .int), Cond.fieldLink RX0 9 "MarbleRamps$Machine" "parts" "[I", Cond.fieldLink RX0 18 "MarbleRamps$Machine" "states" "[I", Cond.fieldLink RX0 15 "MarbleRamps$Machine" "periods" "[I", Cond.static yX1_cell, Cond.code yX1_cell cX1_cell 2 (some .int), Cond.static yX1_setCell, Cond.code yX1_setCell cX1_setCell 3 none, Cond.methodLink RX0 83 yX0_hasColumn]
def wsX1_drop : List Cond := .code yX1_drop cX1_drop 2 (some .int) :: ((wsX1_drop_r1 ++ wsX1_drop_r2) ++ wsX10 ++ wsX00 ++ (vx_atS RX1 191 "java/lang/IndexOutOfBoundsException" ["java/lang/RuntimeException", "java/lang/Exception"]).filter goodWord)
def wsX1_run_r1 : List Cond := [Cond.fieldLink RX1 10 "MarbleRamps" "now" "LMarbleRamps$Machine;", Cond.methodLink RX1 57 yX1_needHopper, Cond.static yX1_needHopper, Cond.initialized RX1, Cond.code yX1_needHopper cX1_needHopper 1 none, Cond.classLink RX1 187 "java/lang/IndexOutOfBoundsException", Cond.initialized "java/lang/IndexOutOfBoundsException", Cond.methodLink RX1 19 yX1_needWithin, Cond.static yX1_needWithin, Cond.code yX1_needWithin cX1_needWithin 3 none, Cond.classLink RX1 199 "java/lang/IllegalArgumentException", Cond.initialized "java/lang/IllegalArgumentException", Cond.methodLink RX1 70 yX0_runFrom, Cond.instanceMethod yX0_runFrom, Cond.selects RX0 yX0_runFrom yX0_runFrom, Cond.initialized RX0, Cond.code yX0_runFrom cX0_runFrom 5 (some .int), Cond.fieldLink RX0 27 "MarbleRamps$Machine" "hopperMarbles" "[I", Cond.fieldLink RX0 24 "MarbleRamps$Machine" "hopperColumns" "[I", Cond.static yX1_cell, Cond.code yX1_cell cX1_cell 2 (some .int), Cond.static yX1_setCell, Cond.code yX1_setCell cX1_setCell 3 none, Cond.methodLink RX0 86 yX0_letFall]
def wsX1_run_r2 : List Cond := [Cond.instanceMethod yX0_letFall, Cond.selects RX0 yX0_letFall yX0_letFall, Cond.code yX0_letFall cX0_letFall 3 (some .int), Cond.fieldLink RX0 38 "MarbleRamps$Machine" "rowCount" "I", Cond.fieldLink RX0 41 "MarbleRamps$Machine" "lostCount" "I", Cond.fieldLink RX0 21 "MarbleRamps$Machine" "bins" "[I", Cond.methodLink RX0 77 yX0_fallTo, Cond.instanceMethod yX0_fallTo, Cond.selects RX0 yX0_fallTo yX0_fallTo, Cond.code yX0_fallTo cX0_fallTo 6 (some .int), Cond.methodLink RX0 69 yX0_placeOf, Cond.instanceMethod yX0_placeOf, Cond.selects RX0 yX0_placeOf yX0_placeOf, Cond.code yX0_placeOf cX0_placeOf 3 (some .int), Cond.fieldLink RX0 34 "MarbleRamps$Machine" "columnCount" "I", Cond.methodLink RX0 80 yX0_wayOut, Cond.instanceMethod yX0_wayOut, Cond.selects RX0 yX0_wayOut yX0_wayOut, Cond.code yX0_wayOut cX0_wayOut 5 (some .int), Cond.fieldLink RX0 9 "MarbleRamps$Machine" "parts" "[I", Cond.fieldLink RX0 18 "MarbleRamps$Machine" "states" "[I", Cond.fieldLink RX0 15 "MarbleRamps$Machine" "periods" "[I", Cond.methodLink RX0 83 yX0_hasColumn, Cond.instanceMethod yX0_hasColumn]
def wsX1_run_r3 : List Cond := [Cond.selects RX0 yX0_hasColumn yX0_hasColumn, Cond.code yX0_hasColumn cX0_hasColumn 2 (some .boolean), Cond.methodLink RX0 89 yX0_hopperBehind, Cond.instanceMethod yX0_hopperBehind, Cond.selects RX0 yX0_hopperBehind yX0_hopperBehind, Cond.code yX0_hopperBehind cX0_hopperBehind 3 (some .int)]
def wsX1_run : List Cond := .code yX1_run cX1_run 3 (some .int) :: ((wsX1_run_r1 ++ (wsX1_run_r2 ++ wsX1_run_r3)) ++ wsX10 ++ wsX00 ++ (vx_atS RX1 191 "java/lang/IndexOutOfBoundsException" ["java/lang/RuntimeException", "java/lang/Exception"]).filter goodWord ++ (vx_atS RX1 203 "java/lang/IllegalArgumentException" ["java/lang/RuntimeException", "java/lang/Exception"]).filter goodWord)
def wsX1_emptyBins : List Cond := .code yX1_emptyBins cX1_emptyBins 2 (some .int) :: ([.fieldLink RX1 10 "MarbleRamps" "now" "LMarbleRamps$Machine;", .methodLink RX1 73 yX0_marblesInBins, .instanceMethod yX0_marblesInBins, .selects RX0 yX0_marblesInBins yX0_marblesInBins, .initialized RX0, .code yX0_marblesInBins cX0_marblesInBins 6 (some .int), .fieldLink RX0 21 "MarbleRamps$Machine" "bins" "[I", .methodLink RX1 77 yX0_clearBins, .instanceMethod yX0_clearBins, .selects RX0 yX0_clearBins yX0_clearBins, .code yX0_clearBins cX0_clearBins 1 none, .methodLink RX0 44 yJ7_fill_53178, .static yJ7_fill_53178, .initialized RJ7, .code yJ7_fill_53178 cJ7_fill_53178 4 none] ++ wsX10 ++ wsX00)
def wsX1_columns : List Cond := .code yX1_columns cX1_columns 1 (some .int) :: ([.fieldLink RX1 10 "MarbleRamps" "now" "LMarbleRamps$Machine;", .fieldLink RX1 80 "MarbleRamps$Machine" "columnCount" "I"] ++ wsX10 ++ wsX00)
def wsX1_rows : List Cond := .code yX1_rows cX1_rows 1 (some .int) :: ([.fieldLink RX1 10 "MarbleRamps" "now" "LMarbleRamps$Machine;", .fieldLink RX1 84 "MarbleRamps$Machine" "rowCount" "I"] ++ wsX10 ++ wsX00)
def wsX1_partAt_r1 : List Cond := [Cond.fieldLink RX1 10 "MarbleRamps" "now" "LMarbleRamps$Machine;", Cond.methodLink RX1 27 yX1_needPlace, Cond.instanceMethod yX1_needPlace, Cond.selects RX1 yX1_needPlace yX1_needPlace, Cond.initialized RX1, Cond.code yX1_needPlace cX1_needPlace 3 none, Cond.methodLink RX1 110 yX1_needRow, Cond.instanceMethod yX1_needRow, Cond.selects RX1 yX1_needRow yX1_needRow, Cond.code yX1_needRow cX1_needRow 2 none, Cond.classLink RX1 187 "java/lang/IndexOutOfBoundsException", Cond.initialized "java/lang/IndexOutOfBoundsException", Cond.methodLink RX1 184 yX0_hasRow, Cond.instanceMethod yX0_hasRow, Cond.selects RX0 yX0_hasRow yX0_hasRow, Cond.initialized RX0, Cond.code yX0_hasRow cX0_hasRow 2 (some .boolean), Cond.fieldLink RX0 38 "MarbleRamps$Machine" "rowCount" "I", Cond.methodLink RX1 60 yX1_needColumn, Cond.instanceMethod yX1_needColumn, Cond.selects RX1 yX1_needColumn yX1_needColumn, Cond.code yX1_needColumn cX1_needColumn 2 none, Cond.methodLink RX1 192 yX0_hasColumn, Cond.instanceMethod yX0_hasColumn]
def wsX1_partAt_r2 : List Cond := [Cond.selects RX0 yX0_hasColumn yX0_hasColumn, Cond.code yX0_hasColumn cX0_hasColumn 2 (some .boolean), Cond.fieldLink RX0 34 "MarbleRamps$Machine" "columnCount" "I", Cond.methodLink RX1 34 yX0_placeOf, Cond.instanceMethod yX0_placeOf, Cond.selects RX0 yX0_placeOf yX0_placeOf, Cond.code yX0_placeOf cX0_placeOf 3 (some .int), Cond.methodLink RX1 38 yX0_partIn, Cond.instanceMethod yX0_partIn, Cond.selects RX0 yX0_partIn yX0_partIn, Cond.code yX0_partIn cX0_partIn 2 (some .int), Cond.fieldLink RX0 9 "MarbleRamps$Machine" "parts" "[I", Cond.static yX1_cell, Cond.code yX1_cell cX1_cell 2 (some .int)]
def wsX1_partAt : List Cond := .code yX1_partAt cX1_partAt 3 (some .int) :: ((wsX1_partAt_r1 ++ wsX1_partAt_r2) ++ wsX10 ++ wsX00 ++ (vx_atS RX1 191 "java/lang/IndexOutOfBoundsException" ["java/lang/RuntimeException", "java/lang/Exception"]).filter goodWord)
def wsX1_leadsRight_r1 : List Cond := [Cond.fieldLink RX1 10 "MarbleRamps" "now" "LMarbleRamps$Machine;", Cond.methodLink RX1 27 yX1_needPlace, Cond.instanceMethod yX1_needPlace, Cond.selects RX1 yX1_needPlace yX1_needPlace, Cond.initialized RX1, Cond.code yX1_needPlace cX1_needPlace 3 none, Cond.methodLink RX1 110 yX1_needRow, Cond.instanceMethod yX1_needRow, Cond.selects RX1 yX1_needRow yX1_needRow, Cond.code yX1_needRow cX1_needRow 2 none, Cond.classLink RX1 187 "java/lang/IndexOutOfBoundsException", Cond.initialized "java/lang/IndexOutOfBoundsException", Cond.methodLink RX1 184 yX0_hasRow, Cond.instanceMethod yX0_hasRow, Cond.selects RX0 yX0_hasRow yX0_hasRow, Cond.initialized RX0, Cond.code yX0_hasRow cX0_hasRow 2 (some .boolean), Cond.fieldLink RX0 38 "MarbleRamps$Machine" "rowCount" "I", Cond.methodLink RX1 60 yX1_needColumn, Cond.instanceMethod yX1_needColumn, Cond.selects RX1 yX1_needColumn yX1_needColumn, Cond.code yX1_needColumn cX1_needColumn 2 none, Cond.methodLink RX1 192 yX0_hasColumn, Cond.instanceMethod yX0_hasColumn]
def wsX1_leadsRight_r2 : List Cond := [Cond.selects RX0 yX0_hasColumn yX0_hasColumn, Cond.code yX0_hasColumn cX0_hasColumn 2 (some .boolean), Cond.fieldLink RX0 34 "MarbleRamps$Machine" "columnCount" "I", Cond.methodLink RX1 34 yX0_placeOf, Cond.instanceMethod yX0_placeOf, Cond.selects RX0 yX0_placeOf yX0_placeOf, Cond.code yX0_placeOf cX0_placeOf 3 (some .int), Cond.methodLink RX1 53 yX0_isRightToggle, Cond.instanceMethod yX0_isRightToggle, Cond.selects RX0 yX0_isRightToggle yX0_isRightToggle, Cond.code yX0_isRightToggle cX0_isRightToggle 2 (some .boolean), Cond.fieldLink RX0 18 "MarbleRamps$Machine" "states" "[I", Cond.methodLink RX0 65 yX0_partIn, Cond.instanceMethod yX0_partIn, Cond.selects RX0 yX0_partIn yX0_partIn, Cond.code yX0_partIn cX0_partIn 2 (some .int), Cond.fieldLink RX0 9 "MarbleRamps$Machine" "parts" "[I", Cond.static yX1_cell, Cond.code yX1_cell cX1_cell 2 (some .int)]
def wsX1_leadsRight : List Cond := .code yX1_leadsRight cX1_leadsRight 3 (some .boolean) :: ((wsX1_leadsRight_r1 ++ wsX1_leadsRight_r2) ++ wsX10 ++ wsX00 ++ (vx_atS RX1 191 "java/lang/IndexOutOfBoundsException" ["java/lang/RuntimeException", "java/lang/Exception"]).filter goodWord)
def wsX1_countAt_r1 : List Cond := [Cond.fieldLink RX1 10 "MarbleRamps" "now" "LMarbleRamps$Machine;", Cond.methodLink RX1 27 yX1_needPlace, Cond.instanceMethod yX1_needPlace, Cond.selects RX1 yX1_needPlace yX1_needPlace, Cond.initialized RX1, Cond.code yX1_needPlace cX1_needPlace 3 none, Cond.methodLink RX1 110 yX1_needRow, Cond.instanceMethod yX1_needRow, Cond.selects RX1 yX1_needRow yX1_needRow, Cond.code yX1_needRow cX1_needRow 2 none, Cond.classLink RX1 187 "java/lang/IndexOutOfBoundsException", Cond.initialized "java/lang/IndexOutOfBoundsException", Cond.methodLink RX1 184 yX0_hasRow, Cond.instanceMethod yX0_hasRow, Cond.selects RX0 yX0_hasRow yX0_hasRow, Cond.initialized RX0, Cond.code yX0_hasRow cX0_hasRow 2 (some .boolean), Cond.fieldLink RX0 38 "MarbleRamps$Machine" "rowCount" "I", Cond.methodLink RX1 60 yX1_needColumn, Cond.instanceMethod yX1_needColumn, Cond.selects RX1 yX1_needColumn yX1_needColumn, Cond.code yX1_needColumn cX1_needColumn 2 none, Cond.methodLink RX1 192 yX0_hasColumn, Cond.instanceMethod yX0_hasColumn]
def wsX1_countAt_r2 : List Cond := [Cond.selects RX0 yX0_hasColumn yX0_hasColumn, Cond.code yX0_hasColumn cX0_hasColumn 2 (some .boolean), Cond.fieldLink RX0 34 "MarbleRamps$Machine" "columnCount" "I", Cond.methodLink RX1 34 yX0_placeOf, Cond.instanceMethod yX0_placeOf, Cond.selects RX0 yX0_placeOf yX0_placeOf, Cond.code yX0_placeOf cX0_placeOf 3 (some .int), Cond.methodLink RX1 87 yX0_countedIn, Cond.instanceMethod yX0_countedIn, Cond.selects RX0 yX0_countedIn yX0_countedIn, Cond.code yX0_countedIn cX0_countedIn 2 (some .int), Cond.fieldLink RX0 18 "MarbleRamps$Machine" "states" "[I", Cond.methodLink RX0 65 yX0_partIn, Cond.instanceMethod yX0_partIn, Cond.selects RX0 yX0_partIn yX0_partIn, Cond.code yX0_partIn cX0_partIn 2 (some .int), Cond.fieldLink RX0 9 "MarbleRamps$Machine" "parts" "[I", Cond.static yX1_cell, Cond.code yX1_cell cX1_cell 2 (some .int)]
def wsX1_countAt : List Cond := .code yX1_countAt cX1_countAt 3 (some .int) :: ((wsX1_countAt_r1 ++ wsX1_countAt_r2) ++ wsX10 ++ wsX00 ++ (vx_atS RX1 191 "java/lang/IndexOutOfBoundsException" ["java/lang/RuntimeException", "java/lang/Exception"]).filter goodWord)
def wsX1_binOf : List Cond := .code yX1_binOf cX1_binOf 2 (some .int) :: ([.fieldLink RX1 10 "MarbleRamps" "now" "LMarbleRamps$Machine;", .fieldLink RX1 90 "MarbleRamps$Machine" "bins" "[I", .methodLink RX1 60 yX1_needColumn, .instanceMethod yX1_needColumn, .selects RX1 yX1_needColumn yX1_needColumn, .initialized RX1, .code yX1_needColumn cX1_needColumn 2 none, .classLink RX1 187 "java/lang/IndexOutOfBoundsException", .initialized "java/lang/IndexOutOfBoundsException", .methodLink RX1 192 yX0_hasColumn, .instanceMethod yX0_hasColumn, .selects RX0 yX0_hasColumn yX0_hasColumn, .initialized RX0, .code yX0_hasColumn cX0_hasColumn 2 (some .boolean), .fieldLink RX0 34 "MarbleRamps$Machine" "columnCount" "I", .methodLink RX1 94 yX1_cell, .static yX1_cell, .code yX1_cell cX1_cell 2 (some .int)] ++ wsX10 ++ wsX00 ++ (vx_atS RX1 191 "java/lang/IndexOutOfBoundsException" ["java/lang/RuntimeException", "java/lang/Exception"]).filter goodWord)
def wsX1_lost : List Cond := .code yX1_lost cX1_lost 1 (some .int) :: ([.fieldLink RX1 10 "MarbleRamps" "now" "LMarbleRamps$Machine;", .fieldLink RX1 98 "MarbleRamps$Machine" "lostCount" "I"] ++ wsX10 ++ wsX00)
def wsX1_marblesIn : List Cond := .code yX1_marblesIn cX1_marblesIn 2 (some .int) :: ([.fieldLink RX1 10 "MarbleRamps" "now" "LMarbleRamps$Machine;", .fieldLink RX1 101 "MarbleRamps$Machine" "hopperMarbles" "[I", .methodLink RX1 57 yX1_needHopper, .static yX1_needHopper, .initialized RX1, .code yX1_needHopper cX1_needHopper 1 none, .classLink RX1 187 "java/lang/IndexOutOfBoundsException", .initialized "java/lang/IndexOutOfBoundsException", .methodLink RX1 94 yX1_cell, .static yX1_cell, .code yX1_cell cX1_cell 2 (some .int)] ++ wsX10 ++ wsX00 ++ (vx_atS RX1 191 "java/lang/IndexOutOfBoundsException" ["java/lang/RuntimeException", "java/lang/Exception"]).filter goodWord)
def wsX1_columnOf : List Cond := .code yX1_columnOf cX1_columnOf 2 (some .int) :: ([.fieldLink RX1 10 "MarbleRamps" "now" "LMarbleRamps$Machine;", .fieldLink RX1 104 "MarbleRamps$Machine" "hopperColumns" "[I", .methodLink RX1 57 yX1_needHopper, .static yX1_needHopper, .initialized RX1, .code yX1_needHopper cX1_needHopper 1 none, .classLink RX1 187 "java/lang/IndexOutOfBoundsException", .initialized "java/lang/IndexOutOfBoundsException", .methodLink RX1 94 yX1_cell, .static yX1_cell, .code yX1_cell cX1_cell 2 (some .int)] ++ wsX10 ++ wsX00 ++ (vx_atS RX1 191 "java/lang/IndexOutOfBoundsException" ["java/lang/RuntimeException", "java/lang/Exception"]).filter goodWord)
def wsX1_toggles : List Cond := .code yX1_toggles cX1_toggles 1 (some .int) :: ([.fieldLink RX1 10 "MarbleRamps" "now" "LMarbleRamps$Machine;", .methodLink RX1 107 yX0_countToggles, .instanceMethod yX0_countToggles, .selects RX0 yX0_countToggles yX0_countToggles, .initialized RX0, .code yX0_countToggles cX0_countToggles 6 (some .int), .fieldLink RX0 9 "MarbleRamps$Machine" "parts" "[I"] ++ wsX10 ++ wsX00)
def wsX1_numberIn_r1 : List Cond := [Cond.fieldLink RX1 10 "MarbleRamps" "now" "LMarbleRamps$Machine;", Cond.methodLink RX1 110 yX1_needRow, Cond.instanceMethod yX1_needRow, Cond.selects RX1 yX1_needRow yX1_needRow, Cond.initialized RX1, Cond.code yX1_needRow cX1_needRow 2 none, Cond.classLink RX1 187 "java/lang/IndexOutOfBoundsException", Cond.initialized "java/lang/IndexOutOfBoundsException", Cond.methodLink RX1 184 yX0_hasRow, Cond.instanceMethod yX0_hasRow, Cond.selects RX0 yX0_hasRow yX0_hasRow, Cond.initialized RX0, Cond.code yX0_hasRow cX0_hasRow 2 (some .boolean), Cond.fieldLink RX0 38 "MarbleRamps$Machine" "rowCount" "I", Cond.methodLink RX1 113 yX0_numberToldBy, Cond.instanceMethod yX0_numberToldBy, Cond.selects RX0 yX0_numberToldBy yX0_numberToldBy, Cond.code yX0_numberToldBy cX0_numberToldBy 6 (some .int), Cond.fieldLink RX0 34 "MarbleRamps$Machine" "columnCount" "I", Cond.methodLink RX0 69 yX0_placeOf, Cond.instanceMethod yX0_placeOf, Cond.selects RX0 yX0_placeOf yX0_placeOf, Cond.code yX0_placeOf cX0_placeOf 3 (some .int), Cond.methodLink RX0 65 yX0_partIn]
def wsX1_numberIn_r2 : List Cond := [Cond.instanceMethod yX0_partIn, Cond.selects RX0 yX0_partIn yX0_partIn, Cond.code yX0_partIn cX0_partIn 2 (some .int), Cond.fieldLink RX0 9 "MarbleRamps$Machine" "parts" "[I", Cond.static yX1_cell, Cond.code yX1_cell cX1_cell 2 (some .int), Cond.methodLink RX0 73 yX0_isRightToggle, Cond.instanceMethod yX0_isRightToggle, Cond.selects RX0 yX0_isRightToggle yX0_isRightToggle, Cond.code yX0_isRightToggle cX0_isRightToggle 2 (some .boolean), Cond.fieldLink RX0 18 "MarbleRamps$Machine" "states" "[I"]
def wsX1_numberIn : List Cond := .code yX1_numberIn cX1_numberIn 2 (some .int) :: ((wsX1_numberIn_r1 ++ wsX1_numberIn_r2) ++ wsX10 ++ wsX00 ++ (vx_atS RX1 191 "java/lang/IndexOutOfBoundsException" ["java/lang/RuntimeException", "java/lang/Exception"]).filter goodWord)
def wsX1_wouldLand_r1 : List Cond := [Cond.fieldLink RX1 16 "MarbleRamps" "trial" "LMarbleRamps$Machine;", Cond.fieldLink RX1 10 "MarbleRamps" "now" "LMarbleRamps$Machine;", Cond.methodLink RX1 60 yX1_needColumn, Cond.instanceMethod yX1_needColumn, Cond.selects RX1 yX1_needColumn yX1_needColumn, Cond.initialized RX1, Cond.code yX1_needColumn cX1_needColumn 2 none, Cond.classLink RX1 187 "java/lang/IndexOutOfBoundsException", Cond.initialized "java/lang/IndexOutOfBoundsException", Cond.methodLink RX1 192 yX0_hasColumn, Cond.instanceMethod yX0_hasColumn, Cond.selects RX0 yX0_hasColumn yX0_hasColumn, Cond.initialized RX0, Cond.code yX0_hasColumn cX0_hasColumn 2 (some .boolean), Cond.fieldLink RX0 34 "MarbleRamps$Machine" "columnCount" "I", Cond.methodLink RX1 116 yX0_becomeLike, Cond.instanceMethod yX0_becomeLike, Cond.selects RX0 yX0_becomeLike yX0_becomeLike, Cond.code yX0_becomeLike cX0_becomeLike 2 none, Cond.fieldLink RX0 38 "MarbleRamps$Machine" "rowCount" "I", Cond.fieldLink RX0 41 "MarbleRamps$Machine" "lostCount" "I", Cond.fieldLink RX0 9 "MarbleRamps$Machine" "parts" "[I", Cond.fieldLink RX0 15 "MarbleRamps$Machine" "periods" "[I", Cond.fieldLink RX0 18 "MarbleRamps$Machine" "states" "[I"]
def wsX1_wouldLand_r2 : List Cond := [Cond.fieldLink RX0 21 "MarbleRamps$Machine" "bins" "[I", Cond.fieldLink RX0 24 "MarbleRamps$Machine" "hopperColumns" "[I", Cond.fieldLink RX0 27 "MarbleRamps$Machine" "hopperMarbles" "[I", Cond.static yX1_copyCells, Cond.code yX1_copyCells cX1_copyCells 3 none, Cond.methodLink RX1 204 yX1_setCell, Cond.static yX1_setCell, Cond.code yX1_setCell cX1_setCell 3 none, Cond.methodLink RX1 67 yX0_letFall, Cond.instanceMethod yX0_letFall, Cond.selects RX0 yX0_letFall yX0_letFall, Cond.code yX0_letFall cX0_letFall 3 (some .int), Cond.methodLink RX0 77 yX0_fallTo, Cond.instanceMethod yX0_fallTo, Cond.selects RX0 yX0_fallTo yX0_fallTo, Cond.code yX0_fallTo cX0_fallTo 6 (some .int), Cond.methodLink RX0 69 yX0_placeOf, Cond.instanceMethod yX0_placeOf, Cond.selects RX0 yX0_placeOf yX0_placeOf, Cond.code yX0_placeOf cX0_placeOf 3 (some .int), Cond.methodLink RX0 80 yX0_wayOut, Cond.instanceMethod yX0_wayOut, Cond.selects RX0 yX0_wayOut yX0_wayOut, Cond.code yX0_wayOut cX0_wayOut 5 (some .int)]
def wsX1_wouldLand_r3 : List Cond := [Cond.static yX1_cell, Cond.code yX1_cell cX1_cell 2 (some .int), Cond.methodLink RX0 83 yX0_hasColumn]
def wsX1_wouldLand : List Cond := .code yX1_wouldLand cX1_wouldLand 2 (some .int) :: ((wsX1_wouldLand_r1 ++ (wsX1_wouldLand_r2 ++ wsX1_wouldLand_r3)) ++ wsX10 ++ wsX00 ++ (vx_atS RX1 191 "java/lang/IndexOutOfBoundsException" ["java/lang/RuntimeException", "java/lang/Exception"]).filter goodWord)
def wsX1_wouldBeIn_r1 : List Cond := [Cond.fieldLink RX1 16 "MarbleRamps" "trial" "LMarbleRamps$Machine;", Cond.fieldLink RX1 10 "MarbleRamps" "now" "LMarbleRamps$Machine;", Cond.methodLink RX1 60 yX1_needColumn, Cond.instanceMethod yX1_needColumn, Cond.selects RX1 yX1_needColumn yX1_needColumn, Cond.initialized RX1, Cond.code yX1_needColumn cX1_needColumn 2 none, Cond.classLink RX1 187 "java/lang/IndexOutOfBoundsException", Cond.initialized "java/lang/IndexOutOfBoundsException", Cond.methodLink RX1 192 yX0_hasColumn, Cond.instanceMethod yX0_hasColumn, Cond.selects RX0 yX0_hasColumn yX0_hasColumn, Cond.initialized RX0, Cond.code yX0_hasColumn cX0_hasColumn 2 (some .boolean), Cond.fieldLink RX0 34 "MarbleRamps$Machine" "columnCount" "I", Cond.methodLink RX1 110 yX1_needRow, Cond.instanceMethod yX1_needRow, Cond.selects RX1 yX1_needRow yX1_needRow, Cond.code yX1_needRow cX1_needRow 2 none, Cond.methodLink RX1 184 yX0_hasRow, Cond.instanceMethod yX0_hasRow, Cond.selects RX0 yX0_hasRow yX0_hasRow, Cond.code yX0_hasRow cX0_hasRow 2 (some .boolean), Cond.fieldLink RX0 38 "MarbleRamps$Machine" "rowCount" "I"]
def wsX1_wouldBeIn_r2 : List Cond := [Cond.methodLink RX1 116 yX0_becomeLike, Cond.instanceMethod yX0_becomeLike, Cond.selects RX0 yX0_becomeLike yX0_becomeLike, Cond.code yX0_becomeLike cX0_becomeLike 2 none, Cond.fieldLink RX0 41 "MarbleRamps$Machine" "lostCount" "I", Cond.fieldLink RX0 9 "MarbleRamps$Machine" "parts" "[I", Cond.fieldLink RX0 15 "MarbleRamps$Machine" "periods" "[I", Cond.fieldLink RX0 18 "MarbleRamps$Machine" "states" "[I", Cond.fieldLink RX0 21 "MarbleRamps$Machine" "bins" "[I", Cond.fieldLink RX0 24 "MarbleRamps$Machine" "hopperColumns" "[I", Cond.fieldLink RX0 27 "MarbleRamps$Machine" "hopperMarbles" "[I", Cond.static yX1_copyCells, Cond.code yX1_copyCells cX1_copyCells 3 none, Cond.methodLink RX1 204 yX1_setCell, Cond.static yX1_setCell, Cond.code yX1_setCell cX1_setCell 3 none, Cond.methodLink RX1 120 yX0_fallTo, Cond.instanceMethod yX0_fallTo, Cond.selects RX0 yX0_fallTo yX0_fallTo, Cond.code yX0_fallTo cX0_fallTo 6 (some .int), Cond.methodLink RX0 69 yX0_placeOf, Cond.instanceMethod yX0_placeOf, Cond.selects RX0 yX0_placeOf yX0_placeOf, Cond.code yX0_placeOf cX0_placeOf 3 (some .int)]
def wsX1_wouldBeIn_r3 : List Cond := [Cond.methodLink RX0 80 yX0_wayOut, Cond.instanceMethod yX0_wayOut, Cond.selects RX0 yX0_wayOut yX0_wayOut, Cond.code yX0_wayOut cX0_wayOut 5 (some .int), Cond.static yX1_cell, Cond.code yX1_cell cX1_cell 2 (some .int), Cond.methodLink RX0 83 yX0_hasColumn]
def wsX1_wouldBeIn : List Cond := .code yX1_wouldBeIn cX1_wouldBeIn 3 (some .int) :: ((wsX1_wouldBeIn_r1 ++ (wsX1_wouldBeIn_r2 ++ wsX1_wouldBeIn_r3)) ++ wsX10 ++ wsX00 ++ (vx_atS RX1 191 "java/lang/IndexOutOfBoundsException" ["java/lang/RuntimeException", "java/lang/Exception"]).filter goodWord)
def wsX1_wouldTurn_r1 : List Cond := [Cond.fieldLink RX1 16 "MarbleRamps" "trial" "LMarbleRamps$Machine;", Cond.fieldLink RX1 10 "MarbleRamps" "now" "LMarbleRamps$Machine;", Cond.methodLink RX1 60 yX1_needColumn, Cond.instanceMethod yX1_needColumn, Cond.selects RX1 yX1_needColumn yX1_needColumn, Cond.initialized RX1, Cond.code yX1_needColumn cX1_needColumn 2 none, Cond.classLink RX1 187 "java/lang/IndexOutOfBoundsException", Cond.initialized "java/lang/IndexOutOfBoundsException", Cond.methodLink RX1 192 yX0_hasColumn, Cond.instanceMethod yX0_hasColumn, Cond.selects RX0 yX0_hasColumn yX0_hasColumn, Cond.initialized RX0, Cond.code yX0_hasColumn cX0_hasColumn 2 (some .boolean), Cond.fieldLink RX0 34 "MarbleRamps$Machine" "columnCount" "I", Cond.methodLink RX1 116 yX0_becomeLike, Cond.instanceMethod yX0_becomeLike, Cond.selects RX0 yX0_becomeLike yX0_becomeLike, Cond.code yX0_becomeLike cX0_becomeLike 2 none, Cond.fieldLink RX0 38 "MarbleRamps$Machine" "rowCount" "I", Cond.fieldLink RX0 41 "MarbleRamps$Machine" "lostCount" "I", Cond.fieldLink RX0 9 "MarbleRamps$Machine" "parts" "[I", Cond.fieldLink RX0 15 "MarbleRamps$Machine" "periods" "[I", Cond.fieldLink RX0 18 "MarbleRamps$Machine" "states" "[I"]
def wsX1_wouldTurn_r2 : List Cond := [Cond.fieldLink RX0 21 "MarbleRamps$Machine" "bins" "[I", Cond.fieldLink RX0 24 "MarbleRamps$Machine" "hopperColumns" "[I", Cond.fieldLink RX0 27 "MarbleRamps$Machine" "hopperMarbles" "[I", Cond.static yX1_copyCells, Cond.code yX1_copyCells cX1_copyCells 3 none, Cond.methodLink RX1 204 yX1_setCell, Cond.static yX1_setCell, Cond.code yX1_setCell cX1_setCell 3 none, Cond.methodLink RX1 67 yX0_letFall, Cond.instanceMethod yX0_letFall, Cond.selects RX0 yX0_letFall yX0_letFall, Cond.code yX0_letFall cX0_letFall 3 (some .int), Cond.methodLink RX0 77 yX0_fallTo, Cond.instanceMethod yX0_fallTo, Cond.selects RX0 yX0_fallTo yX0_fallTo, Cond.code yX0_fallTo cX0_fallTo 6 (some .int), Cond.methodLink RX0 69 yX0_placeOf, Cond.instanceMethod yX0_placeOf, Cond.selects RX0 yX0_placeOf yX0_placeOf, Cond.code yX0_placeOf cX0_placeOf 3 (some .int), Cond.methodLink RX0 80 yX0_wayOut, Cond.instanceMethod yX0_wayOut, Cond.selects RX0 yX0_wayOut yX0_wayOut, Cond.code yX0_wayOut cX0_wayOut 5 (some .int)]
def wsX1_wouldTurn_r3 : List Cond := [Cond.static yX1_cell, Cond.code yX1_cell cX1_cell 2 (some .int), Cond.methodLink RX0 83 yX0_hasColumn, Cond.methodLink RX1 123 yX0_togglesUnlike, Cond.instanceMethod yX0_togglesUnlike, Cond.selects RX0 yX0_togglesUnlike yX0_togglesUnlike, Cond.code yX0_togglesUnlike cX0_togglesUnlike 4 (some .int), Cond.methodLink RX0 73 yX0_isRightToggle, Cond.instanceMethod yX0_isRightToggle, Cond.selects RX0 yX0_isRightToggle yX0_isRightToggle, Cond.code yX0_isRightToggle cX0_isRightToggle 2 (some .boolean), Cond.methodLink RX0 65 yX0_partIn, Cond.instanceMethod yX0_partIn, Cond.selects RX0 yX0_partIn yX0_partIn, Cond.code yX0_partIn cX0_partIn 2 (some .int)]
def wsX1_wouldTurn : List Cond := .code yX1_wouldTurn cX1_wouldTurn 2 (some .int) :: ((wsX1_wouldTurn_r1 ++ (wsX1_wouldTurn_r2 ++ wsX1_wouldTurn_r3)) ++ wsX10 ++ wsX00 ++ (vx_atS RX1 191 "java/lang/IndexOutOfBoundsException" ["java/lang/RuntimeException", "java/lang/Exception"]).filter goodWord)
def wsX1_lastLands_r1 : List Cond := [Cond.fieldLink RX1 16 "MarbleRamps" "trial" "LMarbleRamps$Machine;", Cond.fieldLink RX1 10 "MarbleRamps" "now" "LMarbleRamps$Machine;", Cond.methodLink RX1 60 yX1_needColumn, Cond.instanceMethod yX1_needColumn, Cond.selects RX1 yX1_needColumn yX1_needColumn, Cond.initialized RX1, Cond.code yX1_needColumn cX1_needColumn 2 none, Cond.classLink RX1 187 "java/lang/IndexOutOfBoundsException", Cond.initialized "java/lang/IndexOutOfBoundsException", Cond.methodLink RX1 192 yX0_hasColumn, Cond.instanceMethod yX0_hasColumn, Cond.selects RX0 yX0_hasColumn yX0_hasColumn, Cond.initialized RX0, Cond.code yX0_hasColumn cX0_hasColumn 2 (some .boolean), Cond.fieldLink RX0 34 "MarbleRamps$Machine" "columnCount" "I", Cond.methodLink RX1 19 yX1_needWithin, Cond.static yX1_needWithin, Cond.code yX1_needWithin cX1_needWithin 3 none, Cond.classLink RX1 199 "java/lang/IllegalArgumentException", Cond.initialized "java/lang/IllegalArgumentException", Cond.methodLink RX1 116 yX0_becomeLike, Cond.instanceMethod yX0_becomeLike, Cond.selects RX0 yX0_becomeLike yX0_becomeLike, Cond.code yX0_becomeLike cX0_becomeLike 2 none]
def wsX1_lastLands_r2 : List Cond := [Cond.fieldLink RX0 38 "MarbleRamps$Machine" "rowCount" "I", Cond.fieldLink RX0 41 "MarbleRamps$Machine" "lostCount" "I", Cond.fieldLink RX0 9 "MarbleRamps$Machine" "parts" "[I", Cond.fieldLink RX0 15 "MarbleRamps$Machine" "periods" "[I", Cond.fieldLink RX0 18 "MarbleRamps$Machine" "states" "[I", Cond.fieldLink RX0 21 "MarbleRamps$Machine" "bins" "[I", Cond.fieldLink RX0 24 "MarbleRamps$Machine" "hopperColumns" "[I", Cond.fieldLink RX0 27 "MarbleRamps$Machine" "hopperMarbles" "[I", Cond.static yX1_copyCells, Cond.code yX1_copyCells cX1_copyCells 3 none, Cond.methodLink RX1 204 yX1_setCell, Cond.static yX1_setCell, Cond.code yX1_setCell cX1_setCell 3 none, Cond.methodLink RX1 67 yX0_letFall, Cond.instanceMethod yX0_letFall, Cond.selects RX0 yX0_letFall yX0_letFall, Cond.code yX0_letFall cX0_letFall 3 (some .int), Cond.methodLink RX0 77 yX0_fallTo, Cond.instanceMethod yX0_fallTo, Cond.selects RX0 yX0_fallTo yX0_fallTo, Cond.code yX0_fallTo cX0_fallTo 6 (some .int), Cond.methodLink RX0 69 yX0_placeOf, Cond.instanceMethod yX0_placeOf, Cond.selects RX0 yX0_placeOf yX0_placeOf]
def wsX1_lastLands_r3 : List Cond := [Cond.code yX0_placeOf cX0_placeOf 3 (some .int), Cond.methodLink RX0 80 yX0_wayOut, Cond.instanceMethod yX0_wayOut, Cond.selects RX0 yX0_wayOut yX0_wayOut, Cond.code yX0_wayOut cX0_wayOut 5 (some .int), Cond.static yX1_cell, Cond.code yX1_cell cX1_cell 2 (some .int), Cond.methodLink RX0 83 yX0_hasColumn]
def wsX1_lastLands : List Cond := .code yX1_lastLands cX1_lastLands 5 (some .int) :: ((wsX1_lastLands_r1 ++ (wsX1_lastLands_r2 ++ wsX1_lastLands_r3)) ++ wsX10 ++ wsX00 ++ (vx_atS RX1 191 "java/lang/IndexOutOfBoundsException" ["java/lang/RuntimeException", "java/lang/Exception"]).filter goodWord ++ (vx_atS RX1 203 "java/lang/IllegalArgumentException" ["java/lang/RuntimeException", "java/lang/Exception"]).filter goodWord)
def wsX1_asBeforeIn_r1 : List Cond := [Cond.fieldLink RX1 16 "MarbleRamps" "trial" "LMarbleRamps$Machine;", Cond.fieldLink RX1 10 "MarbleRamps" "now" "LMarbleRamps$Machine;", Cond.methodLink RX1 60 yX1_needColumn, Cond.instanceMethod yX1_needColumn, Cond.selects RX1 yX1_needColumn yX1_needColumn, Cond.initialized RX1, Cond.code yX1_needColumn cX1_needColumn 2 none, Cond.classLink RX1 187 "java/lang/IndexOutOfBoundsException", Cond.initialized "java/lang/IndexOutOfBoundsException", Cond.methodLink RX1 192 yX0_hasColumn, Cond.instanceMethod yX0_hasColumn, Cond.selects RX0 yX0_hasColumn yX0_hasColumn, Cond.initialized RX0, Cond.code yX0_hasColumn cX0_hasColumn 2 (some .boolean), Cond.fieldLink RX0 34 "MarbleRamps$Machine" "columnCount" "I", Cond.methodLink RX1 116 yX0_becomeLike, Cond.instanceMethod yX0_becomeLike, Cond.selects RX0 yX0_becomeLike yX0_becomeLike, Cond.code yX0_becomeLike cX0_becomeLike 2 none, Cond.fieldLink RX0 38 "MarbleRamps$Machine" "rowCount" "I", Cond.fieldLink RX0 41 "MarbleRamps$Machine" "lostCount" "I", Cond.fieldLink RX0 9 "MarbleRamps$Machine" "parts" "[I", Cond.fieldLink RX0 15 "MarbleRamps$Machine" "periods" "[I", Cond.fieldLink RX0 18 "MarbleRamps$Machine" "states" "[I"]
def wsX1_asBeforeIn_r2 : List Cond := [Cond.fieldLink RX0 21 "MarbleRamps$Machine" "bins" "[I", Cond.fieldLink RX0 24 "MarbleRamps$Machine" "hopperColumns" "[I", Cond.fieldLink RX0 27 "MarbleRamps$Machine" "hopperMarbles" "[I", Cond.static yX1_copyCells, Cond.code yX1_copyCells cX1_copyCells 3 none, Cond.methodLink RX1 204 yX1_setCell, Cond.static yX1_setCell, Cond.code yX1_setCell cX1_setCell 3 none, Cond.methodLink RX1 67 yX0_letFall, Cond.instanceMethod yX0_letFall, Cond.selects RX0 yX0_letFall yX0_letFall, Cond.code yX0_letFall cX0_letFall 3 (some .int), Cond.methodLink RX0 77 yX0_fallTo, Cond.instanceMethod yX0_fallTo, Cond.selects RX0 yX0_fallTo yX0_fallTo, Cond.code yX0_fallTo cX0_fallTo 6 (some .int), Cond.methodLink RX0 69 yX0_placeOf, Cond.instanceMethod yX0_placeOf, Cond.selects RX0 yX0_placeOf yX0_placeOf, Cond.code yX0_placeOf cX0_placeOf 3 (some .int), Cond.methodLink RX0 80 yX0_wayOut, Cond.instanceMethod yX0_wayOut, Cond.selects RX0 yX0_wayOut yX0_wayOut, Cond.code yX0_wayOut cX0_wayOut 5 (some .int)]
def wsX1_asBeforeIn_r3 : List Cond := [Cond.static yX1_cell, Cond.code yX1_cell cX1_cell 2 (some .int), Cond.methodLink RX0 83 yX0_hasColumn, Cond.methodLink RX1 127 yX0_hasStatesOf, Cond.instanceMethod yX0_hasStatesOf, Cond.selects RX0 yX0_hasStatesOf yX0_hasStatesOf, Cond.code yX0_hasStatesOf cX0_hasStatesOf 3 (some .boolean)]
def wsX1_asBeforeIn : List Cond := .code yX1_asBeforeIn cX1_asBeforeIn 3 (some .int) :: ((wsX1_asBeforeIn_r1 ++ (wsX1_asBeforeIn_r2 ++ wsX1_asBeforeIn_r3)) ++ wsX10 ++ wsX00 ++ (vx_atS RX1 191 "java/lang/IndexOutOfBoundsException" ["java/lang/RuntimeException", "java/lang/Exception"]).filter goodWord)
def wsX1_wouldRun_r1 : List Cond := [Cond.fieldLink RX1 16 "MarbleRamps" "trial" "LMarbleRamps$Machine;", Cond.fieldLink RX1 10 "MarbleRamps" "now" "LMarbleRamps$Machine;", Cond.methodLink RX1 57 yX1_needHopper, Cond.static yX1_needHopper, Cond.initialized RX1, Cond.code yX1_needHopper cX1_needHopper 1 none, Cond.classLink RX1 187 "java/lang/IndexOutOfBoundsException", Cond.initialized "java/lang/IndexOutOfBoundsException", Cond.methodLink RX1 116 yX0_becomeLike, Cond.instanceMethod yX0_becomeLike, Cond.selects RX0 yX0_becomeLike yX0_becomeLike, Cond.initialized RX0, Cond.code yX0_becomeLike cX0_becomeLike 2 none, Cond.fieldLink RX0 34 "MarbleRamps$Machine" "columnCount" "I", Cond.fieldLink RX0 38 "MarbleRamps$Machine" "rowCount" "I", Cond.fieldLink RX0 41 "MarbleRamps$Machine" "lostCount" "I", Cond.fieldLink RX0 9 "MarbleRamps$Machine" "parts" "[I", Cond.fieldLink RX0 15 "MarbleRamps$Machine" "periods" "[I", Cond.fieldLink RX0 18 "MarbleRamps$Machine" "states" "[I", Cond.fieldLink RX0 21 "MarbleRamps$Machine" "bins" "[I", Cond.fieldLink RX0 24 "MarbleRamps$Machine" "hopperColumns" "[I", Cond.fieldLink RX0 27 "MarbleRamps$Machine" "hopperMarbles" "[I", Cond.static yX1_copyCells, Cond.code yX1_copyCells cX1_copyCells 3 none]
def wsX1_wouldRun_r2 : List Cond := [Cond.methodLink RX1 204 yX1_setCell, Cond.static yX1_setCell, Cond.code yX1_setCell cX1_setCell 3 none, Cond.methodLink RX1 70 yX0_runFrom, Cond.instanceMethod yX0_runFrom, Cond.selects RX0 yX0_runFrom yX0_runFrom, Cond.code yX0_runFrom cX0_runFrom 5 (some .int), Cond.static yX1_cell, Cond.code yX1_cell cX1_cell 2 (some .int), Cond.methodLink RX0 86 yX0_letFall, Cond.instanceMethod yX0_letFall, Cond.selects RX0 yX0_letFall yX0_letFall, Cond.code yX0_letFall cX0_letFall 3 (some .int), Cond.methodLink RX0 77 yX0_fallTo, Cond.instanceMethod yX0_fallTo, Cond.selects RX0 yX0_fallTo yX0_fallTo, Cond.code yX0_fallTo cX0_fallTo 6 (some .int), Cond.methodLink RX0 69 yX0_placeOf, Cond.instanceMethod yX0_placeOf, Cond.selects RX0 yX0_placeOf yX0_placeOf, Cond.code yX0_placeOf cX0_placeOf 3 (some .int), Cond.methodLink RX0 80 yX0_wayOut, Cond.instanceMethod yX0_wayOut, Cond.selects RX0 yX0_wayOut yX0_wayOut]
def wsX1_wouldRun_r3 : List Cond := [Cond.code yX0_wayOut cX0_wayOut 5 (some .int), Cond.methodLink RX0 83 yX0_hasColumn, Cond.instanceMethod yX0_hasColumn, Cond.selects RX0 yX0_hasColumn yX0_hasColumn, Cond.code yX0_hasColumn cX0_hasColumn 2 (some .boolean), Cond.methodLink RX0 89 yX0_hopperBehind, Cond.instanceMethod yX0_hopperBehind, Cond.selects RX0 yX0_hopperBehind yX0_hopperBehind, Cond.code yX0_hopperBehind cX0_hopperBehind 3 (some .int)]
def wsX1_wouldRun : List Cond := .code yX1_wouldRun cX1_wouldRun 2 (some .int) :: ((wsX1_wouldRun_r1 ++ (wsX1_wouldRun_r2 ++ wsX1_wouldRun_r3)) ++ wsX10 ++ wsX00 ++ (vx_atS RX1 191 "java/lang/IndexOutOfBoundsException" ["java/lang/RuntimeException", "java/lang/Exception"]).filter goodWord)
def wsX1_bestColumn_r1 : List Cond := [Cond.methodLink RX1 131 yX1_columns, Cond.instanceMethod yX1_columns, Cond.selects RX1 yX1_columns yX1_columns, Cond.initialized RX1, Cond.code yX1_columns cX1_columns 1 (some .int), Cond.fieldLink RX1 10 "MarbleRamps" "now" "LMarbleRamps$Machine;", Cond.fieldLink RX1 80 "MarbleRamps$Machine" "columnCount" "I", Cond.methodLink RX1 134 yX1_wouldTurn, Cond.instanceMethod yX1_wouldTurn, Cond.selects RX1 yX1_wouldTurn yX1_wouldTurn, Cond.code yX1_wouldTurn cX1_wouldTurn 2 (some .int), Cond.fieldLink RX1 16 "MarbleRamps" "trial" "LMarbleRamps$Machine;", Cond.methodLink RX1 60 yX1_needColumn, Cond.instanceMethod yX1_needColumn, Cond.selects RX1 yX1_needColumn yX1_needColumn, Cond.code yX1_needColumn cX1_needColumn 2 none, Cond.classLink RX1 187 "java/lang/IndexOutOfBoundsException", Cond.initialized "java/lang/IndexOutOfBoundsException", Cond.methodLink RX1 192 yX0_hasColumn, Cond.instanceMethod yX0_hasColumn, Cond.selects RX0 yX0_hasColumn yX0_hasColumn, Cond.initialized RX0, Cond.code yX0_hasColumn cX0_hasColumn 2 (some .boolean), Cond.fieldLink RX0 34 "MarbleRamps$Machine" "columnCount" "I"]
def wsX1_bestColumn_r2 : List Cond := [Cond.methodLink RX1 116 yX0_becomeLike, Cond.instanceMethod yX0_becomeLike, Cond.selects RX0 yX0_becomeLike yX0_becomeLike, Cond.code yX0_becomeLike cX0_becomeLike 2 none, Cond.fieldLink RX0 38 "MarbleRamps$Machine" "rowCount" "I", Cond.fieldLink RX0 41 "MarbleRamps$Machine" "lostCount" "I", Cond.fieldLink RX0 9 "MarbleRamps$Machine" "parts" "[I", Cond.fieldLink RX0 15 "MarbleRamps$Machine" "periods" "[I", Cond.fieldLink RX0 18 "MarbleRamps$Machine" "states" "[I", Cond.fieldLink RX0 21 "MarbleRamps$Machine" "bins" "[I", Cond.fieldLink RX0 24 "MarbleRamps$Machine" "hopperColumns" "[I", Cond.fieldLink RX0 27 "MarbleRamps$Machine" "hopperMarbles" "[I", Cond.static yX1_copyCells, Cond.code yX1_copyCells cX1_copyCells 3 none, Cond.methodLink RX1 204 yX1_setCell, Cond.static yX1_setCell, Cond.code yX1_setCell cX1_setCell 3 none, Cond.methodLink RX1 67 yX0_letFall, Cond.instanceMethod yX0_letFall, Cond.selects RX0 yX0_letFall yX0_letFall, Cond.code yX0_letFall cX0_letFall 3 (some .int), Cond.methodLink RX0 77 yX0_fallTo, Cond.instanceMethod yX0_fallTo, Cond.selects RX0 yX0_fallTo yX0_fallTo]
def wsX1_bestColumn_r3 : List Cond := [Cond.code yX0_fallTo cX0_fallTo 6 (some .int), Cond.methodLink RX0 69 yX0_placeOf, Cond.instanceMethod yX0_placeOf, Cond.selects RX0 yX0_placeOf yX0_placeOf, Cond.code yX0_placeOf cX0_placeOf 3 (some .int), Cond.methodLink RX0 80 yX0_wayOut, Cond.instanceMethod yX0_wayOut, Cond.selects RX0 yX0_wayOut yX0_wayOut, Cond.code yX0_wayOut cX0_wayOut 5 (some .int), Cond.static yX1_cell, Cond.code yX1_cell cX1_cell 2 (some .int), Cond.methodLink RX0 83 yX0_hasColumn, Cond.methodLink RX1 123 yX0_togglesUnlike, Cond.instanceMethod yX0_togglesUnlike, Cond.selects RX0 yX0_togglesUnlike yX0_togglesUnlike, Cond.code yX0_togglesUnlike cX0_togglesUnlike 4 (some .int), Cond.methodLink RX0 73 yX0_isRightToggle, Cond.instanceMethod yX0_isRightToggle, Cond.selects RX0 yX0_isRightToggle yX0_isRightToggle, Cond.code yX0_isRightToggle cX0_isRightToggle 2 (some .boolean), Cond.methodLink RX0 65 yX0_partIn, Cond.instanceMethod yX0_partIn, Cond.selects RX0 yX0_partIn yX0_partIn, Cond.code yX0_partIn cX0_partIn 2 (some .int)]
def wsX1_bestColumn : List Cond := .code yX1_bestColumn cX1_bestColumn 5 (some .int) :: ((wsX1_bestColumn_r1 ++ (wsX1_bestColumn_r2 ++ wsX1_bestColumn_r3)) ++ wsX10 ++ wsX00 ++ (vx_atS RX1 191 "java/lang/IndexOutOfBoundsException" ["java/lang/RuntimeException", "java/lang/Exception"]).filter goodWord)
def wsX1_meanInBins : List Cond := .code yX1_meanInBins cX1_meanInBins 2 (some .double) :: ([.fieldLink RX1 10 "MarbleRamps" "now" "LMarbleRamps$Machine;", .methodLink RX1 131 yX1_columns, .instanceMethod yX1_columns, .selects RX1 yX1_columns yX1_columns, .initialized RX1, .code yX1_columns cX1_columns 1 (some .int), .fieldLink RX1 80 "MarbleRamps$Machine" "columnCount" "I", .methodLink RX1 73 yX0_marblesInBins, .instanceMethod yX0_marblesInBins, .selects RX0 yX0_marblesInBins yX0_marblesInBins, .initialized RX0, .code yX0_marblesInBins cX0_marblesInBins 6 (some .int), .fieldLink RX0 21 "MarbleRamps$Machine" "bins" "[I"] ++ wsX10 ++ wsX00)
def wsX1_digest_r1 : List Cond := [Cond.constantLong RX1 137 (2239), Cond.constantLong RX1 139 (31), Cond.methodLink RX1 131 yX1_columns, Cond.instanceMethod yX1_columns, Cond.selects RX1 yX1_columns yX1_columns, Cond.initialized RX1, Cond.code yX1_columns cX1_columns 1 (some .int), Cond.fieldLink RX1 10 "MarbleRamps" "now" "LMarbleRamps$Machine;", Cond.fieldLink RX1 80 "MarbleRamps$Machine" "columnCount" "I", Cond.methodLink RX1 141 yX1_rows, Cond.instanceMethod yX1_rows, Cond.selects RX1 yX1_rows yX1_rows, Cond.code yX1_rows cX1_rows 1 (some .int), Cond.fieldLink RX1 84 "MarbleRamps$Machine" "rowCount" "I", Cond.methodLink RX1 144 yX1_lost, Cond.instanceMethod yX1_lost, Cond.selects RX1 yX1_lost yX1_lost, Cond.code yX1_lost cX1_lost 1 (some .int), Cond.fieldLink RX1 98 "MarbleRamps$Machine" "lostCount" "I", Cond.methodLink RX1 147 yX1_toggles, Cond.instanceMethod yX1_toggles, Cond.selects RX1 yX1_toggles yX1_toggles, Cond.code yX1_toggles cX1_toggles 1 (some .int), Cond.methodLink RX1 107 yX0_countToggles]
def wsX1_digest_r2 : List Cond := [Cond.instanceMethod yX0_countToggles, Cond.selects RX0 yX0_countToggles yX0_countToggles, Cond.initialized RX0, Cond.code yX0_countToggles cX0_countToggles 6 (some .int), Cond.fieldLink RX0 9 "MarbleRamps$Machine" "parts" "[I", Cond.methodLink RX1 150 yX1_bestColumn, Cond.instanceMethod yX1_bestColumn, Cond.selects RX1 yX1_bestColumn yX1_bestColumn, Cond.code yX1_bestColumn cX1_bestColumn 5 (some .int), Cond.methodLink RX1 134 yX1_wouldTurn, Cond.instanceMethod yX1_wouldTurn, Cond.selects RX1 yX1_wouldTurn yX1_wouldTurn, Cond.code yX1_wouldTurn cX1_wouldTurn 2 (some .int), Cond.fieldLink RX1 16 "MarbleRamps" "trial" "LMarbleRamps$Machine;", Cond.methodLink RX1 60 yX1_needColumn, Cond.instanceMethod yX1_needColumn, Cond.selects RX1 yX1_needColumn yX1_needColumn, Cond.code yX1_needColumn cX1_needColumn 2 none, Cond.classLink RX1 187 "java/lang/IndexOutOfBoundsException", Cond.initialized "java/lang/IndexOutOfBoundsException", Cond.methodLink RX1 192 yX0_hasColumn, Cond.instanceMethod yX0_hasColumn, Cond.selects RX0 yX0_hasColumn yX0_hasColumn, Cond.code yX0_hasColumn cX0_hasColumn 2 (some .boolean)]
def wsX1_digest_r3 : List Cond := [Cond.fieldLink RX0 34 "MarbleRamps$Machine" "columnCount" "I", Cond.methodLink RX1 116 yX0_becomeLike, Cond.instanceMethod yX0_becomeLike, Cond.selects RX0 yX0_becomeLike yX0_becomeLike, Cond.code yX0_becomeLike cX0_becomeLike 2 none, Cond.fieldLink RX0 38 "MarbleRamps$Machine" "rowCount" "I", Cond.fieldLink RX0 41 "MarbleRamps$Machine" "lostCount" "I", Cond.fieldLink RX0 15 "MarbleRamps$Machine" "periods" "[I", Cond.fieldLink RX0 18 "MarbleRamps$Machine" "states" "[I", Cond.fieldLink RX0 21 "MarbleRamps$Machine" "bins" "[I", Cond.fieldLink RX0 24 "MarbleRamps$Machine" "hopperColumns" "[I", Cond.fieldLink RX0 27 "MarbleRamps$Machine" "hopperMarbles" "[I", Cond.static yX1_copyCells, Cond.code yX1_copyCells cX1_copyCells 3 none, Cond.methodLink RX1 204 yX1_setCell, Cond.static yX1_setCell, Cond.code yX1_setCell cX1_setCell 3 none, Cond.methodLink RX1 67 yX0_letFall, Cond.instanceMethod yX0_letFall, Cond.selects RX0 yX0_letFall yX0_letFall, Cond.code yX0_letFall cX0_letFall 3 (some .int), Cond.methodLink RX0 77 yX0_fallTo, Cond.instanceMethod yX0_fallTo, Cond.selects RX0 yX0_fallTo yX0_fallTo]
def wsX1_digest_r4 : List Cond := [Cond.code yX0_fallTo cX0_fallTo 6 (some .int), Cond.methodLink RX0 69 yX0_placeOf, Cond.instanceMethod yX0_placeOf, Cond.selects RX0 yX0_placeOf yX0_placeOf, Cond.code yX0_placeOf cX0_placeOf 3 (some .int), Cond.methodLink RX0 80 yX0_wayOut, Cond.instanceMethod yX0_wayOut, Cond.selects RX0 yX0_wayOut yX0_wayOut, Cond.code yX0_wayOut cX0_wayOut 5 (some .int), Cond.static yX1_cell, Cond.code yX1_cell cX1_cell 2 (some .int), Cond.methodLink RX0 83 yX0_hasColumn, Cond.methodLink RX1 123 yX0_togglesUnlike, Cond.instanceMethod yX0_togglesUnlike, Cond.selects RX0 yX0_togglesUnlike yX0_togglesUnlike, Cond.code yX0_togglesUnlike cX0_togglesUnlike 4 (some .int), Cond.methodLink RX0 73 yX0_isRightToggle, Cond.instanceMethod yX0_isRightToggle, Cond.selects RX0 yX0_isRightToggle yX0_isRightToggle, Cond.code yX0_isRightToggle cX0_isRightToggle 2 (some .boolean), Cond.methodLink RX0 65 yX0_partIn, Cond.instanceMethod yX0_partIn, Cond.selects RX0 yX0_partIn yX0_partIn, Cond.code yX0_partIn cX0_partIn 2 (some .int)]
def wsX1_digest_r5 : List Cond := [Cond.methodLink RX1 153 yX1_marblesIn, Cond.instanceMethod yX1_marblesIn, Cond.selects RX1 yX1_marblesIn yX1_marblesIn, Cond.code yX1_marblesIn cX1_marblesIn 2 (some .int), Cond.fieldLink RX1 101 "MarbleRamps$Machine" "hopperMarbles" "[I", Cond.methodLink RX1 57 yX1_needHopper, Cond.static yX1_needHopper, Cond.code yX1_needHopper cX1_needHopper 1 none, Cond.methodLink RX1 94 yX1_cell, Cond.methodLink RX1 156 yX1_columnOf, Cond.instanceMethod yX1_columnOf, Cond.selects RX1 yX1_columnOf yX1_columnOf, Cond.code yX1_columnOf cX1_columnOf 2 (some .int), Cond.fieldLink RX1 104 "MarbleRamps$Machine" "hopperColumns" "[I", Cond.methodLink RX1 159 yX1_wouldRun, Cond.instanceMethod yX1_wouldRun, Cond.selects RX1 yX1_wouldRun yX1_wouldRun, Cond.code yX1_wouldRun cX1_wouldRun 2 (some .int), Cond.methodLink RX1 70 yX0_runFrom, Cond.instanceMethod yX0_runFrom, Cond.selects RX0 yX0_runFrom yX0_runFrom, Cond.code yX0_runFrom cX0_runFrom 5 (some .int), Cond.methodLink RX0 86 yX0_letFall, Cond.methodLink RX0 89 yX0_hopperBehind]
def wsX1_digest_r6 : List Cond := [Cond.instanceMethod yX0_hopperBehind, Cond.selects RX0 yX0_hopperBehind yX0_hopperBehind, Cond.code yX0_hopperBehind cX0_hopperBehind 3 (some .int), Cond.methodLink RX1 162 yX1_numberIn, Cond.instanceMethod yX1_numberIn, Cond.selects RX1 yX1_numberIn yX1_numberIn, Cond.code yX1_numberIn cX1_numberIn 2 (some .int), Cond.methodLink RX1 110 yX1_needRow, Cond.instanceMethod yX1_needRow, Cond.selects RX1 yX1_needRow yX1_needRow, Cond.code yX1_needRow cX1_needRow 2 none, Cond.methodLink RX1 184 yX0_hasRow, Cond.instanceMethod yX0_hasRow, Cond.selects RX0 yX0_hasRow yX0_hasRow, Cond.code yX0_hasRow cX0_hasRow 2 (some .boolean), Cond.methodLink RX1 113 yX0_numberToldBy, Cond.instanceMethod yX0_numberToldBy, Cond.selects RX0 yX0_numberToldBy yX0_numberToldBy, Cond.code yX0_numberToldBy cX0_numberToldBy 6 (some .int), Cond.methodLink RX1 165 yX1_partAt, Cond.instanceMethod yX1_partAt, Cond.selects RX1 yX1_partAt yX1_partAt, Cond.code yX1_partAt cX1_partAt 3 (some .int), Cond.methodLink RX1 27 yX1_needPlace]
def wsX1_digest_r7 : List Cond := [Cond.instanceMethod yX1_needPlace, Cond.selects RX1 yX1_needPlace yX1_needPlace, Cond.code yX1_needPlace cX1_needPlace 3 none, Cond.methodLink RX1 34 yX0_placeOf, Cond.methodLink RX1 38 yX0_partIn, Cond.methodLink RX1 168 yX1_leadsRight, Cond.instanceMethod yX1_leadsRight, Cond.selects RX1 yX1_leadsRight yX1_leadsRight, Cond.code yX1_leadsRight cX1_leadsRight 3 (some .boolean), Cond.methodLink RX1 53 yX0_isRightToggle, Cond.methodLink RX1 172 yX1_countAt, Cond.instanceMethod yX1_countAt, Cond.selects RX1 yX1_countAt yX1_countAt, Cond.code yX1_countAt cX1_countAt 3 (some .int), Cond.methodLink RX1 87 yX0_countedIn, Cond.instanceMethod yX0_countedIn, Cond.selects RX0 yX0_countedIn yX0_countedIn, Cond.code yX0_countedIn cX0_countedIn 2 (some .int), Cond.methodLink RX1 175 yX1_binOf, Cond.instanceMethod yX1_binOf, Cond.selects RX1 yX1_binOf yX1_binOf, Cond.code yX1_binOf cX1_binOf 2 (some .int), Cond.fieldLink RX1 90 "MarbleRamps$Machine" "bins" "[I", Cond.methodLink RX1 178 yX1_wouldLand]
def wsX1_digest_r8 : List Cond := [Cond.instanceMethod yX1_wouldLand, Cond.selects RX1 yX1_wouldLand yX1_wouldLand, Cond.code yX1_wouldLand cX1_wouldLand 2 (some .int), Cond.methodLink RX1 181 yX1_asBeforeIn, Cond.instanceMethod yX1_asBeforeIn, Cond.selects RX1 yX1_asBeforeIn yX1_asBeforeIn, Cond.code yX1_asBeforeIn cX1_asBeforeIn 3 (some .int), Cond.methodLink RX1 127 yX0_hasStatesOf, Cond.instanceMethod yX0_hasStatesOf, Cond.selects RX0 yX0_hasStatesOf yX0_hasStatesOf, Cond.code yX0_hasStatesOf cX0_hasStatesOf 3 (some .boolean)]
def wsX1_digest : List Cond := .code yX1_digest cX1_digest 5 (some .long) :: ((wsX1_digest_r1 ++ (wsX1_digest_r2 ++ (wsX1_digest_r3 ++ (wsX1_digest_r4 ++ (wsX1_digest_r5 ++ (wsX1_digest_r6 ++ (wsX1_digest_r7 ++ wsX1_digest_r8))))))) ++ wsX10 ++ wsX00 ++ (vx_atS RX1 191 "java/lang/IndexOutOfBoundsException" ["java/lang/RuntimeException", "java/lang/Exception"]).filter goodWord)
def wsX2_init : List Cond := .code yX2_init cX2_init 1 none :: ([.methodLink RX2 1 objectInit, .instanceMethod objectInit, .code objectInit ⟨#[0xb1]⟩ 1 none, .fieldLink RX2 9 "MarbleRampsLaw$Sim" "board" "[[[I", .arrayClass .int, .fieldLink RX2 14 "MarbleRampsLaw$Sim" "bins" "[I", .fieldLink RX2 18 "MarbleRampsLaw$Sim" "above" "[I", .fieldLink RX2 21 "MarbleRampsLaw$Sim" "marbles" "[I"] ++ wsX20)
def wsX2_copy : List Cond := .code yX2_copy cX2_copy 5 (some (.object "MarbleRampsLaw$Sim")) :: ([.classLink RX2 10 RX2, .instantiable RX2 6, .initialized RX2, .fieldLink RX2 9 "MarbleRampsLaw$Sim" "board" "[[[I", .methodLink RX2 25 ⟨"[I", "clone", "()Ljava/lang/Object;"⟩, .sameMethod "[I" "java/lang/Object" "clone" "()Ljava/lang/Object;", .native ⟨"java/lang/Object", "clone", "()Ljava/lang/Object;"⟩, .instanceMethod ⟨"java/lang/Object", "clone", "()Ljava/lang/Object;"⟩, .selects "[I" ⟨"[I", "clone", "()Ljava/lang/Object;"⟩ ⟨"java/lang/Object", "clone", "()Ljava/lang/Object;"⟩, .classLink RX2 26 "[I", .fieldLink RX2 14 "MarbleRampsLaw$Sim" "bins" "[I", .fieldLink RX2 30 "MarbleRampsLaw$Sim" "lost" "I", .fieldLink RX2 18 "MarbleRampsLaw$Sim" "above" "[I", .fieldLink RX2 21 "MarbleRampsLaw$Sim" "marbles" "[I", .methodLink RX2 24 yX2_init, .instanceMethod yX2_init, .code yX2_init cX2_init 1 none, .methodLink RX2 1 objectInit, .instanceMethod objectInit, .code objectInit ⟨#[0xb1]⟩ 1 none, .arrayClass .int] ++ wsX20)
def wsX2_lay : List Cond := .code yX2_lay cX2_lay 3 none :: ([.fieldLink RX2 9 "MarbleRampsLaw$Sim" "board" "[[[I", .arrayClass .int, .fieldLink RX2 14 "MarbleRampsLaw$Sim" "bins" "[I", .fieldLink RX2 30 "MarbleRampsLaw$Sim" "lost" "I", .fieldLink RX2 18 "MarbleRampsLaw$Sim" "above" "[I"] ++ wsX20)
def wsX2_fall : List Cond := .code yX2_fall cX2_fall 7 (some .int) :: ([.fieldLink RX2 9 "MarbleRampsLaw$Sim" "board" "[[[I", .fieldLink RX2 34 "MarbleRampsLaw$Sim" "turned" "I", .fieldLink RX2 14 "MarbleRampsLaw$Sim" "bins" "[I"] ++ wsX20)
def wsX2_drop : List Cond := .code yX2_drop cX2_drop 3 (some .int) :: ([.fieldLink RX2 9 "MarbleRampsLaw$Sim" "board" "[[[I", .fieldLink RX2 30 "MarbleRampsLaw$Sim" "lost" "I", .fieldLink RX2 14 "MarbleRampsLaw$Sim" "bins" "[I", .methodLink RX2 37 yX2_fall, .instanceMethod yX2_fall, .selects RX2 yX2_fall yX2_fall, .initialized RX2, .code yX2_fall cX2_fall 7 (some .int), .fieldLink RX2 34 "MarbleRampsLaw$Sim" "turned" "I"] ++ wsX20)
def wsX2_run : List Cond := .code yX2_run cX2_run 7 (some .int) :: ([.fieldLink RX2 21 "MarbleRampsLaw$Sim" "marbles" "[I", .fieldLink RX2 18 "MarbleRampsLaw$Sim" "above" "[I", .fieldLink RX2 14 "MarbleRampsLaw$Sim" "bins" "[I", .methodLink RX2 41 yX2_drop, .instanceMethod yX2_drop, .selects RX2 yX2_drop yX2_drop, .initialized RX2, .code yX2_drop cX2_drop 3 (some .int), .fieldLink RX2 9 "MarbleRampsLaw$Sim" "board" "[[[I", .fieldLink RX2 30 "MarbleRampsLaw$Sim" "lost" "I", .methodLink RX2 37 yX2_fall, .instanceMethod yX2_fall, .selects RX2 yX2_fall yX2_fall, .code yX2_fall cX2_fall 7 (some .int), .fieldLink RX2 34 "MarbleRampsLaw$Sim" "turned" "I"] ++ wsX20)
def wsX2_hasSame : List Cond := .code yX2_hasSame cX2_hasSame 4 (some .boolean) :: ([.fieldLink RX2 9 "MarbleRampsLaw$Sim" "board" "[[[I", .fieldLink RX2 14 "MarbleRampsLaw$Sim" "bins" "[I"] ++ wsX20)
def wsX2_isSame_r1 : List Cond := [Cond.fieldLink RX2 9 "MarbleRampsLaw$Sim" "board" "[[[I", Cond.fieldLink RX2 14 "MarbleRampsLaw$Sim" "bins" "[I", Cond.fieldLink RX2 21 "MarbleRampsLaw$Sim" "marbles" "[I", Cond.fieldLink RX2 18 "MarbleRampsLaw$Sim" "above" "[I", Cond.fieldLink RX2 30 "MarbleRampsLaw$Sim" "lost" "I", Cond.methodLink RX2 45 yX1_partAt, Cond.instanceMethod yX1_partAt, Cond.selects RX1 yX1_partAt yX1_partAt, Cond.initialized RX1, Cond.code yX1_partAt cX1_partAt 3 (some .int), Cond.fieldLink RX1 10 "MarbleRamps" "now" "LMarbleRamps$Machine;", Cond.methodLink RX1 27 yX1_needPlace, Cond.instanceMethod yX1_needPlace, Cond.selects RX1 yX1_needPlace yX1_needPlace, Cond.code yX1_needPlace cX1_needPlace 3 none, Cond.methodLink RX1 110 yX1_needRow, Cond.instanceMethod yX1_needRow, Cond.selects RX1 yX1_needRow yX1_needRow, Cond.code yX1_needRow cX1_needRow 2 none, Cond.classLink RX1 187 "java/lang/IndexOutOfBoundsException", Cond.initialized "java/lang/IndexOutOfBoundsException", Cond.methodLink RX1 184 yX0_hasRow, Cond.instanceMethod yX0_hasRow, Cond.selects RX0 yX0_hasRow yX0_hasRow]
def wsX2_isSame_r2 : List Cond := [Cond.initialized RX0, Cond.code yX0_hasRow cX0_hasRow 2 (some .boolean), Cond.fieldLink RX0 38 "MarbleRamps$Machine" "rowCount" "I", Cond.methodLink RX1 60 yX1_needColumn, Cond.instanceMethod yX1_needColumn, Cond.selects RX1 yX1_needColumn yX1_needColumn, Cond.code yX1_needColumn cX1_needColumn 2 none, Cond.methodLink RX1 192 yX0_hasColumn, Cond.instanceMethod yX0_hasColumn, Cond.selects RX0 yX0_hasColumn yX0_hasColumn, Cond.code yX0_hasColumn cX0_hasColumn 2 (some .boolean), Cond.fieldLink RX0 34 "MarbleRamps$Machine" "columnCount" "I", Cond.methodLink RX1 34 yX0_placeOf, Cond.instanceMethod yX0_placeOf, Cond.selects RX0 yX0_placeOf yX0_placeOf, Cond.code yX0_placeOf cX0_placeOf 3 (some .int), Cond.methodLink RX1 38 yX0_partIn, Cond.instanceMethod yX0_partIn, Cond.selects RX0 yX0_partIn yX0_partIn, Cond.code yX0_partIn cX0_partIn 2 (some .int), Cond.fieldLink RX0 9 "MarbleRamps$Machine" "parts" "[I", Cond.static yX1_cell, Cond.code yX1_cell cX1_cell 2 (some .int), Cond.methodLink RX2 50 yX1_leadsRight]
def wsX2_isSame_r3 : List Cond := [Cond.instanceMethod yX1_leadsRight, Cond.selects RX1 yX1_leadsRight yX1_leadsRight, Cond.code yX1_leadsRight cX1_leadsRight 3 (some .boolean), Cond.methodLink RX1 53 yX0_isRightToggle, Cond.instanceMethod yX0_isRightToggle, Cond.selects RX0 yX0_isRightToggle yX0_isRightToggle, Cond.code yX0_isRightToggle cX0_isRightToggle 2 (some .boolean), Cond.fieldLink RX0 18 "MarbleRamps$Machine" "states" "[I", Cond.methodLink RX0 65 yX0_partIn, Cond.methodLink RX2 54 yX1_countAt, Cond.instanceMethod yX1_countAt, Cond.selects RX1 yX1_countAt yX1_countAt, Cond.code yX1_countAt cX1_countAt 3 (some .int), Cond.methodLink RX1 87 yX0_countedIn, Cond.instanceMethod yX0_countedIn, Cond.selects RX0 yX0_countedIn yX0_countedIn, Cond.code yX0_countedIn cX0_countedIn 2 (some .int), Cond.methodLink RX2 57 yX1_numberIn, Cond.instanceMethod yX1_numberIn, Cond.selects RX1 yX1_numberIn yX1_numberIn, Cond.code yX1_numberIn cX1_numberIn 2 (some .int), Cond.methodLink RX1 113 yX0_numberToldBy, Cond.instanceMethod yX0_numberToldBy, Cond.selects RX0 yX0_numberToldBy yX0_numberToldBy]
def wsX2_isSame_r4 : List Cond := [Cond.code yX0_numberToldBy cX0_numberToldBy 6 (some .int), Cond.methodLink RX0 69 yX0_placeOf, Cond.methodLink RX0 73 yX0_isRightToggle, Cond.methodLink RX2 60 yX1_binOf, Cond.instanceMethod yX1_binOf, Cond.selects RX1 yX1_binOf yX1_binOf, Cond.code yX1_binOf cX1_binOf 2 (some .int), Cond.fieldLink RX1 90 "MarbleRamps$Machine" "bins" "[I", Cond.methodLink RX1 94 yX1_cell, Cond.methodLink RX2 63 yX1_marblesIn, Cond.instanceMethod yX1_marblesIn, Cond.selects RX1 yX1_marblesIn yX1_marblesIn, Cond.code yX1_marblesIn cX1_marblesIn 2 (some .int), Cond.fieldLink RX1 101 "MarbleRamps$Machine" "hopperMarbles" "[I", Cond.methodLink RX1 57 yX1_needHopper, Cond.static yX1_needHopper, Cond.code yX1_needHopper cX1_needHopper 1 none, Cond.methodLink RX2 66 yX1_columnOf, Cond.instanceMethod yX1_columnOf, Cond.selects RX1 yX1_columnOf yX1_columnOf, Cond.code yX1_columnOf cX1_columnOf 2 (some .int), Cond.fieldLink RX1 104 "MarbleRamps$Machine" "hopperColumns" "[I", Cond.methodLink RX2 69 yX1_columns, Cond.instanceMethod yX1_columns]
def wsX2_isSame_r5 : List Cond := [Cond.selects RX1 yX1_columns yX1_columns, Cond.code yX1_columns cX1_columns 1 (some .int), Cond.fieldLink RX1 80 "MarbleRamps$Machine" "columnCount" "I", Cond.methodLink RX2 73 yX1_rows, Cond.instanceMethod yX1_rows, Cond.selects RX1 yX1_rows yX1_rows, Cond.code yX1_rows cX1_rows 1 (some .int), Cond.fieldLink RX1 84 "MarbleRamps$Machine" "rowCount" "I", Cond.methodLink RX2 76 yX1_lost, Cond.instanceMethod yX1_lost, Cond.selects RX1 yX1_lost yX1_lost, Cond.code yX1_lost cX1_lost 1 (some .int), Cond.fieldLink RX1 98 "MarbleRamps$Machine" "lostCount" "I", Cond.methodLink RX2 78 yX1_toggles, Cond.instanceMethod yX1_toggles, Cond.selects RX1 yX1_toggles yX1_toggles, Cond.code yX1_toggles cX1_toggles 1 (some .int), Cond.methodLink RX1 107 yX0_countToggles, Cond.instanceMethod yX0_countToggles, Cond.selects RX0 yX0_countToggles yX0_countToggles, Cond.code yX0_countToggles cX0_countToggles 6 (some .int), Cond.methodLink RX2 81 yX1_meanInBins, Cond.instanceMethod yX1_meanInBins, Cond.selects RX1 yX1_meanInBins yX1_meanInBins]
def wsX2_isSame_r6 : List Cond := [Cond.code yX1_meanInBins cX1_meanInBins 2 (some .double), Cond.methodLink RX1 131 yX1_columns, Cond.methodLink RX1 73 yX0_marblesInBins, Cond.instanceMethod yX0_marblesInBins, Cond.selects RX0 yX0_marblesInBins yX0_marblesInBins, Cond.code yX0_marblesInBins cX0_marblesInBins 6 (some .int), Cond.fieldLink RX0 21 "MarbleRamps$Machine" "bins" "[I"]
def wsX2_isSame : List Cond := .code yX2_isSame cX2_isSame 10 (some .boolean) :: ((wsX2_isSame_r1 ++ (wsX2_isSame_r2 ++ (wsX2_isSame_r3 ++ (wsX2_isSame_r4 ++ (wsX2_isSame_r5 ++ wsX2_isSame_r6))))) ++ wsX20 ++ wsX10 ++ wsX00 ++ (vx_atS RX1 191 "java/lang/IndexOutOfBoundsException" ["java/lang/RuntimeException", "java/lang/Exception"]).filter goodWord)
def wsJ9_abs_0f7a4 : List Cond := .code yJ9_abs_0f7a4 cJ9_abs_0f7a4 1 (some .int) :: ([])
def wsJ9_min_7cf53 : List Cond := .code yJ9_min_7cf53 cJ9_min_7cf53 2 (some .int) :: ([])
def wsL_below : List Cond := .code yL_below cL_below 2 (some .int) :: ([.constant RL 7 (2147483647)])
def wsL_cell : List Cond := .code yL_cell cL_cell 2 (some .int) :: ([.constant RL 8 (790386105)])
def wsL_act_r1 : List Cond := [Cond.classLink RL 66 "java/lang/IllegalStateException", Cond.fieldLink RL 9 "MarbleRampsLaw$Sim" "bins" "[I", Cond.fieldLink RL 21 "MarbleRampsLaw$Sim" "board" "[[[I", Cond.arrayClass .int, Cond.fieldLink RL 44 "MarbleRampsLaw$Sim" "marbles" "[I", Cond.fieldLink RL 47 "MarbleRampsLaw$Sim" "above" "[I", Cond.methodLink RL 15 yL_below, Cond.static yL_below, Cond.initialized RL, Cond.code yL_below cL_below 2 (some .int), Cond.constant RL 7 (2147483647), Cond.methodLink RL 25 yX2_lay, Cond.instanceMethod yX2_lay, Cond.selects RX2 yX2_lay yX2_lay, Cond.initialized RX2, Cond.code yX2_lay cX2_lay 3 none, Cond.fieldLink RX2 9 "MarbleRampsLaw$Sim" "board" "[[[I", Cond.fieldLink RX2 14 "MarbleRampsLaw$Sim" "bins" "[I", Cond.fieldLink RX2 30 "MarbleRampsLaw$Sim" "lost" "I", Cond.fieldLink RX2 18 "MarbleRampsLaw$Sim" "above" "[I", Cond.methodLink RL 29 yX1_lay, Cond.instanceMethod yX1_lay, Cond.selects RX1 yX1_lay yX1_lay, Cond.initialized RX1]
def wsL_act_r2 : List Cond := [Cond.code yX1_lay cX1_lay 3 (some .int), Cond.fieldLink RX1 10 "MarbleRamps" "now" "LMarbleRamps$Machine;", Cond.methodLink RX1 19 yX1_needWithin, Cond.static yX1_needWithin, Cond.code yX1_needWithin cX1_needWithin 3 none, Cond.classLink RX1 199 "java/lang/IllegalArgumentException", Cond.initialized "java/lang/IllegalArgumentException", Cond.methodLink RX1 23 yX0_layBoard, Cond.instanceMethod yX0_layBoard, Cond.selects RX0 yX0_layBoard yX0_layBoard, Cond.initialized RX0, Cond.code yX0_layBoard cX0_layBoard 3 none, Cond.fieldLink RX0 34 "MarbleRamps$Machine" "columnCount" "I", Cond.fieldLink RX0 38 "MarbleRamps$Machine" "rowCount" "I", Cond.fieldLink RX0 41 "MarbleRamps$Machine" "lostCount" "I", Cond.fieldLink RX0 9 "MarbleRamps$Machine" "parts" "[I", Cond.fieldLink RX0 15 "MarbleRamps$Machine" "periods" "[I", Cond.fieldLink RX0 18 "MarbleRamps$Machine" "states" "[I", Cond.fieldLink RX0 24 "MarbleRamps$Machine" "hopperColumns" "[I", Cond.methodLink RX0 44 yJ7_fill_53178, Cond.static yJ7_fill_53178, Cond.initialized RJ7, Cond.code yJ7_fill_53178 cJ7_fill_53178 4 none, Cond.methodLink RX0 50 yX0_clearBins]
def wsL_act_r3 : List Cond := [Cond.instanceMethod yX0_clearBins, Cond.selects RX0 yX0_clearBins yX0_clearBins, Cond.code yX0_clearBins cX0_clearBins 1 none, Cond.fieldLink RX0 21 "MarbleRamps$Machine" "bins" "[I", Cond.static yX1_setCell, Cond.code yX1_setCell cX1_setCell 3 none, Cond.methodLink RL 33 yX1_put, Cond.instanceMethod yX1_put, Cond.selects RX1 yX1_put yX1_put, Cond.code yX1_put cX1_put 4 (some .int), Cond.methodLink RX1 27 yX1_needPlace, Cond.instanceMethod yX1_needPlace, Cond.selects RX1 yX1_needPlace yX1_needPlace, Cond.code yX1_needPlace cX1_needPlace 3 none, Cond.methodLink RX1 110 yX1_needRow, Cond.instanceMethod yX1_needRow, Cond.selects RX1 yX1_needRow yX1_needRow, Cond.code yX1_needRow cX1_needRow 2 none, Cond.classLink RX1 187 "java/lang/IndexOutOfBoundsException", Cond.initialized "java/lang/IndexOutOfBoundsException", Cond.methodLink RX1 184 yX0_hasRow, Cond.instanceMethod yX0_hasRow, Cond.selects RX0 yX0_hasRow yX0_hasRow, Cond.code yX0_hasRow cX0_hasRow 2 (some .boolean)]
def wsL_act_r4 : List Cond := [Cond.methodLink RX1 60 yX1_needColumn, Cond.instanceMethod yX1_needColumn, Cond.selects RX1 yX1_needColumn yX1_needColumn, Cond.code yX1_needColumn cX1_needColumn 2 none, Cond.methodLink RX1 192 yX0_hasColumn, Cond.instanceMethod yX0_hasColumn, Cond.selects RX0 yX0_hasColumn yX0_hasColumn, Cond.code yX0_hasColumn cX0_hasColumn 2 (some .boolean), Cond.methodLink RX1 30 yX0_replacePart, Cond.instanceMethod yX0_replacePart, Cond.selects RX0 yX0_replacePart yX0_replacePart, Cond.code yX0_replacePart cX0_replacePart 7 (some .int), Cond.methodLink RX0 69 yX0_placeOf, Cond.instanceMethod yX0_placeOf, Cond.selects RX0 yX0_placeOf yX0_placeOf, Cond.code yX0_placeOf cX0_placeOf 3 (some .int), Cond.methodLink RX0 65 yX0_partIn, Cond.instanceMethod yX0_partIn, Cond.selects RX0 yX0_partIn yX0_partIn, Cond.code yX0_partIn cX0_partIn 2 (some .int), Cond.static yX1_cell, Cond.code yX1_cell cX1_cell 2 (some .int), Cond.methodLink RL 37 yX1_putCounter, Cond.instanceMethod yX1_putCounter]
def wsL_act_r5 : List Cond := [Cond.selects RX1 yX1_putCounter yX1_putCounter, Cond.code yX1_putCounter cX1_putCounter 4 (some .int), Cond.methodLink RL 40 yX1_turn, Cond.instanceMethod yX1_turn, Cond.selects RX1 yX1_turn yX1_turn, Cond.code yX1_turn cX1_turn 4 (some .boolean), Cond.classLink RX1 42 "java/lang/IllegalStateException", Cond.initialized "java/lang/IllegalStateException", Cond.methodLink RX1 34 yX0_placeOf, Cond.methodLink RX1 38 yX0_partIn, Cond.methodLink RX1 49 yX0_turnOver, Cond.instanceMethod yX0_turnOver, Cond.selects RX0 yX0_turnOver yX0_turnOver, Cond.code yX0_turnOver cX0_turnOver 2 none, Cond.methodLink RX0 73 yX0_isRightToggle, Cond.instanceMethod yX0_isRightToggle, Cond.selects RX0 yX0_isRightToggle yX0_isRightToggle, Cond.code yX0_isRightToggle cX0_isRightToggle 2 (some .boolean), Cond.methodLink RX1 53 yX0_isRightToggle, Cond.methodLink RL 50 yX1_setHopper, Cond.instanceMethod yX1_setHopper, Cond.selects RX1 yX1_setHopper yX1_setHopper, Cond.code yX1_setHopper cX1_setHopper 4 (some .int), Cond.methodLink RX1 57 yX1_needHopper]
def wsL_act_r6 : List Cond := [Cond.static yX1_needHopper, Cond.code yX1_needHopper cX1_needHopper 1 none, Cond.methodLink RX1 63 yX0_fillHopper, Cond.instanceMethod yX0_fillHopper, Cond.selects RX0 yX0_fillHopper yX0_fillHopper, Cond.code yX0_fillHopper cX0_fillHopper 5 (some .int), Cond.fieldLink RX0 27 "MarbleRamps$Machine" "hopperMarbles" "[I", Cond.methodLink RL 53 yX1_run, Cond.instanceMethod yX1_run, Cond.selects RX1 yX1_run yX1_run, Cond.code yX1_run cX1_run 3 (some .int), Cond.methodLink RX1 70 yX0_runFrom, Cond.instanceMethod yX0_runFrom, Cond.selects RX0 yX0_runFrom yX0_runFrom, Cond.code yX0_runFrom cX0_runFrom 5 (some .int), Cond.methodLink RX0 86 yX0_letFall, Cond.instanceMethod yX0_letFall, Cond.selects RX0 yX0_letFall yX0_letFall, Cond.code yX0_letFall cX0_letFall 3 (some .int), Cond.methodLink RX0 77 yX0_fallTo, Cond.instanceMethod yX0_fallTo, Cond.selects RX0 yX0_fallTo yX0_fallTo, Cond.code yX0_fallTo cX0_fallTo 6 (some .int), Cond.methodLink RX0 80 yX0_wayOut]
def wsL_act_r7 : List Cond := [Cond.instanceMethod yX0_wayOut, Cond.selects RX0 yX0_wayOut yX0_wayOut, Cond.code yX0_wayOut cX0_wayOut 5 (some .int), Cond.methodLink RX0 83 yX0_hasColumn, Cond.methodLink RX0 89 yX0_hopperBehind, Cond.instanceMethod yX0_hopperBehind, Cond.selects RX0 yX0_hopperBehind yX0_hopperBehind, Cond.code yX0_hopperBehind cX0_hopperBehind 3 (some .int), Cond.methodLink RL 56 yX2_run, Cond.instanceMethod yX2_run, Cond.selects RX2 yX2_run yX2_run, Cond.code yX2_run cX2_run 7 (some .int), Cond.fieldLink RX2 21 "MarbleRampsLaw$Sim" "marbles" "[I", Cond.methodLink RX2 41 yX2_drop, Cond.instanceMethod yX2_drop, Cond.selects RX2 yX2_drop yX2_drop, Cond.code yX2_drop cX2_drop 3 (some .int), Cond.methodLink RX2 37 yX2_fall, Cond.instanceMethod yX2_fall, Cond.selects RX2 yX2_fall yX2_fall, Cond.code yX2_fall cX2_fall 7 (some .int), Cond.fieldLink RX2 34 "MarbleRampsLaw$Sim" "turned" "I", Cond.methodLink RL 57 yX1_emptyBins, Cond.instanceMethod yX1_emptyBins]
def wsL_act_r8 : List Cond := [Cond.selects RX1 yX1_emptyBins yX1_emptyBins, Cond.code yX1_emptyBins cX1_emptyBins 2 (some .int), Cond.methodLink RX1 73 yX0_marblesInBins, Cond.instanceMethod yX0_marblesInBins, Cond.selects RX0 yX0_marblesInBins yX0_marblesInBins, Cond.code yX0_marblesInBins cX0_marblesInBins 6 (some .int), Cond.methodLink RX1 77 yX0_clearBins, Cond.methodLink RL 61 yX1_drop, Cond.instanceMethod yX1_drop, Cond.selects RX1 yX1_drop yX1_drop, Cond.code yX1_drop cX1_drop 2 (some .int), Cond.methodLink RX1 67 yX0_letFall, Cond.methodLink RL 65 yX2_drop]
def wsL_act : List Cond := .codeWith yL_act cL_act 12 (some .boolean) [(40, 123, 588, 66), (124, 178, 588, 66), (179, 254, 588, 66), (255, 318, 588, 66), (319, 382, 588, 66), (383, 450, 588, 66), (451, 498, 588, 66), (499, 568, 588, 66), (569, 587, 588, 66)] :: ((wsL_act_r1 ++ (wsL_act_r2 ++ (wsL_act_r3 ++ (wsL_act_r4 ++ (wsL_act_r5 ++ (wsL_act_r6 ++ (wsL_act_r7 ++ wsL_act_r8))))))) ++ wsX20 ++ wsX10 ++ wsX00 ++ (vx_atS RX1 203 "java/lang/IllegalArgumentException" ["java/lang/RuntimeException", "java/lang/Exception"]).filter goodWord ++ (vx_atS RX1 191 "java/lang/IndexOutOfBoundsException" ["java/lang/RuntimeException", "java/lang/Exception"]).filter goodWord ++ (vx_atS RX1 46 "java/lang/IllegalStateException" ["java/lang/RuntimeException", "java/lang/Exception"]).filter goodWord)
def wsL_build_r1 : List Cond := [Cond.classLink RL 10 RX2, Cond.instantiable RX2 6, Cond.initialized RX2, Cond.instanceMethod yX2_init, Cond.code yX2_init cX2_init 1 none, Cond.methodLink RX2 1 objectInit, Cond.instanceMethod objectInit, Cond.code objectInit ⟨#[0xb1]⟩ 1 none, Cond.fieldLink RX2 9 "MarbleRampsLaw$Sim" "board" "[[[I", Cond.arrayClass .int, Cond.fieldLink RX2 14 "MarbleRampsLaw$Sim" "bins" "[I", Cond.fieldLink RX2 18 "MarbleRampsLaw$Sim" "above" "[I", Cond.fieldLink RX2 21 "MarbleRampsLaw$Sim" "marbles" "[I", Cond.methodLink RL 69 yL_cell, Cond.static yL_cell, Cond.initialized RL, Cond.code yL_cell cL_cell 2 (some .int), Cond.constant RL 8 (790386105), Cond.methodLink RL 15 yL_below, Cond.static yL_below, Cond.code yL_below cL_below 2 (some .int), Cond.constant RL 7 (2147483647), Cond.methodLink RL 25 yX2_lay, Cond.instanceMethod yX2_lay]
def wsL_build_r2 : List Cond := [Cond.selects RX2 yX2_lay yX2_lay, Cond.code yX2_lay cX2_lay 3 none, Cond.fieldLink RX2 30 "MarbleRampsLaw$Sim" "lost" "I", Cond.methodLink RL 29 yX1_lay, Cond.instanceMethod yX1_lay, Cond.selects RX1 yX1_lay yX1_lay, Cond.initialized RX1, Cond.code yX1_lay cX1_lay 3 (some .int), Cond.fieldLink RX1 10 "MarbleRamps" "now" "LMarbleRamps$Machine;", Cond.methodLink RX1 19 yX1_needWithin, Cond.static yX1_needWithin, Cond.code yX1_needWithin cX1_needWithin 3 none, Cond.classLink RX1 199 "java/lang/IllegalArgumentException", Cond.initialized "java/lang/IllegalArgumentException", Cond.methodLink RX1 23 yX0_layBoard, Cond.instanceMethod yX0_layBoard, Cond.selects RX0 yX0_layBoard yX0_layBoard, Cond.initialized RX0, Cond.code yX0_layBoard cX0_layBoard 3 none, Cond.fieldLink RX0 34 "MarbleRamps$Machine" "columnCount" "I", Cond.fieldLink RX0 38 "MarbleRamps$Machine" "rowCount" "I", Cond.fieldLink RX0 41 "MarbleRamps$Machine" "lostCount" "I", Cond.fieldLink RX0 9 "MarbleRamps$Machine" "parts" "[I", Cond.fieldLink RX0 15 "MarbleRamps$Machine" "periods" "[I"]
def wsL_build_r3 : List Cond := [Cond.fieldLink RX0 18 "MarbleRamps$Machine" "states" "[I", Cond.fieldLink RX0 24 "MarbleRamps$Machine" "hopperColumns" "[I", Cond.methodLink RX0 44 yJ7_fill_53178, Cond.static yJ7_fill_53178, Cond.initialized RJ7, Cond.code yJ7_fill_53178 cJ7_fill_53178 4 none, Cond.methodLink RX0 50 yX0_clearBins, Cond.instanceMethod yX0_clearBins, Cond.selects RX0 yX0_clearBins yX0_clearBins, Cond.code yX0_clearBins cX0_clearBins 1 none, Cond.fieldLink RX0 21 "MarbleRamps$Machine" "bins" "[I", Cond.static yX1_setCell, Cond.code yX1_setCell cX1_setCell 3 none, Cond.methodLink RL 73 yL_act, Cond.static yL_act, Cond.codeWith yL_act cL_act 12 (some .boolean) [(40, 123, 588, 66), (124, 178, 588, 66), (179, 254, 588, 66), (255, 318, 588, 66), (319, 382, 588, 66), (383, 450, 588, 66), (451, 498, 588, 66), (499, 568, 588, 66), (569, 587, 588, 66)], Cond.classLink RL 66 "java/lang/IllegalStateException", Cond.fieldLink RL 9 "MarbleRampsLaw$Sim" "bins" "[I", Cond.fieldLink RL 21 "MarbleRampsLaw$Sim" "board" "[[[I", Cond.fieldLink RL 44 "MarbleRampsLaw$Sim" "marbles" "[I", Cond.fieldLink RL 47 "MarbleRampsLaw$Sim" "above" "[I", Cond.methodLink RL 33 yX1_put, Cond.instanceMethod yX1_put, Cond.selects RX1 yX1_put yX1_put]
def wsL_build_r4 : List Cond := [Cond.code yX1_put cX1_put 4 (some .int), Cond.methodLink RX1 27 yX1_needPlace, Cond.instanceMethod yX1_needPlace, Cond.selects RX1 yX1_needPlace yX1_needPlace, Cond.code yX1_needPlace cX1_needPlace 3 none, Cond.methodLink RX1 110 yX1_needRow, Cond.instanceMethod yX1_needRow, Cond.selects RX1 yX1_needRow yX1_needRow, Cond.code yX1_needRow cX1_needRow 2 none, Cond.classLink RX1 187 "java/lang/IndexOutOfBoundsException", Cond.initialized "java/lang/IndexOutOfBoundsException", Cond.methodLink RX1 184 yX0_hasRow, Cond.instanceMethod yX0_hasRow, Cond.selects RX0 yX0_hasRow yX0_hasRow, Cond.code yX0_hasRow cX0_hasRow 2 (some .boolean), Cond.methodLink RX1 60 yX1_needColumn, Cond.instanceMethod yX1_needColumn, Cond.selects RX1 yX1_needColumn yX1_needColumn, Cond.code yX1_needColumn cX1_needColumn 2 none, Cond.methodLink RX1 192 yX0_hasColumn, Cond.instanceMethod yX0_hasColumn, Cond.selects RX0 yX0_hasColumn yX0_hasColumn, Cond.code yX0_hasColumn cX0_hasColumn 2 (some .boolean), Cond.methodLink RX1 30 yX0_replacePart]
def wsL_build_r5 : List Cond := [Cond.instanceMethod yX0_replacePart, Cond.selects RX0 yX0_replacePart yX0_replacePart, Cond.code yX0_replacePart cX0_replacePart 7 (some .int), Cond.methodLink RX0 69 yX0_placeOf, Cond.instanceMethod yX0_placeOf, Cond.selects RX0 yX0_placeOf yX0_placeOf, Cond.code yX0_placeOf cX0_placeOf 3 (some .int), Cond.methodLink RX0 65 yX0_partIn, Cond.instanceMethod yX0_partIn, Cond.selects RX0 yX0_partIn yX0_partIn, Cond.code yX0_partIn cX0_partIn 2 (some .int), Cond.static yX1_cell, Cond.code yX1_cell cX1_cell 2 (some .int), Cond.methodLink RL 37 yX1_putCounter, Cond.instanceMethod yX1_putCounter, Cond.selects RX1 yX1_putCounter yX1_putCounter, Cond.code yX1_putCounter cX1_putCounter 4 (some .int), Cond.methodLink RL 40 yX1_turn, Cond.instanceMethod yX1_turn, Cond.selects RX1 yX1_turn yX1_turn, Cond.code yX1_turn cX1_turn 4 (some .boolean), Cond.classLink RX1 42 "java/lang/IllegalStateException", Cond.initialized "java/lang/IllegalStateException", Cond.methodLink RX1 34 yX0_placeOf]
def wsL_build_r6 : List Cond := [Cond.methodLink RX1 38 yX0_partIn, Cond.methodLink RX1 49 yX0_turnOver, Cond.instanceMethod yX0_turnOver, Cond.selects RX0 yX0_turnOver yX0_turnOver, Cond.code yX0_turnOver cX0_turnOver 2 none, Cond.methodLink RX0 73 yX0_isRightToggle, Cond.instanceMethod yX0_isRightToggle, Cond.selects RX0 yX0_isRightToggle yX0_isRightToggle, Cond.code yX0_isRightToggle cX0_isRightToggle 2 (some .boolean), Cond.methodLink RX1 53 yX0_isRightToggle, Cond.methodLink RL 50 yX1_setHopper, Cond.instanceMethod yX1_setHopper, Cond.selects RX1 yX1_setHopper yX1_setHopper, Cond.code yX1_setHopper cX1_setHopper 4 (some .int), Cond.methodLink RX1 57 yX1_needHopper, Cond.static yX1_needHopper, Cond.code yX1_needHopper cX1_needHopper 1 none, Cond.methodLink RX1 63 yX0_fillHopper, Cond.instanceMethod yX0_fillHopper, Cond.selects RX0 yX0_fillHopper yX0_fillHopper, Cond.code yX0_fillHopper cX0_fillHopper 5 (some .int), Cond.fieldLink RX0 27 "MarbleRamps$Machine" "hopperMarbles" "[I", Cond.methodLink RL 53 yX1_run, Cond.instanceMethod yX1_run]
def wsL_build_r7 : List Cond := [Cond.selects RX1 yX1_run yX1_run, Cond.code yX1_run cX1_run 3 (some .int), Cond.methodLink RX1 70 yX0_runFrom, Cond.instanceMethod yX0_runFrom, Cond.selects RX0 yX0_runFrom yX0_runFrom, Cond.code yX0_runFrom cX0_runFrom 5 (some .int), Cond.methodLink RX0 86 yX0_letFall, Cond.instanceMethod yX0_letFall, Cond.selects RX0 yX0_letFall yX0_letFall, Cond.code yX0_letFall cX0_letFall 3 (some .int), Cond.methodLink RX0 77 yX0_fallTo, Cond.instanceMethod yX0_fallTo, Cond.selects RX0 yX0_fallTo yX0_fallTo, Cond.code yX0_fallTo cX0_fallTo 6 (some .int), Cond.methodLink RX0 80 yX0_wayOut, Cond.instanceMethod yX0_wayOut, Cond.selects RX0 yX0_wayOut yX0_wayOut, Cond.code yX0_wayOut cX0_wayOut 5 (some .int), Cond.methodLink RX0 83 yX0_hasColumn, Cond.methodLink RX0 89 yX0_hopperBehind, Cond.instanceMethod yX0_hopperBehind, Cond.selects RX0 yX0_hopperBehind yX0_hopperBehind, Cond.code yX0_hopperBehind cX0_hopperBehind 3 (some .int), Cond.methodLink RL 56 yX2_run]
def wsL_build_r8 : List Cond := [Cond.instanceMethod yX2_run, Cond.selects RX2 yX2_run yX2_run, Cond.code yX2_run cX2_run 7 (some .int), Cond.methodLink RX2 41 yX2_drop, Cond.instanceMethod yX2_drop, Cond.selects RX2 yX2_drop yX2_drop, Cond.code yX2_drop cX2_drop 3 (some .int), Cond.methodLink RX2 37 yX2_fall, Cond.instanceMethod yX2_fall, Cond.selects RX2 yX2_fall yX2_fall, Cond.code yX2_fall cX2_fall 7 (some .int), Cond.fieldLink RX2 34 "MarbleRampsLaw$Sim" "turned" "I", Cond.methodLink RL 57 yX1_emptyBins, Cond.instanceMethod yX1_emptyBins, Cond.selects RX1 yX1_emptyBins yX1_emptyBins, Cond.code yX1_emptyBins cX1_emptyBins 2 (some .int), Cond.methodLink RX1 73 yX0_marblesInBins, Cond.instanceMethod yX0_marblesInBins, Cond.selects RX0 yX0_marblesInBins yX0_marblesInBins, Cond.code yX0_marblesInBins cX0_marblesInBins 6 (some .int), Cond.methodLink RX1 77 yX0_clearBins, Cond.methodLink RL 61 yX1_drop, Cond.instanceMethod yX1_drop, Cond.selects RX1 yX1_drop yX1_drop]
def wsL_build_r9 : List Cond := [Cond.code yX1_drop cX1_drop 2 (some .int), Cond.methodLink RX1 67 yX0_letFall, Cond.methodLink RL 65 yX2_drop]
def wsL_build : List Cond := .code yL_build cL_build 8 (some (.object "MarbleRampsLaw$Sim")) :: ((wsL_build_r1 ++ (wsL_build_r2 ++ (wsL_build_r3 ++ (wsL_build_r4 ++ (wsL_build_r5 ++ (wsL_build_r6 ++ (wsL_build_r7 ++ (wsL_build_r8 ++ wsL_build_r9)))))))) ++ wsX20 ++ wsX10 ++ wsX00 ++ (vx_atS RX1 203 "java/lang/IllegalArgumentException" ["java/lang/RuntimeException", "java/lang/Exception"]).filter goodWord ++ (vx_atS RX1 191 "java/lang/IndexOutOfBoundsException" ["java/lang/RuntimeException", "java/lang/Exception"]).filter goodWord ++ (vx_atS RX1 46 "java/lang/IllegalStateException" ["java/lang/RuntimeException", "java/lang/Exception"]).filter goodWord)
def wsL_law0_r1 : List Cond := [Cond.classLink RL 30 RX1, Cond.instantiable RX1 2, Cond.initialized RX1, Cond.methodLink RL 119 Lib.Math.abs.name, Cond.static Lib.Math.abs.name, Cond.initialized "java/lang/Math", Cond.code Lib.Math.abs.name Lib.Math.abs.code 1 (some .int), Cond.classLink RL 144 "[[I", Cond.arrayClass .int, Cond.methodLink RL 156 Lib.Math.min.name, Cond.static Lib.Math.min.name, Cond.code Lib.Math.min.name Lib.Math.min.code 2 (some .int), Cond.methodLink RL 77 yX1_init, Cond.instanceMethod yX1_init, Cond.code yX1_init cX1_init 1 none, Cond.methodLink RX1 1 objectInit, Cond.instanceMethod objectInit, Cond.code objectInit ⟨#[0xb1]⟩ 1 none, Cond.classLink RX1 7 RX0, Cond.instantiable RX0 9, Cond.initialized RX0, Cond.fieldLink RX1 10 "MarbleRamps" "now" "LMarbleRamps$Machine;", Cond.fieldLink RX1 16 "MarbleRamps" "trial" "LMarbleRamps$Machine;", Cond.methodLink RX1 9 yX0_init]
def wsL_law0_r2 : List Cond := [Cond.instanceMethod yX0_init, Cond.code yX0_init cX0_init 1 none, Cond.methodLink RX0 3 objectInit, Cond.fieldLink RX0 9 "MarbleRamps$Machine" "parts" "[I", Cond.fieldLink RX0 15 "MarbleRamps$Machine" "periods" "[I", Cond.fieldLink RX0 18 "MarbleRamps$Machine" "states" "[I", Cond.fieldLink RX0 21 "MarbleRamps$Machine" "bins" "[I", Cond.fieldLink RX0 24 "MarbleRamps$Machine" "hopperColumns" "[I", Cond.fieldLink RX0 27 "MarbleRamps$Machine" "hopperMarbles" "[I", Cond.methodLink RX0 30 yX0_layBoard, Cond.instanceMethod yX0_layBoard, Cond.selects RX0 yX0_layBoard yX0_layBoard, Cond.code yX0_layBoard cX0_layBoard 3 none, Cond.fieldLink RX0 34 "MarbleRamps$Machine" "columnCount" "I", Cond.fieldLink RX0 38 "MarbleRamps$Machine" "rowCount" "I", Cond.fieldLink RX0 41 "MarbleRamps$Machine" "lostCount" "I", Cond.methodLink RX0 44 yJ7_fill_53178, Cond.static yJ7_fill_53178, Cond.initialized RJ7, Cond.code yJ7_fill_53178 cJ7_fill_53178 4 none, Cond.methodLink RX0 50 yX0_clearBins, Cond.instanceMethod yX0_clearBins, Cond.selects RX0 yX0_clearBins yX0_clearBins, Cond.code yX0_clearBins cX0_clearBins 1 none]
def wsL_law0_r3 : List Cond := [Cond.static yX1_setCell, Cond.code yX1_setCell cX1_setCell 3 none, Cond.methodLink RL 78 yL_build, Cond.static yL_build, Cond.initialized RL, Cond.code yL_build cL_build 8 (some (.object "MarbleRampsLaw$Sim")), Cond.classLink RL 10 RX2, Cond.instantiable RX2 6, Cond.initialized RX2, Cond.instanceMethod yX2_init, Cond.code yX2_init cX2_init 1 none, Cond.methodLink RX2 1 objectInit, Cond.fieldLink RX2 9 "MarbleRampsLaw$Sim" "board" "[[[I", Cond.fieldLink RX2 14 "MarbleRampsLaw$Sim" "bins" "[I", Cond.fieldLink RX2 18 "MarbleRampsLaw$Sim" "above" "[I", Cond.fieldLink RX2 21 "MarbleRampsLaw$Sim" "marbles" "[I", Cond.methodLink RL 69 yL_cell, Cond.static yL_cell, Cond.code yL_cell cL_cell 2 (some .int), Cond.constant RL 8 (790386105), Cond.methodLink RL 15 yL_below, Cond.static yL_below, Cond.code yL_below cL_below 2 (some .int), Cond.constant RL 7 (2147483647)]
def wsL_law0_r4 : List Cond := [Cond.methodLink RL 25 yX2_lay, Cond.instanceMethod yX2_lay, Cond.selects RX2 yX2_lay yX2_lay, Cond.code yX2_lay cX2_lay 3 none, Cond.fieldLink RX2 30 "MarbleRampsLaw$Sim" "lost" "I", Cond.methodLink RL 29 yX1_lay, Cond.instanceMethod yX1_lay, Cond.selects RX1 yX1_lay yX1_lay, Cond.code yX1_lay cX1_lay 3 (some .int), Cond.methodLink RX1 19 yX1_needWithin, Cond.static yX1_needWithin, Cond.code yX1_needWithin cX1_needWithin 3 none, Cond.classLink RX1 199 "java/lang/IllegalArgumentException", Cond.initialized "java/lang/IllegalArgumentException", Cond.methodLink RX1 23 yX0_layBoard, Cond.methodLink RL 73 yL_act, Cond.static yL_act, Cond.codeWith yL_act cL_act 12 (some .boolean) [(40, 123, 588, 66), (124, 178, 588, 66), (179, 254, 588, 66), (255, 318, 588, 66), (319, 382, 588, 66), (383, 450, 588, 66), (451, 498, 588, 66), (499, 568, 588, 66), (569, 587, 588, 66)], Cond.classLink RL 66 "java/lang/IllegalStateException", Cond.fieldLink RL 9 "MarbleRampsLaw$Sim" "bins" "[I", Cond.fieldLink RL 21 "MarbleRampsLaw$Sim" "board" "[[[I", Cond.fieldLink RL 44 "MarbleRampsLaw$Sim" "marbles" "[I", Cond.fieldLink RL 47 "MarbleRampsLaw$Sim" "above" "[I", Cond.methodLink RL 33 yX1_put]
def wsL_law0_r5 : List Cond := [Cond.instanceMethod yX1_put, Cond.selects RX1 yX1_put yX1_put, Cond.code yX1_put cX1_put 4 (some .int), Cond.methodLink RX1 27 yX1_needPlace, Cond.instanceMethod yX1_needPlace, Cond.selects RX1 yX1_needPlace yX1_needPlace, Cond.code yX1_needPlace cX1_needPlace 3 none, Cond.methodLink RX1 110 yX1_needRow, Cond.instanceMethod yX1_needRow, Cond.selects RX1 yX1_needRow yX1_needRow, Cond.code yX1_needRow cX1_needRow 2 none, Cond.classLink RX1 187 "java/lang/IndexOutOfBoundsException", Cond.initialized "java/lang/IndexOutOfBoundsException", Cond.methodLink RX1 184 yX0_hasRow, Cond.instanceMethod yX0_hasRow, Cond.selects RX0 yX0_hasRow yX0_hasRow, Cond.code yX0_hasRow cX0_hasRow 2 (some .boolean), Cond.methodLink RX1 60 yX1_needColumn, Cond.instanceMethod yX1_needColumn, Cond.selects RX1 yX1_needColumn yX1_needColumn, Cond.code yX1_needColumn cX1_needColumn 2 none, Cond.methodLink RX1 192 yX0_hasColumn, Cond.instanceMethod yX0_hasColumn, Cond.selects RX0 yX0_hasColumn yX0_hasColumn]
def wsL_law0_r6 : List Cond := [Cond.code yX0_hasColumn cX0_hasColumn 2 (some .boolean), Cond.methodLink RX1 30 yX0_replacePart, Cond.instanceMethod yX0_replacePart, Cond.selects RX0 yX0_replacePart yX0_replacePart, Cond.code yX0_replacePart cX0_replacePart 7 (some .int), Cond.methodLink RX0 69 yX0_placeOf, Cond.instanceMethod yX0_placeOf, Cond.selects RX0 yX0_placeOf yX0_placeOf, Cond.code yX0_placeOf cX0_placeOf 3 (some .int), Cond.methodLink RX0 65 yX0_partIn, Cond.instanceMethod yX0_partIn, Cond.selects RX0 yX0_partIn yX0_partIn, Cond.code yX0_partIn cX0_partIn 2 (some .int), Cond.static yX1_cell, Cond.code yX1_cell cX1_cell 2 (some .int), Cond.methodLink RL 37 yX1_putCounter, Cond.instanceMethod yX1_putCounter, Cond.selects RX1 yX1_putCounter yX1_putCounter, Cond.code yX1_putCounter cX1_putCounter 4 (some .int), Cond.methodLink RL 40 yX1_turn, Cond.instanceMethod yX1_turn, Cond.selects RX1 yX1_turn yX1_turn, Cond.code yX1_turn cX1_turn 4 (some .boolean), Cond.classLink RX1 42 "java/lang/IllegalStateException"]
def wsL_law0_r7 : List Cond := [Cond.initialized "java/lang/IllegalStateException", Cond.methodLink RX1 34 yX0_placeOf, Cond.methodLink RX1 38 yX0_partIn, Cond.methodLink RX1 49 yX0_turnOver, Cond.instanceMethod yX0_turnOver, Cond.selects RX0 yX0_turnOver yX0_turnOver, Cond.code yX0_turnOver cX0_turnOver 2 none, Cond.methodLink RX0 73 yX0_isRightToggle, Cond.instanceMethod yX0_isRightToggle, Cond.selects RX0 yX0_isRightToggle yX0_isRightToggle, Cond.code yX0_isRightToggle cX0_isRightToggle 2 (some .boolean), Cond.methodLink RX1 53 yX0_isRightToggle, Cond.methodLink RL 50 yX1_setHopper, Cond.instanceMethod yX1_setHopper, Cond.selects RX1 yX1_setHopper yX1_setHopper, Cond.code yX1_setHopper cX1_setHopper 4 (some .int), Cond.methodLink RX1 57 yX1_needHopper, Cond.static yX1_needHopper, Cond.code yX1_needHopper cX1_needHopper 1 none, Cond.methodLink RX1 63 yX0_fillHopper, Cond.instanceMethod yX0_fillHopper, Cond.selects RX0 yX0_fillHopper yX0_fillHopper, Cond.code yX0_fillHopper cX0_fillHopper 5 (some .int), Cond.methodLink RL 53 yX1_run]
def wsL_law0_r8 : List Cond := [Cond.instanceMethod yX1_run, Cond.selects RX1 yX1_run yX1_run, Cond.code yX1_run cX1_run 3 (some .int), Cond.methodLink RX1 70 yX0_runFrom, Cond.instanceMethod yX0_runFrom, Cond.selects RX0 yX0_runFrom yX0_runFrom, Cond.code yX0_runFrom cX0_runFrom 5 (some .int), Cond.methodLink RX0 86 yX0_letFall, Cond.instanceMethod yX0_letFall, Cond.selects RX0 yX0_letFall yX0_letFall, Cond.code yX0_letFall cX0_letFall 3 (some .int), Cond.methodLink RX0 77 yX0_fallTo, Cond.instanceMethod yX0_fallTo, Cond.selects RX0 yX0_fallTo yX0_fallTo, Cond.code yX0_fallTo cX0_fallTo 6 (some .int), Cond.methodLink RX0 80 yX0_wayOut, Cond.instanceMethod yX0_wayOut, Cond.selects RX0 yX0_wayOut yX0_wayOut, Cond.code yX0_wayOut cX0_wayOut 5 (some .int), Cond.methodLink RX0 83 yX0_hasColumn, Cond.methodLink RX0 89 yX0_hopperBehind, Cond.instanceMethod yX0_hopperBehind, Cond.selects RX0 yX0_hopperBehind yX0_hopperBehind, Cond.code yX0_hopperBehind cX0_hopperBehind 3 (some .int)]
def wsL_law0_r9 : List Cond := [Cond.methodLink RL 56 yX2_run, Cond.instanceMethod yX2_run, Cond.selects RX2 yX2_run yX2_run, Cond.code yX2_run cX2_run 7 (some .int), Cond.methodLink RX2 41 yX2_drop, Cond.instanceMethod yX2_drop, Cond.selects RX2 yX2_drop yX2_drop, Cond.code yX2_drop cX2_drop 3 (some .int), Cond.methodLink RX2 37 yX2_fall, Cond.instanceMethod yX2_fall, Cond.selects RX2 yX2_fall yX2_fall, Cond.code yX2_fall cX2_fall 7 (some .int), Cond.fieldLink RX2 34 "MarbleRampsLaw$Sim" "turned" "I", Cond.methodLink RL 57 yX1_emptyBins, Cond.instanceMethod yX1_emptyBins, Cond.selects RX1 yX1_emptyBins yX1_emptyBins, Cond.code yX1_emptyBins cX1_emptyBins 2 (some .int), Cond.methodLink RX1 73 yX0_marblesInBins, Cond.instanceMethod yX0_marblesInBins, Cond.selects RX0 yX0_marblesInBins yX0_marblesInBins, Cond.code yX0_marblesInBins cX0_marblesInBins 6 (some .int), Cond.methodLink RX1 77 yX0_clearBins, Cond.methodLink RL 61 yX1_drop, Cond.instanceMethod yX1_drop]
def wsL_law0_r10 : List Cond := [Cond.selects RX1 yX1_drop yX1_drop, Cond.code yX1_drop cX1_drop 2 (some .int), Cond.methodLink RX1 67 yX0_letFall, Cond.methodLink RL 65 yX2_drop, Cond.methodLink RL 82 yX1_digest, Cond.instanceMethod yX1_digest, Cond.selects RX1 yX1_digest yX1_digest, Cond.code yX1_digest cX1_digest 5 (some .long), Cond.constantLong RX1 137 (2239), Cond.constantLong RX1 139 (31), Cond.methodLink RX1 131 yX1_columns, Cond.instanceMethod yX1_columns, Cond.selects RX1 yX1_columns yX1_columns, Cond.code yX1_columns cX1_columns 1 (some .int), Cond.fieldLink RX1 80 "MarbleRamps$Machine" "columnCount" "I", Cond.methodLink RX1 141 yX1_rows, Cond.instanceMethod yX1_rows, Cond.selects RX1 yX1_rows yX1_rows, Cond.code yX1_rows cX1_rows 1 (some .int), Cond.fieldLink RX1 84 "MarbleRamps$Machine" "rowCount" "I", Cond.methodLink RX1 144 yX1_lost, Cond.instanceMethod yX1_lost, Cond.selects RX1 yX1_lost yX1_lost, Cond.code yX1_lost cX1_lost 1 (some .int)]
def wsL_law0_r11 : List Cond := [Cond.fieldLink RX1 98 "MarbleRamps$Machine" "lostCount" "I", Cond.methodLink RX1 147 yX1_toggles, Cond.instanceMethod yX1_toggles, Cond.selects RX1 yX1_toggles yX1_toggles, Cond.code yX1_toggles cX1_toggles 1 (some .int), Cond.methodLink RX1 107 yX0_countToggles, Cond.instanceMethod yX0_countToggles, Cond.selects RX0 yX0_countToggles yX0_countToggles, Cond.code yX0_countToggles cX0_countToggles 6 (some .int), Cond.methodLink RX1 150 yX1_bestColumn, Cond.instanceMethod yX1_bestColumn, Cond.selects RX1 yX1_bestColumn yX1_bestColumn, Cond.code yX1_bestColumn cX1_bestColumn 5 (some .int), Cond.methodLink RX1 134 yX1_wouldTurn, Cond.instanceMethod yX1_wouldTurn, Cond.selects RX1 yX1_wouldTurn yX1_wouldTurn, Cond.code yX1_wouldTurn cX1_wouldTurn 2 (some .int), Cond.methodLink RX1 116 yX0_becomeLike, Cond.instanceMethod yX0_becomeLike, Cond.selects RX0 yX0_becomeLike yX0_becomeLike, Cond.code yX0_becomeLike cX0_becomeLike 2 none, Cond.static yX1_copyCells, Cond.code yX1_copyCells cX1_copyCells 3 none, Cond.methodLink RX1 204 yX1_setCell]
def wsL_law0_r12 : List Cond := [Cond.methodLink RX1 123 yX0_togglesUnlike, Cond.instanceMethod yX0_togglesUnlike, Cond.selects RX0 yX0_togglesUnlike yX0_togglesUnlike, Cond.code yX0_togglesUnlike cX0_togglesUnlike 4 (some .int), Cond.methodLink RX1 153 yX1_marblesIn, Cond.instanceMethod yX1_marblesIn, Cond.selects RX1 yX1_marblesIn yX1_marblesIn, Cond.code yX1_marblesIn cX1_marblesIn 2 (some .int), Cond.fieldLink RX1 101 "MarbleRamps$Machine" "hopperMarbles" "[I", Cond.methodLink RX1 94 yX1_cell, Cond.methodLink RX1 156 yX1_columnOf, Cond.instanceMethod yX1_columnOf, Cond.selects RX1 yX1_columnOf yX1_columnOf, Cond.code yX1_columnOf cX1_columnOf 2 (some .int), Cond.fieldLink RX1 104 "MarbleRamps$Machine" "hopperColumns" "[I", Cond.methodLink RX1 159 yX1_wouldRun, Cond.instanceMethod yX1_wouldRun, Cond.selects RX1 yX1_wouldRun yX1_wouldRun, Cond.code yX1_wouldRun cX1_wouldRun 2 (some .int), Cond.methodLink RX1 162 yX1_numberIn, Cond.instanceMethod yX1_numberIn, Cond.selects RX1 yX1_numberIn yX1_numberIn, Cond.code yX1_numberIn cX1_numberIn 2 (some .int), Cond.methodLink RX1 113 yX0_numberToldBy]
def wsL_law0_r13 : List Cond := [Cond.instanceMethod yX0_numberToldBy, Cond.selects RX0 yX0_numberToldBy yX0_numberToldBy, Cond.code yX0_numberToldBy cX0_numberToldBy 6 (some .int), Cond.methodLink RX1 165 yX1_partAt, Cond.instanceMethod yX1_partAt, Cond.selects RX1 yX1_partAt yX1_partAt, Cond.code yX1_partAt cX1_partAt 3 (some .int), Cond.methodLink RX1 168 yX1_leadsRight, Cond.instanceMethod yX1_leadsRight, Cond.selects RX1 yX1_leadsRight yX1_leadsRight, Cond.code yX1_leadsRight cX1_leadsRight 3 (some .boolean), Cond.methodLink RX1 172 yX1_countAt, Cond.instanceMethod yX1_countAt, Cond.selects RX1 yX1_countAt yX1_countAt, Cond.code yX1_countAt cX1_countAt 3 (some .int), Cond.methodLink RX1 87 yX0_countedIn, Cond.instanceMethod yX0_countedIn, Cond.selects RX0 yX0_countedIn yX0_countedIn, Cond.code yX0_countedIn cX0_countedIn 2 (some .int), Cond.methodLink RX1 175 yX1_binOf, Cond.instanceMethod yX1_binOf, Cond.selects RX1 yX1_binOf yX1_binOf, Cond.code yX1_binOf cX1_binOf 2 (some .int), Cond.fieldLink RX1 90 "MarbleRamps$Machine" "bins" "[I"]
def wsL_law0_r14 : List Cond := [Cond.methodLink RX1 178 yX1_wouldLand, Cond.instanceMethod yX1_wouldLand, Cond.selects RX1 yX1_wouldLand yX1_wouldLand, Cond.code yX1_wouldLand cX1_wouldLand 2 (some .int), Cond.methodLink RX1 181 yX1_asBeforeIn, Cond.instanceMethod yX1_asBeforeIn, Cond.selects RX1 yX1_asBeforeIn yX1_asBeforeIn, Cond.code yX1_asBeforeIn cX1_asBeforeIn 3 (some .int), Cond.methodLink RX1 127 yX0_hasStatesOf, Cond.instanceMethod yX0_hasStatesOf, Cond.selects RX0 yX0_hasStatesOf yX0_hasStatesOf, Cond.code yX0_hasStatesOf cX0_hasStatesOf 3 (some .boolean), Cond.methodLink RL 86 yX1_columns, Cond.methodLink RL 89 yX1_rows, Cond.methodLink RL 92 yX1_partAt, Cond.methodLink RL 95 yX1_leadsRight, Cond.methodLink RL 98 yX1_countAt, Cond.methodLink RL 101 yX1_numberIn, Cond.methodLink RL 104 yX1_bestColumn, Cond.methodLink RL 107 yX1_toggles, Cond.methodLink RL 110 yX1_wouldBeIn, Cond.instanceMethod yX1_wouldBeIn, Cond.selects RX1 yX1_wouldBeIn yX1_wouldBeIn, Cond.code yX1_wouldBeIn cX1_wouldBeIn 3 (some .int)]
def wsL_law0_r15 : List Cond := [Cond.methodLink RX1 120 yX0_fallTo, Cond.methodLink RL 113 yX1_wouldTurn, Cond.methodLink RL 116 yX1_wouldLand, Cond.methodLink RL 124 yX1_asBeforeIn, Cond.methodLink RL 127 yX1_lastLands, Cond.instanceMethod yX1_lastLands, Cond.selects RX1 yX1_lastLands yX1_lastLands, Cond.code yX1_lastLands cX1_lastLands 5 (some .int), Cond.methodLink RL 130 yX2_copy, Cond.instanceMethod yX2_copy, Cond.selects RX2 yX2_copy yX2_copy, Cond.code yX2_copy cX2_copy 5 (some (.object "MarbleRampsLaw$Sim")), Cond.classLink RX2 10 RX2, Cond.methodLink RX2 25 ⟨"[I", "clone", "()Ljava/lang/Object;"⟩, Cond.sameMethod "[I" "java/lang/Object" "clone" "()Ljava/lang/Object;", Cond.native ⟨"java/lang/Object", "clone", "()Ljava/lang/Object;"⟩, Cond.instanceMethod ⟨"java/lang/Object", "clone", "()Ljava/lang/Object;"⟩, Cond.selects "[I" ⟨"[I", "clone", "()Ljava/lang/Object;"⟩ ⟨"java/lang/Object", "clone", "()Ljava/lang/Object;"⟩, Cond.classLink RX2 26 "[I", Cond.methodLink RX2 24 yX2_init, Cond.methodLink RL 134 yX1_lost, Cond.methodLink RL 137 yX1_binOf, Cond.methodLink RL 140 yX1_meanInBins, Cond.instanceMethod yX1_meanInBins]
def wsL_law0_r16 : List Cond := [Cond.selects RX1 yX1_meanInBins yX1_meanInBins, Cond.code yX1_meanInBins cX1_meanInBins 2 (some .double), Cond.methodLink RL 146 yX2_hasSame, Cond.instanceMethod yX2_hasSame, Cond.selects RX2 yX2_hasSame yX2_hasSame, Cond.code yX2_hasSame cX2_hasSame 4 (some .boolean), Cond.methodLink RL 150 yX1_wouldRun, Cond.methodLink RL 153 yX1_marblesIn, Cond.methodLink RL 159 yX2_isSame, Cond.instanceMethod yX2_isSame, Cond.selects RX2 yX2_isSame yX2_isSame, Cond.code yX2_isSame cX2_isSame 10 (some .boolean), Cond.methodLink RX2 45 yX1_partAt, Cond.methodLink RX2 50 yX1_leadsRight, Cond.methodLink RX2 54 yX1_countAt, Cond.methodLink RX2 57 yX1_numberIn, Cond.methodLink RX2 60 yX1_binOf, Cond.methodLink RX2 63 yX1_marblesIn, Cond.methodLink RX2 66 yX1_columnOf, Cond.methodLink RX2 69 yX1_columns, Cond.methodLink RX2 73 yX1_rows, Cond.methodLink RX2 76 yX1_lost, Cond.methodLink RX2 78 yX1_toggles, Cond.methodLink RX2 81 yX1_meanInBins]
def wsL_law0 : List Cond := (wsL_law0_r1 ++ (wsL_law0_r2 ++ (wsL_law0_r3 ++ (wsL_law0_r4 ++ (wsL_law0_r5 ++ (wsL_law0_r6 ++ (wsL_law0_r7 ++ (wsL_law0_r8 ++ (wsL_law0_r9 ++ (wsL_law0_r10 ++ (wsL_law0_r11 ++ (wsL_law0_r12 ++ (wsL_law0_r13 ++ (wsL_law0_r14 ++ (wsL_law0_r15 ++ wsL_law0_r16))))))))))))))) ++ wsX10 ++ wsX00 ++ wsX20 ++ ([] : List Cond)
def wsL_law : List Cond := wsL_law0 ++ (vx_atS RX1 203 "java/lang/IllegalArgumentException" ["java/lang/RuntimeException", "java/lang/Exception"]).filter goodWord ++ (vx_atS RX1 191 "java/lang/IndexOutOfBoundsException" ["java/lang/RuntimeException", "java/lang/Exception"]).filter goodWord ++ (vx_atS RX1 46 "java/lang/IllegalStateException" ["java/lang/RuntimeException", "java/lang/Exception"]).filter goodWord
end
section
theorem mem_pos {big ws : List Cond} (ps : List Nat) (h : ws.map some = ps.map (fun i => big[i]?)) : ∀ w ∈ ws, w ∈ big := by
  intro w hw
  have h1 : some w ∈ ws.map some := List.mem_map_of_mem hw
  rw [h] at h1
  obtain ⟨i, -, hi⟩ := List.mem_map.mp h1
  exact List.mem_of_getElem? hi
set_option maxRecDepth 20000 in
theorem wsL_law_in0_r1 : ∀ w ∈ wsL_law0_r1, w ∈ lw_tbl := mem_pos [16, 17, 5, 528, 529, 15, 530, 534, 78, 531, 532, 533, 18, 19, 20, 21, 22, 23, 24, 25, 6, 79, 80, 26] (by decide +kernel)
set_option maxRecDepth 20000 in
theorem wsL_law_in0_r2 : ∀ w ∈ wsL_law0_r2, w ∈ lw_tbl := mem_pos [27, 28, 29, 44, 45, 46, 47, 49, 51, 30, 31, 32, 33, 53, 55, 57, 34, 35, 7, 36, 37, 38, 39, 40] (by decide +kernel)
set_option maxRecDepth 20000 in
theorem wsL_law_in0_r3 : ∀ w ∈ wsL_law0_r3, w ∈ lw_tbl := mem_pos [42, 43, 523, 524, 4, 525, 526, 382, 8, 384, 385, 386, 390, 392, 395, 397, 457, 458, 459, 460, 453, 454, 455, 456] (by decide +kernel)
set_option maxRecDepth 20000 in
theorem wsL_law_in0_r4 : ∀ w ∈ wsL_law0_r4, w ∈ lw_tbl := mem_pos [465, 466, 467, 468, 394, 469, 470, 471, 472, 194, 195, 196, 197, 12, 473, 461, 462, 463, 464, 393, 391, 398, 396, 474] (by decide +kernel)
set_option maxRecDepth 20000 in
theorem wsL_law_in0_r5 : ∀ w ∈ wsL_law0_r5, w ∈ lw_tbl := mem_pos [475, 476, 477, 234, 236, 2, 237, 238, 240, 3, 241, 98, 13, 242, 243, 244, 245, 90, 92, 0, 93, 94, 95, 96] (by decide +kernel)
set_option maxRecDepth 20000 in
theorem wsL_law_in0_r6 : ∀ w ∈ wsL_law0_r6, w ∈ lw_tbl := mem_pos [97, 478, 479, 480, 481, 174, 175, 176, 177, 260, 249, 250, 251, 183, 184, 482, 483, 484, 485, 486, 487, 488, 489, 490] (by decide +kernel)
set_option maxRecDepth 20000 in
theorem wsL_law_in0_r7 : ∀ w ∈ wsL_law0_r7, w ∈ lw_tbl := mem_pos [14, 247, 248, 506, 507, 508, 509, 298, 257, 258, 259, 256, 510, 511, 512, 513, 190, 191, 192, 514, 515, 516, 517, 186] (by decide +kernel)
set_option maxRecDepth 20000 in
theorem wsL_law_in0_r8 : ∀ w ∈ wsL_law0_r8, w ∈ lw_tbl := mem_pos [187, 188, 189, 213, 214, 215, 216, 217, 167, 168, 169, 170, 171, 172, 173, 178, 179, 180, 181, 185, 218, 219, 220, 221] (by decide +kernel)
set_option maxRecDepth 20000 in
theorem wsL_law_in0_r9 : ∀ w ∈ wsL_law0_r9, w ∈ lw_tbl := mem_pos [428, 429, 430, 431, 432, 421, 422, 423, 424, 425, 426, 427, 399, 518, 519, 520, 521, 350, 351, 352, 353, 522, 86, 87] (by decide +kernel)
set_option maxRecDepth 20000 in
theorem wsL_law_in0_r10 : ∀ w ∈ wsL_law0_r10, w ∈ lw_tbl := mem_pos [88, 89, 166, 420, 354, 355, 356, 357, 358, 359, 344, 223, 224, 225, 54, 360, 227, 228, 229, 56, 361, 275, 276, 277] (by decide +kernel)
set_option maxRecDepth 20000 in
theorem wsL_law_in0_r11 : ∀ w ∈ wsL_law0_r11, w ∈ lw_tbl := mem_pos [58, 362, 283, 284, 285, 286, 287, 288, 289, 363, 341, 342, 343, 345, 317, 318, 319, 303, 304, 305, 306, 308, 309, 310] (by decide +kernel)
set_option maxRecDepth 20000 in
theorem wsL_law_in0_r12 : ∀ w ∈ wsL_law0_r12, w ∈ lw_tbl := mem_pos [320, 321, 322, 323, 364, 279, 280, 281, 52, 273, 365, 366, 367, 368, 50, 369, 337, 338, 339, 370, 291, 292, 293, 294] (by decide +kernel)
set_option maxRecDepth 20000 in
theorem wsL_law_in0_r13 : ∀ w ∈ wsL_law0_r13, w ∈ lw_tbl := mem_pos [295, 296, 297, 371, 231, 232, 233, 372, 253, 254, 255, 373, 262, 263, 264, 265, 266, 267, 268, 374, 270, 271, 272, 48] (by decide +kernel)
set_option maxRecDepth 20000 in
theorem wsL_law_in0_r14 : ∀ w ∈ wsL_law0_r14, w ∈ lw_tbl := mem_pos [375, 300, 301, 302, 376, 329, 330, 331, 332, 333, 334, 335, 222, 226, 230, 252, 261, 290, 340, 282, 311, 312, 313, 314] (by decide +kernel)
set_option maxRecDepth 20000 in
theorem wsL_law_in0_r15 : ∀ w ∈ wsL_law0_r15, w ∈ lw_tbl := mem_pos [315, 316, 299, 328, 324, 325, 326, 327, 377, 378, 379, 380, 381, 413, 414, 415, 416, 417, 419, 383, 274, 269, 346, 347] (by decide +kernel)
set_option maxRecDepth 20000 in
theorem wsL_law_in0_r16 : ∀ w ∈ wsL_law0_r16, w ∈ lw_tbl := mem_pos [348, 349, 433, 434, 435, 436, 336, 278, 437, 438, 439, 440, 441, 442, 443, 444, 445, 446, 447, 448, 449, 450, 451, 452] (by decide +kernel)
theorem wsX00_tbl : ∀ w ∈ wsX00, w ∈ lw_tbl := mem_pos [59, 61, 63, 65, 67, 69, 71, 73, 75] (by decide +kernel)
theorem wsX10_tbl : ∀ w ∈ wsX10, w ∈ lw_tbl := mem_pos [81, 83] (by decide +kernel)
theorem wsX20_tbl : ∀ w ∈ wsX20, w ∈ lw_tbl := mem_pos [400, 402, 404, 406, 408, 410] (by decide +kernel)
theorem wsL_law_in0 : ∀ w ∈ wsL_law0, w ∈ lw_tbl := fun w h => (List.mem_append.mp h).elim (fun h => (List.mem_append.mp h).elim (fun h => (List.mem_append.mp h).elim (fun h => (List.mem_append.mp h).elim (fun h => (List.mem_append.mp h).elim (fun h => wsL_law_in0_r1 w h) (fun h => (List.mem_append.mp h).elim (fun h => wsL_law_in0_r2 w h) (fun h => (List.mem_append.mp h).elim (fun h => wsL_law_in0_r3 w h) (fun h => (List.mem_append.mp h).elim (fun h => wsL_law_in0_r4 w h) (fun h => (List.mem_append.mp h).elim (fun h => wsL_law_in0_r5 w h) (fun h => (List.mem_append.mp h).elim (fun h => wsL_law_in0_r6 w h) (fun h => (List.mem_append.mp h).elim (fun h => wsL_law_in0_r7 w h) (fun h => (List.mem_append.mp h).elim (fun h => wsL_law_in0_r8 w h) (fun h => (List.mem_append.mp h).elim (fun h => wsL_law_in0_r9 w h) (fun h => (List.mem_append.mp h).elim (fun h => wsL_law_in0_r10 w h) (fun h => (List.mem_append.mp h).elim (fun h => wsL_law_in0_r11 w h) (fun h => (List.mem_append.mp h).elim (fun h => wsL_law_in0_r12 w h) (fun h => (List.mem_append.mp h).elim (fun h => wsL_law_in0_r13 w h) (fun h => (List.mem_append.mp h).elim (fun h => wsL_law_in0_r14 w h) (fun h => (List.mem_append.mp h).elim (fun h => wsL_law_in0_r15 w h) (fun h => wsL_law_in0_r16 w h)))))))))))))))) (fun h => wsX10_tbl w h)) (fun h => wsX00_tbl w h)) (fun h => wsX20_tbl w h)) (fun h => absurd h List.not_mem_nil)
theorem wsL_law_x0 : ∀ w ∈ (vx_atS RX1 203 "java/lang/IllegalArgumentException" ["java/lang/RuntimeException", "java/lang/Exception"]).filter goodWord, w ∈ lw_tbl := by decide +kernel
theorem wsL_law_x1 : ∀ w ∈ (vx_atS RX1 191 "java/lang/IndexOutOfBoundsException" ["java/lang/RuntimeException", "java/lang/Exception"]).filter goodWord, w ∈ lw_tbl := by decide +kernel
theorem wsL_law_x2 : ∀ w ∈ (vx_atS RX1 46 "java/lang/IllegalStateException" ["java/lang/RuntimeException", "java/lang/Exception"]).filter goodWord, w ∈ lw_tbl := by decide +kernel
theorem wsL_law_in : ∀ w ∈ wsL_law, w ∈ lw_tbl := fun w h => (List.mem_append.mp h).elim (fun h => (List.mem_append.mp h).elim (fun h => (List.mem_append.mp h).elim (fun h => wsL_law_in0 w h) (fun h => wsL_law_x0 w h)) (fun h => wsL_law_x1 w h)) (fun h => wsL_law_x2 w h)
theorem inlX0 : ∀ w ∈ wsX00, w ∈ wsL_law := fun _ h => List.mem_append_left _ (List.mem_append_left _ (List.mem_append_left _ (List.mem_append_left _ (List.mem_append_left _ (List.mem_append_right _ h)))))
theorem inX0 : ∀ w ∈ wsX00, w ∈ lw_tbl := fun w h => wsL_law_in w (inlX0 w h)
theorem inlX1 : ∀ w ∈ wsX10, w ∈ wsL_law := fun _ h => List.mem_append_left _ (List.mem_append_left _ (List.mem_append_left _ (List.mem_append_left _ (List.mem_append_left _ (List.mem_append_left _ (List.mem_append_right _ h))))))
theorem inX1 : ∀ w ∈ wsX10, w ∈ lw_tbl := fun w h => wsL_law_in w (inlX1 w h)
theorem inlX2 : ∀ w ∈ wsX20, w ∈ wsL_law := fun _ h => List.mem_append_left _ (List.mem_append_left _ (List.mem_append_left _ (List.mem_append_left _ (List.mem_append_right _ h))))
theorem inX2 : ∀ w ∈ wsX20, w ∈ lw_tbl := fun w h => wsL_law_in w (inlX2 w h)
theorem inX3 : ∀ w ∈ wsX30, w ∈ lw_tbl := by decide +kernel
theorem inJx145de : ∀ w ∈ wsJx145de0, w ∈ lw_tbl := by decide +kernel
theorem inJx8e188 : ∀ w ∈ wsJx8e1880, w ∈ lw_tbl := by decide +kernel
theorem inJ9 : ∀ w ∈ wsJ90, w ∈ lw_tbl := by decide +kernel
theorem inJ0 : ∀ w ∈ wsJ00, w ∈ lw_tbl := by decide +kernel
theorem inJ7 : ∀ w ∈ wsJ70, w ∈ lw_tbl := by decide +kernel
end
section
theorem dJ9_abs_0f7a4_0 : decode cJ9_abs_0f7a4 0 = .ok (.iload_n 0, 1) := by decide +kernel
theorem dJ9_abs_0f7a4_1 : decode cJ9_abs_0f7a4 1 = .ok (.ifCond .ge 8, 3) := by decide +kernel
theorem dJ9_abs_0f7a4_4 : decode cJ9_abs_0f7a4 4 = .ok (.iload_n 0, 1) := by decide +kernel
theorem dJ9_abs_0f7a4_5 : decode cJ9_abs_0f7a4 5 = .ok (.ineg, 1) := by decide +kernel
theorem dJ9_abs_0f7a4_6 : decode cJ9_abs_0f7a4 6 = .ok (.goto 4, 3) := by decide +kernel
theorem dJ9_abs_0f7a4_9 : decode cJ9_abs_0f7a4 9 = .ok (.iload_n 0, 1) := by decide +kernel
theorem dJ9_abs_0f7a4_10 : decode cJ9_abs_0f7a4 10 = .ok (.ireturn, 1) := by decide +kernel
theorem dJ9_min_7cf53_0 : decode cJ9_min_7cf53 0 = .ok (.iload_n 0, 1) := by decide +kernel
theorem dJ9_min_7cf53_1 : decode cJ9_min_7cf53 1 = .ok (.iload_n 1, 1) := by decide +kernel
theorem dJ9_min_7cf53_2 : decode cJ9_min_7cf53 2 = .ok (.if_icmp .gt 7, 3) := by decide +kernel
theorem dJ9_min_7cf53_5 : decode cJ9_min_7cf53 5 = .ok (.iload_n 0, 1) := by decide +kernel
theorem dJ9_min_7cf53_6 : decode cJ9_min_7cf53 6 = .ok (.goto 4, 3) := by decide +kernel
theorem dJ9_min_7cf53_9 : decode cJ9_min_7cf53 9 = .ok (.iload_n 1, 1) := by decide +kernel
theorem dJ9_min_7cf53_10 : decode cJ9_min_7cf53 10 = .ok (.ireturn, 1) := by decide +kernel
theorem dJ7_fill_53178_0 : decode cJ7_fill_53178 0 = .ok (.iconst 0, 1) := by decide +kernel
theorem dJ7_fill_53178_1 : decode cJ7_fill_53178 1 = .ok (.istore_n 2, 1) := by decide +kernel
theorem dJ7_fill_53178_2 : decode cJ7_fill_53178 2 = .ok (.aload_n 0, 1) := by decide +kernel
theorem dJ7_fill_53178_3 : decode cJ7_fill_53178 3 = .ok (.arraylength, 1) := by decide +kernel
theorem dJ7_fill_53178_4 : decode cJ7_fill_53178 4 = .ok (.istore_n 3, 1) := by decide +kernel
theorem dJ7_fill_53178_5 : decode cJ7_fill_53178 5 = .ok (.iload_n 2, 1) := by decide +kernel
theorem dJ7_fill_53178_6 : decode cJ7_fill_53178 6 = .ok (.iload_n 3, 1) := by decide +kernel
theorem dJ7_fill_53178_7 : decode cJ7_fill_53178 7 = .ok (.if_icmp .ge 13, 3) := by decide +kernel
theorem dJ7_fill_53178_10 : decode cJ7_fill_53178 10 = .ok (.aload_n 0, 1) := by decide +kernel
theorem dJ7_fill_53178_11 : decode cJ7_fill_53178 11 = .ok (.iload_n 2, 1) := by decide +kernel
theorem dJ7_fill_53178_12 : decode cJ7_fill_53178 12 = .ok (.iload_n 1, 1) := by decide +kernel
theorem dJ7_fill_53178_13 : decode cJ7_fill_53178 13 = .ok (.iastore, 1) := by decide +kernel
theorem dJ7_fill_53178_14 : decode cJ7_fill_53178 14 = .ok (.iinc 2 1, 3) := by decide +kernel
theorem dJ7_fill_53178_17 : decode cJ7_fill_53178 17 = .ok (.goto (-12), 3) := by decide +kernel
theorem dJ7_fill_53178_20 : decode cJ7_fill_53178 20 = .ok (.return_, 1) := by decide +kernel
set_option maxRecDepth 20000 in
theorem ggX0_init_X0_layBoard : GoodIn wsX0_init wsX0_layBoard := goodIn_r _ [15, 16, 17, 18, 5, 6, 7, 9, 19, 20, 21, 22, 23, 24, 25, 14, 26, 8, 27, 28, 29, 30, 31, 32, 33, 34, 35, 36, 37, 38] (by decide +kernel) (by decide +kernel)
set_option maxRecDepth 20000 in
theorem gX0_init_X0_layBoard : GoodIn wsX0_init (wsV RX0 30 RX0 yX0_layBoard wsX0_layBoard) := goodIn_app (goodIn_of _ (by decide +kernel)) ggX0_init_X0_layBoard
theorem dX0_init_0 : decode cX0_init 0 = .ok (.aload_n 0, 1) := by decide +kernel
theorem dX0_init_1 : decode cX0_init 1 = .ok (.invokespecial 3, 3) := by decide +kernel
theorem dX0_init_4 : decode cX0_init 4 = .ok (.aload_n 0, 1) := by decide +kernel
theorem dX0_init_5 : decode cX0_init 5 = .ok (.bipush 72, 2) := by decide +kernel
theorem dX0_init_7 : decode cX0_init 7 = .ok (.newarray .int, 2) := by decide +kernel
theorem dX0_init_9 : decode cX0_init 9 = .ok (.putfield 9, 3) := by decide +kernel
theorem dX0_init_12 : decode cX0_init 12 = .ok (.aload_n 0, 1) := by decide +kernel
theorem dX0_init_13 : decode cX0_init 13 = .ok (.bipush 72, 2) := by decide +kernel
theorem dX0_init_15 : decode cX0_init 15 = .ok (.newarray .int, 2) := by decide +kernel
theorem dX0_init_17 : decode cX0_init 17 = .ok (.putfield 15, 3) := by decide +kernel
theorem dX0_init_20 : decode cX0_init 20 = .ok (.aload_n 0, 1) := by decide +kernel
theorem dX0_init_21 : decode cX0_init 21 = .ok (.bipush 72, 2) := by decide +kernel
theorem dX0_init_23 : decode cX0_init 23 = .ok (.newarray .int, 2) := by decide +kernel
theorem dX0_init_25 : decode cX0_init 25 = .ok (.putfield 18, 3) := by decide +kernel
theorem dX0_init_28 : decode cX0_init 28 = .ok (.aload_n 0, 1) := by decide +kernel
theorem dX0_init_29 : decode cX0_init 29 = .ok (.bipush 9, 2) := by decide +kernel
theorem dX0_init_31 : decode cX0_init 31 = .ok (.newarray .int, 2) := by decide +kernel
theorem dX0_init_33 : decode cX0_init 33 = .ok (.putfield 21, 3) := by decide +kernel
theorem dX0_init_36 : decode cX0_init 36 = .ok (.aload_n 0, 1) := by decide +kernel
theorem dX0_init_37 : decode cX0_init 37 = .ok (.iconst 2, 1) := by decide +kernel
theorem dX0_init_38 : decode cX0_init 38 = .ok (.newarray .int, 2) := by decide +kernel
theorem dX0_init_40 : decode cX0_init 40 = .ok (.putfield 24, 3) := by decide +kernel
theorem dX0_init_43 : decode cX0_init 43 = .ok (.aload_n 0, 1) := by decide +kernel
theorem dX0_init_44 : decode cX0_init 44 = .ok (.iconst 2, 1) := by decide +kernel
theorem dX0_init_45 : decode cX0_init 45 = .ok (.newarray .int, 2) := by decide +kernel
theorem dX0_init_47 : decode cX0_init 47 = .ok (.putfield 27, 3) := by decide +kernel
theorem dX0_init_50 : decode cX0_init 50 = .ok (.aload_n 0, 1) := by decide +kernel
theorem dX0_init_51 : decode cX0_init 51 = .ok (.iconst 5, 1) := by decide +kernel
theorem dX0_init_52 : decode cX0_init 52 = .ok (.iconst 4, 1) := by decide +kernel
theorem dX0_init_53 : decode cX0_init 53 = .ok (.invokevirtual 30, 3) := by decide +kernel
theorem dX0_init_56 : decode cX0_init 56 = .ok (.return_, 1) := by decide +kernel
set_option maxRecDepth 20000 in
theorem ggX0_layBoard_J7_fill_53178 : GoodIn wsX0_layBoard wsJ7_fill_53178 := goodIn_r _ [11] (by decide +kernel) (by decide +kernel)
set_option maxRecDepth 20000 in
theorem gX0_layBoard_J7_fill_53178 : GoodIn wsX0_layBoard (va_wsS RX0 44 yJ7_fill_53178 wsJ7_fill_53178) := goodIn_app (goodIn_of _ (by decide +kernel)) ggX0_layBoard_J7_fill_53178
set_option maxRecDepth 20000 in
theorem ggX0_layBoard_X0_clearBins : GoodIn wsX0_layBoard wsX0_clearBins := goodIn_r _ [16, 17, 8, 9, 10, 11, 21, 22, 23, 24, 25, 26, 27, 28, 29] (by decide +kernel) (by decide +kernel)
set_option maxRecDepth 20000 in
theorem gX0_layBoard_X0_clearBins : GoodIn wsX0_layBoard (wsV RX0 50 RX0 yX0_clearBins wsX0_clearBins) := goodIn_app (goodIn_of _ (by decide +kernel)) ggX0_layBoard_X0_clearBins
set_option maxRecDepth 20000 in
theorem ggX0_layBoard_X1_setCell : GoodIn wsX0_layBoard wsX1_setCell := goodIn_r _ [20] (by decide +kernel) (by decide +kernel)
set_option maxRecDepth 20000 in
theorem gX0_layBoard_X1_setCell_n53 : GoodIn wsX0_layBoard (wsX1_setCell) := ggX0_layBoard_X1_setCell
theorem dX0_layBoard_0 : decode cX0_layBoard 0 = .ok (.aload_n 0, 1) := by decide +kernel
theorem dX0_layBoard_1 : decode cX0_layBoard 1 = .ok (.iload_n 1, 1) := by decide +kernel
theorem dX0_layBoard_2 : decode cX0_layBoard 2 = .ok (.putfield 34, 3) := by decide +kernel
theorem dX0_layBoard_5 : decode cX0_layBoard 5 = .ok (.aload_n 0, 1) := by decide +kernel
theorem dX0_layBoard_6 : decode cX0_layBoard 6 = .ok (.iload_n 2, 1) := by decide +kernel
theorem dX0_layBoard_7 : decode cX0_layBoard 7 = .ok (.putfield 38, 3) := by decide +kernel
theorem dX0_layBoard_10 : decode cX0_layBoard 10 = .ok (.aload_n 0, 1) := by decide +kernel
theorem dX0_layBoard_11 : decode cX0_layBoard 11 = .ok (.iconst 0, 1) := by decide +kernel
theorem dX0_layBoard_12 : decode cX0_layBoard 12 = .ok (.putfield 41, 3) := by decide +kernel
theorem dX0_layBoard_15 : decode cX0_layBoard 15 = .ok (.aload_n 0, 1) := by decide +kernel
theorem dX0_layBoard_16 : decode cX0_layBoard 16 = .ok (.getfield 9, 3) := by decide +kernel
theorem dX0_layBoard_19 : decode cX0_layBoard 19 = .ok (.iconst 0, 1) := by decide +kernel
theorem dX0_layBoard_20 : decode cX0_layBoard 20 = .ok (.invokestatic 44, 3) := by decide +kernel
theorem dX0_layBoard_23 : decode cX0_layBoard 23 = .ok (.aload_n 0, 1) := by decide +kernel
theorem dX0_layBoard_24 : decode cX0_layBoard 24 = .ok (.getfield 15, 3) := by decide +kernel
theorem dX0_layBoard_27 : decode cX0_layBoard 27 = .ok (.iconst 0, 1) := by decide +kernel
theorem dX0_layBoard_28 : decode cX0_layBoard 28 = .ok (.invokestatic 44, 3) := by decide +kernel
theorem dX0_layBoard_31 : decode cX0_layBoard 31 = .ok (.aload_n 0, 1) := by decide +kernel
theorem dX0_layBoard_32 : decode cX0_layBoard 32 = .ok (.getfield 18, 3) := by decide +kernel
theorem dX0_layBoard_35 : decode cX0_layBoard 35 = .ok (.iconst 0, 1) := by decide +kernel
theorem dX0_layBoard_36 : decode cX0_layBoard 36 = .ok (.invokestatic 44, 3) := by decide +kernel
theorem dX0_layBoard_39 : decode cX0_layBoard 39 = .ok (.aload_n 0, 1) := by decide +kernel
theorem dX0_layBoard_40 : decode cX0_layBoard 40 = .ok (.invokevirtual 50, 3) := by decide +kernel
theorem dX0_layBoard_43 : decode cX0_layBoard 43 = .ok (.aload_n 0, 1) := by decide +kernel
theorem dX0_layBoard_44 : decode cX0_layBoard 44 = .ok (.getfield 24, 3) := by decide +kernel
theorem dX0_layBoard_47 : decode cX0_layBoard 47 = .ok (.iconst 0, 1) := by decide +kernel
theorem dX0_layBoard_48 : decode cX0_layBoard 48 = .ok (.iconst 0, 1) := by decide +kernel
theorem dX0_layBoard_49 : decode cX0_layBoard 49 = .ok (.invokestatic 53, 3) := by decide +kernel
theorem dX0_layBoard_52 : decode cX0_layBoard 52 = .ok (.aload_n 0, 1) := by decide +kernel
theorem dX0_layBoard_53 : decode cX0_layBoard 53 = .ok (.getfield 24, 3) := by decide +kernel
theorem dX0_layBoard_56 : decode cX0_layBoard 56 = .ok (.iconst 1, 1) := by decide +kernel
theorem dX0_layBoard_57 : decode cX0_layBoard 57 = .ok (.iload_n 1, 1) := by decide +kernel
theorem dX0_layBoard_58 : decode cX0_layBoard 58 = .ok (.iconst 1, 1) := by decide +kernel
theorem dX0_layBoard_59 : decode cX0_layBoard 59 = .ok (.isub, 1) := by decide +kernel
theorem dX0_layBoard_60 : decode cX0_layBoard 60 = .ok (.invokestatic 53, 3) := by decide +kernel
theorem dX0_layBoard_63 : decode cX0_layBoard 63 = .ok (.return_, 1) := by decide +kernel
set_option maxRecDepth 20000 in
theorem ggX0_becomeLike_X1_copyCells : GoodIn wsX0_becomeLike wsX1_copyCells := goodIn_r _ [12, 13, 14, 11, 15] (by decide +kernel) (by decide +kernel)
set_option maxRecDepth 20000 in
theorem gX0_becomeLike_X1_copyCells_n57 : GoodIn wsX0_becomeLike (wsX1_copyCells) := ggX0_becomeLike_X1_copyCells
theorem dX0_becomeLike_0 : decode cX0_becomeLike 0 = .ok (.aload_n 0, 1) := by decide +kernel
theorem dX0_becomeLike_1 : decode cX0_becomeLike 1 = .ok (.aload_n 1, 1) := by decide +kernel
theorem dX0_becomeLike_2 : decode cX0_becomeLike 2 = .ok (.getfield 34, 3) := by decide +kernel
theorem dX0_becomeLike_5 : decode cX0_becomeLike 5 = .ok (.putfield 34, 3) := by decide +kernel
theorem dX0_becomeLike_8 : decode cX0_becomeLike 8 = .ok (.aload_n 0, 1) := by decide +kernel
theorem dX0_becomeLike_9 : decode cX0_becomeLike 9 = .ok (.aload_n 1, 1) := by decide +kernel
theorem dX0_becomeLike_10 : decode cX0_becomeLike 10 = .ok (.getfield 38, 3) := by decide +kernel
theorem dX0_becomeLike_13 : decode cX0_becomeLike 13 = .ok (.putfield 38, 3) := by decide +kernel
theorem dX0_becomeLike_16 : decode cX0_becomeLike 16 = .ok (.aload_n 0, 1) := by decide +kernel
theorem dX0_becomeLike_17 : decode cX0_becomeLike 17 = .ok (.aload_n 1, 1) := by decide +kernel
theorem dX0_becomeLike_18 : decode cX0_becomeLike 18 = .ok (.getfield 41, 3) := by decide +kernel
theorem dX0_becomeLike_21 : decode cX0_becomeLike 21 = .ok (.putfield 41, 3) := by decide +kernel
theorem dX0_becomeLike_24 : decode cX0_becomeLike 24 = .ok (.aload_n 1, 1) := by decide +kernel
theorem dX0_becomeLike_25 : decode cX0_becomeLike 25 = .ok (.getfield 9, 3) := by decide +kernel
theorem dX0_becomeLike_28 : decode cX0_becomeLike 28 = .ok (.aload_n 0, 1) := by decide +kernel
theorem dX0_becomeLike_29 : decode cX0_becomeLike 29 = .ok (.getfield 9, 3) := by decide +kernel
theorem dX0_becomeLike_32 : decode cX0_becomeLike 32 = .ok (.invokestatic 57, 3) := by decide +kernel
theorem dX0_becomeLike_35 : decode cX0_becomeLike 35 = .ok (.aload_n 1, 1) := by decide +kernel
theorem dX0_becomeLike_36 : decode cX0_becomeLike 36 = .ok (.getfield 15, 3) := by decide +kernel
theorem dX0_becomeLike_39 : decode cX0_becomeLike 39 = .ok (.aload_n 0, 1) := by decide +kernel
theorem dX0_becomeLike_40 : decode cX0_becomeLike 40 = .ok (.getfield 15, 3) := by decide +kernel
theorem dX0_becomeLike_43 : decode cX0_becomeLike 43 = .ok (.invokestatic 57, 3) := by decide +kernel
theorem dX0_becomeLike_46 : decode cX0_becomeLike 46 = .ok (.aload_n 1, 1) := by decide +kernel
theorem dX0_becomeLike_47 : decode cX0_becomeLike 47 = .ok (.getfield 18, 3) := by decide +kernel
theorem dX0_becomeLike_50 : decode cX0_becomeLike 50 = .ok (.aload_n 0, 1) := by decide +kernel
theorem dX0_becomeLike_51 : decode cX0_becomeLike 51 = .ok (.getfield 18, 3) := by decide +kernel
theorem dX0_becomeLike_54 : decode cX0_becomeLike 54 = .ok (.invokestatic 57, 3) := by decide +kernel
theorem dX0_becomeLike_57 : decode cX0_becomeLike 57 = .ok (.aload_n 1, 1) := by decide +kernel
theorem dX0_becomeLike_58 : decode cX0_becomeLike 58 = .ok (.getfield 21, 3) := by decide +kernel
theorem dX0_becomeLike_61 : decode cX0_becomeLike 61 = .ok (.aload_n 0, 1) := by decide +kernel
theorem dX0_becomeLike_62 : decode cX0_becomeLike 62 = .ok (.getfield 21, 3) := by decide +kernel
theorem dX0_becomeLike_65 : decode cX0_becomeLike 65 = .ok (.invokestatic 57, 3) := by decide +kernel
theorem dX0_becomeLike_68 : decode cX0_becomeLike 68 = .ok (.aload_n 1, 1) := by decide +kernel
theorem dX0_becomeLike_69 : decode cX0_becomeLike 69 = .ok (.getfield 24, 3) := by decide +kernel
theorem dX0_becomeLike_72 : decode cX0_becomeLike 72 = .ok (.aload_n 0, 1) := by decide +kernel
theorem dX0_becomeLike_73 : decode cX0_becomeLike 73 = .ok (.getfield 24, 3) := by decide +kernel
theorem dX0_becomeLike_76 : decode cX0_becomeLike 76 = .ok (.invokestatic 57, 3) := by decide +kernel
theorem dX0_becomeLike_79 : decode cX0_becomeLike 79 = .ok (.aload_n 1, 1) := by decide +kernel
theorem dX0_becomeLike_80 : decode cX0_becomeLike 80 = .ok (.getfield 27, 3) := by decide +kernel
theorem dX0_becomeLike_83 : decode cX0_becomeLike 83 = .ok (.aload_n 0, 1) := by decide +kernel
theorem dX0_becomeLike_84 : decode cX0_becomeLike 84 = .ok (.getfield 27, 3) := by decide +kernel
theorem dX0_becomeLike_87 : decode cX0_becomeLike 87 = .ok (.invokestatic 57, 3) := by decide +kernel
theorem dX0_becomeLike_90 : decode cX0_becomeLike 90 = .ok (.return_, 1) := by decide +kernel
theorem dX0_hasRow_0 : decode cX0_hasRow 0 = .ok (.iload_n 1, 1) := by decide +kernel
theorem dX0_hasRow_1 : decode cX0_hasRow 1 = .ok (.ifCond .lt 15, 3) := by decide +kernel
theorem dX0_hasRow_4 : decode cX0_hasRow 4 = .ok (.iload_n 1, 1) := by decide +kernel
theorem dX0_hasRow_5 : decode cX0_hasRow 5 = .ok (.aload_n 0, 1) := by decide +kernel
theorem dX0_hasRow_6 : decode cX0_hasRow 6 = .ok (.getfield 38, 3) := by decide +kernel
theorem dX0_hasRow_9 : decode cX0_hasRow 9 = .ok (.if_icmp .ge 7, 3) := by decide +kernel
theorem dX0_hasRow_12 : decode cX0_hasRow 12 = .ok (.iconst 1, 1) := by decide +kernel
theorem dX0_hasRow_13 : decode cX0_hasRow 13 = .ok (.goto 4, 3) := by decide +kernel
theorem dX0_hasRow_16 : decode cX0_hasRow 16 = .ok (.iconst 0, 1) := by decide +kernel
theorem dX0_hasRow_17 : decode cX0_hasRow 17 = .ok (.ireturn, 1) := by decide +kernel
theorem dX0_hasColumn_0 : decode cX0_hasColumn 0 = .ok (.iload_n 1, 1) := by decide +kernel
theorem dX0_hasColumn_1 : decode cX0_hasColumn 1 = .ok (.ifCond .lt 15, 3) := by decide +kernel
theorem dX0_hasColumn_4 : decode cX0_hasColumn 4 = .ok (.iload_n 1, 1) := by decide +kernel
theorem dX0_hasColumn_5 : decode cX0_hasColumn 5 = .ok (.aload_n 0, 1) := by decide +kernel
theorem dX0_hasColumn_6 : decode cX0_hasColumn 6 = .ok (.getfield 34, 3) := by decide +kernel
theorem dX0_hasColumn_9 : decode cX0_hasColumn 9 = .ok (.if_icmp .ge 7, 3) := by decide +kernel
theorem dX0_hasColumn_12 : decode cX0_hasColumn 12 = .ok (.iconst 1, 1) := by decide +kernel
theorem dX0_hasColumn_13 : decode cX0_hasColumn 13 = .ok (.goto 4, 3) := by decide +kernel
theorem dX0_hasColumn_16 : decode cX0_hasColumn 16 = .ok (.iconst 0, 1) := by decide +kernel
theorem dX0_hasColumn_17 : decode cX0_hasColumn 17 = .ok (.ireturn, 1) := by decide +kernel
theorem dX0_placeOf_0 : decode cX0_placeOf 0 = .ok (.iload_n 1, 1) := by decide +kernel
theorem dX0_placeOf_1 : decode cX0_placeOf 1 = .ok (.aload_n 0, 1) := by decide +kernel
theorem dX0_placeOf_2 : decode cX0_placeOf 2 = .ok (.getfield 34, 3) := by decide +kernel
theorem dX0_placeOf_5 : decode cX0_placeOf 5 = .ok (.imul, 1) := by decide +kernel
theorem dX0_placeOf_6 : decode cX0_placeOf 6 = .ok (.iload_n 2, 1) := by decide +kernel
theorem dX0_placeOf_7 : decode cX0_placeOf 7 = .ok (.iadd, 1) := by decide +kernel
theorem dX0_placeOf_8 : decode cX0_placeOf 8 = .ok (.ireturn, 1) := by decide +kernel
set_option maxRecDepth 20000 in
theorem ggX0_partIn_X1_cell : GoodIn wsX0_partIn wsX1_cell := goodIn_r _ [4] (by decide +kernel) (by decide +kernel)
set_option maxRecDepth 20000 in
theorem gX0_partIn_X1_cell_n61 : GoodIn wsX0_partIn (wsX1_cell) := ggX0_partIn_X1_cell
theorem dX0_partIn_0 : decode cX0_partIn 0 = .ok (.aload_n 0, 1) := by decide +kernel
theorem dX0_partIn_1 : decode cX0_partIn 1 = .ok (.getfield 9, 3) := by decide +kernel
theorem dX0_partIn_4 : decode cX0_partIn 4 = .ok (.iload_n 1, 1) := by decide +kernel
theorem dX0_partIn_5 : decode cX0_partIn 5 = .ok (.invokestatic 61, 3) := by decide +kernel
theorem dX0_partIn_8 : decode cX0_partIn 8 = .ok (.ireturn, 1) := by decide +kernel
set_option maxRecDepth 20000 in
theorem ggX0_isRightToggle_X0_partIn : GoodIn wsX0_isRightToggle wsX0_partIn := goodIn_r _ [6, 7, 8, 9, 10, 11, 12, 13, 14, 15, 16, 17, 18, 19] (by decide +kernel) (by decide +kernel)
set_option maxRecDepth 20000 in
theorem gX0_isRightToggle_X0_partIn : GoodIn wsX0_isRightToggle (wsV RX0 65 RX0 yX0_partIn wsX0_partIn) := goodIn_app (goodIn_of _ (by decide +kernel)) ggX0_isRightToggle_X0_partIn
set_option maxRecDepth 20000 in
theorem ggX0_isRightToggle_X1_cell : GoodIn wsX0_isRightToggle wsX1_cell := goodIn_r _ [10] (by decide +kernel) (by decide +kernel)
set_option maxRecDepth 20000 in
theorem gX0_isRightToggle_X1_cell_n61 : GoodIn wsX0_isRightToggle (wsX1_cell) := ggX0_isRightToggle_X1_cell
theorem dX0_isRightToggle_0 : decode cX0_isRightToggle 0 = .ok (.aload_n 0, 1) := by decide +kernel
theorem dX0_isRightToggle_1 : decode cX0_isRightToggle 1 = .ok (.iload_n 1, 1) := by decide +kernel
theorem dX0_isRightToggle_2 : decode cX0_isRightToggle 2 = .ok (.invokevirtual 65, 3) := by decide +kernel
theorem dX0_isRightToggle_5 : decode cX0_isRightToggle 5 = .ok (.iconst 3, 1) := by decide +kernel
theorem dX0_isRightToggle_6 : decode cX0_isRightToggle 6 = .ok (.if_icmp .ne 19, 3) := by decide +kernel
theorem dX0_isRightToggle_9 : decode cX0_isRightToggle 9 = .ok (.aload_n 0, 1) := by decide +kernel
theorem dX0_isRightToggle_10 : decode cX0_isRightToggle 10 = .ok (.getfield 18, 3) := by decide +kernel
theorem dX0_isRightToggle_13 : decode cX0_isRightToggle 13 = .ok (.iload_n 1, 1) := by decide +kernel
theorem dX0_isRightToggle_14 : decode cX0_isRightToggle 14 = .ok (.invokestatic 61, 3) := by decide +kernel
theorem dX0_isRightToggle_17 : decode cX0_isRightToggle 17 = .ok (.iconst 1, 1) := by decide +kernel
theorem dX0_isRightToggle_18 : decode cX0_isRightToggle 18 = .ok (.if_icmp .ne 7, 3) := by decide +kernel
theorem dX0_isRightToggle_21 : decode cX0_isRightToggle 21 = .ok (.iconst 1, 1) := by decide +kernel
theorem dX0_isRightToggle_22 : decode cX0_isRightToggle 22 = .ok (.goto 4, 3) := by decide +kernel
theorem dX0_isRightToggle_25 : decode cX0_isRightToggle 25 = .ok (.iconst 0, 1) := by decide +kernel
theorem dX0_isRightToggle_26 : decode cX0_isRightToggle 26 = .ok (.ireturn, 1) := by decide +kernel
set_option maxRecDepth 20000 in
theorem ggX0_countedIn_X0_partIn : GoodIn wsX0_countedIn wsX0_partIn := goodIn_r _ [6, 7, 8, 9, 10, 11, 12, 13, 14, 15, 16, 17, 18, 19] (by decide +kernel) (by decide +kernel)
set_option maxRecDepth 20000 in
theorem gX0_countedIn_X0_partIn : GoodIn wsX0_countedIn (wsV RX0 65 RX0 yX0_partIn wsX0_partIn) := goodIn_app (goodIn_of _ (by decide +kernel)) ggX0_countedIn_X0_partIn
set_option maxRecDepth 20000 in
theorem ggX0_countedIn_X1_cell : GoodIn wsX0_countedIn wsX1_cell := goodIn_r _ [10] (by decide +kernel) (by decide +kernel)
set_option maxRecDepth 20000 in
theorem gX0_countedIn_X1_cell_n61 : GoodIn wsX0_countedIn (wsX1_cell) := ggX0_countedIn_X1_cell
theorem dX0_countedIn_0 : decode cX0_countedIn 0 = .ok (.aload_n 0, 1) := by decide +kernel
theorem dX0_countedIn_1 : decode cX0_countedIn 1 = .ok (.iload_n 1, 1) := by decide +kernel
theorem dX0_countedIn_2 : decode cX0_countedIn 2 = .ok (.invokevirtual 65, 3) := by decide +kernel
theorem dX0_countedIn_5 : decode cX0_countedIn 5 = .ok (.iconst 5, 1) := by decide +kernel
theorem dX0_countedIn_6 : decode cX0_countedIn 6 = .ok (.if_icmp .ne 14, 3) := by decide +kernel
theorem dX0_countedIn_9 : decode cX0_countedIn 9 = .ok (.aload_n 0, 1) := by decide +kernel
theorem dX0_countedIn_10 : decode cX0_countedIn 10 = .ok (.getfield 18, 3) := by decide +kernel
theorem dX0_countedIn_13 : decode cX0_countedIn 13 = .ok (.iload_n 1, 1) := by decide +kernel
theorem dX0_countedIn_14 : decode cX0_countedIn 14 = .ok (.invokestatic 61, 3) := by decide +kernel
theorem dX0_countedIn_17 : decode cX0_countedIn 17 = .ok (.goto 4, 3) := by decide +kernel
theorem dX0_countedIn_20 : decode cX0_countedIn 20 = .ok (.iconst 0, 1) := by decide +kernel
theorem dX0_countedIn_21 : decode cX0_countedIn 21 = .ok (.ireturn, 1) := by decide +kernel
set_option maxRecDepth 20000 in
theorem ggX0_replacePart_X0_placeOf : GoodIn wsX0_replacePart wsX0_placeOf := goodIn_r _ [8, 9, 19, 20, 21, 22, 23, 24, 25, 26, 27] (by decide +kernel) (by decide +kernel)
set_option maxRecDepth 20000 in
theorem gX0_replacePart_X0_placeOf : GoodIn wsX0_replacePart (wsV RX0 69 RX0 yX0_placeOf wsX0_placeOf) := goodIn_app (goodIn_of _ (by decide +kernel)) ggX0_replacePart_X0_placeOf
set_option maxRecDepth 20000 in
theorem ggX0_replacePart_X0_partIn : GoodIn wsX0_replacePart wsX0_partIn := goodIn_r _ [13, 1, 14, 15, 16, 19, 20, 21, 22, 23, 24, 25, 26, 27] (by decide +kernel) (by decide +kernel)
set_option maxRecDepth 20000 in
theorem gX0_replacePart_X0_partIn : GoodIn wsX0_replacePart (wsV RX0 65 RX0 yX0_partIn wsX0_partIn) := goodIn_app (goodIn_of _ (by decide +kernel)) ggX0_replacePart_X0_partIn
set_option maxRecDepth 20000 in
theorem ggX0_replacePart_X1_setCell : GoodIn wsX0_replacePart wsX1_setCell := goodIn_r _ [18] (by decide +kernel) (by decide +kernel)
set_option maxRecDepth 20000 in
theorem gX0_replacePart_X1_setCell_n53 : GoodIn wsX0_replacePart (wsX1_setCell) := ggX0_replacePart_X1_setCell
theorem dX0_replacePart_0 : decode cX0_replacePart 0 = .ok (.aload_n 0, 1) := by decide +kernel
theorem dX0_replacePart_1 : decode cX0_replacePart 1 = .ok (.iload_n 1, 1) := by decide +kernel
theorem dX0_replacePart_2 : decode cX0_replacePart 2 = .ok (.iload_n 2, 1) := by decide +kernel
theorem dX0_replacePart_3 : decode cX0_replacePart 3 = .ok (.invokevirtual 69, 3) := by decide +kernel
theorem dX0_replacePart_6 : decode cX0_replacePart 6 = .ok (.istore 5, 2) := by decide +kernel
theorem dX0_replacePart_8 : decode cX0_replacePart 8 = .ok (.aload_n 0, 1) := by decide +kernel
theorem dX0_replacePart_9 : decode cX0_replacePart 9 = .ok (.iload 5, 2) := by decide +kernel
theorem dX0_replacePart_11 : decode cX0_replacePart 11 = .ok (.invokevirtual 65, 3) := by decide +kernel
theorem dX0_replacePart_14 : decode cX0_replacePart 14 = .ok (.istore 6, 2) := by decide +kernel
theorem dX0_replacePart_16 : decode cX0_replacePart 16 = .ok (.aload_n 0, 1) := by decide +kernel
theorem dX0_replacePart_17 : decode cX0_replacePart 17 = .ok (.getfield 9, 3) := by decide +kernel
theorem dX0_replacePart_20 : decode cX0_replacePart 20 = .ok (.iload 5, 2) := by decide +kernel
theorem dX0_replacePart_22 : decode cX0_replacePart 22 = .ok (.iload_n 3, 1) := by decide +kernel
theorem dX0_replacePart_23 : decode cX0_replacePart 23 = .ok (.invokestatic 53, 3) := by decide +kernel
theorem dX0_replacePart_26 : decode cX0_replacePart 26 = .ok (.aload_n 0, 1) := by decide +kernel
theorem dX0_replacePart_27 : decode cX0_replacePart 27 = .ok (.getfield 15, 3) := by decide +kernel
theorem dX0_replacePart_30 : decode cX0_replacePart 30 = .ok (.iload 5, 2) := by decide +kernel
theorem dX0_replacePart_32 : decode cX0_replacePart 32 = .ok (.iload 4, 2) := by decide +kernel
theorem dX0_replacePart_34 : decode cX0_replacePart 34 = .ok (.invokestatic 53, 3) := by decide +kernel
theorem dX0_replacePart_37 : decode cX0_replacePart 37 = .ok (.aload_n 0, 1) := by decide +kernel
theorem dX0_replacePart_38 : decode cX0_replacePart 38 = .ok (.getfield 18, 3) := by decide +kernel
theorem dX0_replacePart_41 : decode cX0_replacePart 41 = .ok (.iload 5, 2) := by decide +kernel
theorem dX0_replacePart_43 : decode cX0_replacePart 43 = .ok (.iconst 0, 1) := by decide +kernel
theorem dX0_replacePart_44 : decode cX0_replacePart 44 = .ok (.invokestatic 53, 3) := by decide +kernel
theorem dX0_replacePart_47 : decode cX0_replacePart 47 = .ok (.iload 6, 2) := by decide +kernel
theorem dX0_replacePart_49 : decode cX0_replacePart 49 = .ok (.ireturn, 1) := by decide +kernel
set_option maxRecDepth 20000 in
theorem ggX0_turnOver_X0_isRightToggle : GoodIn wsX0_turnOver wsX0_isRightToggle := goodIn_r _ [6, 1, 7, 8, 9, 5, 10, 11, 12, 13, 14, 17, 18, 19, 20, 21, 22, 23, 24, 25] (by decide +kernel) (by decide +kernel)
set_option maxRecDepth 20000 in
theorem gX0_turnOver_X0_isRightToggle : GoodIn wsX0_turnOver (wsV RX0 73 RX0 yX0_isRightToggle wsX0_isRightToggle) := goodIn_app (goodIn_of _ (by decide +kernel)) ggX0_turnOver_X0_isRightToggle
set_option maxRecDepth 20000 in
theorem ggX0_turnOver_X1_setCell : GoodIn wsX0_turnOver wsX1_setCell := goodIn_r _ [16] (by decide +kernel) (by decide +kernel)
set_option maxRecDepth 20000 in
theorem gX0_turnOver_X1_setCell_n53 : GoodIn wsX0_turnOver (wsX1_setCell) := ggX0_turnOver_X1_setCell
theorem dX0_turnOver_0 : decode cX0_turnOver 0 = .ok (.aload_n 0, 1) := by decide +kernel
theorem dX0_turnOver_1 : decode cX0_turnOver 1 = .ok (.getfield 18, 3) := by decide +kernel
theorem dX0_turnOver_4 : decode cX0_turnOver 4 = .ok (.iload_n 1, 1) := by decide +kernel
theorem dX0_turnOver_5 : decode cX0_turnOver 5 = .ok (.aload_n 0, 1) := by decide +kernel
theorem dX0_turnOver_6 : decode cX0_turnOver 6 = .ok (.iload_n 1, 1) := by decide +kernel
theorem dX0_turnOver_7 : decode cX0_turnOver 7 = .ok (.invokevirtual 73, 3) := by decide +kernel
theorem dX0_turnOver_10 : decode cX0_turnOver 10 = .ok (.ifCond .eq 7, 3) := by decide +kernel
theorem dX0_turnOver_13 : decode cX0_turnOver 13 = .ok (.iconst 0, 1) := by decide +kernel
theorem dX0_turnOver_14 : decode cX0_turnOver 14 = .ok (.goto 4, 3) := by decide +kernel
theorem dX0_turnOver_17 : decode cX0_turnOver 17 = .ok (.iconst 1, 1) := by decide +kernel
theorem dX0_turnOver_18 : decode cX0_turnOver 18 = .ok (.invokestatic 53, 3) := by decide +kernel
theorem dX0_turnOver_21 : decode cX0_turnOver 21 = .ok (.return_, 1) := by decide +kernel
theorem dX0_countToggles_0 : decode cX0_countToggles 0 = .ok (.iconst 0, 1) := by decide +kernel
theorem dX0_countToggles_1 : decode cX0_countToggles 1 = .ok (.istore_n 1, 1) := by decide +kernel
theorem dX0_countToggles_2 : decode cX0_countToggles 2 = .ok (.aload_n 0, 1) := by decide +kernel
theorem dX0_countToggles_3 : decode cX0_countToggles 3 = .ok (.getfield 9, 3) := by decide +kernel
theorem dX0_countToggles_6 : decode cX0_countToggles 6 = .ok (.astore_n 2, 1) := by decide +kernel
theorem dX0_countToggles_7 : decode cX0_countToggles 7 = .ok (.aload_n 2, 1) := by decide +kernel
theorem dX0_countToggles_8 : decode cX0_countToggles 8 = .ok (.arraylength, 1) := by decide +kernel
theorem dX0_countToggles_9 : decode cX0_countToggles 9 = .ok (.istore_n 3, 1) := by decide +kernel
theorem dX0_countToggles_10 : decode cX0_countToggles 10 = .ok (.iconst 0, 1) := by decide +kernel
theorem dX0_countToggles_11 : decode cX0_countToggles 11 = .ok (.istore 4, 2) := by decide +kernel
theorem dX0_countToggles_13 : decode cX0_countToggles 13 = .ok (.iload 4, 2) := by decide +kernel
theorem dX0_countToggles_15 : decode cX0_countToggles 15 = .ok (.iload_n 3, 1) := by decide +kernel
theorem dX0_countToggles_16 : decode cX0_countToggles 16 = .ok (.if_icmp .ge 24, 3) := by decide +kernel
theorem dX0_countToggles_19 : decode cX0_countToggles 19 = .ok (.aload_n 2, 1) := by decide +kernel
theorem dX0_countToggles_20 : decode cX0_countToggles 20 = .ok (.iload 4, 2) := by decide +kernel
theorem dX0_countToggles_22 : decode cX0_countToggles 22 = .ok (.iaload, 1) := by decide +kernel
theorem dX0_countToggles_23 : decode cX0_countToggles 23 = .ok (.istore 5, 2) := by decide +kernel
theorem dX0_countToggles_25 : decode cX0_countToggles 25 = .ok (.iload 5, 2) := by decide +kernel
theorem dX0_countToggles_27 : decode cX0_countToggles 27 = .ok (.iconst 3, 1) := by decide +kernel
theorem dX0_countToggles_28 : decode cX0_countToggles 28 = .ok (.if_icmp .ne 6, 3) := by decide +kernel
theorem dX0_countToggles_31 : decode cX0_countToggles 31 = .ok (.iinc 1 1, 3) := by decide +kernel
theorem dX0_countToggles_34 : decode cX0_countToggles 34 = .ok (.iinc 4 1, 3) := by decide +kernel
theorem dX0_countToggles_37 : decode cX0_countToggles 37 = .ok (.goto (-24), 3) := by decide +kernel
theorem dX0_countToggles_40 : decode cX0_countToggles 40 = .ok (.iload_n 1, 1) := by decide +kernel
theorem dX0_countToggles_41 : decode cX0_countToggles 41 = .ok (.ireturn, 1) := by decide +kernel
set_option maxRecDepth 20000 in
theorem ggX0_numberToldBy_X0_placeOf : GoodIn wsX0_numberToldBy wsX0_placeOf := goodIn_r _ [6, 1, 20, 21, 22, 23, 24, 25, 26, 27, 28] (by decide +kernel) (by decide +kernel)
set_option maxRecDepth 20000 in
theorem gX0_numberToldBy_X0_placeOf : GoodIn wsX0_numberToldBy (wsV RX0 69 RX0 yX0_placeOf wsX0_placeOf) := goodIn_app (goodIn_of _ (by decide +kernel)) ggX0_numberToldBy_X0_placeOf
set_option maxRecDepth 20000 in
theorem ggX0_numberToldBy_X0_partIn : GoodIn wsX0_numberToldBy wsX0_partIn := goodIn_r _ [10, 11, 12, 13, 14, 20, 21, 22, 23, 24, 25, 26, 27, 28] (by decide +kernel) (by decide +kernel)
set_option maxRecDepth 20000 in
theorem gX0_numberToldBy_X0_partIn : GoodIn wsX0_numberToldBy (wsV RX0 65 RX0 yX0_partIn wsX0_partIn) := goodIn_app (goodIn_of _ (by decide +kernel)) ggX0_numberToldBy_X0_partIn
set_option maxRecDepth 20000 in
theorem ggX0_numberToldBy_X0_isRightToggle : GoodIn wsX0_numberToldBy wsX0_isRightToggle := goodIn_r _ [18, 19, 7, 8, 9, 5, 10, 11, 12, 13, 14, 20, 21, 22, 23, 24, 25, 26, 27, 28] (by decide +kernel) (by decide +kernel)
set_option maxRecDepth 20000 in
theorem gX0_numberToldBy_X0_isRightToggle : GoodIn wsX0_numberToldBy (wsV RX0 73 RX0 yX0_isRightToggle wsX0_isRightToggle) := goodIn_app (goodIn_of _ (by decide +kernel)) ggX0_numberToldBy_X0_isRightToggle
theorem dX0_numberToldBy_0 : decode cX0_numberToldBy 0 = .ok (.iconst 0, 1) := by decide +kernel
theorem dX0_numberToldBy_1 : decode cX0_numberToldBy 1 = .ok (.istore_n 2, 1) := by decide +kernel
theorem dX0_numberToldBy_2 : decode cX0_numberToldBy 2 = .ok (.iconst 1, 1) := by decide +kernel
theorem dX0_numberToldBy_3 : decode cX0_numberToldBy 3 = .ok (.istore_n 3, 1) := by decide +kernel
theorem dX0_numberToldBy_4 : decode cX0_numberToldBy 4 = .ok (.iconst 0, 1) := by decide +kernel
theorem dX0_numberToldBy_5 : decode cX0_numberToldBy 5 = .ok (.istore 4, 2) := by decide +kernel
theorem dX0_numberToldBy_7 : decode cX0_numberToldBy 7 = .ok (.iload 4, 2) := by decide +kernel
theorem dX0_numberToldBy_9 : decode cX0_numberToldBy 9 = .ok (.aload_n 0, 1) := by decide +kernel
theorem dX0_numberToldBy_10 : decode cX0_numberToldBy 10 = .ok (.getfield 34, 3) := by decide +kernel
theorem dX0_numberToldBy_13 : decode cX0_numberToldBy 13 = .ok (.if_icmp .ge 49, 3) := by decide +kernel
theorem dX0_numberToldBy_16 : decode cX0_numberToldBy 16 = .ok (.aload_n 0, 1) := by decide +kernel
theorem dX0_numberToldBy_17 : decode cX0_numberToldBy 17 = .ok (.iload_n 1, 1) := by decide +kernel
theorem dX0_numberToldBy_18 : decode cX0_numberToldBy 18 = .ok (.iload 4, 2) := by decide +kernel
theorem dX0_numberToldBy_20 : decode cX0_numberToldBy 20 = .ok (.invokevirtual 69, 3) := by decide +kernel
theorem dX0_numberToldBy_23 : decode cX0_numberToldBy 23 = .ok (.istore 5, 2) := by decide +kernel
theorem dX0_numberToldBy_25 : decode cX0_numberToldBy 25 = .ok (.aload_n 0, 1) := by decide +kernel
theorem dX0_numberToldBy_26 : decode cX0_numberToldBy 26 = .ok (.iload 5, 2) := by decide +kernel
theorem dX0_numberToldBy_28 : decode cX0_numberToldBy 28 = .ok (.invokevirtual 65, 3) := by decide +kernel
theorem dX0_numberToldBy_31 : decode cX0_numberToldBy 31 = .ok (.iconst 3, 1) := by decide +kernel
theorem dX0_numberToldBy_32 : decode cX0_numberToldBy 32 = .ok (.if_icmp .ne 24, 3) := by decide +kernel
theorem dX0_numberToldBy_35 : decode cX0_numberToldBy 35 = .ok (.iload_n 2, 1) := by decide +kernel
theorem dX0_numberToldBy_36 : decode cX0_numberToldBy 36 = .ok (.aload_n 0, 1) := by decide +kernel
theorem dX0_numberToldBy_37 : decode cX0_numberToldBy 37 = .ok (.iload 5, 2) := by decide +kernel
theorem dX0_numberToldBy_39 : decode cX0_numberToldBy 39 = .ok (.invokevirtual 73, 3) := by decide +kernel
theorem dX0_numberToldBy_42 : decode cX0_numberToldBy 42 = .ok (.ifCond .eq 7, 3) := by decide +kernel
theorem dX0_numberToldBy_45 : decode cX0_numberToldBy 45 = .ok (.iload_n 3, 1) := by decide +kernel
theorem dX0_numberToldBy_46 : decode cX0_numberToldBy 46 = .ok (.goto 4, 3) := by decide +kernel
theorem dX0_numberToldBy_49 : decode cX0_numberToldBy 49 = .ok (.iconst 0, 1) := by decide +kernel
theorem dX0_numberToldBy_50 : decode cX0_numberToldBy 50 = .ok (.iadd, 1) := by decide +kernel
theorem dX0_numberToldBy_51 : decode cX0_numberToldBy 51 = .ok (.istore_n 2, 1) := by decide +kernel
theorem dX0_numberToldBy_52 : decode cX0_numberToldBy 52 = .ok (.iload_n 3, 1) := by decide +kernel
theorem dX0_numberToldBy_53 : decode cX0_numberToldBy 53 = .ok (.iconst 2, 1) := by decide +kernel
theorem dX0_numberToldBy_54 : decode cX0_numberToldBy 54 = .ok (.imul, 1) := by decide +kernel
theorem dX0_numberToldBy_55 : decode cX0_numberToldBy 55 = .ok (.istore_n 3, 1) := by decide +kernel
theorem dX0_numberToldBy_56 : decode cX0_numberToldBy 56 = .ok (.iinc 4 1, 3) := by decide +kernel
theorem dX0_numberToldBy_59 : decode cX0_numberToldBy 59 = .ok (.goto (-52), 3) := by decide +kernel
theorem dX0_numberToldBy_62 : decode cX0_numberToldBy 62 = .ok (.iload_n 2, 1) := by decide +kernel
theorem dX0_numberToldBy_63 : decode cX0_numberToldBy 63 = .ok (.ireturn, 1) := by decide +kernel
set_option maxRecDepth 20000 in
theorem ggX0_togglesUnlike_X0_isRightToggle : GoodIn wsX0_togglesUnlike wsX0_isRightToggle := goodIn_r _ [6, 7, 8, 9, 10, 5, 11, 1, 12, 13, 14, 15, 16, 17, 18, 19, 20, 21, 22, 23] (by decide +kernel) (by decide +kernel)
set_option maxRecDepth 20000 in
theorem gX0_togglesUnlike_X0_isRightToggle : GoodIn wsX0_togglesUnlike (wsV RX0 73 RX0 yX0_isRightToggle wsX0_isRightToggle) := goodIn_app (goodIn_of _ (by decide +kernel)) ggX0_togglesUnlike_X0_isRightToggle
theorem dX0_togglesUnlike_0 : decode cX0_togglesUnlike 0 = .ok (.iconst 0, 1) := by decide +kernel
theorem dX0_togglesUnlike_1 : decode cX0_togglesUnlike 1 = .ok (.istore_n 2, 1) := by decide +kernel
theorem dX0_togglesUnlike_2 : decode cX0_togglesUnlike 2 = .ok (.iconst 0, 1) := by decide +kernel
theorem dX0_togglesUnlike_3 : decode cX0_togglesUnlike 3 = .ok (.istore_n 3, 1) := by decide +kernel
theorem dX0_togglesUnlike_4 : decode cX0_togglesUnlike 4 = .ok (.iload_n 3, 1) := by decide +kernel
theorem dX0_togglesUnlike_5 : decode cX0_togglesUnlike 5 = .ok (.aload_n 0, 1) := by decide +kernel
theorem dX0_togglesUnlike_6 : decode cX0_togglesUnlike 6 = .ok (.getfield 9, 3) := by decide +kernel
theorem dX0_togglesUnlike_9 : decode cX0_togglesUnlike 9 = .ok (.arraylength, 1) := by decide +kernel
theorem dX0_togglesUnlike_10 : decode cX0_togglesUnlike 10 = .ok (.if_icmp .ge 25, 3) := by decide +kernel
theorem dX0_togglesUnlike_13 : decode cX0_togglesUnlike 13 = .ok (.aload_n 0, 1) := by decide +kernel
theorem dX0_togglesUnlike_14 : decode cX0_togglesUnlike 14 = .ok (.iload_n 3, 1) := by decide +kernel
theorem dX0_togglesUnlike_15 : decode cX0_togglesUnlike 15 = .ok (.invokevirtual 73, 3) := by decide +kernel
theorem dX0_togglesUnlike_18 : decode cX0_togglesUnlike 18 = .ok (.aload_n 1, 1) := by decide +kernel
theorem dX0_togglesUnlike_19 : decode cX0_togglesUnlike 19 = .ok (.iload_n 3, 1) := by decide +kernel
theorem dX0_togglesUnlike_20 : decode cX0_togglesUnlike 20 = .ok (.invokevirtual 73, 3) := by decide +kernel
theorem dX0_togglesUnlike_23 : decode cX0_togglesUnlike 23 = .ok (.if_icmp .eq 6, 3) := by decide +kernel
theorem dX0_togglesUnlike_26 : decode cX0_togglesUnlike 26 = .ok (.iinc 2 1, 3) := by decide +kernel
theorem dX0_togglesUnlike_29 : decode cX0_togglesUnlike 29 = .ok (.iinc 3 1, 3) := by decide +kernel
theorem dX0_togglesUnlike_32 : decode cX0_togglesUnlike 32 = .ok (.goto (-28), 3) := by decide +kernel
theorem dX0_togglesUnlike_35 : decode cX0_togglesUnlike 35 = .ok (.iload_n 2, 1) := by decide +kernel
theorem dX0_togglesUnlike_36 : decode cX0_togglesUnlike 36 = .ok (.ireturn, 1) := by decide +kernel
set_option maxRecDepth 20000 in
theorem ggX0_hasStatesOf_X1_cell : GoodIn wsX0_hasStatesOf wsX1_cell := goodIn_r _ [4] (by decide +kernel) (by decide +kernel)
set_option maxRecDepth 20000 in
theorem gX0_hasStatesOf_X1_cell_n61 : GoodIn wsX0_hasStatesOf (wsX1_cell) := ggX0_hasStatesOf_X1_cell
theorem dX0_hasStatesOf_0 : decode cX0_hasStatesOf 0 = .ok (.iconst 0, 1) := by decide +kernel
theorem dX0_hasStatesOf_1 : decode cX0_hasStatesOf 1 = .ok (.istore_n 2, 1) := by decide +kernel
theorem dX0_hasStatesOf_2 : decode cX0_hasStatesOf 2 = .ok (.iload_n 2, 1) := by decide +kernel
theorem dX0_hasStatesOf_3 : decode cX0_hasStatesOf 3 = .ok (.aload_n 0, 1) := by decide +kernel
theorem dX0_hasStatesOf_4 : decode cX0_hasStatesOf 4 = .ok (.getfield 18, 3) := by decide +kernel
theorem dX0_hasStatesOf_7 : decode cX0_hasStatesOf 7 = .ok (.arraylength, 1) := by decide +kernel
theorem dX0_hasStatesOf_8 : decode cX0_hasStatesOf 8 = .ok (.if_icmp .ge 30, 3) := by decide +kernel
theorem dX0_hasStatesOf_11 : decode cX0_hasStatesOf 11 = .ok (.aload_n 0, 1) := by decide +kernel
theorem dX0_hasStatesOf_12 : decode cX0_hasStatesOf 12 = .ok (.getfield 18, 3) := by decide +kernel
theorem dX0_hasStatesOf_15 : decode cX0_hasStatesOf 15 = .ok (.iload_n 2, 1) := by decide +kernel
theorem dX0_hasStatesOf_16 : decode cX0_hasStatesOf 16 = .ok (.invokestatic 61, 3) := by decide +kernel
theorem dX0_hasStatesOf_19 : decode cX0_hasStatesOf 19 = .ok (.aload_n 1, 1) := by decide +kernel
theorem dX0_hasStatesOf_20 : decode cX0_hasStatesOf 20 = .ok (.getfield 18, 3) := by decide +kernel
theorem dX0_hasStatesOf_23 : decode cX0_hasStatesOf 23 = .ok (.iload_n 2, 1) := by decide +kernel
theorem dX0_hasStatesOf_24 : decode cX0_hasStatesOf 24 = .ok (.invokestatic 61, 3) := by decide +kernel
theorem dX0_hasStatesOf_27 : decode cX0_hasStatesOf 27 = .ok (.if_icmp .eq 5, 3) := by decide +kernel
theorem dX0_hasStatesOf_30 : decode cX0_hasStatesOf 30 = .ok (.iconst 0, 1) := by decide +kernel
theorem dX0_hasStatesOf_31 : decode cX0_hasStatesOf 31 = .ok (.ireturn, 1) := by decide +kernel
theorem dX0_hasStatesOf_32 : decode cX0_hasStatesOf 32 = .ok (.iinc 2 1, 3) := by decide +kernel
theorem dX0_hasStatesOf_35 : decode cX0_hasStatesOf 35 = .ok (.goto (-33), 3) := by decide +kernel
theorem dX0_hasStatesOf_38 : decode cX0_hasStatesOf 38 = .ok (.iconst 1, 1) := by decide +kernel
theorem dX0_hasStatesOf_39 : decode cX0_hasStatesOf 39 = .ok (.ireturn, 1) := by decide +kernel
set_option maxRecDepth 20000 in
theorem ggX0_letFall_X0_fallTo : GoodIn wsX0_letFall wsX0_fallTo := goodIn_r _ [8, 9, 10, 11, 7, 12, 13, 14, 15, 16, 17, 18, 19, 20, 21, 22, 23, 24, 25, 26, 27, 28, 29, 30, 31, 32, 33, 34, 35, 36, 37, 38] (by decide +kernel) (by decide +kernel)
set_option maxRecDepth 20000 in
theorem gX0_letFall_X0_fallTo : GoodIn wsX0_letFall (wsV RX0 77 RX0 yX0_fallTo wsX0_fallTo) := goodIn_app (goodIn_of _ (by decide +kernel)) ggX0_letFall_X0_fallTo
set_option maxRecDepth 20000 in
theorem ggX0_letFall_X1_cell : GoodIn wsX0_letFall wsX1_cell := goodIn_r _ [23] (by decide +kernel) (by decide +kernel)
set_option maxRecDepth 20000 in
theorem gX0_letFall_X1_cell_n61 : GoodIn wsX0_letFall (wsX1_cell) := ggX0_letFall_X1_cell
set_option maxRecDepth 20000 in
theorem ggX0_letFall_X1_setCell : GoodIn wsX0_letFall wsX1_setCell := goodIn_r _ [25] (by decide +kernel) (by decide +kernel)
set_option maxRecDepth 20000 in
theorem gX0_letFall_X1_setCell_n53 : GoodIn wsX0_letFall (wsX1_setCell) := ggX0_letFall_X1_setCell
theorem dX0_letFall_0 : decode cX0_letFall 0 = .ok (.aload_n 0, 1) := by decide +kernel
theorem dX0_letFall_1 : decode cX0_letFall 1 = .ok (.iload_n 1, 1) := by decide +kernel
theorem dX0_letFall_2 : decode cX0_letFall 2 = .ok (.aload_n 0, 1) := by decide +kernel
theorem dX0_letFall_3 : decode cX0_letFall 3 = .ok (.getfield 38, 3) := by decide +kernel
theorem dX0_letFall_6 : decode cX0_letFall 6 = .ok (.invokevirtual 77, 3) := by decide +kernel
theorem dX0_letFall_9 : decode cX0_letFall 9 = .ok (.istore_n 2, 1) := by decide +kernel
theorem dX0_letFall_10 : decode cX0_letFall 10 = .ok (.iload_n 2, 1) := by decide +kernel
theorem dX0_letFall_11 : decode cX0_letFall 11 = .ok (.iconst (-1), 1) := by decide +kernel
theorem dX0_letFall_12 : decode cX0_letFall 12 = .ok (.if_icmp .ne 16, 3) := by decide +kernel
theorem dX0_letFall_15 : decode cX0_letFall 15 = .ok (.aload_n 0, 1) := by decide +kernel
theorem dX0_letFall_16 : decode cX0_letFall 16 = .ok (.dup, 1) := by decide +kernel
theorem dX0_letFall_17 : decode cX0_letFall 17 = .ok (.getfield 41, 3) := by decide +kernel
theorem dX0_letFall_20 : decode cX0_letFall 20 = .ok (.iconst 1, 1) := by decide +kernel
theorem dX0_letFall_21 : decode cX0_letFall 21 = .ok (.iadd, 1) := by decide +kernel
theorem dX0_letFall_22 : decode cX0_letFall 22 = .ok (.putfield 41, 3) := by decide +kernel
theorem dX0_letFall_25 : decode cX0_letFall 25 = .ok (.goto 21, 3) := by decide +kernel
theorem dX0_letFall_28 : decode cX0_letFall 28 = .ok (.aload_n 0, 1) := by decide +kernel
theorem dX0_letFall_29 : decode cX0_letFall 29 = .ok (.getfield 21, 3) := by decide +kernel
theorem dX0_letFall_32 : decode cX0_letFall 32 = .ok (.iload_n 2, 1) := by decide +kernel
theorem dX0_letFall_33 : decode cX0_letFall 33 = .ok (.aload_n 0, 1) := by decide +kernel
theorem dX0_letFall_34 : decode cX0_letFall 34 = .ok (.getfield 21, 3) := by decide +kernel
theorem dX0_letFall_37 : decode cX0_letFall 37 = .ok (.iload_n 2, 1) := by decide +kernel
theorem dX0_letFall_38 : decode cX0_letFall 38 = .ok (.invokestatic 61, 3) := by decide +kernel
theorem dX0_letFall_41 : decode cX0_letFall 41 = .ok (.iconst 1, 1) := by decide +kernel
theorem dX0_letFall_42 : decode cX0_letFall 42 = .ok (.iadd, 1) := by decide +kernel
theorem dX0_letFall_43 : decode cX0_letFall 43 = .ok (.invokestatic 53, 3) := by decide +kernel
theorem dX0_letFall_46 : decode cX0_letFall 46 = .ok (.iload_n 2, 1) := by decide +kernel
theorem dX0_letFall_47 : decode cX0_letFall 47 = .ok (.ireturn, 1) := by decide +kernel
set_option maxRecDepth 20000 in
theorem ggX0_fallTo_X0_placeOf : GoodIn wsX0_fallTo wsX0_placeOf := goodIn_r _ [5, 6, 23, 24, 25, 26, 27, 28, 29, 30, 31] (by decide +kernel) (by decide +kernel)
set_option maxRecDepth 20000 in
theorem gX0_fallTo_X0_placeOf : GoodIn wsX0_fallTo (wsV RX0 69 RX0 yX0_placeOf wsX0_placeOf) := goodIn_app (goodIn_of _ (by decide +kernel)) ggX0_fallTo_X0_placeOf
set_option maxRecDepth 20000 in
theorem ggX0_fallTo_X0_wayOut : GoodIn wsX0_fallTo wsX0_wayOut := goodIn_r _ [10, 11, 12, 13, 14, 15, 16, 17, 18, 23, 24, 25, 26, 27, 28, 29, 30, 31] (by decide +kernel) (by decide +kernel)
set_option maxRecDepth 20000 in
theorem gX0_fallTo_X0_wayOut : GoodIn wsX0_fallTo (wsV RX0 80 RX0 yX0_wayOut wsX0_wayOut) := goodIn_app (goodIn_of _ (by decide +kernel)) ggX0_fallTo_X0_wayOut
set_option maxRecDepth 20000 in
theorem ggX0_fallTo_X0_hasColumn : GoodIn wsX0_fallTo wsX0_hasColumn := goodIn_r _ [22, 6, 23, 24, 25, 26, 27, 28, 29, 30, 31] (by decide +kernel) (by decide +kernel)
set_option maxRecDepth 20000 in
theorem gX0_fallTo_X0_hasColumn : GoodIn wsX0_fallTo (wsV RX0 83 RX0 yX0_hasColumn wsX0_hasColumn) := goodIn_app (goodIn_of _ (by decide +kernel)) ggX0_fallTo_X0_hasColumn
theorem dX0_fallTo_0 : decode cX0_fallTo 0 = .ok (.iload_n 1, 1) := by decide +kernel
theorem dX0_fallTo_1 : decode cX0_fallTo 1 = .ok (.istore_n 3, 1) := by decide +kernel
theorem dX0_fallTo_2 : decode cX0_fallTo 2 = .ok (.iconst 0, 1) := by decide +kernel
theorem dX0_fallTo_3 : decode cX0_fallTo 3 = .ok (.istore 4, 2) := by decide +kernel
theorem dX0_fallTo_5 : decode cX0_fallTo 5 = .ok (.iconst 0, 1) := by decide +kernel
theorem dX0_fallTo_6 : decode cX0_fallTo 6 = .ok (.istore 5, 2) := by decide +kernel
theorem dX0_fallTo_8 : decode cX0_fallTo 8 = .ok (.iload 5, 2) := by decide +kernel
theorem dX0_fallTo_10 : decode cX0_fallTo 10 = .ok (.iload_n 2, 1) := by decide +kernel
theorem dX0_fallTo_11 : decode cX0_fallTo 11 = .ok (.if_icmp .ge 39, 3) := by decide +kernel
theorem dX0_fallTo_14 : decode cX0_fallTo 14 = .ok (.aload_n 0, 1) := by decide +kernel
theorem dX0_fallTo_15 : decode cX0_fallTo 15 = .ok (.aload_n 0, 1) := by decide +kernel
theorem dX0_fallTo_16 : decode cX0_fallTo 16 = .ok (.iload 5, 2) := by decide +kernel
theorem dX0_fallTo_18 : decode cX0_fallTo 18 = .ok (.iload_n 3, 1) := by decide +kernel
theorem dX0_fallTo_19 : decode cX0_fallTo 19 = .ok (.invokevirtual 69, 3) := by decide +kernel
theorem dX0_fallTo_22 : decode cX0_fallTo 22 = .ok (.iload 4, 2) := by decide +kernel
theorem dX0_fallTo_24 : decode cX0_fallTo 24 = .ok (.invokevirtual 80, 3) := by decide +kernel
theorem dX0_fallTo_27 : decode cX0_fallTo 27 = .ok (.istore 4, 2) := by decide +kernel
theorem dX0_fallTo_29 : decode cX0_fallTo 29 = .ok (.iload_n 3, 1) := by decide +kernel
theorem dX0_fallTo_30 : decode cX0_fallTo 30 = .ok (.iload 4, 2) := by decide +kernel
theorem dX0_fallTo_32 : decode cX0_fallTo 32 = .ok (.iadd, 1) := by decide +kernel
theorem dX0_fallTo_33 : decode cX0_fallTo 33 = .ok (.istore_n 3, 1) := by decide +kernel
theorem dX0_fallTo_34 : decode cX0_fallTo 34 = .ok (.aload_n 0, 1) := by decide +kernel
theorem dX0_fallTo_35 : decode cX0_fallTo 35 = .ok (.iload_n 3, 1) := by decide +kernel
theorem dX0_fallTo_36 : decode cX0_fallTo 36 = .ok (.invokevirtual 83, 3) := by decide +kernel
theorem dX0_fallTo_39 : decode cX0_fallTo 39 = .ok (.ifCond .ne 5, 3) := by decide +kernel
theorem dX0_fallTo_42 : decode cX0_fallTo 42 = .ok (.iconst (-1), 1) := by decide +kernel
theorem dX0_fallTo_43 : decode cX0_fallTo 43 = .ok (.ireturn, 1) := by decide +kernel
theorem dX0_fallTo_44 : decode cX0_fallTo 44 = .ok (.iinc 5 1, 3) := by decide +kernel
theorem dX0_fallTo_47 : decode cX0_fallTo 47 = .ok (.goto (-39), 3) := by decide +kernel
theorem dX0_fallTo_50 : decode cX0_fallTo 50 = .ok (.iload_n 3, 1) := by decide +kernel
theorem dX0_fallTo_51 : decode cX0_fallTo 51 = .ok (.ireturn, 1) := by decide +kernel
set_option maxRecDepth 20000 in
theorem ggX0_wayOut_X1_cell : GoodIn wsX0_wayOut wsX1_cell := goodIn_r _ [6] (by decide +kernel) (by decide +kernel)
set_option maxRecDepth 20000 in
theorem gX0_wayOut_X1_cell_n61 : GoodIn wsX0_wayOut (wsX1_cell) := ggX0_wayOut_X1_cell
set_option maxRecDepth 20000 in
theorem ggX0_wayOut_X1_setCell : GoodIn wsX0_wayOut wsX1_setCell := goodIn_r _ [8] (by decide +kernel) (by decide +kernel)
set_option maxRecDepth 20000 in
theorem gX0_wayOut_X1_setCell_n53 : GoodIn wsX0_wayOut (wsX1_setCell) := ggX0_wayOut_X1_setCell
theorem dX0_wayOut_0 : decode cX0_wayOut 0 = .ok (.aload_n 0, 1) := by decide +kernel
theorem dX0_wayOut_1 : decode cX0_wayOut 1 = .ok (.getfield 9, 3) := by decide +kernel
theorem dX0_wayOut_4 : decode cX0_wayOut 4 = .ok (.iload_n 1, 1) := by decide +kernel
theorem dX0_wayOut_5 : decode cX0_wayOut 5 = .ok (.invokestatic 61, 3) := by decide +kernel
theorem dX0_wayOut_8 : decode cX0_wayOut 8 = .ok (.tableswitch 101 1 5 #[36, 38, 42, 40, 42], 36) := by decide +kernel
theorem dX0_wayOut_44 : decode cX0_wayOut 44 = .ok (.iconst (-1), 1) := by decide +kernel
theorem dX0_wayOut_45 : decode cX0_wayOut 45 = .ok (.ireturn, 1) := by decide +kernel
theorem dX0_wayOut_46 : decode cX0_wayOut 46 = .ok (.iconst 1, 1) := by decide +kernel
theorem dX0_wayOut_47 : decode cX0_wayOut 47 = .ok (.ireturn, 1) := by decide +kernel
theorem dX0_wayOut_48 : decode cX0_wayOut 48 = .ok (.iload_n 2, 1) := by decide +kernel
theorem dX0_wayOut_49 : decode cX0_wayOut 49 = .ok (.ireturn, 1) := by decide +kernel
theorem dX0_wayOut_50 : decode cX0_wayOut 50 = .ok (.aload_n 0, 1) := by decide +kernel
theorem dX0_wayOut_51 : decode cX0_wayOut 51 = .ok (.getfield 18, 3) := by decide +kernel
theorem dX0_wayOut_54 : decode cX0_wayOut 54 = .ok (.iload_n 1, 1) := by decide +kernel
theorem dX0_wayOut_55 : decode cX0_wayOut 55 = .ok (.invokestatic 61, 3) := by decide +kernel
theorem dX0_wayOut_58 : decode cX0_wayOut 58 = .ok (.iconst 1, 1) := by decide +kernel
theorem dX0_wayOut_59 : decode cX0_wayOut 59 = .ok (.iadd, 1) := by decide +kernel
theorem dX0_wayOut_60 : decode cX0_wayOut 60 = .ok (.istore_n 3, 1) := by decide +kernel
theorem dX0_wayOut_61 : decode cX0_wayOut 61 = .ok (.iload_n 3, 1) := by decide +kernel
theorem dX0_wayOut_62 : decode cX0_wayOut 62 = .ok (.aload_n 0, 1) := by decide +kernel
theorem dX0_wayOut_63 : decode cX0_wayOut 63 = .ok (.getfield 15, 3) := by decide +kernel
theorem dX0_wayOut_66 : decode cX0_wayOut 66 = .ok (.iload_n 1, 1) := by decide +kernel
theorem dX0_wayOut_67 : decode cX0_wayOut 67 = .ok (.invokestatic 61, 3) := by decide +kernel
theorem dX0_wayOut_70 : decode cX0_wayOut 70 = .ok (.if_icmp .lt 7, 3) := by decide +kernel
theorem dX0_wayOut_73 : decode cX0_wayOut 73 = .ok (.iconst 1, 1) := by decide +kernel
theorem dX0_wayOut_74 : decode cX0_wayOut 74 = .ok (.goto 4, 3) := by decide +kernel
theorem dX0_wayOut_77 : decode cX0_wayOut 77 = .ok (.iconst 0, 1) := by decide +kernel
theorem dX0_wayOut_78 : decode cX0_wayOut 78 = .ok (.istore 4, 2) := by decide +kernel
theorem dX0_wayOut_80 : decode cX0_wayOut 80 = .ok (.aload_n 0, 1) := by decide +kernel
theorem dX0_wayOut_81 : decode cX0_wayOut 81 = .ok (.getfield 18, 3) := by decide +kernel
theorem dX0_wayOut_84 : decode cX0_wayOut 84 = .ok (.iload_n 1, 1) := by decide +kernel
theorem dX0_wayOut_85 : decode cX0_wayOut 85 = .ok (.iload 4, 2) := by decide +kernel
theorem dX0_wayOut_87 : decode cX0_wayOut 87 = .ok (.ifCond .eq 7, 3) := by decide +kernel
theorem dX0_wayOut_90 : decode cX0_wayOut 90 = .ok (.iconst 0, 1) := by decide +kernel
theorem dX0_wayOut_91 : decode cX0_wayOut 91 = .ok (.goto 4, 3) := by decide +kernel
theorem dX0_wayOut_94 : decode cX0_wayOut 94 = .ok (.iload_n 3, 1) := by decide +kernel
theorem dX0_wayOut_95 : decode cX0_wayOut 95 = .ok (.invokestatic 53, 3) := by decide +kernel
theorem dX0_wayOut_98 : decode cX0_wayOut 98 = .ok (.iload 4, 2) := by decide +kernel
theorem dX0_wayOut_100 : decode cX0_wayOut 100 = .ok (.ifCond .eq 7, 3) := by decide +kernel
theorem dX0_wayOut_103 : decode cX0_wayOut 103 = .ok (.iconst 1, 1) := by decide +kernel
theorem dX0_wayOut_104 : decode cX0_wayOut 104 = .ok (.goto 4, 3) := by decide +kernel
theorem dX0_wayOut_107 : decode cX0_wayOut 107 = .ok (.iconst (-1), 1) := by decide +kernel
theorem dX0_wayOut_108 : decode cX0_wayOut 108 = .ok (.ireturn, 1) := by decide +kernel
theorem dX0_wayOut_109 : decode cX0_wayOut 109 = .ok (.iconst 0, 1) := by decide +kernel
theorem dX0_wayOut_110 : decode cX0_wayOut 110 = .ok (.ireturn, 1) := by decide +kernel
theorem dX0_marblesInBins_0 : decode cX0_marblesInBins 0 = .ok (.iconst 0, 1) := by decide +kernel
theorem dX0_marblesInBins_1 : decode cX0_marblesInBins 1 = .ok (.istore_n 1, 1) := by decide +kernel
theorem dX0_marblesInBins_2 : decode cX0_marblesInBins 2 = .ok (.aload_n 0, 1) := by decide +kernel
theorem dX0_marblesInBins_3 : decode cX0_marblesInBins 3 = .ok (.getfield 21, 3) := by decide +kernel
theorem dX0_marblesInBins_6 : decode cX0_marblesInBins 6 = .ok (.astore_n 2, 1) := by decide +kernel
theorem dX0_marblesInBins_7 : decode cX0_marblesInBins 7 = .ok (.aload_n 2, 1) := by decide +kernel
theorem dX0_marblesInBins_8 : decode cX0_marblesInBins 8 = .ok (.arraylength, 1) := by decide +kernel
theorem dX0_marblesInBins_9 : decode cX0_marblesInBins 9 = .ok (.istore_n 3, 1) := by decide +kernel
theorem dX0_marblesInBins_10 : decode cX0_marblesInBins 10 = .ok (.iconst 0, 1) := by decide +kernel
theorem dX0_marblesInBins_11 : decode cX0_marblesInBins 11 = .ok (.istore 4, 2) := by decide +kernel
theorem dX0_marblesInBins_13 : decode cX0_marblesInBins 13 = .ok (.iload 4, 2) := by decide +kernel
theorem dX0_marblesInBins_15 : decode cX0_marblesInBins 15 = .ok (.iload_n 3, 1) := by decide +kernel
theorem dX0_marblesInBins_16 : decode cX0_marblesInBins 16 = .ok (.if_icmp .ge 20, 3) := by decide +kernel
theorem dX0_marblesInBins_19 : decode cX0_marblesInBins 19 = .ok (.aload_n 2, 1) := by decide +kernel
theorem dX0_marblesInBins_20 : decode cX0_marblesInBins 20 = .ok (.iload 4, 2) := by decide +kernel
theorem dX0_marblesInBins_22 : decode cX0_marblesInBins 22 = .ok (.iaload, 1) := by decide +kernel
theorem dX0_marblesInBins_23 : decode cX0_marblesInBins 23 = .ok (.istore 5, 2) := by decide +kernel
theorem dX0_marblesInBins_25 : decode cX0_marblesInBins 25 = .ok (.iload_n 1, 1) := by decide +kernel
theorem dX0_marblesInBins_26 : decode cX0_marblesInBins 26 = .ok (.iload 5, 2) := by decide +kernel
theorem dX0_marblesInBins_28 : decode cX0_marblesInBins 28 = .ok (.iadd, 1) := by decide +kernel
theorem dX0_marblesInBins_29 : decode cX0_marblesInBins 29 = .ok (.istore_n 1, 1) := by decide +kernel
theorem dX0_marblesInBins_30 : decode cX0_marblesInBins 30 = .ok (.iinc 4 1, 3) := by decide +kernel
theorem dX0_marblesInBins_33 : decode cX0_marblesInBins 33 = .ok (.goto (-20), 3) := by decide +kernel
theorem dX0_marblesInBins_36 : decode cX0_marblesInBins 36 = .ok (.iload_n 1, 1) := by decide +kernel
theorem dX0_marblesInBins_37 : decode cX0_marblesInBins 37 = .ok (.ireturn, 1) := by decide +kernel
set_option maxRecDepth 20000 in
theorem ggX0_clearBins_J7_fill_53178 : GoodIn wsX0_clearBins wsJ7_fill_53178 := goodIn_r _ [5] (by decide +kernel) (by decide +kernel)
set_option maxRecDepth 20000 in
theorem gX0_clearBins_J7_fill_53178 : GoodIn wsX0_clearBins (va_wsS RX0 44 yJ7_fill_53178 wsJ7_fill_53178) := goodIn_app (goodIn_of _ (by decide +kernel)) ggX0_clearBins_J7_fill_53178
theorem dX0_clearBins_0 : decode cX0_clearBins 0 = .ok (.aload_n 0, 1) := by decide +kernel
theorem dX0_clearBins_1 : decode cX0_clearBins 1 = .ok (.getfield 21, 3) := by decide +kernel
theorem dX0_clearBins_4 : decode cX0_clearBins 4 = .ok (.iconst 0, 1) := by decide +kernel
theorem dX0_clearBins_5 : decode cX0_clearBins 5 = .ok (.invokestatic 44, 3) := by decide +kernel
theorem dX0_clearBins_8 : decode cX0_clearBins 8 = .ok (.return_, 1) := by decide +kernel
set_option maxRecDepth 20000 in
theorem ggX0_fillHopper_X1_cell : GoodIn wsX0_fillHopper wsX1_cell := goodIn_r _ [5] (by decide +kernel) (by decide +kernel)
set_option maxRecDepth 20000 in
theorem gX0_fillHopper_X1_cell_n61 : GoodIn wsX0_fillHopper (wsX1_cell) := ggX0_fillHopper_X1_cell
set_option maxRecDepth 20000 in
theorem ggX0_fillHopper_X1_setCell : GoodIn wsX0_fillHopper wsX1_setCell := goodIn_r _ [7] (by decide +kernel) (by decide +kernel)
set_option maxRecDepth 20000 in
theorem gX0_fillHopper_X1_setCell_n53 : GoodIn wsX0_fillHopper (wsX1_setCell) := ggX0_fillHopper_X1_setCell
theorem dX0_fillHopper_0 : decode cX0_fillHopper 0 = .ok (.aload_n 0, 1) := by decide +kernel
theorem dX0_fillHopper_1 : decode cX0_fillHopper 1 = .ok (.getfield 27, 3) := by decide +kernel
theorem dX0_fillHopper_4 : decode cX0_fillHopper 4 = .ok (.iload_n 1, 1) := by decide +kernel
theorem dX0_fillHopper_5 : decode cX0_fillHopper 5 = .ok (.invokestatic 61, 3) := by decide +kernel
theorem dX0_fillHopper_8 : decode cX0_fillHopper 8 = .ok (.istore 4, 2) := by decide +kernel
theorem dX0_fillHopper_10 : decode cX0_fillHopper 10 = .ok (.aload_n 0, 1) := by decide +kernel
theorem dX0_fillHopper_11 : decode cX0_fillHopper 11 = .ok (.getfield 24, 3) := by decide +kernel
theorem dX0_fillHopper_14 : decode cX0_fillHopper 14 = .ok (.iload_n 1, 1) := by decide +kernel
theorem dX0_fillHopper_15 : decode cX0_fillHopper 15 = .ok (.iload_n 2, 1) := by decide +kernel
theorem dX0_fillHopper_16 : decode cX0_fillHopper 16 = .ok (.invokestatic 53, 3) := by decide +kernel
theorem dX0_fillHopper_19 : decode cX0_fillHopper 19 = .ok (.aload_n 0, 1) := by decide +kernel
theorem dX0_fillHopper_20 : decode cX0_fillHopper 20 = .ok (.getfield 27, 3) := by decide +kernel
theorem dX0_fillHopper_23 : decode cX0_fillHopper 23 = .ok (.iload_n 1, 1) := by decide +kernel
theorem dX0_fillHopper_24 : decode cX0_fillHopper 24 = .ok (.iload_n 3, 1) := by decide +kernel
theorem dX0_fillHopper_25 : decode cX0_fillHopper 25 = .ok (.invokestatic 53, 3) := by decide +kernel
theorem dX0_fillHopper_28 : decode cX0_fillHopper 28 = .ok (.iload 4, 2) := by decide +kernel
theorem dX0_fillHopper_30 : decode cX0_fillHopper 30 = .ok (.ireturn, 1) := by decide +kernel
set_option maxRecDepth 20000 in
theorem ggX0_runFrom_X1_cell : GoodIn wsX0_runFrom wsX1_cell := goodIn_r _ [5] (by decide +kernel) (by decide +kernel)
set_option maxRecDepth 20000 in
theorem gX0_runFrom_X1_cell_n61 : GoodIn wsX0_runFrom (wsX1_cell) := ggX0_runFrom_X1_cell
set_option maxRecDepth 20000 in
theorem ggX0_runFrom_X1_setCell : GoodIn wsX0_runFrom wsX1_setCell := goodIn_r _ [7] (by decide +kernel) (by decide +kernel)
set_option maxRecDepth 20000 in
theorem gX0_runFrom_X1_setCell_n53 : GoodIn wsX0_runFrom (wsX1_setCell) := ggX0_runFrom_X1_setCell
set_option maxRecDepth 20000 in
theorem ggX0_runFrom_X0_letFall : GoodIn wsX0_runFrom wsX0_letFall := goodIn_r _ [12, 13, 14, 15, 16, 17, 18, 11, 19, 20, 21, 22, 23, 24, 25, 26, 27, 28, 29, 30, 31, 3, 4, 5, 6, 7, 32, 33, 34, 35, 40, 41, 42, 43, 44, 45, 46, 47, 48] (by decide +kernel) (by decide +kernel)
set_option maxRecDepth 20000 in
theorem gX0_runFrom_X0_letFall : GoodIn wsX0_runFrom (wsV RX0 86 RX0 yX0_letFall wsX0_letFall) := goodIn_app (goodIn_of _ (by decide +kernel)) ggX0_runFrom_X0_letFall
set_option maxRecDepth 20000 in
theorem ggX0_runFrom_X0_hopperBehind : GoodIn wsX0_runFrom wsX0_hopperBehind := goodIn_r _ [39, 24, 40, 41, 42, 43, 44, 45, 46, 47, 48] (by decide +kernel) (by decide +kernel)
set_option maxRecDepth 20000 in
theorem gX0_runFrom_X0_hopperBehind : GoodIn wsX0_runFrom (wsV RX0 89 RX0 yX0_hopperBehind wsX0_hopperBehind) := goodIn_app (goodIn_of _ (by decide +kernel)) ggX0_runFrom_X0_hopperBehind
theorem dX0_runFrom_0 : decode cX0_runFrom 0 = .ok (.iconst 0, 1) := by decide +kernel
theorem dX0_runFrom_1 : decode cX0_runFrom 1 = .ok (.istore_n 3, 1) := by decide +kernel
theorem dX0_runFrom_2 : decode cX0_runFrom 2 = .ok (.iload_n 1, 1) := by decide +kernel
theorem dX0_runFrom_3 : decode cX0_runFrom 3 = .ok (.istore 4, 2) := by decide +kernel
theorem dX0_runFrom_5 : decode cX0_runFrom 5 = .ok (.iload_n 3, 1) := by decide +kernel
theorem dX0_runFrom_6 : decode cX0_runFrom 6 = .ok (.iload_n 2, 1) := by decide +kernel
theorem dX0_runFrom_7 : decode cX0_runFrom 7 = .ok (.if_icmp .ge 66, 3) := by decide +kernel
theorem dX0_runFrom_10 : decode cX0_runFrom 10 = .ok (.iload 4, 2) := by decide +kernel
theorem dX0_runFrom_12 : decode cX0_runFrom 12 = .ok (.iconst (-1), 1) := by decide +kernel
theorem dX0_runFrom_13 : decode cX0_runFrom 13 = .ok (.if_icmp .eq 60, 3) := by decide +kernel
theorem dX0_runFrom_16 : decode cX0_runFrom 16 = .ok (.aload_n 0, 1) := by decide +kernel
theorem dX0_runFrom_17 : decode cX0_runFrom 17 = .ok (.getfield 27, 3) := by decide +kernel
theorem dX0_runFrom_20 : decode cX0_runFrom 20 = .ok (.iload 4, 2) := by decide +kernel
theorem dX0_runFrom_22 : decode cX0_runFrom 22 = .ok (.invokestatic 61, 3) := by decide +kernel
theorem dX0_runFrom_25 : decode cX0_runFrom 25 = .ok (.ifCond .le 48, 3) := by decide +kernel
theorem dX0_runFrom_28 : decode cX0_runFrom 28 = .ok (.iinc 3 1, 3) := by decide +kernel
theorem dX0_runFrom_31 : decode cX0_runFrom 31 = .ok (.aload_n 0, 1) := by decide +kernel
theorem dX0_runFrom_32 : decode cX0_runFrom 32 = .ok (.getfield 27, 3) := by decide +kernel
theorem dX0_runFrom_35 : decode cX0_runFrom 35 = .ok (.iload 4, 2) := by decide +kernel
theorem dX0_runFrom_37 : decode cX0_runFrom 37 = .ok (.aload_n 0, 1) := by decide +kernel
theorem dX0_runFrom_38 : decode cX0_runFrom 38 = .ok (.getfield 27, 3) := by decide +kernel
theorem dX0_runFrom_41 : decode cX0_runFrom 41 = .ok (.iload 4, 2) := by decide +kernel
theorem dX0_runFrom_43 : decode cX0_runFrom 43 = .ok (.invokestatic 61, 3) := by decide +kernel
theorem dX0_runFrom_46 : decode cX0_runFrom 46 = .ok (.iconst 1, 1) := by decide +kernel
theorem dX0_runFrom_47 : decode cX0_runFrom 47 = .ok (.isub, 1) := by decide +kernel
theorem dX0_runFrom_48 : decode cX0_runFrom 48 = .ok (.invokestatic 53, 3) := by decide +kernel
theorem dX0_runFrom_51 : decode cX0_runFrom 51 = .ok (.aload_n 0, 1) := by decide +kernel
theorem dX0_runFrom_52 : decode cX0_runFrom 52 = .ok (.aload_n 0, 1) := by decide +kernel
theorem dX0_runFrom_53 : decode cX0_runFrom 53 = .ok (.aload_n 0, 1) := by decide +kernel
theorem dX0_runFrom_54 : decode cX0_runFrom 54 = .ok (.getfield 24, 3) := by decide +kernel
theorem dX0_runFrom_57 : decode cX0_runFrom 57 = .ok (.iload 4, 2) := by decide +kernel
theorem dX0_runFrom_59 : decode cX0_runFrom 59 = .ok (.invokestatic 61, 3) := by decide +kernel
theorem dX0_runFrom_62 : decode cX0_runFrom 62 = .ok (.invokevirtual 86, 3) := by decide +kernel
theorem dX0_runFrom_65 : decode cX0_runFrom 65 = .ok (.invokevirtual 89, 3) := by decide +kernel
theorem dX0_runFrom_68 : decode cX0_runFrom 68 = .ok (.istore 4, 2) := by decide +kernel
theorem dX0_runFrom_70 : decode cX0_runFrom 70 = .ok (.goto (-65), 3) := by decide +kernel
theorem dX0_runFrom_73 : decode cX0_runFrom 73 = .ok (.iload_n 3, 1) := by decide +kernel
theorem dX0_runFrom_74 : decode cX0_runFrom 74 = .ok (.ireturn, 1) := by decide +kernel
theorem dX0_hopperBehind_0 : decode cX0_hopperBehind 0 = .ok (.aload_n 0, 1) := by decide +kernel
theorem dX0_hopperBehind_1 : decode cX0_hopperBehind 1 = .ok (.getfield 34, 3) := by decide +kernel
theorem dX0_hopperBehind_4 : decode cX0_hopperBehind 4 = .ok (.iconst 1, 1) := by decide +kernel
theorem dX0_hopperBehind_5 : decode cX0_hopperBehind 5 = .ok (.isub, 1) := by decide +kernel
theorem dX0_hopperBehind_6 : decode cX0_hopperBehind 6 = .ok (.istore_n 2, 1) := by decide +kernel
theorem dX0_hopperBehind_7 : decode cX0_hopperBehind 7 = .ok (.iload_n 1, 1) := by decide +kernel
theorem dX0_hopperBehind_8 : decode cX0_hopperBehind 8 = .ok (.iconst (-1), 1) := by decide +kernel
theorem dX0_hopperBehind_9 : decode cX0_hopperBehind 9 = .ok (.if_icmp .eq 10, 3) := by decide +kernel
theorem dX0_hopperBehind_12 : decode cX0_hopperBehind 12 = .ok (.iconst 2, 1) := by decide +kernel
theorem dX0_hopperBehind_13 : decode cX0_hopperBehind 13 = .ok (.iload_n 1, 1) := by decide +kernel
theorem dX0_hopperBehind_14 : decode cX0_hopperBehind 14 = .ok (.imul, 1) := by decide +kernel
theorem dX0_hopperBehind_15 : decode cX0_hopperBehind 15 = .ok (.iload_n 2, 1) := by decide +kernel
theorem dX0_hopperBehind_16 : decode cX0_hopperBehind 16 = .ok (.if_icmp .ne 5, 3) := by decide +kernel
theorem dX0_hopperBehind_19 : decode cX0_hopperBehind 19 = .ok (.iconst (-1), 1) := by decide +kernel
theorem dX0_hopperBehind_20 : decode cX0_hopperBehind 20 = .ok (.ireturn, 1) := by decide +kernel
theorem dX0_hopperBehind_21 : decode cX0_hopperBehind 21 = .ok (.iconst 2, 1) := by decide +kernel
theorem dX0_hopperBehind_22 : decode cX0_hopperBehind 22 = .ok (.iload_n 1, 1) := by decide +kernel
theorem dX0_hopperBehind_23 : decode cX0_hopperBehind 23 = .ok (.imul, 1) := by decide +kernel
theorem dX0_hopperBehind_24 : decode cX0_hopperBehind 24 = .ok (.iload_n 2, 1) := by decide +kernel
theorem dX0_hopperBehind_25 : decode cX0_hopperBehind 25 = .ok (.if_icmp .ge 7, 3) := by decide +kernel
theorem dX0_hopperBehind_28 : decode cX0_hopperBehind 28 = .ok (.iconst 0, 1) := by decide +kernel
theorem dX0_hopperBehind_29 : decode cX0_hopperBehind 29 = .ok (.goto 4, 3) := by decide +kernel
theorem dX0_hopperBehind_32 : decode cX0_hopperBehind 32 = .ok (.iconst 1, 1) := by decide +kernel
theorem dX0_hopperBehind_33 : decode cX0_hopperBehind 33 = .ok (.ireturn, 1) := by decide +kernel
set_option maxRecDepth 20000 in
theorem ggX1_init_X0_init : GoodIn wsX1_init wsX0_init := goodIn_r _ [11, 12, 2, 3, 13, 14, 15, 16, 17, 18, 19, 20, 21, 22, 6, 23, 24, 25, 26, 27, 28, 29, 30, 31, 32, 33, 34, 35, 36, 37, 38, 39, 40, 41, 42, 43, 44, 45, 46] (by decide +kernel) (by decide +kernel)
set_option maxRecDepth 20000 in
theorem gX1_init_X0_init : GoodIn wsX1_init (wsX0_init) := ggX1_init_X0_init
theorem dX1_init_0 : decode cX1_init 0 = .ok (.aload_n 0, 1) := by decide +kernel
theorem dX1_init_1 : decode cX1_init 1 = .ok (.invokespecial 1, 3) := by decide +kernel
theorem dX1_init_4 : decode cX1_init 4 = .ok (.aload_n 0, 1) := by decide +kernel
theorem dX1_init_5 : decode cX1_init 5 = .ok (.new 7, 3) := by decide +kernel
theorem dX1_init_8 : decode cX1_init 8 = .ok (.dup, 1) := by decide +kernel
theorem dX1_init_9 : decode cX1_init 9 = .ok (.invokespecial 9, 3) := by decide +kernel
theorem dX1_init_12 : decode cX1_init 12 = .ok (.putfield 10, 3) := by decide +kernel
theorem dX1_init_15 : decode cX1_init 15 = .ok (.aload_n 0, 1) := by decide +kernel
theorem dX1_init_16 : decode cX1_init 16 = .ok (.new 7, 3) := by decide +kernel
theorem dX1_init_19 : decode cX1_init 19 = .ok (.dup, 1) := by decide +kernel
theorem dX1_init_20 : decode cX1_init 20 = .ok (.invokespecial 9, 3) := by decide +kernel
theorem dX1_init_23 : decode cX1_init 23 = .ok (.putfield 16, 3) := by decide +kernel
theorem dX1_init_26 : decode cX1_init 26 = .ok (.return_, 1) := by decide +kernel
set_option maxRecDepth 20000 in
theorem ggX1_lay_X1_needWithin : GoodIn wsX1_lay wsX1_needWithin := goodIn_ca (goodIn_r _ [5, 6, 7] (by decide +kernel) (by decide +kernel)) (goodIn_sub (fun _ h => List.mem_cons_of_mem _ (List.mem_append_right _ h)) (by decide +kernel))
set_option maxRecDepth 20000 in
theorem gX1_lay_X1_needWithin : GoodIn wsX1_lay (va_wsS RX1 19 yX1_needWithin wsX1_needWithin) := goodIn_app (goodIn_of _ (by decide +kernel)) ggX1_lay_X1_needWithin
set_option maxRecDepth 20000 in
theorem ggX1_lay_X0_layBoard : GoodIn wsX1_lay wsX0_layBoard := goodIn_r _ [12, 13, 14, 15, 16, 17, 18, 19, 20, 21, 22, 23, 24, 25, 26, 11, 27, 28, 29, 4, 30, 33, 34, 35, 36, 37, 38, 39, 40, 41] (by decide +kernel) (by decide +kernel)
set_option maxRecDepth 20000 in
theorem gX1_lay_X0_layBoard : GoodIn wsX1_lay (wsV RX1 23 RX0 yX0_layBoard wsX0_layBoard) := goodIn_app (goodIn_of _ (by decide +kernel)) ggX1_lay_X0_layBoard
theorem dX1_lay_0 : decode cX1_lay 0 = .ok (.iload_n 1, 1) := by decide +kernel
theorem dX1_lay_1 : decode cX1_lay 1 = .ok (.iconst 2, 1) := by decide +kernel
theorem dX1_lay_2 : decode cX1_lay 2 = .ok (.bipush 9, 2) := by decide +kernel
theorem dX1_lay_4 : decode cX1_lay 4 = .ok (.invokestatic 19, 3) := by decide +kernel
theorem dX1_lay_7 : decode cX1_lay 7 = .ok (.iload_n 2, 1) := by decide +kernel
theorem dX1_lay_8 : decode cX1_lay 8 = .ok (.iconst 1, 1) := by decide +kernel
theorem dX1_lay_9 : decode cX1_lay 9 = .ok (.bipush 8, 2) := by decide +kernel
theorem dX1_lay_11 : decode cX1_lay 11 = .ok (.invokestatic 19, 3) := by decide +kernel
theorem dX1_lay_14 : decode cX1_lay 14 = .ok (.aload_n 0, 1) := by decide +kernel
theorem dX1_lay_15 : decode cX1_lay 15 = .ok (.getfield 10, 3) := by decide +kernel
theorem dX1_lay_18 : decode cX1_lay 18 = .ok (.iload_n 1, 1) := by decide +kernel
theorem dX1_lay_19 : decode cX1_lay 19 = .ok (.iload_n 2, 1) := by decide +kernel
theorem dX1_lay_20 : decode cX1_lay 20 = .ok (.invokevirtual 23, 3) := by decide +kernel
theorem dX1_lay_23 : decode cX1_lay 23 = .ok (.iload_n 1, 1) := by decide +kernel
theorem dX1_lay_24 : decode cX1_lay 24 = .ok (.iload_n 2, 1) := by decide +kernel
theorem dX1_lay_25 : decode cX1_lay 25 = .ok (.imul, 1) := by decide +kernel
theorem dX1_lay_26 : decode cX1_lay 26 = .ok (.ireturn, 1) := by decide +kernel
set_option maxRecDepth 20000 in
theorem ggX1_put_X1_needPlace : GoodIn wsX1_put wsX1_needPlace := goodIn_ca (goodIn_r _ [6, 7, 8, 9, 5, 10, 11, 12, 1, 13, 14, 15, 16, 17, 18, 19, 20, 21, 22, 23, 24, 25, 26, 27, 52, 53, 54, 55, 56, 57, 58, 59, 60, 61, 62] (by decide +kernel) (by decide +kernel)) (goodIn_sub (fun _ h => List.mem_cons_of_mem _ (List.mem_append_left _ (List.mem_append_right _ h))) (by decide +kernel))
set_option maxRecDepth 20000 in
theorem gX1_put_X1_needPlace : GoodIn wsX1_put (wsV RX1 27 RX1 yX1_needPlace wsX1_needPlace) := goodIn_app (goodIn_of _ (by decide +kernel)) ggX1_put_X1_needPlace
set_option maxRecDepth 20000 in
theorem ggX1_put_X1_needWithin : GoodIn wsX1_put wsX1_needWithin := goodIn_ca (goodIn_r _ [30, 31, 32] (by decide +kernel) (by decide +kernel)) (goodIn_sub (fun _ h => List.mem_cons_of_mem _ (List.mem_append_right _ h)) (by decide +kernel))
set_option maxRecDepth 20000 in
theorem gX1_put_X1_needWithin : GoodIn wsX1_put (va_wsS RX1 19 yX1_needWithin wsX1_needWithin) := goodIn_app (goodIn_of _ (by decide +kernel)) ggX1_put_X1_needWithin
set_option maxRecDepth 20000 in
theorem ggX1_put_X0_replacePart : GoodIn wsX1_put wsX0_replacePart := goodIn_r _ [36, 37, 38, 39, 40, 41, 42, 16, 43, 27, 44, 45, 46, 47, 48, 5, 49, 50, 51, 54, 55, 56, 57, 58, 59, 60, 61, 62] (by decide +kernel) (by decide +kernel)
set_option maxRecDepth 20000 in
theorem gX1_put_X0_replacePart : GoodIn wsX1_put (wsV RX1 30 RX0 yX0_replacePart wsX0_replacePart) := goodIn_app (goodIn_of _ (by decide +kernel)) ggX1_put_X0_replacePart
theorem dX1_put_0 : decode cX1_put 0 = .ok (.aload_n 0, 1) := by decide +kernel
theorem dX1_put_1 : decode cX1_put 1 = .ok (.iload_n 1, 1) := by decide +kernel
theorem dX1_put_2 : decode cX1_put 2 = .ok (.iload_n 2, 1) := by decide +kernel
theorem dX1_put_3 : decode cX1_put 3 = .ok (.invokevirtual 27, 3) := by decide +kernel
theorem dX1_put_6 : decode cX1_put 6 = .ok (.iload_n 3, 1) := by decide +kernel
theorem dX1_put_7 : decode cX1_put 7 = .ok (.iconst 0, 1) := by decide +kernel
theorem dX1_put_8 : decode cX1_put 8 = .ok (.iconst 4, 1) := by decide +kernel
theorem dX1_put_9 : decode cX1_put 9 = .ok (.invokestatic 19, 3) := by decide +kernel
theorem dX1_put_12 : decode cX1_put 12 = .ok (.aload_n 0, 1) := by decide +kernel
theorem dX1_put_13 : decode cX1_put 13 = .ok (.getfield 10, 3) := by decide +kernel
theorem dX1_put_16 : decode cX1_put 16 = .ok (.iload_n 1, 1) := by decide +kernel
theorem dX1_put_17 : decode cX1_put 17 = .ok (.iload_n 2, 1) := by decide +kernel
theorem dX1_put_18 : decode cX1_put 18 = .ok (.iload_n 3, 1) := by decide +kernel
theorem dX1_put_19 : decode cX1_put 19 = .ok (.iload_n 3, 1) := by decide +kernel
theorem dX1_put_20 : decode cX1_put 20 = .ok (.iconst 3, 1) := by decide +kernel
theorem dX1_put_21 : decode cX1_put 21 = .ok (.if_icmp .ne 7, 3) := by decide +kernel
theorem dX1_put_24 : decode cX1_put 24 = .ok (.iconst 2, 1) := by decide +kernel
theorem dX1_put_25 : decode cX1_put 25 = .ok (.goto 4, 3) := by decide +kernel
theorem dX1_put_28 : decode cX1_put 28 = .ok (.iconst 0, 1) := by decide +kernel
theorem dX1_put_29 : decode cX1_put 29 = .ok (.invokevirtual 30, 3) := by decide +kernel
theorem dX1_put_32 : decode cX1_put 32 = .ok (.ireturn, 1) := by decide +kernel
set_option maxRecDepth 20000 in
theorem ggX1_putCounter_X1_needPlace : GoodIn wsX1_putCounter wsX1_needPlace := goodIn_ca (goodIn_r _ [6, 7, 8, 9, 5, 10, 11, 12, 1, 13, 14, 15, 16, 17, 18, 19, 20, 21, 22, 23, 24, 25, 26, 27, 52, 53, 54, 55, 56, 57, 58, 59, 60, 61, 62] (by decide +kernel) (by decide +kernel)) (goodIn_sub (fun _ h => List.mem_cons_of_mem _ (List.mem_append_left _ (List.mem_append_right _ h))) (by decide +kernel))
set_option maxRecDepth 20000 in
theorem gX1_putCounter_X1_needPlace : GoodIn wsX1_putCounter (wsV RX1 27 RX1 yX1_needPlace wsX1_needPlace) := goodIn_app (goodIn_of _ (by decide +kernel)) ggX1_putCounter_X1_needPlace
set_option maxRecDepth 20000 in
theorem ggX1_putCounter_X1_needWithin : GoodIn wsX1_putCounter wsX1_needWithin := goodIn_ca (goodIn_r _ [30, 31, 32] (by decide +kernel) (by decide +kernel)) (goodIn_sub (fun _ h => List.mem_cons_of_mem _ (List.mem_append_right _ h)) (by decide +kernel))
set_option maxRecDepth 20000 in
theorem gX1_putCounter_X1_needWithin : GoodIn wsX1_putCounter (va_wsS RX1 19 yX1_needWithin wsX1_needWithin) := goodIn_app (goodIn_of _ (by decide +kernel)) ggX1_putCounter_X1_needWithin
set_option maxRecDepth 20000 in
theorem ggX1_putCounter_X0_replacePart : GoodIn wsX1_putCounter wsX0_replacePart := goodIn_r _ [36, 37, 38, 39, 40, 41, 42, 16, 43, 27, 44, 45, 46, 47, 48, 5, 49, 50, 51, 54, 55, 56, 57, 58, 59, 60, 61, 62] (by decide +kernel) (by decide +kernel)
set_option maxRecDepth 20000 in
theorem gX1_putCounter_X0_replacePart : GoodIn wsX1_putCounter (wsV RX1 30 RX0 yX0_replacePart wsX0_replacePart) := goodIn_app (goodIn_of _ (by decide +kernel)) ggX1_putCounter_X0_replacePart
theorem dX1_putCounter_0 : decode cX1_putCounter 0 = .ok (.aload_n 0, 1) := by decide +kernel
theorem dX1_putCounter_1 : decode cX1_putCounter 1 = .ok (.iload_n 1, 1) := by decide +kernel
theorem dX1_putCounter_2 : decode cX1_putCounter 2 = .ok (.iload_n 2, 1) := by decide +kernel
theorem dX1_putCounter_3 : decode cX1_putCounter 3 = .ok (.invokevirtual 27, 3) := by decide +kernel
theorem dX1_putCounter_6 : decode cX1_putCounter 6 = .ok (.iload_n 3, 1) := by decide +kernel
theorem dX1_putCounter_7 : decode cX1_putCounter 7 = .ok (.iconst 2, 1) := by decide +kernel
theorem dX1_putCounter_8 : decode cX1_putCounter 8 = .ok (.bipush 9, 2) := by decide +kernel
theorem dX1_putCounter_10 : decode cX1_putCounter 10 = .ok (.invokestatic 19, 3) := by decide +kernel
theorem dX1_putCounter_13 : decode cX1_putCounter 13 = .ok (.aload_n 0, 1) := by decide +kernel
theorem dX1_putCounter_14 : decode cX1_putCounter 14 = .ok (.getfield 10, 3) := by decide +kernel
theorem dX1_putCounter_17 : decode cX1_putCounter 17 = .ok (.iload_n 1, 1) := by decide +kernel
theorem dX1_putCounter_18 : decode cX1_putCounter 18 = .ok (.iload_n 2, 1) := by decide +kernel
theorem dX1_putCounter_19 : decode cX1_putCounter 19 = .ok (.iconst 5, 1) := by decide +kernel
theorem dX1_putCounter_20 : decode cX1_putCounter 20 = .ok (.iload_n 3, 1) := by decide +kernel
theorem dX1_putCounter_21 : decode cX1_putCounter 21 = .ok (.invokevirtual 30, 3) := by decide +kernel
theorem dX1_putCounter_24 : decode cX1_putCounter 24 = .ok (.ireturn, 1) := by decide +kernel
set_option maxRecDepth 20000 in
theorem ggX1_turn_X1_needPlace : GoodIn wsX1_turn wsX1_needPlace := goodIn_ca (goodIn_r _ [8, 9, 10, 11, 7, 12, 13, 14, 3, 15, 16, 17, 18, 19, 20, 21, 22, 23, 24, 25, 26, 27, 28, 29, 54, 55, 56, 57, 58, 59, 60, 61, 62, 63, 64] (by decide +kernel) (by decide +kernel)) (goodIn_sub (fun _ h => List.mem_cons_of_mem _ (List.mem_append_right _ h)) (by decide +kernel))
set_option maxRecDepth 20000 in
theorem gX1_turn_X1_needPlace : GoodIn wsX1_turn (wsV RX1 27 RX1 yX1_needPlace wsX1_needPlace) := goodIn_app (goodIn_of _ (by decide +kernel)) ggX1_turn_X1_needPlace
set_option maxRecDepth 20000 in
theorem ggX1_turn_X0_placeOf : GoodIn wsX1_turn wsX0_placeOf := goodIn_r _ [33, 29, 56, 57, 58, 59, 60, 61, 62, 63, 64] (by decide +kernel) (by decide +kernel)
set_option maxRecDepth 20000 in
theorem gX1_turn_X0_placeOf : GoodIn wsX1_turn (wsV RX1 34 RX0 yX0_placeOf wsX0_placeOf) := goodIn_app (goodIn_of _ (by decide +kernel)) ggX1_turn_X0_placeOf
set_option maxRecDepth 20000 in
theorem ggX1_turn_X0_partIn : GoodIn wsX1_turn wsX0_partIn := goodIn_r _ [37, 38, 39, 7, 40, 56, 57, 58, 59, 60, 61, 62, 63, 64] (by decide +kernel) (by decide +kernel)
set_option maxRecDepth 20000 in
theorem gX1_turn_X0_partIn : GoodIn wsX1_turn (wsV RX1 38 RX0 yX0_partIn wsX0_partIn) := goodIn_app (goodIn_of _ (by decide +kernel)) ggX1_turn_X0_partIn
set_option maxRecDepth 20000 in
theorem ggX1_turn_X0_turnOver : GoodIn wsX1_turn wsX0_turnOver := goodIn_r _ [44, 45, 46, 47, 48, 18, 49, 50, 35, 36, 37, 38, 39, 7, 40, 51, 52, 56, 57, 58, 59, 60, 61, 62, 63, 64] (by decide +kernel) (by decide +kernel)
set_option maxRecDepth 20000 in
theorem gX1_turn_X0_turnOver : GoodIn wsX1_turn (wsV RX1 49 RX0 yX0_turnOver wsX0_turnOver) := goodIn_app (goodIn_of _ (by decide +kernel)) ggX1_turn_X0_turnOver
set_option maxRecDepth 20000 in
theorem ggX1_turn_X0_isRightToggle : GoodIn wsX1_turn wsX0_isRightToggle := goodIn_r _ [49, 45, 50, 35, 36, 18, 37, 38, 39, 7, 40, 56, 57, 58, 59, 60, 61, 62, 63, 64] (by decide +kernel) (by decide +kernel)
set_option maxRecDepth 20000 in
theorem gX1_turn_X0_isRightToggle : GoodIn wsX1_turn (wsV RX1 53 RX0 yX0_isRightToggle wsX0_isRightToggle) := goodIn_app (goodIn_of _ (by decide +kernel)) ggX1_turn_X0_isRightToggle
theorem dX1_turn_0 : decode cX1_turn 0 = .ok (.aload_n 0, 1) := by decide +kernel
theorem dX1_turn_1 : decode cX1_turn 1 = .ok (.iload_n 1, 1) := by decide +kernel
theorem dX1_turn_2 : decode cX1_turn 2 = .ok (.iload_n 2, 1) := by decide +kernel
theorem dX1_turn_3 : decode cX1_turn 3 = .ok (.invokevirtual 27, 3) := by decide +kernel
theorem dX1_turn_6 : decode cX1_turn 6 = .ok (.aload_n 0, 1) := by decide +kernel
theorem dX1_turn_7 : decode cX1_turn 7 = .ok (.getfield 10, 3) := by decide +kernel
theorem dX1_turn_10 : decode cX1_turn 10 = .ok (.iload_n 1, 1) := by decide +kernel
theorem dX1_turn_11 : decode cX1_turn 11 = .ok (.iload_n 2, 1) := by decide +kernel
theorem dX1_turn_12 : decode cX1_turn 12 = .ok (.invokevirtual 34, 3) := by decide +kernel
theorem dX1_turn_15 : decode cX1_turn 15 = .ok (.istore_n 3, 1) := by decide +kernel
theorem dX1_turn_16 : decode cX1_turn 16 = .ok (.aload_n 0, 1) := by decide +kernel
theorem dX1_turn_17 : decode cX1_turn 17 = .ok (.getfield 10, 3) := by decide +kernel
theorem dX1_turn_20 : decode cX1_turn 20 = .ok (.iload_n 3, 1) := by decide +kernel
theorem dX1_turn_21 : decode cX1_turn 21 = .ok (.invokevirtual 38, 3) := by decide +kernel
theorem dX1_turn_24 : decode cX1_turn 24 = .ok (.iconst 3, 1) := by decide +kernel
theorem dX1_turn_25 : decode cX1_turn 25 = .ok (.if_icmp .eq 13, 3) := by decide +kernel
theorem dX1_turn_28 : decode cX1_turn 28 = .ok (.new 42, 3) := by decide +kernel
theorem dX1_turn_31 : decode cX1_turn 31 = .ok (.dup, 1) := by decide +kernel
theorem dX1_turn_32 : decode cX1_turn 32 = .ok (.ldc 44, 2) := by decide +kernel
theorem dX1_turn_34 : decode cX1_turn 34 = .ok (.invokespecial 46, 3) := by decide +kernel
theorem dX1_turn_37 : decode cX1_turn 37 = .ok (.athrow, 1) := by decide +kernel
theorem dX1_turn_38 : decode cX1_turn 38 = .ok (.aload_n 0, 1) := by decide +kernel
theorem dX1_turn_39 : decode cX1_turn 39 = .ok (.getfield 10, 3) := by decide +kernel
theorem dX1_turn_42 : decode cX1_turn 42 = .ok (.iload_n 3, 1) := by decide +kernel
theorem dX1_turn_43 : decode cX1_turn 43 = .ok (.invokevirtual 49, 3) := by decide +kernel
theorem dX1_turn_46 : decode cX1_turn 46 = .ok (.aload_n 0, 1) := by decide +kernel
theorem dX1_turn_47 : decode cX1_turn 47 = .ok (.getfield 10, 3) := by decide +kernel
theorem dX1_turn_50 : decode cX1_turn 50 = .ok (.iload_n 3, 1) := by decide +kernel
theorem dX1_turn_51 : decode cX1_turn 51 = .ok (.invokevirtual 53, 3) := by decide +kernel
theorem dX1_turn_54 : decode cX1_turn 54 = .ok (.ireturn, 1) := by decide +kernel
set_option maxRecDepth 20000 in
theorem ggX1_setHopper_X1_needHopper : GoodIn wsX1_setHopper wsX1_needHopper := goodIn_ca (goodIn_r _ [5, 6, 7] (by decide +kernel) (by decide +kernel)) (goodIn_sub (fun _ h => List.mem_cons_of_mem _ (List.mem_append_left _ (List.mem_append_right _ h))) (by decide +kernel))
set_option maxRecDepth 20000 in
theorem gX1_setHopper_X1_needHopper : GoodIn wsX1_setHopper (va_wsS RX1 57 yX1_needHopper wsX1_needHopper) := goodIn_app (goodIn_of _ (by decide +kernel)) ggX1_setHopper_X1_needHopper
set_option maxRecDepth 20000 in
theorem ggX1_setHopper_X1_needColumn : GoodIn wsX1_setHopper wsX1_needColumn := goodIn_ca (goodIn_r _ [11, 6, 7, 1, 12, 13, 14, 15, 16, 17, 33, 34, 35, 36, 37, 38, 39, 40, 41, 42, 43] (by decide +kernel) (by decide +kernel)) (goodIn_sub (fun _ h => List.mem_cons_of_mem _ (List.mem_append_left _ (List.mem_append_right _ h))) (by decide +kernel))
set_option maxRecDepth 20000 in
theorem gX1_setHopper_X1_needColumn : GoodIn wsX1_setHopper (wsV RX1 60 RX1 yX1_needColumn wsX1_needColumn) := goodIn_app (goodIn_of _ (by decide +kernel)) ggX1_setHopper_X1_needColumn
set_option maxRecDepth 20000 in
theorem ggX1_setHopper_X1_needWithin : GoodIn wsX1_setHopper wsX1_needWithin := goodIn_ca (goodIn_r _ [20, 21, 22] (by decide +kernel) (by decide +kernel)) (goodIn_sub (fun _ h => List.mem_cons_of_mem _ (List.mem_append_right _ h)) (by decide +kernel))
set_option maxRecDepth 20000 in
theorem gX1_setHopper_X1_needWithin : GoodIn wsX1_setHopper (va_wsS RX1 19 yX1_needWithin wsX1_needWithin) := goodIn_app (goodIn_of _ (by decide +kernel)) ggX1_setHopper_X1_needWithin
set_option maxRecDepth 20000 in
theorem ggX1_setHopper_X0_fillHopper : GoodIn wsX1_setHopper wsX0_fillHopper := goodIn_r _ [26, 27, 28, 29, 4, 30, 31, 32, 35, 36, 37, 38, 39, 40, 41, 42, 43] (by decide +kernel) (by decide +kernel)
set_option maxRecDepth 20000 in
theorem gX1_setHopper_X0_fillHopper : GoodIn wsX1_setHopper (wsV RX1 63 RX0 yX0_fillHopper wsX0_fillHopper) := goodIn_app (goodIn_of _ (by decide +kernel)) ggX1_setHopper_X0_fillHopper
theorem dX1_setHopper_0 : decode cX1_setHopper 0 = .ok (.iload_n 1, 1) := by decide +kernel
theorem dX1_setHopper_1 : decode cX1_setHopper 1 = .ok (.invokestatic 57, 3) := by decide +kernel
theorem dX1_setHopper_4 : decode cX1_setHopper 4 = .ok (.aload_n 0, 1) := by decide +kernel
theorem dX1_setHopper_5 : decode cX1_setHopper 5 = .ok (.iload_n 2, 1) := by decide +kernel
theorem dX1_setHopper_6 : decode cX1_setHopper 6 = .ok (.invokevirtual 60, 3) := by decide +kernel
theorem dX1_setHopper_9 : decode cX1_setHopper 9 = .ok (.iload_n 3, 1) := by decide +kernel
theorem dX1_setHopper_10 : decode cX1_setHopper 10 = .ok (.iconst 0, 1) := by decide +kernel
theorem dX1_setHopper_11 : decode cX1_setHopper 11 = .ok (.bipush 99, 2) := by decide +kernel
theorem dX1_setHopper_13 : decode cX1_setHopper 13 = .ok (.invokestatic 19, 3) := by decide +kernel
theorem dX1_setHopper_16 : decode cX1_setHopper 16 = .ok (.aload_n 0, 1) := by decide +kernel
theorem dX1_setHopper_17 : decode cX1_setHopper 17 = .ok (.getfield 10, 3) := by decide +kernel
theorem dX1_setHopper_20 : decode cX1_setHopper 20 = .ok (.iload_n 1, 1) := by decide +kernel
theorem dX1_setHopper_21 : decode cX1_setHopper 21 = .ok (.iload_n 2, 1) := by decide +kernel
theorem dX1_setHopper_22 : decode cX1_setHopper 22 = .ok (.iload_n 3, 1) := by decide +kernel
theorem dX1_setHopper_23 : decode cX1_setHopper 23 = .ok (.invokevirtual 63, 3) := by decide +kernel
theorem dX1_setHopper_26 : decode cX1_setHopper 26 = .ok (.ireturn, 1) := by decide +kernel
set_option maxRecDepth 20000 in
theorem ggX1_drop_X1_needColumn : GoodIn wsX1_drop wsX1_needColumn := goodIn_ca (goodIn_r _ [6, 7, 8, 1, 9, 10, 11, 12, 13, 14, 42, 43, 44, 45, 46, 47, 48, 49, 50, 51, 52] (by decide +kernel) (by decide +kernel)) (goodIn_sub (fun _ h => List.mem_cons_of_mem _ (List.mem_append_right _ h)) (by decide +kernel))
set_option maxRecDepth 20000 in
theorem gX1_drop_X1_needColumn : GoodIn wsX1_drop (wsV RX1 60 RX1 yX1_needColumn wsX1_needColumn) := goodIn_app (goodIn_of _ (by decide +kernel)) ggX1_drop_X1_needColumn
set_option maxRecDepth 20000 in
theorem ggX1_drop_X0_letFall : GoodIn wsX1_drop wsX0_letFall := goodIn_r _ [18, 19, 20, 21, 22, 23, 24, 12, 25, 26, 27, 28, 29, 14, 30, 31, 32, 33, 34, 35, 36, 37, 5, 38, 39, 40, 41, 10, 11, 13, 44, 45, 46, 47, 48, 49, 50, 51, 52] (by decide +kernel) (by decide +kernel)
set_option maxRecDepth 20000 in
theorem gX1_drop_X0_letFall : GoodIn wsX1_drop (wsV RX1 67 RX0 yX0_letFall wsX0_letFall) := goodIn_app (goodIn_of _ (by decide +kernel)) ggX1_drop_X0_letFall
theorem dX1_drop_0 : decode cX1_drop 0 = .ok (.aload_n 0, 1) := by decide +kernel
theorem dX1_drop_1 : decode cX1_drop 1 = .ok (.iload_n 1, 1) := by decide +kernel
theorem dX1_drop_2 : decode cX1_drop 2 = .ok (.invokevirtual 60, 3) := by decide +kernel
theorem dX1_drop_5 : decode cX1_drop 5 = .ok (.aload_n 0, 1) := by decide +kernel
theorem dX1_drop_6 : decode cX1_drop 6 = .ok (.getfield 10, 3) := by decide +kernel
theorem dX1_drop_9 : decode cX1_drop 9 = .ok (.iload_n 1, 1) := by decide +kernel
theorem dX1_drop_10 : decode cX1_drop 10 = .ok (.invokevirtual 67, 3) := by decide +kernel
theorem dX1_drop_13 : decode cX1_drop 13 = .ok (.ireturn, 1) := by decide +kernel
set_option maxRecDepth 20000 in
theorem ggX1_run_X1_needHopper : GoodIn wsX1_run wsX1_needHopper := goodIn_ca (goodIn_r _ [5, 6, 7] (by decide +kernel) (by decide +kernel)) (goodIn_sub (fun _ h => List.mem_cons_of_mem _ (List.mem_append_left _ (List.mem_append_right _ h))) (by decide +kernel))
set_option maxRecDepth 20000 in
theorem gX1_run_X1_needHopper : GoodIn wsX1_run (va_wsS RX1 57 yX1_needHopper wsX1_needHopper) := goodIn_app (goodIn_of _ (by decide +kernel)) ggX1_run_X1_needHopper
set_option maxRecDepth 20000 in
theorem ggX1_run_X1_needWithin : GoodIn wsX1_run wsX1_needWithin := goodIn_ca (goodIn_r _ [10, 11, 12] (by decide +kernel) (by decide +kernel)) (goodIn_sub (fun _ h => List.mem_cons_of_mem _ (List.mem_append_right _ h)) (by decide +kernel))
set_option maxRecDepth 20000 in
theorem gX1_run_X1_needWithin : GoodIn wsX1_run (va_wsS RX1 19 yX1_needWithin wsX1_needWithin) := goodIn_app (goodIn_of _ (by decide +kernel)) ggX1_run_X1_needWithin
set_option maxRecDepth 20000 in
theorem ggX1_run_X0_runFrom : GoodIn wsX1_run wsX0_runFrom := goodIn_r _ [17, 18, 19, 20, 4, 21, 22, 23, 24, 25, 26, 16, 27, 28, 29, 30, 31, 32, 33, 34, 35, 36, 37, 38, 39, 40, 41, 42, 43, 44, 45, 46, 47, 48, 49, 50, 51, 52, 53, 54, 57, 58, 59, 60, 61, 62, 63, 64, 65] (by decide +kernel) (by decide +kernel)
set_option maxRecDepth 20000 in
theorem gX1_run_X0_runFrom : GoodIn wsX1_run (wsV RX1 70 RX0 yX0_runFrom wsX0_runFrom) := goodIn_app (goodIn_of _ (by decide +kernel)) ggX1_run_X0_runFrom
theorem dX1_run_0 : decode cX1_run 0 = .ok (.iload_n 1, 1) := by decide +kernel
theorem dX1_run_1 : decode cX1_run 1 = .ok (.invokestatic 57, 3) := by decide +kernel
theorem dX1_run_4 : decode cX1_run 4 = .ok (.iload_n 2, 1) := by decide +kernel
theorem dX1_run_5 : decode cX1_run 5 = .ok (.iconst 1, 1) := by decide +kernel
theorem dX1_run_6 : decode cX1_run 6 = .ok (.bipush 99, 2) := by decide +kernel
theorem dX1_run_8 : decode cX1_run 8 = .ok (.invokestatic 19, 3) := by decide +kernel
theorem dX1_run_11 : decode cX1_run 11 = .ok (.aload_n 0, 1) := by decide +kernel
theorem dX1_run_12 : decode cX1_run 12 = .ok (.getfield 10, 3) := by decide +kernel
theorem dX1_run_15 : decode cX1_run 15 = .ok (.iload_n 1, 1) := by decide +kernel
theorem dX1_run_16 : decode cX1_run 16 = .ok (.iload_n 2, 1) := by decide +kernel
theorem dX1_run_17 : decode cX1_run 17 = .ok (.invokevirtual 70, 3) := by decide +kernel
theorem dX1_run_20 : decode cX1_run 20 = .ok (.ireturn, 1) := by decide +kernel
set_option maxRecDepth 20000 in
theorem ggX1_emptyBins_X0_marblesInBins : GoodIn wsX1_emptyBins wsX0_marblesInBins := goodIn_r _ [6, 7, 18, 19, 20, 21, 22, 23, 24, 25, 26] (by decide +kernel) (by decide +kernel)
set_option maxRecDepth 20000 in
theorem gX1_emptyBins_X0_marblesInBins : GoodIn wsX1_emptyBins (wsV RX1 73 RX0 yX0_marblesInBins wsX0_marblesInBins) := goodIn_app (goodIn_of _ (by decide +kernel)) ggX1_emptyBins_X0_marblesInBins
set_option maxRecDepth 20000 in
theorem ggX1_emptyBins_X0_clearBins : GoodIn wsX1_emptyBins wsX0_clearBins := goodIn_r _ [11, 7, 12, 13, 14, 15, 18, 19, 20, 21, 22, 23, 24, 25, 26] (by decide +kernel) (by decide +kernel)
set_option maxRecDepth 20000 in
theorem gX1_emptyBins_X0_clearBins : GoodIn wsX1_emptyBins (wsV RX1 77 RX0 yX0_clearBins wsX0_clearBins) := goodIn_app (goodIn_of _ (by decide +kernel)) ggX1_emptyBins_X0_clearBins
theorem dX1_emptyBins_0 : decode cX1_emptyBins 0 = .ok (.aload_n 0, 1) := by decide +kernel
theorem dX1_emptyBins_1 : decode cX1_emptyBins 1 = .ok (.getfield 10, 3) := by decide +kernel
theorem dX1_emptyBins_4 : decode cX1_emptyBins 4 = .ok (.invokevirtual 73, 3) := by decide +kernel
theorem dX1_emptyBins_7 : decode cX1_emptyBins 7 = .ok (.istore_n 1, 1) := by decide +kernel
theorem dX1_emptyBins_8 : decode cX1_emptyBins 8 = .ok (.aload_n 0, 1) := by decide +kernel
theorem dX1_emptyBins_9 : decode cX1_emptyBins 9 = .ok (.getfield 10, 3) := by decide +kernel
theorem dX1_emptyBins_12 : decode cX1_emptyBins 12 = .ok (.invokevirtual 77, 3) := by decide +kernel
theorem dX1_emptyBins_15 : decode cX1_emptyBins 15 = .ok (.iload_n 1, 1) := by decide +kernel
theorem dX1_emptyBins_16 : decode cX1_emptyBins 16 = .ok (.ireturn, 1) := by decide +kernel
theorem dX1_columns_0 : decode cX1_columns 0 = .ok (.aload_n 0, 1) := by decide +kernel
theorem dX1_columns_1 : decode cX1_columns 1 = .ok (.getfield 10, 3) := by decide +kernel
theorem dX1_columns_4 : decode cX1_columns 4 = .ok (.getfield 80, 3) := by decide +kernel
theorem dX1_columns_7 : decode cX1_columns 7 = .ok (.ireturn, 1) := by decide +kernel
theorem dX1_rows_0 : decode cX1_rows 0 = .ok (.aload_n 0, 1) := by decide +kernel
theorem dX1_rows_1 : decode cX1_rows 1 = .ok (.getfield 10, 3) := by decide +kernel
theorem dX1_rows_4 : decode cX1_rows 4 = .ok (.getfield 84, 3) := by decide +kernel
theorem dX1_rows_7 : decode cX1_rows 7 = .ok (.ireturn, 1) := by decide +kernel
set_option maxRecDepth 20000 in
theorem ggX1_partAt_X1_needPlace : GoodIn wsX1_partAt wsX1_needPlace := goodIn_ca (goodIn_r _ [6, 7, 8, 9, 5, 10, 11, 12, 1, 13, 14, 15, 16, 17, 18, 19, 20, 21, 22, 23, 24, 25, 26, 27, 39, 40, 41, 42, 43, 44, 45, 46, 47, 48, 49] (by decide +kernel) (by decide +kernel)) (goodIn_sub (fun _ h => List.mem_cons_of_mem _ (List.mem_append_right _ h)) (by decide +kernel))
set_option maxRecDepth 20000 in
theorem gX1_partAt_X1_needPlace : GoodIn wsX1_partAt (wsV RX1 27 RX1 yX1_needPlace wsX1_needPlace) := goodIn_app (goodIn_of _ (by decide +kernel)) ggX1_partAt_X1_needPlace
set_option maxRecDepth 20000 in
theorem ggX1_partAt_X0_placeOf : GoodIn wsX1_partAt wsX0_placeOf := goodIn_r _ [31, 27, 41, 42, 43, 44, 45, 46, 47, 48, 49] (by decide +kernel) (by decide +kernel)
set_option maxRecDepth 20000 in
theorem gX1_partAt_X0_placeOf : GoodIn wsX1_partAt (wsV RX1 34 RX0 yX0_placeOf wsX0_placeOf) := goodIn_app (goodIn_of _ (by decide +kernel)) ggX1_partAt_X0_placeOf
set_option maxRecDepth 20000 in
theorem ggX1_partAt_X0_partIn : GoodIn wsX1_partAt wsX0_partIn := goodIn_r _ [35, 36, 37, 5, 38, 41, 42, 43, 44, 45, 46, 47, 48, 49] (by decide +kernel) (by decide +kernel)
set_option maxRecDepth 20000 in
theorem gX1_partAt_X0_partIn : GoodIn wsX1_partAt (wsV RX1 38 RX0 yX0_partIn wsX0_partIn) := goodIn_app (goodIn_of _ (by decide +kernel)) ggX1_partAt_X0_partIn
theorem dX1_partAt_0 : decode cX1_partAt 0 = .ok (.aload_n 0, 1) := by decide +kernel
theorem dX1_partAt_1 : decode cX1_partAt 1 = .ok (.iload_n 1, 1) := by decide +kernel
theorem dX1_partAt_2 : decode cX1_partAt 2 = .ok (.iload_n 2, 1) := by decide +kernel
theorem dX1_partAt_3 : decode cX1_partAt 3 = .ok (.invokevirtual 27, 3) := by decide +kernel
theorem dX1_partAt_6 : decode cX1_partAt 6 = .ok (.aload_n 0, 1) := by decide +kernel
theorem dX1_partAt_7 : decode cX1_partAt 7 = .ok (.getfield 10, 3) := by decide +kernel
theorem dX1_partAt_10 : decode cX1_partAt 10 = .ok (.aload_n 0, 1) := by decide +kernel
theorem dX1_partAt_11 : decode cX1_partAt 11 = .ok (.getfield 10, 3) := by decide +kernel
theorem dX1_partAt_14 : decode cX1_partAt 14 = .ok (.iload_n 1, 1) := by decide +kernel
theorem dX1_partAt_15 : decode cX1_partAt 15 = .ok (.iload_n 2, 1) := by decide +kernel
theorem dX1_partAt_16 : decode cX1_partAt 16 = .ok (.invokevirtual 34, 3) := by decide +kernel
theorem dX1_partAt_19 : decode cX1_partAt 19 = .ok (.invokevirtual 38, 3) := by decide +kernel
theorem dX1_partAt_22 : decode cX1_partAt 22 = .ok (.ireturn, 1) := by decide +kernel
set_option maxRecDepth 20000 in
theorem ggX1_leadsRight_X1_needPlace : GoodIn wsX1_leadsRight wsX1_needPlace := goodIn_ca (goodIn_r _ [6, 7, 8, 9, 5, 10, 11, 12, 1, 13, 14, 15, 16, 17, 18, 19, 20, 21, 22, 23, 24, 25, 26, 27, 44, 45, 46, 47, 48, 49, 50, 51, 52, 53, 54] (by decide +kernel) (by decide +kernel)) (goodIn_sub (fun _ h => List.mem_cons_of_mem _ (List.mem_append_right _ h)) (by decide +kernel))
set_option maxRecDepth 20000 in
theorem gX1_leadsRight_X1_needPlace : GoodIn wsX1_leadsRight (wsV RX1 27 RX1 yX1_needPlace wsX1_needPlace) := goodIn_app (goodIn_of _ (by decide +kernel)) ggX1_leadsRight_X1_needPlace
set_option maxRecDepth 20000 in
theorem ggX1_leadsRight_X0_placeOf : GoodIn wsX1_leadsRight wsX0_placeOf := goodIn_r _ [31, 27, 46, 47, 48, 49, 50, 51, 52, 53, 54] (by decide +kernel) (by decide +kernel)
set_option maxRecDepth 20000 in
theorem gX1_leadsRight_X0_placeOf : GoodIn wsX1_leadsRight (wsV RX1 34 RX0 yX0_placeOf wsX0_placeOf) := goodIn_app (goodIn_of _ (by decide +kernel)) ggX1_leadsRight_X0_placeOf
set_option maxRecDepth 20000 in
theorem ggX1_leadsRight_X0_isRightToggle : GoodIn wsX1_leadsRight wsX0_isRightToggle := goodIn_r _ [35, 36, 37, 38, 39, 16, 40, 41, 42, 5, 43, 46, 47, 48, 49, 50, 51, 52, 53, 54] (by decide +kernel) (by decide +kernel)
set_option maxRecDepth 20000 in
theorem gX1_leadsRight_X0_isRightToggle : GoodIn wsX1_leadsRight (wsV RX1 53 RX0 yX0_isRightToggle wsX0_isRightToggle) := goodIn_app (goodIn_of _ (by decide +kernel)) ggX1_leadsRight_X0_isRightToggle
theorem dX1_leadsRight_0 : decode cX1_leadsRight 0 = .ok (.aload_n 0, 1) := by decide +kernel
theorem dX1_leadsRight_1 : decode cX1_leadsRight 1 = .ok (.iload_n 1, 1) := by decide +kernel
theorem dX1_leadsRight_2 : decode cX1_leadsRight 2 = .ok (.iload_n 2, 1) := by decide +kernel
theorem dX1_leadsRight_3 : decode cX1_leadsRight 3 = .ok (.invokevirtual 27, 3) := by decide +kernel
theorem dX1_leadsRight_6 : decode cX1_leadsRight 6 = .ok (.aload_n 0, 1) := by decide +kernel
theorem dX1_leadsRight_7 : decode cX1_leadsRight 7 = .ok (.getfield 10, 3) := by decide +kernel
theorem dX1_leadsRight_10 : decode cX1_leadsRight 10 = .ok (.aload_n 0, 1) := by decide +kernel
theorem dX1_leadsRight_11 : decode cX1_leadsRight 11 = .ok (.getfield 10, 3) := by decide +kernel
theorem dX1_leadsRight_14 : decode cX1_leadsRight 14 = .ok (.iload_n 1, 1) := by decide +kernel
theorem dX1_leadsRight_15 : decode cX1_leadsRight 15 = .ok (.iload_n 2, 1) := by decide +kernel
theorem dX1_leadsRight_16 : decode cX1_leadsRight 16 = .ok (.invokevirtual 34, 3) := by decide +kernel
theorem dX1_leadsRight_19 : decode cX1_leadsRight 19 = .ok (.invokevirtual 53, 3) := by decide +kernel
theorem dX1_leadsRight_22 : decode cX1_leadsRight 22 = .ok (.ireturn, 1) := by decide +kernel
set_option maxRecDepth 20000 in
theorem ggX1_countAt_X1_needPlace : GoodIn wsX1_countAt wsX1_needPlace := goodIn_ca (goodIn_r _ [6, 7, 8, 9, 5, 10, 11, 12, 1, 13, 14, 15, 16, 17, 18, 19, 20, 21, 22, 23, 24, 25, 26, 27, 44, 45, 46, 47, 48, 49, 50, 51, 52, 53, 54] (by decide +kernel) (by decide +kernel)) (goodIn_sub (fun _ h => List.mem_cons_of_mem _ (List.mem_append_right _ h)) (by decide +kernel))
set_option maxRecDepth 20000 in
theorem gX1_countAt_X1_needPlace : GoodIn wsX1_countAt (wsV RX1 27 RX1 yX1_needPlace wsX1_needPlace) := goodIn_app (goodIn_of _ (by decide +kernel)) ggX1_countAt_X1_needPlace
set_option maxRecDepth 20000 in
theorem ggX1_countAt_X0_placeOf : GoodIn wsX1_countAt wsX0_placeOf := goodIn_r _ [31, 27, 46, 47, 48, 49, 50, 51, 52, 53, 54] (by decide +kernel) (by decide +kernel)
set_option maxRecDepth 20000 in
theorem gX1_countAt_X0_placeOf : GoodIn wsX1_countAt (wsV RX1 34 RX0 yX0_placeOf wsX0_placeOf) := goodIn_app (goodIn_of _ (by decide +kernel)) ggX1_countAt_X0_placeOf
set_option maxRecDepth 20000 in
theorem ggX1_countAt_X0_countedIn : GoodIn wsX1_countAt wsX0_countedIn := goodIn_r _ [35, 36, 37, 38, 39, 16, 40, 41, 42, 5, 43, 46, 47, 48, 49, 50, 51, 52, 53, 54] (by decide +kernel) (by decide +kernel)
set_option maxRecDepth 20000 in
theorem gX1_countAt_X0_countedIn : GoodIn wsX1_countAt (wsV RX1 87 RX0 yX0_countedIn wsX0_countedIn) := goodIn_app (goodIn_of _ (by decide +kernel)) ggX1_countAt_X0_countedIn
theorem dX1_countAt_0 : decode cX1_countAt 0 = .ok (.aload_n 0, 1) := by decide +kernel
theorem dX1_countAt_1 : decode cX1_countAt 1 = .ok (.iload_n 1, 1) := by decide +kernel
theorem dX1_countAt_2 : decode cX1_countAt 2 = .ok (.iload_n 2, 1) := by decide +kernel
theorem dX1_countAt_3 : decode cX1_countAt 3 = .ok (.invokevirtual 27, 3) := by decide +kernel
theorem dX1_countAt_6 : decode cX1_countAt 6 = .ok (.aload_n 0, 1) := by decide +kernel
theorem dX1_countAt_7 : decode cX1_countAt 7 = .ok (.getfield 10, 3) := by decide +kernel
theorem dX1_countAt_10 : decode cX1_countAt 10 = .ok (.aload_n 0, 1) := by decide +kernel
theorem dX1_countAt_11 : decode cX1_countAt 11 = .ok (.getfield 10, 3) := by decide +kernel
theorem dX1_countAt_14 : decode cX1_countAt 14 = .ok (.iload_n 1, 1) := by decide +kernel
theorem dX1_countAt_15 : decode cX1_countAt 15 = .ok (.iload_n 2, 1) := by decide +kernel
theorem dX1_countAt_16 : decode cX1_countAt 16 = .ok (.invokevirtual 34, 3) := by decide +kernel
theorem dX1_countAt_19 : decode cX1_countAt 19 = .ok (.invokevirtual 87, 3) := by decide +kernel
theorem dX1_countAt_22 : decode cX1_countAt 22 = .ok (.ireturn, 1) := by decide +kernel
set_option maxRecDepth 20000 in
theorem ggX1_binOf_X1_needColumn : GoodIn wsX1_binOf wsX1_needColumn := goodIn_ca (goodIn_r _ [7, 8, 9, 1, 10, 11, 12, 13, 14, 15, 19, 20, 21, 22, 23, 24, 25, 26, 27, 28, 29] (by decide +kernel) (by decide +kernel)) (goodIn_sub (fun _ h => List.mem_cons_of_mem _ (List.mem_append_right _ h)) (by decide +kernel))
set_option maxRecDepth 20000 in
theorem gX1_binOf_X1_needColumn : GoodIn wsX1_binOf (wsV RX1 60 RX1 yX1_needColumn wsX1_needColumn) := goodIn_app (goodIn_of _ (by decide +kernel)) ggX1_binOf_X1_needColumn
set_option maxRecDepth 20000 in
theorem ggX1_binOf_X1_cell : GoodIn wsX1_binOf wsX1_cell := goodIn_r _ [18] (by decide +kernel) (by decide +kernel)
set_option maxRecDepth 20000 in
theorem gX1_binOf_X1_cell : GoodIn wsX1_binOf (va_wsS RX1 94 yX1_cell wsX1_cell) := goodIn_app (goodIn_of _ (by decide +kernel)) ggX1_binOf_X1_cell
theorem dX1_binOf_0 : decode cX1_binOf 0 = .ok (.aload_n 0, 1) := by decide +kernel
theorem dX1_binOf_1 : decode cX1_binOf 1 = .ok (.iload_n 1, 1) := by decide +kernel
theorem dX1_binOf_2 : decode cX1_binOf 2 = .ok (.invokevirtual 60, 3) := by decide +kernel
theorem dX1_binOf_5 : decode cX1_binOf 5 = .ok (.aload_n 0, 1) := by decide +kernel
theorem dX1_binOf_6 : decode cX1_binOf 6 = .ok (.getfield 10, 3) := by decide +kernel
theorem dX1_binOf_9 : decode cX1_binOf 9 = .ok (.getfield 90, 3) := by decide +kernel
theorem dX1_binOf_12 : decode cX1_binOf 12 = .ok (.iload_n 1, 1) := by decide +kernel
theorem dX1_binOf_13 : decode cX1_binOf 13 = .ok (.invokestatic 94, 3) := by decide +kernel
theorem dX1_binOf_16 : decode cX1_binOf 16 = .ok (.ireturn, 1) := by decide +kernel
theorem dX1_lost_0 : decode cX1_lost 0 = .ok (.aload_n 0, 1) := by decide +kernel
theorem dX1_lost_1 : decode cX1_lost 1 = .ok (.getfield 10, 3) := by decide +kernel
theorem dX1_lost_4 : decode cX1_lost 4 = .ok (.getfield 98, 3) := by decide +kernel
theorem dX1_lost_7 : decode cX1_lost 7 = .ok (.ireturn, 1) := by decide +kernel
set_option maxRecDepth 20000 in
theorem ggX1_marblesIn_X1_needHopper : GoodIn wsX1_marblesIn wsX1_needHopper := goodIn_ca (goodIn_r _ [6, 7, 8] (by decide +kernel) (by decide +kernel)) (goodIn_sub (fun _ h => List.mem_cons_of_mem _ (List.mem_append_right _ h)) (by decide +kernel))
set_option maxRecDepth 20000 in
theorem gX1_marblesIn_X1_needHopper : GoodIn wsX1_marblesIn (va_wsS RX1 57 yX1_needHopper wsX1_needHopper) := goodIn_app (goodIn_of _ (by decide +kernel)) ggX1_marblesIn_X1_needHopper
set_option maxRecDepth 20000 in
theorem ggX1_marblesIn_X1_cell : GoodIn wsX1_marblesIn wsX1_cell := goodIn_r _ [11] (by decide +kernel) (by decide +kernel)
set_option maxRecDepth 20000 in
theorem gX1_marblesIn_X1_cell : GoodIn wsX1_marblesIn (va_wsS RX1 94 yX1_cell wsX1_cell) := goodIn_app (goodIn_of _ (by decide +kernel)) ggX1_marblesIn_X1_cell
theorem dX1_marblesIn_0 : decode cX1_marblesIn 0 = .ok (.iload_n 1, 1) := by decide +kernel
theorem dX1_marblesIn_1 : decode cX1_marblesIn 1 = .ok (.invokestatic 57, 3) := by decide +kernel
theorem dX1_marblesIn_4 : decode cX1_marblesIn 4 = .ok (.aload_n 0, 1) := by decide +kernel
theorem dX1_marblesIn_5 : decode cX1_marblesIn 5 = .ok (.getfield 10, 3) := by decide +kernel
theorem dX1_marblesIn_8 : decode cX1_marblesIn 8 = .ok (.getfield 101, 3) := by decide +kernel
theorem dX1_marblesIn_11 : decode cX1_marblesIn 11 = .ok (.iload_n 1, 1) := by decide +kernel
theorem dX1_marblesIn_12 : decode cX1_marblesIn 12 = .ok (.invokestatic 94, 3) := by decide +kernel
theorem dX1_marblesIn_15 : decode cX1_marblesIn 15 = .ok (.ireturn, 1) := by decide +kernel
set_option maxRecDepth 20000 in
theorem ggX1_columnOf_X1_needHopper : GoodIn wsX1_columnOf wsX1_needHopper := goodIn_ca (goodIn_r _ [6, 7, 8] (by decide +kernel) (by decide +kernel)) (goodIn_sub (fun _ h => List.mem_cons_of_mem _ (List.mem_append_right _ h)) (by decide +kernel))
set_option maxRecDepth 20000 in
theorem gX1_columnOf_X1_needHopper : GoodIn wsX1_columnOf (va_wsS RX1 57 yX1_needHopper wsX1_needHopper) := goodIn_app (goodIn_of _ (by decide +kernel)) ggX1_columnOf_X1_needHopper
set_option maxRecDepth 20000 in
theorem ggX1_columnOf_X1_cell : GoodIn wsX1_columnOf wsX1_cell := goodIn_r _ [11] (by decide +kernel) (by decide +kernel)
set_option maxRecDepth 20000 in
theorem gX1_columnOf_X1_cell : GoodIn wsX1_columnOf (va_wsS RX1 94 yX1_cell wsX1_cell) := goodIn_app (goodIn_of _ (by decide +kernel)) ggX1_columnOf_X1_cell
theorem dX1_columnOf_0 : decode cX1_columnOf 0 = .ok (.iload_n 1, 1) := by decide +kernel
theorem dX1_columnOf_1 : decode cX1_columnOf 1 = .ok (.invokestatic 57, 3) := by decide +kernel
theorem dX1_columnOf_4 : decode cX1_columnOf 4 = .ok (.aload_n 0, 1) := by decide +kernel
theorem dX1_columnOf_5 : decode cX1_columnOf 5 = .ok (.getfield 10, 3) := by decide +kernel
theorem dX1_columnOf_8 : decode cX1_columnOf 8 = .ok (.getfield 104, 3) := by decide +kernel
theorem dX1_columnOf_11 : decode cX1_columnOf 11 = .ok (.iload_n 1, 1) := by decide +kernel
theorem dX1_columnOf_12 : decode cX1_columnOf 12 = .ok (.invokestatic 94, 3) := by decide +kernel
theorem dX1_columnOf_15 : decode cX1_columnOf 15 = .ok (.ireturn, 1) := by decide +kernel
set_option maxRecDepth 20000 in
theorem ggX1_toggles_X0_countToggles : GoodIn wsX1_toggles wsX0_countToggles := goodIn_r _ [6, 7, 10, 11, 12, 13, 14, 15, 16, 17, 18] (by decide +kernel) (by decide +kernel)
set_option maxRecDepth 20000 in
theorem gX1_toggles_X0_countToggles : GoodIn wsX1_toggles (wsV RX1 107 RX0 yX0_countToggles wsX0_countToggles) := goodIn_app (goodIn_of _ (by decide +kernel)) ggX1_toggles_X0_countToggles
theorem dX1_toggles_0 : decode cX1_toggles 0 = .ok (.aload_n 0, 1) := by decide +kernel
theorem dX1_toggles_1 : decode cX1_toggles 1 = .ok (.getfield 10, 3) := by decide +kernel
theorem dX1_toggles_4 : decode cX1_toggles 4 = .ok (.invokevirtual 107, 3) := by decide +kernel
theorem dX1_toggles_7 : decode cX1_toggles 7 = .ok (.ireturn, 1) := by decide +kernel
set_option maxRecDepth 20000 in
theorem ggX1_numberIn_X1_needRow : GoodIn wsX1_numberIn wsX1_needRow := goodIn_ca (goodIn_r _ [6, 7, 8, 1, 9, 10, 11, 12, 13, 14, 36, 37, 38, 39, 40, 41, 42, 43, 44, 45, 46] (by decide +kernel) (by decide +kernel)) (goodIn_sub (fun _ h => List.mem_cons_of_mem _ (List.mem_append_right _ h)) (by decide +kernel))
set_option maxRecDepth 20000 in
theorem gX1_numberIn_X1_needRow : GoodIn wsX1_numberIn (wsV RX1 110 RX1 yX1_needRow wsX1_needRow) := goodIn_app (goodIn_of _ (by decide +kernel)) ggX1_numberIn_X1_needRow
set_option maxRecDepth 20000 in
theorem ggX1_numberIn_X0_numberToldBy : GoodIn wsX1_numberIn wsX0_numberToldBy := goodIn_r _ [18, 19, 20, 21, 22, 12, 23, 24, 25, 26, 27, 28, 29, 5, 30, 31, 32, 33, 34, 35, 38, 39, 40, 41, 42, 43, 44, 45, 46] (by decide +kernel) (by decide +kernel)
set_option maxRecDepth 20000 in
theorem gX1_numberIn_X0_numberToldBy : GoodIn wsX1_numberIn (wsV RX1 113 RX0 yX0_numberToldBy wsX0_numberToldBy) := goodIn_app (goodIn_of _ (by decide +kernel)) ggX1_numberIn_X0_numberToldBy
theorem dX1_numberIn_0 : decode cX1_numberIn 0 = .ok (.aload_n 0, 1) := by decide +kernel
theorem dX1_numberIn_1 : decode cX1_numberIn 1 = .ok (.iload_n 1, 1) := by decide +kernel
theorem dX1_numberIn_2 : decode cX1_numberIn 2 = .ok (.invokevirtual 110, 3) := by decide +kernel
theorem dX1_numberIn_5 : decode cX1_numberIn 5 = .ok (.aload_n 0, 1) := by decide +kernel
theorem dX1_numberIn_6 : decode cX1_numberIn 6 = .ok (.getfield 10, 3) := by decide +kernel
theorem dX1_numberIn_9 : decode cX1_numberIn 9 = .ok (.iload_n 1, 1) := by decide +kernel
theorem dX1_numberIn_10 : decode cX1_numberIn 10 = .ok (.invokevirtual 113, 3) := by decide +kernel
theorem dX1_numberIn_13 : decode cX1_numberIn 13 = .ok (.ireturn, 1) := by decide +kernel
set_option maxRecDepth 20000 in
theorem ggX1_wouldLand_X1_needColumn : GoodIn wsX1_wouldLand wsX1_needColumn := goodIn_ca (goodIn_r _ [7, 8, 9, 2, 10, 11, 12, 13, 14, 15, 52, 53, 54, 55, 56, 57, 58, 59, 60, 61, 62] (by decide +kernel) (by decide +kernel)) (goodIn_sub (fun _ h => List.mem_cons_of_mem _ (List.mem_append_right _ h)) (by decide +kernel))
set_option maxRecDepth 20000 in
theorem gX1_wouldLand_X1_needColumn : GoodIn wsX1_wouldLand (wsV RX1 60 RX1 yX1_needColumn wsX1_needColumn) := goodIn_app (goodIn_of _ (by decide +kernel)) ggX1_wouldLand_X1_needColumn
set_option maxRecDepth 20000 in
theorem ggX1_wouldLand_X0_becomeLike : GoodIn wsX1_wouldLand wsX0_becomeLike := goodIn_r _ [19, 15, 20, 21, 22, 23, 24, 25, 26, 27, 28, 6, 29, 30, 31, 32, 54, 55, 56, 57, 58, 59, 60, 61, 62] (by decide +kernel) (by decide +kernel)
set_option maxRecDepth 20000 in
theorem gX1_wouldLand_X0_becomeLike : GoodIn wsX1_wouldLand (wsV RX1 116 RX0 yX0_becomeLike wsX0_becomeLike) := goodIn_app (goodIn_of _ (by decide +kernel)) ggX1_wouldLand_X0_becomeLike
set_option maxRecDepth 20000 in
theorem ggX1_wouldLand_X0_letFall : GoodIn wsX1_wouldLand wsX0_letFall := goodIn_r _ [36, 20, 21, 25, 37, 38, 39, 13, 40, 41, 42, 43, 44, 15, 45, 46, 47, 48, 22, 24, 23, 49, 6, 50, 31, 32, 51, 11, 12, 14, 54, 55, 56, 57, 58, 59, 60, 61, 62] (by decide +kernel) (by decide +kernel)
set_option maxRecDepth 20000 in
theorem gX1_wouldLand_X0_letFall : GoodIn wsX1_wouldLand (wsV RX1 67 RX0 yX0_letFall wsX0_letFall) := goodIn_app (goodIn_of _ (by decide +kernel)) ggX1_wouldLand_X0_letFall
theorem dX1_wouldLand_0 : decode cX1_wouldLand 0 = .ok (.aload_n 0, 1) := by decide +kernel
theorem dX1_wouldLand_1 : decode cX1_wouldLand 1 = .ok (.iload_n 1, 1) := by decide +kernel
theorem dX1_wouldLand_2 : decode cX1_wouldLand 2 = .ok (.invokevirtual 60, 3) := by decide +kernel
theorem dX1_wouldLand_5 : decode cX1_wouldLand 5 = .ok (.aload_n 0, 1) := by decide +kernel
theorem dX1_wouldLand_6 : decode cX1_wouldLand 6 = .ok (.getfield 16, 3) := by decide +kernel
theorem dX1_wouldLand_9 : decode cX1_wouldLand 9 = .ok (.aload_n 0, 1) := by decide +kernel
theorem dX1_wouldLand_10 : decode cX1_wouldLand 10 = .ok (.getfield 10, 3) := by decide +kernel
theorem dX1_wouldLand_13 : decode cX1_wouldLand 13 = .ok (.invokevirtual 116, 3) := by decide +kernel
theorem dX1_wouldLand_16 : decode cX1_wouldLand 16 = .ok (.aload_n 0, 1) := by decide +kernel
theorem dX1_wouldLand_17 : decode cX1_wouldLand 17 = .ok (.getfield 16, 3) := by decide +kernel
theorem dX1_wouldLand_20 : decode cX1_wouldLand 20 = .ok (.iload_n 1, 1) := by decide +kernel
theorem dX1_wouldLand_21 : decode cX1_wouldLand 21 = .ok (.invokevirtual 67, 3) := by decide +kernel
theorem dX1_wouldLand_24 : decode cX1_wouldLand 24 = .ok (.ireturn, 1) := by decide +kernel
set_option maxRecDepth 20000 in
theorem ggX1_wouldBeIn_X1_needColumn : GoodIn wsX1_wouldBeIn wsX1_needColumn := goodIn_ca (goodIn_r _ [7, 8, 9, 2, 10, 11, 12, 13, 14, 15, 56, 57, 58, 59, 60, 61, 62, 63, 64, 65, 66] (by decide +kernel) (by decide +kernel)) (goodIn_sub (fun _ h => List.mem_cons_of_mem _ (List.mem_append_right _ h)) (by decide +kernel))
set_option maxRecDepth 20000 in
theorem gX1_wouldBeIn_X1_needColumn : GoodIn wsX1_wouldBeIn (wsV RX1 60 RX1 yX1_needColumn wsX1_needColumn) := goodIn_app (goodIn_of _ (by decide +kernel)) ggX1_wouldBeIn_X1_needColumn
set_option maxRecDepth 20000 in
theorem ggX1_wouldBeIn_X1_needRow : GoodIn wsX1_wouldBeIn wsX1_needRow := goodIn_ca (goodIn_r _ [19, 8, 9, 2, 20, 21, 22, 13, 23, 24, 56, 57, 58, 59, 60, 61, 62, 63, 64, 65, 66] (by decide +kernel) (by decide +kernel)) (goodIn_sub (fun _ h => List.mem_cons_of_mem _ (List.mem_append_right _ h)) (by decide +kernel))
set_option maxRecDepth 20000 in
theorem gX1_wouldBeIn_X1_needRow : GoodIn wsX1_wouldBeIn (wsV RX1 110 RX1 yX1_needRow wsX1_needRow) := goodIn_app (goodIn_of _ (by decide +kernel)) ggX1_wouldBeIn_X1_needRow
set_option maxRecDepth 20000 in
theorem ggX1_wouldBeIn_X0_becomeLike : GoodIn wsX1_wouldBeIn wsX0_becomeLike := goodIn_r _ [28, 15, 24, 29, 30, 31, 32, 33, 34, 35, 36, 6, 37, 38, 39, 40, 58, 59, 60, 61, 62, 63, 64, 65, 66] (by decide +kernel) (by decide +kernel)
set_option maxRecDepth 20000 in
theorem gX1_wouldBeIn_X0_becomeLike : GoodIn wsX1_wouldBeIn (wsV RX1 116 RX0 yX0_becomeLike wsX0_becomeLike) := goodIn_app (goodIn_of _ (by decide +kernel)) ggX1_wouldBeIn_X0_becomeLike
set_option maxRecDepth 20000 in
theorem ggX1_wouldBeIn_X0_fallTo : GoodIn wsX1_wouldBeIn wsX0_fallTo := goodIn_r _ [44, 45, 46, 47, 13, 48, 15, 49, 50, 51, 52, 30, 32, 31, 53, 6, 54, 39, 40, 55, 11, 12, 14, 58, 59, 60, 61, 62, 63, 64, 65, 66] (by decide +kernel) (by decide +kernel)
set_option maxRecDepth 20000 in
theorem gX1_wouldBeIn_X0_fallTo : GoodIn wsX1_wouldBeIn (wsV RX1 120 RX0 yX0_fallTo wsX0_fallTo) := goodIn_app (goodIn_of _ (by decide +kernel)) ggX1_wouldBeIn_X0_fallTo
theorem dX1_wouldBeIn_0 : decode cX1_wouldBeIn 0 = .ok (.aload_n 0, 1) := by decide +kernel
theorem dX1_wouldBeIn_1 : decode cX1_wouldBeIn 1 = .ok (.iload_n 1, 1) := by decide +kernel
theorem dX1_wouldBeIn_2 : decode cX1_wouldBeIn 2 = .ok (.invokevirtual 60, 3) := by decide +kernel
theorem dX1_wouldBeIn_5 : decode cX1_wouldBeIn 5 = .ok (.aload_n 0, 1) := by decide +kernel
theorem dX1_wouldBeIn_6 : decode cX1_wouldBeIn 6 = .ok (.iload_n 2, 1) := by decide +kernel
theorem dX1_wouldBeIn_7 : decode cX1_wouldBeIn 7 = .ok (.invokevirtual 110, 3) := by decide +kernel
theorem dX1_wouldBeIn_10 : decode cX1_wouldBeIn 10 = .ok (.aload_n 0, 1) := by decide +kernel
theorem dX1_wouldBeIn_11 : decode cX1_wouldBeIn 11 = .ok (.getfield 16, 3) := by decide +kernel
theorem dX1_wouldBeIn_14 : decode cX1_wouldBeIn 14 = .ok (.aload_n 0, 1) := by decide +kernel
theorem dX1_wouldBeIn_15 : decode cX1_wouldBeIn 15 = .ok (.getfield 10, 3) := by decide +kernel
theorem dX1_wouldBeIn_18 : decode cX1_wouldBeIn 18 = .ok (.invokevirtual 116, 3) := by decide +kernel
theorem dX1_wouldBeIn_21 : decode cX1_wouldBeIn 21 = .ok (.aload_n 0, 1) := by decide +kernel
theorem dX1_wouldBeIn_22 : decode cX1_wouldBeIn 22 = .ok (.getfield 16, 3) := by decide +kernel
theorem dX1_wouldBeIn_25 : decode cX1_wouldBeIn 25 = .ok (.iload_n 1, 1) := by decide +kernel
theorem dX1_wouldBeIn_26 : decode cX1_wouldBeIn 26 = .ok (.iload_n 2, 1) := by decide +kernel
theorem dX1_wouldBeIn_27 : decode cX1_wouldBeIn 27 = .ok (.invokevirtual 120, 3) := by decide +kernel
theorem dX1_wouldBeIn_30 : decode cX1_wouldBeIn 30 = .ok (.ireturn, 1) := by decide +kernel
set_option maxRecDepth 20000 in
theorem ggX1_wouldTurn_X1_needColumn : GoodIn wsX1_wouldTurn wsX1_needColumn := goodIn_ca (goodIn_r _ [7, 8, 9, 2, 10, 11, 12, 13, 14, 15, 64, 65, 66, 67, 68, 69, 70, 71, 72, 73, 74] (by decide +kernel) (by decide +kernel)) (goodIn_sub (fun _ h => List.mem_cons_of_mem _ (List.mem_append_right _ h)) (by decide +kernel))
set_option maxRecDepth 20000 in
theorem gX1_wouldTurn_X1_needColumn : GoodIn wsX1_wouldTurn (wsV RX1 60 RX1 yX1_needColumn wsX1_needColumn) := goodIn_app (goodIn_of _ (by decide +kernel)) ggX1_wouldTurn_X1_needColumn
set_option maxRecDepth 20000 in
theorem ggX1_wouldTurn_X0_becomeLike : GoodIn wsX1_wouldTurn wsX0_becomeLike := goodIn_r _ [19, 15, 20, 21, 22, 23, 24, 25, 26, 27, 28, 6, 29, 30, 31, 32, 66, 67, 68, 69, 70, 71, 72, 73, 74] (by decide +kernel) (by decide +kernel)
set_option maxRecDepth 20000 in
theorem gX1_wouldTurn_X0_becomeLike : GoodIn wsX1_wouldTurn (wsV RX1 116 RX0 yX0_becomeLike wsX0_becomeLike) := goodIn_app (goodIn_of _ (by decide +kernel)) ggX1_wouldTurn_X0_becomeLike
set_option maxRecDepth 20000 in
theorem ggX1_wouldTurn_X0_letFall : GoodIn wsX1_wouldTurn wsX0_letFall := goodIn_r _ [36, 20, 21, 25, 37, 38, 39, 13, 40, 41, 42, 43, 44, 15, 45, 46, 47, 48, 22, 24, 23, 49, 6, 50, 31, 32, 51, 11, 12, 14, 66, 67, 68, 69, 70, 71, 72, 73, 74] (by decide +kernel) (by decide +kernel)
set_option maxRecDepth 20000 in
theorem gX1_wouldTurn_X0_letFall : GoodIn wsX1_wouldTurn (wsV RX1 67 RX0 yX0_letFall wsX0_letFall) := goodIn_app (goodIn_of _ (by decide +kernel)) ggX1_wouldTurn_X0_letFall
set_option maxRecDepth 20000 in
theorem ggX1_wouldTurn_X0_togglesUnlike : GoodIn wsX1_wouldTurn wsX0_togglesUnlike := goodIn_r _ [55, 22, 56, 57, 58, 13, 59, 24, 60, 61, 62, 63, 49, 6, 50, 66, 67, 68, 69, 70, 71, 72, 73, 74] (by decide +kernel) (by decide +kernel)
set_option maxRecDepth 20000 in
theorem gX1_wouldTurn_X0_togglesUnlike : GoodIn wsX1_wouldTurn (wsV RX1 123 RX0 yX0_togglesUnlike wsX0_togglesUnlike) := goodIn_app (goodIn_of _ (by decide +kernel)) ggX1_wouldTurn_X0_togglesUnlike
theorem dX1_wouldTurn_0 : decode cX1_wouldTurn 0 = .ok (.aload_n 0, 1) := by decide +kernel
theorem dX1_wouldTurn_1 : decode cX1_wouldTurn 1 = .ok (.iload_n 1, 1) := by decide +kernel
theorem dX1_wouldTurn_2 : decode cX1_wouldTurn 2 = .ok (.invokevirtual 60, 3) := by decide +kernel
theorem dX1_wouldTurn_5 : decode cX1_wouldTurn 5 = .ok (.aload_n 0, 1) := by decide +kernel
theorem dX1_wouldTurn_6 : decode cX1_wouldTurn 6 = .ok (.getfield 16, 3) := by decide +kernel
theorem dX1_wouldTurn_9 : decode cX1_wouldTurn 9 = .ok (.aload_n 0, 1) := by decide +kernel
theorem dX1_wouldTurn_10 : decode cX1_wouldTurn 10 = .ok (.getfield 10, 3) := by decide +kernel
theorem dX1_wouldTurn_13 : decode cX1_wouldTurn 13 = .ok (.invokevirtual 116, 3) := by decide +kernel
theorem dX1_wouldTurn_16 : decode cX1_wouldTurn 16 = .ok (.aload_n 0, 1) := by decide +kernel
theorem dX1_wouldTurn_17 : decode cX1_wouldTurn 17 = .ok (.getfield 16, 3) := by decide +kernel
theorem dX1_wouldTurn_20 : decode cX1_wouldTurn 20 = .ok (.iload_n 1, 1) := by decide +kernel
theorem dX1_wouldTurn_21 : decode cX1_wouldTurn 21 = .ok (.invokevirtual 67, 3) := by decide +kernel
theorem dX1_wouldTurn_24 : decode cX1_wouldTurn 24 = .ok (.pop, 1) := by decide +kernel
theorem dX1_wouldTurn_25 : decode cX1_wouldTurn 25 = .ok (.aload_n 0, 1) := by decide +kernel
theorem dX1_wouldTurn_26 : decode cX1_wouldTurn 26 = .ok (.getfield 16, 3) := by decide +kernel
theorem dX1_wouldTurn_29 : decode cX1_wouldTurn 29 = .ok (.aload_n 0, 1) := by decide +kernel
theorem dX1_wouldTurn_30 : decode cX1_wouldTurn 30 = .ok (.getfield 10, 3) := by decide +kernel
theorem dX1_wouldTurn_33 : decode cX1_wouldTurn 33 = .ok (.invokevirtual 123, 3) := by decide +kernel
theorem dX1_wouldTurn_36 : decode cX1_wouldTurn 36 = .ok (.ireturn, 1) := by decide +kernel
set_option maxRecDepth 20000 in
theorem ggX1_lastLands_X1_needColumn : GoodIn wsX1_lastLands wsX1_needColumn := goodIn_ca (goodIn_r _ [7, 8, 9, 2, 10, 11, 12, 13, 14, 15, 57, 58, 59, 60, 61, 62, 63, 64, 65, 66, 67] (by decide +kernel) (by decide +kernel)) (goodIn_sub (fun _ h => List.mem_cons_of_mem _ (List.mem_append_left _ (List.mem_append_right _ h))) (by decide +kernel))
set_option maxRecDepth 20000 in
theorem gX1_lastLands_X1_needColumn : GoodIn wsX1_lastLands (wsV RX1 60 RX1 yX1_needColumn wsX1_needColumn) := goodIn_app (goodIn_of _ (by decide +kernel)) ggX1_lastLands_X1_needColumn
set_option maxRecDepth 20000 in
theorem ggX1_lastLands_X1_needWithin : GoodIn wsX1_lastLands wsX1_needWithin := goodIn_ca (goodIn_r _ [18, 19, 20] (by decide +kernel) (by decide +kernel)) (goodIn_sub (fun _ h => List.mem_cons_of_mem _ (List.mem_append_right _ h)) (by decide +kernel))
set_option maxRecDepth 20000 in
theorem gX1_lastLands_X1_needWithin : GoodIn wsX1_lastLands (va_wsS RX1 19 yX1_needWithin wsX1_needWithin) := goodIn_app (goodIn_of _ (by decide +kernel)) ggX1_lastLands_X1_needWithin
set_option maxRecDepth 20000 in
theorem ggX1_lastLands_X0_becomeLike : GoodIn wsX1_lastLands wsX0_becomeLike := goodIn_r _ [24, 15, 25, 26, 27, 28, 29, 30, 31, 32, 33, 6, 34, 35, 36, 37, 59, 60, 61, 62, 63, 64, 65, 66, 67] (by decide +kernel) (by decide +kernel)
set_option maxRecDepth 20000 in
theorem gX1_lastLands_X0_becomeLike : GoodIn wsX1_lastLands (wsV RX1 116 RX0 yX0_becomeLike wsX0_becomeLike) := goodIn_app (goodIn_of _ (by decide +kernel)) ggX1_lastLands_X0_becomeLike
set_option maxRecDepth 20000 in
theorem ggX1_lastLands_X0_letFall : GoodIn wsX1_lastLands wsX0_letFall := goodIn_r _ [41, 25, 26, 30, 42, 43, 44, 13, 45, 46, 47, 48, 49, 15, 50, 51, 52, 53, 27, 29, 28, 54, 6, 55, 36, 37, 56, 11, 12, 14, 59, 60, 61, 62, 63, 64, 65, 66, 67] (by decide +kernel) (by decide +kernel)
set_option maxRecDepth 20000 in
theorem gX1_lastLands_X0_letFall : GoodIn wsX1_lastLands (wsV RX1 67 RX0 yX0_letFall wsX0_letFall) := goodIn_app (goodIn_of _ (by decide +kernel)) ggX1_lastLands_X0_letFall
theorem dX1_lastLands_0 : decode cX1_lastLands 0 = .ok (.aload_n 0, 1) := by decide +kernel
theorem dX1_lastLands_1 : decode cX1_lastLands 1 = .ok (.iload_n 1, 1) := by decide +kernel
theorem dX1_lastLands_2 : decode cX1_lastLands 2 = .ok (.invokevirtual 60, 3) := by decide +kernel
theorem dX1_lastLands_5 : decode cX1_lastLands 5 = .ok (.iload_n 2, 1) := by decide +kernel
theorem dX1_lastLands_6 : decode cX1_lastLands 6 = .ok (.iconst 1, 1) := by decide +kernel
theorem dX1_lastLands_7 : decode cX1_lastLands 7 = .ok (.bipush 60, 2) := by decide +kernel
theorem dX1_lastLands_9 : decode cX1_lastLands 9 = .ok (.invokestatic 19, 3) := by decide +kernel
theorem dX1_lastLands_12 : decode cX1_lastLands 12 = .ok (.aload_n 0, 1) := by decide +kernel
theorem dX1_lastLands_13 : decode cX1_lastLands 13 = .ok (.getfield 16, 3) := by decide +kernel
theorem dX1_lastLands_16 : decode cX1_lastLands 16 = .ok (.aload_n 0, 1) := by decide +kernel
theorem dX1_lastLands_17 : decode cX1_lastLands 17 = .ok (.getfield 10, 3) := by decide +kernel
theorem dX1_lastLands_20 : decode cX1_lastLands 20 = .ok (.invokevirtual 116, 3) := by decide +kernel
theorem dX1_lastLands_23 : decode cX1_lastLands 23 = .ok (.iconst (-1), 1) := by decide +kernel
theorem dX1_lastLands_24 : decode cX1_lastLands 24 = .ok (.istore_n 3, 1) := by decide +kernel
theorem dX1_lastLands_25 : decode cX1_lastLands 25 = .ok (.iconst 0, 1) := by decide +kernel
theorem dX1_lastLands_26 : decode cX1_lastLands 26 = .ok (.istore 4, 2) := by decide +kernel
theorem dX1_lastLands_28 : decode cX1_lastLands 28 = .ok (.iload 4, 2) := by decide +kernel
theorem dX1_lastLands_30 : decode cX1_lastLands 30 = .ok (.iload_n 2, 1) := by decide +kernel
theorem dX1_lastLands_31 : decode cX1_lastLands 31 = .ok (.if_icmp .ge 18, 3) := by decide +kernel
theorem dX1_lastLands_34 : decode cX1_lastLands 34 = .ok (.aload_n 0, 1) := by decide +kernel
theorem dX1_lastLands_35 : decode cX1_lastLands 35 = .ok (.getfield 16, 3) := by decide +kernel
theorem dX1_lastLands_38 : decode cX1_lastLands 38 = .ok (.iload_n 1, 1) := by decide +kernel
theorem dX1_lastLands_39 : decode cX1_lastLands 39 = .ok (.invokevirtual 67, 3) := by decide +kernel
theorem dX1_lastLands_42 : decode cX1_lastLands 42 = .ok (.istore_n 3, 1) := by decide +kernel
theorem dX1_lastLands_43 : decode cX1_lastLands 43 = .ok (.iinc 4 1, 3) := by decide +kernel
theorem dX1_lastLands_46 : decode cX1_lastLands 46 = .ok (.goto (-18), 3) := by decide +kernel
theorem dX1_lastLands_49 : decode cX1_lastLands 49 = .ok (.iload_n 3, 1) := by decide +kernel
theorem dX1_lastLands_50 : decode cX1_lastLands 50 = .ok (.ireturn, 1) := by decide +kernel
set_option maxRecDepth 20000 in
theorem ggX1_asBeforeIn_X1_needColumn : GoodIn wsX1_asBeforeIn wsX1_needColumn := goodIn_ca (goodIn_r _ [7, 8, 9, 2, 10, 11, 12, 13, 14, 15, 56, 57, 58, 59, 60, 61, 62, 63, 64, 65, 66] (by decide +kernel) (by decide +kernel)) (goodIn_sub (fun _ h => List.mem_cons_of_mem _ (List.mem_append_right _ h)) (by decide +kernel))
set_option maxRecDepth 20000 in
theorem gX1_asBeforeIn_X1_needColumn : GoodIn wsX1_asBeforeIn (wsV RX1 60 RX1 yX1_needColumn wsX1_needColumn) := goodIn_app (goodIn_of _ (by decide +kernel)) ggX1_asBeforeIn_X1_needColumn
set_option maxRecDepth 20000 in
theorem ggX1_asBeforeIn_X0_becomeLike : GoodIn wsX1_asBeforeIn wsX0_becomeLike := goodIn_r _ [19, 15, 20, 21, 22, 23, 24, 25, 26, 27, 28, 6, 29, 30, 31, 32, 58, 59, 60, 61, 62, 63, 64, 65, 66] (by decide +kernel) (by decide +kernel)
set_option maxRecDepth 20000 in
theorem gX1_asBeforeIn_X0_becomeLike : GoodIn wsX1_asBeforeIn (wsV RX1 116 RX0 yX0_becomeLike wsX0_becomeLike) := goodIn_app (goodIn_of _ (by decide +kernel)) ggX1_asBeforeIn_X0_becomeLike
set_option maxRecDepth 20000 in
theorem ggX1_asBeforeIn_X0_letFall : GoodIn wsX1_asBeforeIn wsX0_letFall := goodIn_r _ [36, 20, 21, 25, 37, 38, 39, 13, 40, 41, 42, 43, 44, 15, 45, 46, 47, 48, 22, 24, 23, 49, 6, 50, 31, 32, 51, 11, 12, 14, 58, 59, 60, 61, 62, 63, 64, 65, 66] (by decide +kernel) (by decide +kernel)
set_option maxRecDepth 20000 in
theorem gX1_asBeforeIn_X0_letFall : GoodIn wsX1_asBeforeIn (wsV RX1 67 RX0 yX0_letFall wsX0_letFall) := goodIn_app (goodIn_of _ (by decide +kernel)) ggX1_asBeforeIn_X0_letFall
set_option maxRecDepth 20000 in
theorem ggX1_asBeforeIn_X0_hasStatesOf : GoodIn wsX1_asBeforeIn wsX0_hasStatesOf := goodIn_r _ [55, 24, 49, 6, 50, 58, 59, 60, 61, 62, 63, 64, 65, 66] (by decide +kernel) (by decide +kernel)
set_option maxRecDepth 20000 in
theorem gX1_asBeforeIn_X0_hasStatesOf : GoodIn wsX1_asBeforeIn (wsV RX1 127 RX0 yX0_hasStatesOf wsX0_hasStatesOf) := goodIn_app (goodIn_of _ (by decide +kernel)) ggX1_asBeforeIn_X0_hasStatesOf
theorem dX1_asBeforeIn_0 : decode cX1_asBeforeIn 0 = .ok (.aload_n 0, 1) := by decide +kernel
theorem dX1_asBeforeIn_1 : decode cX1_asBeforeIn 1 = .ok (.iload_n 1, 1) := by decide +kernel
theorem dX1_asBeforeIn_2 : decode cX1_asBeforeIn 2 = .ok (.invokevirtual 60, 3) := by decide +kernel
theorem dX1_asBeforeIn_5 : decode cX1_asBeforeIn 5 = .ok (.aload_n 0, 1) := by decide +kernel
theorem dX1_asBeforeIn_6 : decode cX1_asBeforeIn 6 = .ok (.getfield 16, 3) := by decide +kernel
theorem dX1_asBeforeIn_9 : decode cX1_asBeforeIn 9 = .ok (.aload_n 0, 1) := by decide +kernel
theorem dX1_asBeforeIn_10 : decode cX1_asBeforeIn 10 = .ok (.getfield 10, 3) := by decide +kernel
theorem dX1_asBeforeIn_13 : decode cX1_asBeforeIn 13 = .ok (.invokevirtual 116, 3) := by decide +kernel
theorem dX1_asBeforeIn_16 : decode cX1_asBeforeIn 16 = .ok (.iconst 1, 1) := by decide +kernel
theorem dX1_asBeforeIn_17 : decode cX1_asBeforeIn 17 = .ok (.istore_n 2, 1) := by decide +kernel
theorem dX1_asBeforeIn_18 : decode cX1_asBeforeIn 18 = .ok (.iload_n 2, 1) := by decide +kernel
theorem dX1_asBeforeIn_19 : decode cX1_asBeforeIn 19 = .ok (.bipush 60, 2) := by decide +kernel
theorem dX1_asBeforeIn_21 : decode cX1_asBeforeIn 21 = .ok (.if_icmp .gt 34, 3) := by decide +kernel
theorem dX1_asBeforeIn_24 : decode cX1_asBeforeIn 24 = .ok (.aload_n 0, 1) := by decide +kernel
theorem dX1_asBeforeIn_25 : decode cX1_asBeforeIn 25 = .ok (.getfield 16, 3) := by decide +kernel
theorem dX1_asBeforeIn_28 : decode cX1_asBeforeIn 28 = .ok (.iload_n 1, 1) := by decide +kernel
theorem dX1_asBeforeIn_29 : decode cX1_asBeforeIn 29 = .ok (.invokevirtual 67, 3) := by decide +kernel
theorem dX1_asBeforeIn_32 : decode cX1_asBeforeIn 32 = .ok (.pop, 1) := by decide +kernel
theorem dX1_asBeforeIn_33 : decode cX1_asBeforeIn 33 = .ok (.aload_n 0, 1) := by decide +kernel
theorem dX1_asBeforeIn_34 : decode cX1_asBeforeIn 34 = .ok (.getfield 16, 3) := by decide +kernel
theorem dX1_asBeforeIn_37 : decode cX1_asBeforeIn 37 = .ok (.aload_n 0, 1) := by decide +kernel
theorem dX1_asBeforeIn_38 : decode cX1_asBeforeIn 38 = .ok (.getfield 10, 3) := by decide +kernel
theorem dX1_asBeforeIn_41 : decode cX1_asBeforeIn 41 = .ok (.invokevirtual 127, 3) := by decide +kernel
theorem dX1_asBeforeIn_44 : decode cX1_asBeforeIn 44 = .ok (.ifCond .eq 5, 3) := by decide +kernel
theorem dX1_asBeforeIn_47 : decode cX1_asBeforeIn 47 = .ok (.iload_n 2, 1) := by decide +kernel
theorem dX1_asBeforeIn_48 : decode cX1_asBeforeIn 48 = .ok (.ireturn, 1) := by decide +kernel
theorem dX1_asBeforeIn_49 : decode cX1_asBeforeIn 49 = .ok (.iinc 2 1, 3) := by decide +kernel
theorem dX1_asBeforeIn_52 : decode cX1_asBeforeIn 52 = .ok (.goto (-34), 3) := by decide +kernel
theorem dX1_asBeforeIn_55 : decode cX1_asBeforeIn 55 = .ok (.iconst (-1), 1) := by decide +kernel
theorem dX1_asBeforeIn_56 : decode cX1_asBeforeIn 56 = .ok (.ireturn, 1) := by decide +kernel
set_option maxRecDepth 20000 in
theorem ggX1_wouldRun_X1_needHopper : GoodIn wsX1_wouldRun wsX1_needHopper := goodIn_ca (goodIn_r _ [6, 7, 8] (by decide +kernel) (by decide +kernel)) (goodIn_sub (fun _ h => List.mem_cons_of_mem _ (List.mem_append_right _ h)) (by decide +kernel))
set_option maxRecDepth 20000 in
theorem gX1_wouldRun_X1_needHopper : GoodIn wsX1_wouldRun (va_wsS RX1 57 yX1_needHopper wsX1_needHopper) := goodIn_app (goodIn_of _ (by decide +kernel)) ggX1_wouldRun_X1_needHopper
set_option maxRecDepth 20000 in
theorem ggX1_wouldRun_X0_becomeLike : GoodIn wsX1_wouldRun wsX0_becomeLike := goodIn_r _ [13, 14, 15, 16, 17, 18, 19, 20, 21, 22, 23, 5, 24, 25, 26, 27, 60, 61, 62, 63, 64, 65, 66, 67, 68] (by decide +kernel) (by decide +kernel)
set_option maxRecDepth 20000 in
theorem gX1_wouldRun_X0_becomeLike : GoodIn wsX1_wouldRun (wsV RX1 116 RX0 yX0_becomeLike wsX0_becomeLike) := goodIn_app (goodIn_of _ (by decide +kernel)) ggX1_wouldRun_X0_becomeLike
set_option maxRecDepth 20000 in
theorem ggX1_wouldRun_X0_runFrom : GoodIn wsX1_wouldRun wsX0_runFrom := goodIn_r _ [31, 22, 21, 32, 5, 33, 26, 27, 34, 35, 36, 12, 37, 15, 16, 20, 38, 39, 40, 41, 42, 43, 44, 45, 14, 46, 47, 48, 49, 17, 19, 18, 50, 51, 52, 53, 54, 55, 56, 57, 60, 61, 62, 63, 64, 65, 66, 67, 68] (by decide +kernel) (by decide +kernel)
set_option maxRecDepth 20000 in
theorem gX1_wouldRun_X0_runFrom : GoodIn wsX1_wouldRun (wsV RX1 70 RX0 yX0_runFrom wsX0_runFrom) := goodIn_app (goodIn_of _ (by decide +kernel)) ggX1_wouldRun_X0_runFrom
theorem dX1_wouldRun_0 : decode cX1_wouldRun 0 = .ok (.iload_n 1, 1) := by decide +kernel
theorem dX1_wouldRun_1 : decode cX1_wouldRun 1 = .ok (.invokestatic 57, 3) := by decide +kernel
theorem dX1_wouldRun_4 : decode cX1_wouldRun 4 = .ok (.aload_n 0, 1) := by decide +kernel
theorem dX1_wouldRun_5 : decode cX1_wouldRun 5 = .ok (.getfield 16, 3) := by decide +kernel
theorem dX1_wouldRun_8 : decode cX1_wouldRun 8 = .ok (.aload_n 0, 1) := by decide +kernel
theorem dX1_wouldRun_9 : decode cX1_wouldRun 9 = .ok (.getfield 10, 3) := by decide +kernel
theorem dX1_wouldRun_12 : decode cX1_wouldRun 12 = .ok (.invokevirtual 116, 3) := by decide +kernel
theorem dX1_wouldRun_15 : decode cX1_wouldRun 15 = .ok (.aload_n 0, 1) := by decide +kernel
theorem dX1_wouldRun_16 : decode cX1_wouldRun 16 = .ok (.getfield 16, 3) := by decide +kernel
theorem dX1_wouldRun_19 : decode cX1_wouldRun 19 = .ok (.iload_n 1, 1) := by decide +kernel
theorem dX1_wouldRun_20 : decode cX1_wouldRun 20 = .ok (.bipush 99, 2) := by decide +kernel
theorem dX1_wouldRun_22 : decode cX1_wouldRun 22 = .ok (.invokevirtual 70, 3) := by decide +kernel
theorem dX1_wouldRun_25 : decode cX1_wouldRun 25 = .ok (.ireturn, 1) := by decide +kernel
set_option maxRecDepth 20000 in
theorem ggX1_bestColumn_X1_columns : GoodIn wsX1_bestColumn wsX1_columns := goodIn_r _ [5, 6, 7, 73, 74, 75, 76, 77, 78, 79, 80, 81, 82, 83] (by decide +kernel) (by decide +kernel)
set_option maxRecDepth 20000 in
theorem gX1_bestColumn_X1_columns : GoodIn wsX1_bestColumn (wsV RX1 131 RX1 yX1_columns wsX1_columns) := goodIn_app (goodIn_of _ (by decide +kernel)) ggX1_bestColumn_X1_columns
set_option maxRecDepth 20000 in
theorem ggX1_bestColumn_X1_wouldTurn : GoodIn wsX1_bestColumn wsX1_wouldTurn := goodIn_ca (goodIn_r _ [11, 12, 6, 13, 14, 15, 4, 16, 17, 18, 19, 20, 21, 22, 23, 24, 25, 26, 27, 28, 29, 30, 31, 32, 33, 34, 35, 36, 37, 38, 39, 40, 41, 42, 43, 44, 45, 46, 47, 48, 49, 50, 51, 52, 53, 54, 55, 56, 57, 58, 59, 60, 61, 62, 63, 64, 65, 66, 67, 68, 69, 70, 71, 72, 73, 74, 75, 76, 77, 78, 79, 80, 81, 82, 83] (by decide +kernel) (by decide +kernel)) (goodIn_sub (fun _ h => List.mem_cons_of_mem _ (List.mem_append_right _ h)) (by decide +kernel))
set_option maxRecDepth 20000 in
theorem gX1_bestColumn_X1_wouldTurn : GoodIn wsX1_bestColumn (wsV RX1 134 RX1 yX1_wouldTurn wsX1_wouldTurn) := goodIn_app (goodIn_of _ (by decide +kernel)) ggX1_bestColumn_X1_wouldTurn
theorem dX1_bestColumn_0 : decode cX1_bestColumn 0 = .ok (.iconst 0, 1) := by decide +kernel
theorem dX1_bestColumn_1 : decode cX1_bestColumn 1 = .ok (.istore_n 1, 1) := by decide +kernel
theorem dX1_bestColumn_2 : decode cX1_bestColumn 2 = .ok (.iconst 0, 1) := by decide +kernel
theorem dX1_bestColumn_3 : decode cX1_bestColumn 3 = .ok (.istore_n 2, 1) := by decide +kernel
theorem dX1_bestColumn_4 : decode cX1_bestColumn 4 = .ok (.iconst 0, 1) := by decide +kernel
theorem dX1_bestColumn_5 : decode cX1_bestColumn 5 = .ok (.istore_n 3, 1) := by decide +kernel
theorem dX1_bestColumn_6 : decode cX1_bestColumn 6 = .ok (.iload_n 3, 1) := by decide +kernel
theorem dX1_bestColumn_7 : decode cX1_bestColumn 7 = .ok (.aload_n 0, 1) := by decide +kernel
theorem dX1_bestColumn_8 : decode cX1_bestColumn 8 = .ok (.invokevirtual 131, 3) := by decide +kernel
theorem dX1_bestColumn_11 : decode cX1_bestColumn 11 = .ok (.if_icmp .ge 27, 3) := by decide +kernel
theorem dX1_bestColumn_14 : decode cX1_bestColumn 14 = .ok (.aload_n 0, 1) := by decide +kernel
theorem dX1_bestColumn_15 : decode cX1_bestColumn 15 = .ok (.iload_n 3, 1) := by decide +kernel
theorem dX1_bestColumn_16 : decode cX1_bestColumn 16 = .ok (.invokevirtual 134, 3) := by decide +kernel
theorem dX1_bestColumn_19 : decode cX1_bestColumn 19 = .ok (.istore 4, 2) := by decide +kernel
theorem dX1_bestColumn_21 : decode cX1_bestColumn 21 = .ok (.iload 4, 2) := by decide +kernel
theorem dX1_bestColumn_23 : decode cX1_bestColumn 23 = .ok (.iload_n 2, 1) := by decide +kernel
theorem dX1_bestColumn_24 : decode cX1_bestColumn 24 = .ok (.if_icmp .le 8, 3) := by decide +kernel
theorem dX1_bestColumn_27 : decode cX1_bestColumn 27 = .ok (.iload_n 3, 1) := by decide +kernel
theorem dX1_bestColumn_28 : decode cX1_bestColumn 28 = .ok (.istore_n 1, 1) := by decide +kernel
theorem dX1_bestColumn_29 : decode cX1_bestColumn 29 = .ok (.iload 4, 2) := by decide +kernel
theorem dX1_bestColumn_31 : decode cX1_bestColumn 31 = .ok (.istore_n 2, 1) := by decide +kernel
theorem dX1_bestColumn_32 : decode cX1_bestColumn 32 = .ok (.iinc 3 1, 3) := by decide +kernel
theorem dX1_bestColumn_35 : decode cX1_bestColumn 35 = .ok (.goto (-29), 3) := by decide +kernel
theorem dX1_bestColumn_38 : decode cX1_bestColumn 38 = .ok (.iload_n 1, 1) := by decide +kernel
theorem dX1_bestColumn_39 : decode cX1_bestColumn 39 = .ok (.ireturn, 1) := by decide +kernel
set_option maxRecDepth 20000 in
theorem ggX1_meanInBins_X1_columns : GoodIn wsX1_meanInBins wsX1_columns := goodIn_r _ [6, 1, 7, 14, 15, 16, 17, 18, 19, 20, 21, 22, 23, 24] (by decide +kernel) (by decide +kernel)
set_option maxRecDepth 20000 in
theorem gX1_meanInBins_X1_columns : GoodIn wsX1_meanInBins (wsV RX1 131 RX1 yX1_columns wsX1_columns) := goodIn_app (goodIn_of _ (by decide +kernel)) ggX1_meanInBins_X1_columns
set_option maxRecDepth 20000 in
theorem ggX1_meanInBins_X0_marblesInBins : GoodIn wsX1_meanInBins wsX0_marblesInBins := goodIn_r _ [12, 13, 16, 17, 18, 19, 20, 21, 22, 23, 24] (by decide +kernel) (by decide +kernel)
set_option maxRecDepth 20000 in
theorem gX1_meanInBins_X0_marblesInBins : GoodIn wsX1_meanInBins (wsV RX1 73 RX0 yX0_marblesInBins wsX0_marblesInBins) := goodIn_app (goodIn_of _ (by decide +kernel)) ggX1_meanInBins_X0_marblesInBins
theorem dX1_meanInBins_0 : decode cX1_meanInBins 0 = .ok (.aload_n 0, 1) := by decide +kernel
theorem dX1_meanInBins_1 : decode cX1_meanInBins 1 = .ok (.invokevirtual 131, 3) := by decide +kernel
theorem dX1_meanInBins_4 : decode cX1_meanInBins 4 = .ok (.istore_n 1, 1) := by decide +kernel
theorem dX1_meanInBins_5 : decode cX1_meanInBins 5 = .ok (.iload_n 1, 1) := by decide +kernel
theorem dX1_meanInBins_6 : decode cX1_meanInBins 6 = .ok (.ifCond .ne 7, 3) := by decide +kernel
theorem dX1_meanInBins_9 : decode cX1_meanInBins 9 = .ok (.dconst 0, 1) := by decide +kernel
theorem dX1_meanInBins_10 : decode cX1_meanInBins 10 = .ok (.goto 14, 3) := by decide +kernel
theorem dX1_meanInBins_13 : decode cX1_meanInBins 13 = .ok (.aload_n 0, 1) := by decide +kernel
theorem dX1_meanInBins_14 : decode cX1_meanInBins 14 = .ok (.getfield 10, 3) := by decide +kernel
theorem dX1_meanInBins_17 : decode cX1_meanInBins 17 = .ok (.invokevirtual 73, 3) := by decide +kernel
theorem dX1_meanInBins_20 : decode cX1_meanInBins 20 = .ok (.i2d, 1) := by decide +kernel
theorem dX1_meanInBins_21 : decode cX1_meanInBins 21 = .ok (.iload_n 1, 1) := by decide +kernel
theorem dX1_meanInBins_22 : decode cX1_meanInBins 22 = .ok (.i2d, 1) := by decide +kernel
theorem dX1_meanInBins_23 : decode cX1_meanInBins 23 = .ok (.ddiv, 1) := by decide +kernel
theorem dX1_meanInBins_24 : decode cX1_meanInBins 24 = .ok (.dreturn, 1) := by decide +kernel
set_option maxRecDepth 20000 in
theorem ggX1_digest_X1_columns : GoodIn wsX1_digest wsX1_columns := goodIn_r _ [7, 8, 9, 180, 181, 182, 183, 184, 185, 186, 187, 188, 189, 190] (by decide +kernel) (by decide +kernel)
set_option maxRecDepth 20000 in
theorem gX1_digest_X1_columns : GoodIn wsX1_digest (wsV RX1 131 RX1 yX1_columns wsX1_columns) := goodIn_app (goodIn_of _ (by decide +kernel)) ggX1_digest_X1_columns
set_option maxRecDepth 20000 in
theorem ggX1_digest_X1_rows : GoodIn wsX1_digest wsX1_rows := goodIn_r _ [13, 8, 14, 180, 181, 182, 183, 184, 185, 186, 187, 188, 189, 190] (by decide +kernel) (by decide +kernel)
set_option maxRecDepth 20000 in
theorem gX1_digest_X1_rows : GoodIn wsX1_digest (wsV RX1 141 RX1 yX1_rows wsX1_rows) := goodIn_app (goodIn_of _ (by decide +kernel)) ggX1_digest_X1_rows
set_option maxRecDepth 20000 in
theorem ggX1_digest_X1_lost : GoodIn wsX1_digest wsX1_lost := goodIn_r _ [18, 8, 19, 180, 181, 182, 183, 184, 185, 186, 187, 188, 189, 190] (by decide +kernel) (by decide +kernel)
set_option maxRecDepth 20000 in
theorem gX1_digest_X1_lost : GoodIn wsX1_digest (wsV RX1 144 RX1 yX1_lost wsX1_lost) := goodIn_app (goodIn_of _ (by decide +kernel)) ggX1_digest_X1_lost
set_option maxRecDepth 20000 in
theorem ggX1_digest_X1_toggles : GoodIn wsX1_digest wsX1_toggles := goodIn_r _ [23, 8, 24, 25, 26, 27, 28, 29, 180, 181, 182, 183, 184, 185, 186, 187, 188, 189, 190] (by decide +kernel) (by decide +kernel)
set_option maxRecDepth 20000 in
theorem gX1_digest_X1_toggles : GoodIn wsX1_digest (wsV RX1 147 RX1 yX1_toggles wsX1_toggles) := goodIn_app (goodIn_of _ (by decide +kernel)) ggX1_digest_X1_toggles
set_option maxRecDepth 20000 in
theorem ggX1_digest_X1_bestColumn : GoodIn wsX1_digest wsX1_bestColumn := goodIn_ca (goodIn_r _ [33, 3, 4, 5, 6, 7, 8, 9, 34, 35, 36, 37, 38, 39, 40, 41, 42, 43, 44, 45, 46, 47, 27, 48, 49, 50, 51, 52, 53, 54, 55, 29, 56, 57, 58, 59, 60, 61, 62, 63, 64, 65, 66, 67, 68, 69, 70, 71, 72, 73, 74, 75, 76, 77, 78, 79, 80, 81, 82, 83, 84, 85, 86, 87, 88, 89, 90, 91, 92, 93, 94, 95, 96, 180, 181, 182, 183, 184, 185, 186, 187, 188, 189, 190] (by decide +kernel) (by decide +kernel)) (goodIn_sub (fun _ h => List.mem_cons_of_mem _ (List.mem_append_right _ h)) (by decide +kernel))
set_option maxRecDepth 20000 in
theorem gX1_digest_X1_bestColumn : GoodIn wsX1_digest (wsV RX1 150 RX1 yX1_bestColumn wsX1_bestColumn) := goodIn_app (goodIn_of _ (by decide +kernel)) ggX1_digest_X1_bestColumn
set_option maxRecDepth 20000 in
theorem ggX1_digest_X1_marblesIn : GoodIn wsX1_digest wsX1_marblesIn := goodIn_ca (goodIn_r _ [100, 8, 101, 102, 103, 6, 104, 43, 44, 105, 82, 83, 180, 181, 182, 183, 184, 185, 186, 187, 188, 189, 190] (by decide +kernel) (by decide +kernel)) (goodIn_sub (fun _ h => List.mem_cons_of_mem _ (List.mem_append_right _ h)) (by decide +kernel))
set_option maxRecDepth 20000 in
theorem gX1_digest_X1_marblesIn : GoodIn wsX1_digest (wsV RX1 153 RX1 yX1_marblesIn wsX1_marblesIn) := goodIn_app (goodIn_of _ (by decide +kernel)) ggX1_digest_X1_marblesIn
set_option maxRecDepth 20000 in
theorem ggX1_digest_X1_columnOf : GoodIn wsX1_digest wsX1_columnOf := goodIn_ca (goodIn_r _ [109, 8, 110, 102, 103, 6, 104, 43, 44, 105, 82, 83, 180, 181, 182, 183, 184, 185, 186, 187, 188, 189, 190] (by decide +kernel) (by decide +kernel)) (goodIn_sub (fun _ h => List.mem_cons_of_mem _ (List.mem_append_right _ h)) (by decide +kernel))
set_option maxRecDepth 20000 in
theorem gX1_digest_X1_columnOf : GoodIn wsX1_digest (wsV RX1 156 RX1 yX1_columnOf wsX1_columnOf) := goodIn_app (goodIn_of _ (by decide +kernel)) ggX1_digest_X1_columnOf
set_option maxRecDepth 20000 in
theorem ggX1_digest_X1_wouldRun : GoodIn wsX1_digest wsX1_wouldRun := goodIn_ca (goodIn_r _ [114, 38, 8, 102, 103, 6, 104, 43, 44, 50, 51, 52, 27, 53, 49, 54, 55, 29, 56, 57, 58, 59, 60, 61, 62, 63, 64, 65, 115, 116, 117, 118, 82, 83, 119, 67, 68, 69, 70, 71, 72, 73, 74, 75, 76, 77, 78, 79, 80, 81, 84, 46, 47, 48, 120, 121, 122, 123, 180, 181, 182, 183, 184, 185, 186, 187, 188, 189, 190] (by decide +kernel) (by decide +kernel)) (goodIn_sub (fun _ h => List.mem_cons_of_mem _ (List.mem_append_right _ h)) (by decide +kernel))
set_option maxRecDepth 20000 in
theorem gX1_digest_X1_wouldRun : GoodIn wsX1_digest (wsV RX1 159 RX1 yX1_wouldRun wsX1_wouldRun) := goodIn_app (goodIn_of _ (by decide +kernel)) ggX1_digest_X1_wouldRun
set_option maxRecDepth 20000 in
theorem ggX1_digest_X1_numberIn : GoodIn wsX1_digest wsX1_numberIn := goodIn_ca (goodIn_r _ [127, 8, 128, 129, 130, 6, 131, 43, 44, 132, 133, 134, 27, 135, 54, 136, 137, 138, 139, 49, 74, 75, 76, 77, 93, 94, 95, 96, 29, 82, 83, 89, 90, 91, 92, 57, 180, 181, 182, 183, 184, 185, 186, 187, 188, 189, 190] (by decide +kernel) (by decide +kernel)) (goodIn_sub (fun _ h => List.mem_cons_of_mem _ (List.mem_append_right _ h)) (by decide +kernel))
set_option maxRecDepth 20000 in
theorem gX1_digest_X1_numberIn : GoodIn wsX1_digest (wsV RX1 162 RX1 yX1_numberIn wsX1_numberIn) := goodIn_app (goodIn_of _ (by decide +kernel)) ggX1_digest_X1_numberIn
set_option maxRecDepth 20000 in
theorem ggX1_digest_X1_partAt : GoodIn wsX1_digest wsX1_partAt := goodIn_ca (goodIn_r _ [143, 8, 144, 145, 146, 6, 147, 128, 129, 130, 131, 43, 44, 132, 133, 134, 27, 135, 54, 39, 40, 41, 42, 45, 46, 47, 48, 49, 148, 75, 76, 77, 149, 94, 95, 96, 29, 82, 83, 180, 181, 182, 183, 184, 185, 186, 187, 188, 189, 190] (by decide +kernel) (by decide +kernel)) (goodIn_sub (fun _ h => List.mem_cons_of_mem _ (List.mem_append_right _ h)) (by decide +kernel))
set_option maxRecDepth 20000 in
theorem gX1_digest_X1_partAt : GoodIn wsX1_digest (wsV RX1 165 RX1 yX1_partAt wsX1_partAt) := goodIn_app (goodIn_of _ (by decide +kernel)) ggX1_digest_X1_partAt
set_option maxRecDepth 20000 in
theorem ggX1_digest_X1_leadsRight : GoodIn wsX1_digest wsX1_leadsRight := goodIn_ca (goodIn_r _ [153, 8, 144, 145, 146, 6, 147, 128, 129, 130, 131, 43, 44, 132, 133, 134, 27, 135, 54, 39, 40, 41, 42, 45, 46, 47, 48, 49, 148, 75, 76, 77, 154, 90, 91, 92, 57, 93, 94, 95, 96, 29, 82, 83, 180, 181, 182, 183, 184, 185, 186, 187, 188, 189, 190] (by decide +kernel) (by decide +kernel)) (goodIn_sub (fun _ h => List.mem_cons_of_mem _ (List.mem_append_right _ h)) (by decide +kernel))
set_option maxRecDepth 20000 in
theorem gX1_digest_X1_leadsRight : GoodIn wsX1_digest (wsV RX1 168 RX1 yX1_leadsRight wsX1_leadsRight) := goodIn_app (goodIn_of _ (by decide +kernel)) ggX1_digest_X1_leadsRight
set_option maxRecDepth 20000 in
theorem ggX1_digest_X1_countAt : GoodIn wsX1_digest wsX1_countAt := goodIn_ca (goodIn_r _ [158, 8, 144, 145, 146, 6, 147, 128, 129, 130, 131, 43, 44, 132, 133, 134, 27, 135, 54, 39, 40, 41, 42, 45, 46, 47, 48, 49, 148, 75, 76, 77, 159, 160, 161, 162, 57, 93, 94, 95, 96, 29, 82, 83, 180, 181, 182, 183, 184, 185, 186, 187, 188, 189, 190] (by decide +kernel) (by decide +kernel)) (goodIn_sub (fun _ h => List.mem_cons_of_mem _ (List.mem_append_right _ h)) (by decide +kernel))
set_option maxRecDepth 20000 in
theorem gX1_digest_X1_countAt : GoodIn wsX1_digest (wsV RX1 172 RX1 yX1_countAt wsX1_countAt) := goodIn_app (goodIn_of _ (by decide +kernel)) ggX1_digest_X1_countAt
set_option maxRecDepth 20000 in
theorem ggX1_digest_X1_binOf : GoodIn wsX1_digest wsX1_binOf := goodIn_ca (goodIn_r _ [166, 8, 167, 39, 40, 41, 6, 42, 43, 44, 45, 46, 47, 27, 48, 49, 105, 82, 83, 180, 181, 182, 183, 184, 185, 186, 187, 188, 189, 190] (by decide +kernel) (by decide +kernel)) (goodIn_sub (fun _ h => List.mem_cons_of_mem _ (List.mem_append_right _ h)) (by decide +kernel))
set_option maxRecDepth 20000 in
theorem gX1_digest_X1_binOf : GoodIn wsX1_digest (wsV RX1 175 RX1 yX1_binOf wsX1_binOf) := goodIn_app (goodIn_of _ (by decide +kernel)) ggX1_digest_X1_binOf
set_option maxRecDepth 20000 in
theorem ggX1_digest_X1_wouldLand : GoodIn wsX1_digest wsX1_wouldLand := goodIn_ca (goodIn_r _ [171, 38, 8, 39, 40, 41, 6, 42, 43, 44, 45, 46, 47, 27, 48, 49, 50, 51, 52, 53, 54, 55, 29, 56, 57, 58, 59, 60, 61, 62, 63, 64, 65, 66, 67, 68, 69, 70, 71, 72, 73, 74, 75, 76, 77, 78, 79, 80, 81, 82, 83, 84, 180, 181, 182, 183, 184, 185, 186, 187, 188, 189, 190] (by decide +kernel) (by decide +kernel)) (goodIn_sub (fun _ h => List.mem_cons_of_mem _ (List.mem_append_right _ h)) (by decide +kernel))
set_option maxRecDepth 20000 in
theorem gX1_digest_X1_wouldLand : GoodIn wsX1_digest (wsV RX1 178 RX1 yX1_wouldLand wsX1_wouldLand) := goodIn_app (goodIn_of _ (by decide +kernel)) ggX1_digest_X1_wouldLand
set_option maxRecDepth 20000 in
theorem ggX1_digest_X1_wouldTurn : GoodIn wsX1_digest wsX1_wouldTurn := goodIn_ca (goodIn_r _ [37, 38, 8, 39, 40, 41, 6, 42, 43, 44, 45, 46, 47, 27, 48, 49, 50, 51, 52, 53, 54, 55, 29, 56, 57, 58, 59, 60, 61, 62, 63, 64, 65, 66, 67, 68, 69, 70, 71, 72, 73, 74, 75, 76, 77, 78, 79, 80, 81, 82, 83, 84, 85, 86, 87, 88, 89, 90, 91, 92, 93, 94, 95, 96, 180, 181, 182, 183, 184, 185, 186, 187, 188, 189, 190] (by decide +kernel) (by decide +kernel)) (goodIn_sub (fun _ h => List.mem_cons_of_mem _ (List.mem_append_right _ h)) (by decide +kernel))
set_option maxRecDepth 20000 in
theorem gX1_digest_X1_wouldTurn : GoodIn wsX1_digest (wsV RX1 134 RX1 yX1_wouldTurn wsX1_wouldTurn) := goodIn_app (goodIn_of _ (by decide +kernel)) ggX1_digest_X1_wouldTurn
set_option maxRecDepth 20000 in
theorem ggX1_digest_X1_asBeforeIn : GoodIn wsX1_digest wsX1_asBeforeIn := goodIn_ca (goodIn_r _ [175, 38, 8, 39, 40, 41, 6, 42, 43, 44, 45, 46, 47, 27, 48, 49, 50, 51, 52, 53, 54, 55, 29, 56, 57, 58, 59, 60, 61, 62, 63, 64, 65, 66, 67, 68, 69, 70, 71, 72, 73, 74, 75, 76, 77, 78, 79, 80, 81, 82, 83, 84, 176, 177, 178, 179, 180, 181, 182, 183, 184, 185, 186, 187, 188, 189, 190] (by decide +kernel) (by decide +kernel)) (goodIn_sub (fun _ h => List.mem_cons_of_mem _ (List.mem_append_right _ h)) (by decide +kernel))
set_option maxRecDepth 20000 in
theorem gX1_digest_X1_asBeforeIn : GoodIn wsX1_digest (wsV RX1 181 RX1 yX1_asBeforeIn wsX1_asBeforeIn) := goodIn_app (goodIn_of _ (by decide +kernel)) ggX1_digest_X1_asBeforeIn
theorem dX1_digest_0 : decode cX1_digest 0 = .ok (.ldc2_w 137, 3) := by decide +kernel
theorem dX1_digest_3 : decode cX1_digest 3 = .ok (.lstore_n 1, 1) := by decide +kernel
theorem dX1_digest_4 : decode cX1_digest 4 = .ok (.lload_n 1, 1) := by decide +kernel
theorem dX1_digest_5 : decode cX1_digest 5 = .ok (.ldc2_w 139, 3) := by decide +kernel
theorem dX1_digest_8 : decode cX1_digest 8 = .ok (.lmul, 1) := by decide +kernel
theorem dX1_digest_9 : decode cX1_digest 9 = .ok (.aload_n 0, 1) := by decide +kernel
theorem dX1_digest_10 : decode cX1_digest 10 = .ok (.invokevirtual 131, 3) := by decide +kernel
theorem dX1_digest_13 : decode cX1_digest 13 = .ok (.i2l, 1) := by decide +kernel
theorem dX1_digest_14 : decode cX1_digest 14 = .ok (.ladd, 1) := by decide +kernel
theorem dX1_digest_15 : decode cX1_digest 15 = .ok (.lstore_n 1, 1) := by decide +kernel
theorem dX1_digest_16 : decode cX1_digest 16 = .ok (.lload_n 1, 1) := by decide +kernel
theorem dX1_digest_17 : decode cX1_digest 17 = .ok (.ldc2_w 139, 3) := by decide +kernel
theorem dX1_digest_20 : decode cX1_digest 20 = .ok (.lmul, 1) := by decide +kernel
theorem dX1_digest_21 : decode cX1_digest 21 = .ok (.aload_n 0, 1) := by decide +kernel
theorem dX1_digest_22 : decode cX1_digest 22 = .ok (.invokevirtual 141, 3) := by decide +kernel
theorem dX1_digest_25 : decode cX1_digest 25 = .ok (.i2l, 1) := by decide +kernel
theorem dX1_digest_26 : decode cX1_digest 26 = .ok (.ladd, 1) := by decide +kernel
theorem dX1_digest_27 : decode cX1_digest 27 = .ok (.lstore_n 1, 1) := by decide +kernel
theorem dX1_digest_28 : decode cX1_digest 28 = .ok (.lload_n 1, 1) := by decide +kernel
theorem dX1_digest_29 : decode cX1_digest 29 = .ok (.ldc2_w 139, 3) := by decide +kernel
theorem dX1_digest_32 : decode cX1_digest 32 = .ok (.lmul, 1) := by decide +kernel
theorem dX1_digest_33 : decode cX1_digest 33 = .ok (.aload_n 0, 1) := by decide +kernel
theorem dX1_digest_34 : decode cX1_digest 34 = .ok (.invokevirtual 144, 3) := by decide +kernel
theorem dX1_digest_37 : decode cX1_digest 37 = .ok (.i2l, 1) := by decide +kernel
theorem dX1_digest_38 : decode cX1_digest 38 = .ok (.ladd, 1) := by decide +kernel
theorem dX1_digest_39 : decode cX1_digest 39 = .ok (.lstore_n 1, 1) := by decide +kernel
theorem dX1_digest_40 : decode cX1_digest 40 = .ok (.lload_n 1, 1) := by decide +kernel
theorem dX1_digest_41 : decode cX1_digest 41 = .ok (.ldc2_w 139, 3) := by decide +kernel
theorem dX1_digest_44 : decode cX1_digest 44 = .ok (.lmul, 1) := by decide +kernel
theorem dX1_digest_45 : decode cX1_digest 45 = .ok (.aload_n 0, 1) := by decide +kernel
theorem dX1_digest_46 : decode cX1_digest 46 = .ok (.invokevirtual 147, 3) := by decide +kernel
theorem dX1_digest_49 : decode cX1_digest 49 = .ok (.i2l, 1) := by decide +kernel
theorem dX1_digest_50 : decode cX1_digest 50 = .ok (.ladd, 1) := by decide +kernel
theorem dX1_digest_51 : decode cX1_digest 51 = .ok (.lstore_n 1, 1) := by decide +kernel
theorem dX1_digest_52 : decode cX1_digest 52 = .ok (.lload_n 1, 1) := by decide +kernel
theorem dX1_digest_53 : decode cX1_digest 53 = .ok (.ldc2_w 139, 3) := by decide +kernel
theorem dX1_digest_56 : decode cX1_digest 56 = .ok (.lmul, 1) := by decide +kernel
theorem dX1_digest_57 : decode cX1_digest 57 = .ok (.aload_n 0, 1) := by decide +kernel
theorem dX1_digest_58 : decode cX1_digest 58 = .ok (.invokevirtual 150, 3) := by decide +kernel
theorem dX1_digest_61 : decode cX1_digest 61 = .ok (.i2l, 1) := by decide +kernel
theorem dX1_digest_62 : decode cX1_digest 62 = .ok (.ladd, 1) := by decide +kernel
theorem dX1_digest_63 : decode cX1_digest 63 = .ok (.lstore_n 1, 1) := by decide +kernel
theorem dX1_digest_64 : decode cX1_digest 64 = .ok (.iconst 0, 1) := by decide +kernel
theorem dX1_digest_65 : decode cX1_digest 65 = .ok (.istore_n 3, 1) := by decide +kernel
theorem dX1_digest_66 : decode cX1_digest 66 = .ok (.iload_n 3, 1) := by decide +kernel
theorem dX1_digest_67 : decode cX1_digest 67 = .ok (.iconst 2, 1) := by decide +kernel
theorem dX1_digest_68 : decode cX1_digest 68 = .ok (.if_icmp .ge 48, 3) := by decide +kernel
theorem dX1_digest_71 : decode cX1_digest 71 = .ok (.lload_n 1, 1) := by decide +kernel
theorem dX1_digest_72 : decode cX1_digest 72 = .ok (.ldc2_w 139, 3) := by decide +kernel
theorem dX1_digest_75 : decode cX1_digest 75 = .ok (.lmul, 1) := by decide +kernel
theorem dX1_digest_76 : decode cX1_digest 76 = .ok (.aload_n 0, 1) := by decide +kernel
theorem dX1_digest_77 : decode cX1_digest 77 = .ok (.iload_n 3, 1) := by decide +kernel
theorem dX1_digest_78 : decode cX1_digest 78 = .ok (.invokevirtual 153, 3) := by decide +kernel
theorem dX1_digest_81 : decode cX1_digest 81 = .ok (.i2l, 1) := by decide +kernel
theorem dX1_digest_82 : decode cX1_digest 82 = .ok (.ladd, 1) := by decide +kernel
theorem dX1_digest_83 : decode cX1_digest 83 = .ok (.lstore_n 1, 1) := by decide +kernel
theorem dX1_digest_84 : decode cX1_digest 84 = .ok (.lload_n 1, 1) := by decide +kernel
theorem dX1_digest_85 : decode cX1_digest 85 = .ok (.ldc2_w 139, 3) := by decide +kernel
theorem dX1_digest_88 : decode cX1_digest 88 = .ok (.lmul, 1) := by decide +kernel
theorem dX1_digest_89 : decode cX1_digest 89 = .ok (.aload_n 0, 1) := by decide +kernel
theorem dX1_digest_90 : decode cX1_digest 90 = .ok (.iload_n 3, 1) := by decide +kernel
theorem dX1_digest_91 : decode cX1_digest 91 = .ok (.invokevirtual 156, 3) := by decide +kernel
theorem dX1_digest_94 : decode cX1_digest 94 = .ok (.i2l, 1) := by decide +kernel
theorem dX1_digest_95 : decode cX1_digest 95 = .ok (.ladd, 1) := by decide +kernel
theorem dX1_digest_96 : decode cX1_digest 96 = .ok (.lstore_n 1, 1) := by decide +kernel
theorem dX1_digest_97 : decode cX1_digest 97 = .ok (.lload_n 1, 1) := by decide +kernel
theorem dX1_digest_98 : decode cX1_digest 98 = .ok (.ldc2_w 139, 3) := by decide +kernel
theorem dX1_digest_101 : decode cX1_digest 101 = .ok (.lmul, 1) := by decide +kernel
theorem dX1_digest_102 : decode cX1_digest 102 = .ok (.aload_n 0, 1) := by decide +kernel
theorem dX1_digest_103 : decode cX1_digest 103 = .ok (.iload_n 3, 1) := by decide +kernel
theorem dX1_digest_104 : decode cX1_digest 104 = .ok (.invokevirtual 159, 3) := by decide +kernel
theorem dX1_digest_107 : decode cX1_digest 107 = .ok (.i2l, 1) := by decide +kernel
theorem dX1_digest_108 : decode cX1_digest 108 = .ok (.ladd, 1) := by decide +kernel
theorem dX1_digest_109 : decode cX1_digest 109 = .ok (.lstore_n 1, 1) := by decide +kernel
theorem dX1_digest_110 : decode cX1_digest 110 = .ok (.iinc 3 1, 3) := by decide +kernel
theorem dX1_digest_113 : decode cX1_digest 113 = .ok (.goto (-47), 3) := by decide +kernel
theorem dX1_digest_116 : decode cX1_digest 116 = .ok (.iconst 0, 1) := by decide +kernel
theorem dX1_digest_117 : decode cX1_digest 117 = .ok (.istore_n 3, 1) := by decide +kernel
theorem dX1_digest_118 : decode cX1_digest 118 = .ok (.iload_n 3, 1) := by decide +kernel
theorem dX1_digest_119 : decode cX1_digest 119 = .ok (.aload_n 0, 1) := by decide +kernel
theorem dX1_digest_120 : decode cX1_digest 120 = .ok (.invokevirtual 141, 3) := by decide +kernel
theorem dX1_digest_123 : decode cX1_digest 123 = .ok (.if_icmp .ge 93, 3) := by decide +kernel
theorem dX1_digest_126 : decode cX1_digest 126 = .ok (.lload_n 1, 1) := by decide +kernel
theorem dX1_digest_127 : decode cX1_digest 127 = .ok (.ldc2_w 139, 3) := by decide +kernel
theorem dX1_digest_130 : decode cX1_digest 130 = .ok (.lmul, 1) := by decide +kernel
theorem dX1_digest_131 : decode cX1_digest 131 = .ok (.aload_n 0, 1) := by decide +kernel
theorem dX1_digest_132 : decode cX1_digest 132 = .ok (.iload_n 3, 1) := by decide +kernel
theorem dX1_digest_133 : decode cX1_digest 133 = .ok (.invokevirtual 162, 3) := by decide +kernel
theorem dX1_digest_136 : decode cX1_digest 136 = .ok (.i2l, 1) := by decide +kernel
theorem dX1_digest_137 : decode cX1_digest 137 = .ok (.ladd, 1) := by decide +kernel
theorem dX1_digest_138 : decode cX1_digest 138 = .ok (.lstore_n 1, 1) := by decide +kernel
theorem dX1_digest_139 : decode cX1_digest 139 = .ok (.iconst 0, 1) := by decide +kernel
theorem dX1_digest_140 : decode cX1_digest 140 = .ok (.istore 4, 2) := by decide +kernel
theorem dX1_digest_142 : decode cX1_digest 142 = .ok (.iload 4, 2) := by decide +kernel
theorem dX1_digest_144 : decode cX1_digest 144 = .ok (.aload_n 0, 1) := by decide +kernel
theorem dX1_digest_145 : decode cX1_digest 145 = .ok (.invokevirtual 131, 3) := by decide +kernel
theorem dX1_digest_148 : decode cX1_digest 148 = .ok (.if_icmp .ge 62, 3) := by decide +kernel
theorem dX1_digest_151 : decode cX1_digest 151 = .ok (.lload_n 1, 1) := by decide +kernel
theorem dX1_digest_152 : decode cX1_digest 152 = .ok (.ldc2_w 139, 3) := by decide +kernel
theorem dX1_digest_155 : decode cX1_digest 155 = .ok (.lmul, 1) := by decide +kernel
theorem dX1_digest_156 : decode cX1_digest 156 = .ok (.aload_n 0, 1) := by decide +kernel
theorem dX1_digest_157 : decode cX1_digest 157 = .ok (.iload_n 3, 1) := by decide +kernel
theorem dX1_digest_158 : decode cX1_digest 158 = .ok (.iload 4, 2) := by decide +kernel
theorem dX1_digest_160 : decode cX1_digest 160 = .ok (.invokevirtual 165, 3) := by decide +kernel
theorem dX1_digest_163 : decode cX1_digest 163 = .ok (.i2l, 1) := by decide +kernel
theorem dX1_digest_164 : decode cX1_digest 164 = .ok (.ladd, 1) := by decide +kernel
theorem dX1_digest_165 : decode cX1_digest 165 = .ok (.lstore_n 1, 1) := by decide +kernel
theorem dX1_digest_166 : decode cX1_digest 166 = .ok (.lload_n 1, 1) := by decide +kernel
theorem dX1_digest_167 : decode cX1_digest 167 = .ok (.ldc2_w 139, 3) := by decide +kernel
theorem dX1_digest_170 : decode cX1_digest 170 = .ok (.lmul, 1) := by decide +kernel
theorem dX1_digest_171 : decode cX1_digest 171 = .ok (.aload_n 0, 1) := by decide +kernel
theorem dX1_digest_172 : decode cX1_digest 172 = .ok (.iload_n 3, 1) := by decide +kernel
theorem dX1_digest_173 : decode cX1_digest 173 = .ok (.iload 4, 2) := by decide +kernel
theorem dX1_digest_175 : decode cX1_digest 175 = .ok (.invokevirtual 168, 3) := by decide +kernel
theorem dX1_digest_178 : decode cX1_digest 178 = .ok (.ifCond .eq 7, 3) := by decide +kernel
theorem dX1_digest_181 : decode cX1_digest 181 = .ok (.iconst 1, 1) := by decide +kernel
theorem dX1_digest_182 : decode cX1_digest 182 = .ok (.goto 4, 3) := by decide +kernel
theorem dX1_digest_185 : decode cX1_digest 185 = .ok (.iconst 0, 1) := by decide +kernel
theorem dX1_digest_186 : decode cX1_digest 186 = .ok (.i2l, 1) := by decide +kernel
theorem dX1_digest_187 : decode cX1_digest 187 = .ok (.ladd, 1) := by decide +kernel
theorem dX1_digest_188 : decode cX1_digest 188 = .ok (.lstore_n 1, 1) := by decide +kernel
theorem dX1_digest_189 : decode cX1_digest 189 = .ok (.lload_n 1, 1) := by decide +kernel
theorem dX1_digest_190 : decode cX1_digest 190 = .ok (.ldc2_w 139, 3) := by decide +kernel
theorem dX1_digest_193 : decode cX1_digest 193 = .ok (.lmul, 1) := by decide +kernel
theorem dX1_digest_194 : decode cX1_digest 194 = .ok (.aload_n 0, 1) := by decide +kernel
theorem dX1_digest_195 : decode cX1_digest 195 = .ok (.iload_n 3, 1) := by decide +kernel
theorem dX1_digest_196 : decode cX1_digest 196 = .ok (.iload 4, 2) := by decide +kernel
theorem dX1_digest_198 : decode cX1_digest 198 = .ok (.invokevirtual 172, 3) := by decide +kernel
theorem dX1_digest_201 : decode cX1_digest 201 = .ok (.i2l, 1) := by decide +kernel
theorem dX1_digest_202 : decode cX1_digest 202 = .ok (.ladd, 1) := by decide +kernel
theorem dX1_digest_203 : decode cX1_digest 203 = .ok (.lstore_n 1, 1) := by decide +kernel
theorem dX1_digest_204 : decode cX1_digest 204 = .ok (.iinc 4 1, 3) := by decide +kernel
theorem dX1_digest_207 : decode cX1_digest 207 = .ok (.goto (-65), 3) := by decide +kernel
theorem dX1_digest_210 : decode cX1_digest 210 = .ok (.iinc 3 1, 3) := by decide +kernel
theorem dX1_digest_213 : decode cX1_digest 213 = .ok (.goto (-95), 3) := by decide +kernel
theorem dX1_digest_216 : decode cX1_digest 216 = .ok (.iconst 0, 1) := by decide +kernel
theorem dX1_digest_217 : decode cX1_digest 217 = .ok (.istore_n 3, 1) := by decide +kernel
theorem dX1_digest_218 : decode cX1_digest 218 = .ok (.iload_n 3, 1) := by decide +kernel
theorem dX1_digest_219 : decode cX1_digest 219 = .ok (.aload_n 0, 1) := by decide +kernel
theorem dX1_digest_220 : decode cX1_digest 220 = .ok (.invokevirtual 131, 3) := by decide +kernel
theorem dX1_digest_223 : decode cX1_digest 223 = .ok (.if_icmp .ge 61, 3) := by decide +kernel
theorem dX1_digest_226 : decode cX1_digest 226 = .ok (.lload_n 1, 1) := by decide +kernel
theorem dX1_digest_227 : decode cX1_digest 227 = .ok (.ldc2_w 139, 3) := by decide +kernel
theorem dX1_digest_230 : decode cX1_digest 230 = .ok (.lmul, 1) := by decide +kernel
theorem dX1_digest_231 : decode cX1_digest 231 = .ok (.aload_n 0, 1) := by decide +kernel
theorem dX1_digest_232 : decode cX1_digest 232 = .ok (.iload_n 3, 1) := by decide +kernel
theorem dX1_digest_233 : decode cX1_digest 233 = .ok (.invokevirtual 175, 3) := by decide +kernel
theorem dX1_digest_236 : decode cX1_digest 236 = .ok (.i2l, 1) := by decide +kernel
theorem dX1_digest_237 : decode cX1_digest 237 = .ok (.ladd, 1) := by decide +kernel
theorem dX1_digest_238 : decode cX1_digest 238 = .ok (.lstore_n 1, 1) := by decide +kernel
theorem dX1_digest_239 : decode cX1_digest 239 = .ok (.lload_n 1, 1) := by decide +kernel
theorem dX1_digest_240 : decode cX1_digest 240 = .ok (.ldc2_w 139, 3) := by decide +kernel
theorem dX1_digest_243 : decode cX1_digest 243 = .ok (.lmul, 1) := by decide +kernel
theorem dX1_digest_244 : decode cX1_digest 244 = .ok (.aload_n 0, 1) := by decide +kernel
theorem dX1_digest_245 : decode cX1_digest 245 = .ok (.iload_n 3, 1) := by decide +kernel
theorem dX1_digest_246 : decode cX1_digest 246 = .ok (.invokevirtual 178, 3) := by decide +kernel
theorem dX1_digest_249 : decode cX1_digest 249 = .ok (.i2l, 1) := by decide +kernel
theorem dX1_digest_250 : decode cX1_digest 250 = .ok (.ladd, 1) := by decide +kernel
theorem dX1_digest_251 : decode cX1_digest 251 = .ok (.lstore_n 1, 1) := by decide +kernel
theorem dX1_digest_252 : decode cX1_digest 252 = .ok (.lload_n 1, 1) := by decide +kernel
theorem dX1_digest_253 : decode cX1_digest 253 = .ok (.ldc2_w 139, 3) := by decide +kernel
theorem dX1_digest_256 : decode cX1_digest 256 = .ok (.lmul, 1) := by decide +kernel
theorem dX1_digest_257 : decode cX1_digest 257 = .ok (.aload_n 0, 1) := by decide +kernel
theorem dX1_digest_258 : decode cX1_digest 258 = .ok (.iload_n 3, 1) := by decide +kernel
theorem dX1_digest_259 : decode cX1_digest 259 = .ok (.invokevirtual 134, 3) := by decide +kernel
theorem dX1_digest_262 : decode cX1_digest 262 = .ok (.i2l, 1) := by decide +kernel
theorem dX1_digest_263 : decode cX1_digest 263 = .ok (.ladd, 1) := by decide +kernel
theorem dX1_digest_264 : decode cX1_digest 264 = .ok (.lstore_n 1, 1) := by decide +kernel
theorem dX1_digest_265 : decode cX1_digest 265 = .ok (.lload_n 1, 1) := by decide +kernel
theorem dX1_digest_266 : decode cX1_digest 266 = .ok (.ldc2_w 139, 3) := by decide +kernel
theorem dX1_digest_269 : decode cX1_digest 269 = .ok (.lmul, 1) := by decide +kernel
theorem dX1_digest_270 : decode cX1_digest 270 = .ok (.aload_n 0, 1) := by decide +kernel
theorem dX1_digest_271 : decode cX1_digest 271 = .ok (.iload_n 3, 1) := by decide +kernel
theorem dX1_digest_272 : decode cX1_digest 272 = .ok (.invokevirtual 181, 3) := by decide +kernel
theorem dX1_digest_275 : decode cX1_digest 275 = .ok (.i2l, 1) := by decide +kernel
theorem dX1_digest_276 : decode cX1_digest 276 = .ok (.ladd, 1) := by decide +kernel
theorem dX1_digest_277 : decode cX1_digest 277 = .ok (.lstore_n 1, 1) := by decide +kernel
theorem dX1_digest_278 : decode cX1_digest 278 = .ok (.iinc 3 1, 3) := by decide +kernel
theorem dX1_digest_281 : decode cX1_digest 281 = .ok (.goto (-63), 3) := by decide +kernel
theorem dX1_digest_284 : decode cX1_digest 284 = .ok (.lload_n 1, 1) := by decide +kernel
theorem dX1_digest_285 : decode cX1_digest 285 = .ok (.lreturn, 1) := by decide +kernel
set_option maxRecDepth 20000 in
theorem ggX1_needPlace_X1_needRow : GoodIn wsX1_needPlace wsX1_needRow := goodIn_ca (goodIn_r _ [5, 6, 7, 8, 9, 10, 11, 12, 13, 14, 24, 25, 26, 27, 28, 29, 30, 31, 32, 33, 34] (by decide +kernel) (by decide +kernel)) (goodIn_sub (fun _ h => List.mem_cons_of_mem _ (List.mem_append_right _ h)) (by decide +kernel))
set_option maxRecDepth 20000 in
theorem gX1_needPlace_X1_needRow : GoodIn wsX1_needPlace (wsV RX1 110 RX1 yX1_needRow wsX1_needRow) := goodIn_app (goodIn_of _ (by decide +kernel)) ggX1_needPlace_X1_needRow
set_option maxRecDepth 20000 in
theorem ggX1_needPlace_X1_needColumn : GoodIn wsX1_needPlace wsX1_needColumn := goodIn_ca (goodIn_r _ [18, 6, 7, 8, 19, 20, 21, 12, 22, 23, 24, 25, 26, 27, 28, 29, 30, 31, 32, 33, 34] (by decide +kernel) (by decide +kernel)) (goodIn_sub (fun _ h => List.mem_cons_of_mem _ (List.mem_append_right _ h)) (by decide +kernel))
set_option maxRecDepth 20000 in
theorem gX1_needPlace_X1_needColumn : GoodIn wsX1_needPlace (wsV RX1 60 RX1 yX1_needColumn wsX1_needColumn) := goodIn_app (goodIn_of _ (by decide +kernel)) ggX1_needPlace_X1_needColumn
theorem dX1_needPlace_0 : decode cX1_needPlace 0 = .ok (.aload_n 0, 1) := by decide +kernel
theorem dX1_needPlace_1 : decode cX1_needPlace 1 = .ok (.iload_n 1, 1) := by decide +kernel
theorem dX1_needPlace_2 : decode cX1_needPlace 2 = .ok (.invokevirtual 110, 3) := by decide +kernel
theorem dX1_needPlace_5 : decode cX1_needPlace 5 = .ok (.aload_n 0, 1) := by decide +kernel
theorem dX1_needPlace_6 : decode cX1_needPlace 6 = .ok (.iload_n 2, 1) := by decide +kernel
theorem dX1_needPlace_7 : decode cX1_needPlace 7 = .ok (.invokevirtual 60, 3) := by decide +kernel
theorem dX1_needPlace_10 : decode cX1_needPlace 10 = .ok (.return_, 1) := by decide +kernel
set_option maxRecDepth 20000 in
theorem ggX1_needRow_X0_hasRow : GoodIn wsX1_needRow wsX0_hasRow := goodIn_r _ [8, 9, 12, 13, 14, 15, 16, 17, 18, 19, 20] (by decide +kernel) (by decide +kernel)
set_option maxRecDepth 20000 in
theorem gX1_needRow_X0_hasRow : GoodIn wsX1_needRow (wsV RX1 184 RX0 yX0_hasRow wsX0_hasRow) := goodIn_app (goodIn_of _ (by decide +kernel)) ggX1_needRow_X0_hasRow
theorem dX1_needRow_0 : decode cX1_needRow 0 = .ok (.aload_n 0, 1) := by decide +kernel
theorem dX1_needRow_1 : decode cX1_needRow 1 = .ok (.getfield 10, 3) := by decide +kernel
theorem dX1_needRow_4 : decode cX1_needRow 4 = .ok (.iload_n 1, 1) := by decide +kernel
theorem dX1_needRow_5 : decode cX1_needRow 5 = .ok (.invokevirtual 184, 3) := by decide +kernel
theorem dX1_needRow_8 : decode cX1_needRow 8 = .ok (.ifCond .ne 13, 3) := by decide +kernel
theorem dX1_needRow_11 : decode cX1_needRow 11 = .ok (.new 187, 3) := by decide +kernel
theorem dX1_needRow_14 : decode cX1_needRow 14 = .ok (.dup, 1) := by decide +kernel
theorem dX1_needRow_15 : decode cX1_needRow 15 = .ok (.ldc 189, 2) := by decide +kernel
theorem dX1_needRow_17 : decode cX1_needRow 17 = .ok (.invokespecial 191, 3) := by decide +kernel
theorem dX1_needRow_20 : decode cX1_needRow 20 = .ok (.athrow, 1) := by decide +kernel
theorem dX1_needRow_21 : decode cX1_needRow 21 = .ok (.return_, 1) := by decide +kernel
set_option maxRecDepth 20000 in
theorem ggX1_needColumn_X0_hasColumn : GoodIn wsX1_needColumn wsX0_hasColumn := goodIn_r _ [8, 9, 12, 13, 14, 15, 16, 17, 18, 19, 20] (by decide +kernel) (by decide +kernel)
set_option maxRecDepth 20000 in
theorem gX1_needColumn_X0_hasColumn : GoodIn wsX1_needColumn (wsV RX1 192 RX0 yX0_hasColumn wsX0_hasColumn) := goodIn_app (goodIn_of _ (by decide +kernel)) ggX1_needColumn_X0_hasColumn
theorem dX1_needColumn_0 : decode cX1_needColumn 0 = .ok (.aload_n 0, 1) := by decide +kernel
theorem dX1_needColumn_1 : decode cX1_needColumn 1 = .ok (.getfield 10, 3) := by decide +kernel
theorem dX1_needColumn_4 : decode cX1_needColumn 4 = .ok (.iload_n 1, 1) := by decide +kernel
theorem dX1_needColumn_5 : decode cX1_needColumn 5 = .ok (.invokevirtual 192, 3) := by decide +kernel
theorem dX1_needColumn_8 : decode cX1_needColumn 8 = .ok (.ifCond .ne 13, 3) := by decide +kernel
theorem dX1_needColumn_11 : decode cX1_needColumn 11 = .ok (.new 187, 3) := by decide +kernel
theorem dX1_needColumn_14 : decode cX1_needColumn 14 = .ok (.dup, 1) := by decide +kernel
theorem dX1_needColumn_15 : decode cX1_needColumn 15 = .ok (.ldc 195, 2) := by decide +kernel
theorem dX1_needColumn_17 : decode cX1_needColumn 17 = .ok (.invokespecial 191, 3) := by decide +kernel
theorem dX1_needColumn_20 : decode cX1_needColumn 20 = .ok (.athrow, 1) := by decide +kernel
theorem dX1_needColumn_21 : decode cX1_needColumn 21 = .ok (.return_, 1) := by decide +kernel
theorem dX1_needHopper_0 : decode cX1_needHopper 0 = .ok (.iload_n 0, 1) := by decide +kernel
theorem dX1_needHopper_1 : decode cX1_needHopper 1 = .ok (.ifCond .lt 8, 3) := by decide +kernel
theorem dX1_needHopper_4 : decode cX1_needHopper 4 = .ok (.iload_n 0, 1) := by decide +kernel
theorem dX1_needHopper_5 : decode cX1_needHopper 5 = .ok (.iconst 2, 1) := by decide +kernel
theorem dX1_needHopper_6 : decode cX1_needHopper 6 = .ok (.if_icmp .lt 13, 3) := by decide +kernel
theorem dX1_needHopper_9 : decode cX1_needHopper 9 = .ok (.new 187, 3) := by decide +kernel
theorem dX1_needHopper_12 : decode cX1_needHopper 12 = .ok (.dup, 1) := by decide +kernel
theorem dX1_needHopper_13 : decode cX1_needHopper 13 = .ok (.ldc 197, 2) := by decide +kernel
theorem dX1_needHopper_15 : decode cX1_needHopper 15 = .ok (.invokespecial 191, 3) := by decide +kernel
theorem dX1_needHopper_18 : decode cX1_needHopper 18 = .ok (.athrow, 1) := by decide +kernel
theorem dX1_needHopper_19 : decode cX1_needHopper 19 = .ok (.return_, 1) := by decide +kernel
theorem dX1_needWithin_0 : decode cX1_needWithin 0 = .ok (.iload_n 0, 1) := by decide +kernel
theorem dX1_needWithin_1 : decode cX1_needWithin 1 = .ok (.iload_n 1, 1) := by decide +kernel
theorem dX1_needWithin_2 : decode cX1_needWithin 2 = .ok (.if_icmp .lt 8, 3) := by decide +kernel
theorem dX1_needWithin_5 : decode cX1_needWithin 5 = .ok (.iload_n 0, 1) := by decide +kernel
theorem dX1_needWithin_6 : decode cX1_needWithin 6 = .ok (.iload_n 2, 1) := by decide +kernel
theorem dX1_needWithin_7 : decode cX1_needWithin 7 = .ok (.if_icmp .le 13, 3) := by decide +kernel
theorem dX1_needWithin_10 : decode cX1_needWithin 10 = .ok (.new 199, 3) := by decide +kernel
theorem dX1_needWithin_13 : decode cX1_needWithin 13 = .ok (.dup, 1) := by decide +kernel
theorem dX1_needWithin_14 : decode cX1_needWithin 14 = .ok (.ldc 201, 2) := by decide +kernel
theorem dX1_needWithin_16 : decode cX1_needWithin 16 = .ok (.invokespecial 203, 3) := by decide +kernel
theorem dX1_needWithin_19 : decode cX1_needWithin 19 = .ok (.athrow, 1) := by decide +kernel
theorem dX1_needWithin_20 : decode cX1_needWithin 20 = .ok (.return_, 1) := by decide +kernel
theorem dX1_cell_0 : decode cX1_cell 0 = .ok (.iload_n 1, 1) := by decide +kernel
theorem dX1_cell_1 : decode cX1_cell 1 = .ok (.ifCond .lt 15, 3) := by decide +kernel
theorem dX1_cell_4 : decode cX1_cell 4 = .ok (.iload_n 1, 1) := by decide +kernel
theorem dX1_cell_5 : decode cX1_cell 5 = .ok (.aload_n 0, 1) := by decide +kernel
theorem dX1_cell_6 : decode cX1_cell 6 = .ok (.arraylength, 1) := by decide +kernel
theorem dX1_cell_7 : decode cX1_cell 7 = .ok (.if_icmp .ge 9, 3) := by decide +kernel
theorem dX1_cell_10 : decode cX1_cell 10 = .ok (.aload_n 0, 1) := by decide +kernel
theorem dX1_cell_11 : decode cX1_cell 11 = .ok (.iload_n 1, 1) := by decide +kernel
theorem dX1_cell_12 : decode cX1_cell 12 = .ok (.iaload, 1) := by decide +kernel
theorem dX1_cell_13 : decode cX1_cell 13 = .ok (.goto 4, 3) := by decide +kernel
theorem dX1_cell_16 : decode cX1_cell 16 = .ok (.iconst 0, 1) := by decide +kernel
theorem dX1_cell_17 : decode cX1_cell 17 = .ok (.ireturn, 1) := by decide +kernel
theorem dX1_setCell_0 : decode cX1_setCell 0 = .ok (.iload_n 1, 1) := by decide +kernel
theorem dX1_setCell_1 : decode cX1_setCell 1 = .ok (.ifCond .lt 13, 3) := by decide +kernel
theorem dX1_setCell_4 : decode cX1_setCell 4 = .ok (.iload_n 1, 1) := by decide +kernel
theorem dX1_setCell_5 : decode cX1_setCell 5 = .ok (.aload_n 0, 1) := by decide +kernel
theorem dX1_setCell_6 : decode cX1_setCell 6 = .ok (.arraylength, 1) := by decide +kernel
theorem dX1_setCell_7 : decode cX1_setCell 7 = .ok (.if_icmp .ge 7, 3) := by decide +kernel
theorem dX1_setCell_10 : decode cX1_setCell 10 = .ok (.aload_n 0, 1) := by decide +kernel
theorem dX1_setCell_11 : decode cX1_setCell 11 = .ok (.iload_n 1, 1) := by decide +kernel
theorem dX1_setCell_12 : decode cX1_setCell 12 = .ok (.iload_n 2, 1) := by decide +kernel
theorem dX1_setCell_13 : decode cX1_setCell 13 = .ok (.iastore, 1) := by decide +kernel
theorem dX1_setCell_14 : decode cX1_setCell 14 = .ok (.return_, 1) := by decide +kernel
set_option maxRecDepth 20000 in
theorem ggX1_copyCells_X1_setCell : GoodIn wsX1_copyCells wsX1_setCell := goodIn_r _ [4] (by decide +kernel) (by decide +kernel)
set_option maxRecDepth 20000 in
theorem gX1_copyCells_X1_setCell : GoodIn wsX1_copyCells (va_wsS RX1 204 yX1_setCell wsX1_setCell) := goodIn_app (goodIn_of _ (by decide +kernel)) ggX1_copyCells_X1_setCell
theorem dX1_copyCells_0 : decode cX1_copyCells 0 = .ok (.iconst 0, 1) := by decide +kernel
theorem dX1_copyCells_1 : decode cX1_copyCells 1 = .ok (.istore_n 2, 1) := by decide +kernel
theorem dX1_copyCells_2 : decode cX1_copyCells 2 = .ok (.iload_n 2, 1) := by decide +kernel
theorem dX1_copyCells_3 : decode cX1_copyCells 3 = .ok (.aload_n 0, 1) := by decide +kernel
theorem dX1_copyCells_4 : decode cX1_copyCells 4 = .ok (.arraylength, 1) := by decide +kernel
theorem dX1_copyCells_5 : decode cX1_copyCells 5 = .ok (.if_icmp .ge 17, 3) := by decide +kernel
theorem dX1_copyCells_8 : decode cX1_copyCells 8 = .ok (.aload_n 1, 1) := by decide +kernel
theorem dX1_copyCells_9 : decode cX1_copyCells 9 = .ok (.iload_n 2, 1) := by decide +kernel
theorem dX1_copyCells_10 : decode cX1_copyCells 10 = .ok (.aload_n 0, 1) := by decide +kernel
theorem dX1_copyCells_11 : decode cX1_copyCells 11 = .ok (.iload_n 2, 1) := by decide +kernel
theorem dX1_copyCells_12 : decode cX1_copyCells 12 = .ok (.iaload, 1) := by decide +kernel
theorem dX1_copyCells_13 : decode cX1_copyCells 13 = .ok (.invokestatic 204, 3) := by decide +kernel
theorem dX1_copyCells_16 : decode cX1_copyCells 16 = .ok (.iinc 2 1, 3) := by decide +kernel
theorem dX1_copyCells_19 : decode cX1_copyCells 19 = .ok (.goto (-17), 3) := by decide +kernel
theorem dX1_copyCells_22 : decode cX1_copyCells 22 = .ok (.return_, 1) := by decide +kernel
abbrev vwCl : List vw_C := [(RX0, TX0, 9), (RX1, TX1, 2), (RX2, TX2, 6)]
end
section
theorem dX2_init_0 : decode cX2_init 0 = .ok (.aload_n 0, 1) := by decide +kernel
theorem dX2_init_1 : decode cX2_init 1 = .ok (.invokespecial 1, 3) := by decide +kernel
theorem dX2_init_4 : decode cX2_init 4 = .ok (.aload_n 0, 1) := by decide +kernel
theorem dX2_init_5 : decode cX2_init 5 = .ok (.iconst 4, 1) := by decide +kernel
theorem dX2_init_6 : decode cX2_init 6 = .ok (.iconst 5, 1) := by decide +kernel
theorem dX2_init_7 : decode cX2_init 7 = .ok (.iconst 3, 1) := by decide +kernel
theorem dX2_init_8 : decode cX2_init 8 = .ok (.multianewarray 7 3, 4) := by decide +kernel
theorem dX2_init_12 : decode cX2_init 12 = .ok (.putfield 9, 3) := by decide +kernel
theorem dX2_init_15 : decode cX2_init 15 = .ok (.aload_n 0, 1) := by decide +kernel
theorem dX2_init_16 : decode cX2_init 16 = .ok (.iconst 5, 1) := by decide +kernel
theorem dX2_init_17 : decode cX2_init 17 = .ok (.newarray .int, 2) := by decide +kernel
theorem dX2_init_19 : decode cX2_init 19 = .ok (.putfield 14, 3) := by decide +kernel
theorem dX2_init_22 : decode cX2_init 22 = .ok (.aload_n 0, 1) := by decide +kernel
theorem dX2_init_23 : decode cX2_init 23 = .ok (.iconst 2, 1) := by decide +kernel
theorem dX2_init_24 : decode cX2_init 24 = .ok (.newarray .int, 2) := by decide +kernel
theorem dX2_init_26 : decode cX2_init 26 = .ok (.dup, 1) := by decide +kernel
theorem dX2_init_27 : decode cX2_init 27 = .ok (.iconst 0, 1) := by decide +kernel
theorem dX2_init_28 : decode cX2_init 28 = .ok (.iconst 0, 1) := by decide +kernel
theorem dX2_init_29 : decode cX2_init 29 = .ok (.iastore, 1) := by decide +kernel
theorem dX2_init_30 : decode cX2_init 30 = .ok (.dup, 1) := by decide +kernel
theorem dX2_init_31 : decode cX2_init 31 = .ok (.iconst 1, 1) := by decide +kernel
theorem dX2_init_32 : decode cX2_init 32 = .ok (.iconst 4, 1) := by decide +kernel
theorem dX2_init_33 : decode cX2_init 33 = .ok (.iastore, 1) := by decide +kernel
theorem dX2_init_34 : decode cX2_init 34 = .ok (.putfield 18, 3) := by decide +kernel
theorem dX2_init_37 : decode cX2_init 37 = .ok (.aload_n 0, 1) := by decide +kernel
theorem dX2_init_38 : decode cX2_init 38 = .ok (.iconst 2, 1) := by decide +kernel
theorem dX2_init_39 : decode cX2_init 39 = .ok (.newarray .int, 2) := by decide +kernel
theorem dX2_init_41 : decode cX2_init 41 = .ok (.dup, 1) := by decide +kernel
theorem dX2_init_42 : decode cX2_init 42 = .ok (.iconst 0, 1) := by decide +kernel
theorem dX2_init_43 : decode cX2_init 43 = .ok (.iconst 0, 1) := by decide +kernel
theorem dX2_init_44 : decode cX2_init 44 = .ok (.iastore, 1) := by decide +kernel
theorem dX2_init_45 : decode cX2_init 45 = .ok (.dup, 1) := by decide +kernel
theorem dX2_init_46 : decode cX2_init 46 = .ok (.iconst 1, 1) := by decide +kernel
theorem dX2_init_47 : decode cX2_init 47 = .ok (.iconst 0, 1) := by decide +kernel
theorem dX2_init_48 : decode cX2_init 48 = .ok (.iastore, 1) := by decide +kernel
theorem dX2_init_49 : decode cX2_init 49 = .ok (.putfield 21, 3) := by decide +kernel
theorem dX2_init_52 : decode cX2_init 52 = .ok (.return_, 1) := by decide +kernel
set_option maxRecDepth 20000 in
theorem ggX2_copy_X2_init : GoodIn wsX2_copy wsX2_init := goodIn_r _ [17, 18, 19, 20, 4, 21, 11, 13, 14, 22, 23, 24, 25, 26, 27] (by decide +kernel) (by decide +kernel)
set_option maxRecDepth 20000 in
theorem gX2_copy_X2_init : GoodIn wsX2_copy (wsX2_init) := ggX2_copy_X2_init
theorem dX2_copy_0 : decode cX2_copy 0 = .ok (.new 10, 3) := by decide +kernel
theorem dX2_copy_3 : decode cX2_copy 3 = .ok (.dup, 1) := by decide +kernel
theorem dX2_copy_4 : decode cX2_copy 4 = .ok (.invokespecial 24, 3) := by decide +kernel
theorem dX2_copy_7 : decode cX2_copy 7 = .ok (.astore_n 1, 1) := by decide +kernel
theorem dX2_copy_8 : decode cX2_copy 8 = .ok (.aload_n 0, 1) := by decide +kernel
theorem dX2_copy_9 : decode cX2_copy 9 = .ok (.getfield 9, 3) := by decide +kernel
theorem dX2_copy_12 : decode cX2_copy 12 = .ok (.iconst 0, 1) := by decide +kernel
theorem dX2_copy_13 : decode cX2_copy 13 = .ok (.aaload, 1) := by decide +kernel
theorem dX2_copy_14 : decode cX2_copy 14 = .ok (.arraylength, 1) := by decide +kernel
theorem dX2_copy_15 : decode cX2_copy 15 = .ok (.istore_n 2, 1) := by decide +kernel
theorem dX2_copy_16 : decode cX2_copy 16 = .ok (.aload_n 1, 1) := by decide +kernel
theorem dX2_copy_17 : decode cX2_copy 17 = .ok (.aload_n 0, 1) := by decide +kernel
theorem dX2_copy_18 : decode cX2_copy 18 = .ok (.getfield 9, 3) := by decide +kernel
theorem dX2_copy_21 : decode cX2_copy 21 = .ok (.arraylength, 1) := by decide +kernel
theorem dX2_copy_22 : decode cX2_copy 22 = .ok (.iload_n 2, 1) := by decide +kernel
theorem dX2_copy_23 : decode cX2_copy 23 = .ok (.multianewarray 7 2, 4) := by decide +kernel
theorem dX2_copy_27 : decode cX2_copy 27 = .ok (.putfield 9, 3) := by decide +kernel
theorem dX2_copy_30 : decode cX2_copy 30 = .ok (.iconst 0, 1) := by decide +kernel
theorem dX2_copy_31 : decode cX2_copy 31 = .ok (.istore_n 3, 1) := by decide +kernel
theorem dX2_copy_32 : decode cX2_copy 32 = .ok (.iload_n 3, 1) := by decide +kernel
theorem dX2_copy_33 : decode cX2_copy 33 = .ok (.aload_n 0, 1) := by decide +kernel
theorem dX2_copy_34 : decode cX2_copy 34 = .ok (.getfield 9, 3) := by decide +kernel
theorem dX2_copy_37 : decode cX2_copy 37 = .ok (.arraylength, 1) := by decide +kernel
theorem dX2_copy_38 : decode cX2_copy 38 = .ok (.if_icmp .ge 48, 3) := by decide +kernel
theorem dX2_copy_41 : decode cX2_copy 41 = .ok (.iconst 0, 1) := by decide +kernel
theorem dX2_copy_42 : decode cX2_copy 42 = .ok (.istore 4, 2) := by decide +kernel
theorem dX2_copy_44 : decode cX2_copy 44 = .ok (.iload 4, 2) := by decide +kernel
theorem dX2_copy_46 : decode cX2_copy 46 = .ok (.iload_n 2, 1) := by decide +kernel
theorem dX2_copy_47 : decode cX2_copy 47 = .ok (.if_icmp .ge 33, 3) := by decide +kernel
theorem dX2_copy_50 : decode cX2_copy 50 = .ok (.aload_n 1, 1) := by decide +kernel
theorem dX2_copy_51 : decode cX2_copy 51 = .ok (.getfield 9, 3) := by decide +kernel
theorem dX2_copy_54 : decode cX2_copy 54 = .ok (.iload_n 3, 1) := by decide +kernel
theorem dX2_copy_55 : decode cX2_copy 55 = .ok (.aaload, 1) := by decide +kernel
theorem dX2_copy_56 : decode cX2_copy 56 = .ok (.iload 4, 2) := by decide +kernel
theorem dX2_copy_58 : decode cX2_copy 58 = .ok (.aload_n 0, 1) := by decide +kernel
theorem dX2_copy_59 : decode cX2_copy 59 = .ok (.getfield 9, 3) := by decide +kernel
theorem dX2_copy_62 : decode cX2_copy 62 = .ok (.iload_n 3, 1) := by decide +kernel
theorem dX2_copy_63 : decode cX2_copy 63 = .ok (.aaload, 1) := by decide +kernel
theorem dX2_copy_64 : decode cX2_copy 64 = .ok (.iload 4, 2) := by decide +kernel
theorem dX2_copy_66 : decode cX2_copy 66 = .ok (.aaload, 1) := by decide +kernel
theorem dX2_copy_67 : decode cX2_copy 67 = .ok (.invokevirtual 25, 3) := by decide +kernel
theorem dX2_copy_70 : decode cX2_copy 70 = .ok (.checkcast 26, 3) := by decide +kernel
theorem dX2_copy_73 : decode cX2_copy 73 = .ok (.aastore, 1) := by decide +kernel
theorem dX2_copy_74 : decode cX2_copy 74 = .ok (.iinc 4 1, 3) := by decide +kernel
theorem dX2_copy_77 : decode cX2_copy 77 = .ok (.goto (-33), 3) := by decide +kernel
theorem dX2_copy_80 : decode cX2_copy 80 = .ok (.iinc 3 1, 3) := by decide +kernel
theorem dX2_copy_83 : decode cX2_copy 83 = .ok (.goto (-51), 3) := by decide +kernel
theorem dX2_copy_86 : decode cX2_copy 86 = .ok (.aload_n 1, 1) := by decide +kernel
theorem dX2_copy_87 : decode cX2_copy 87 = .ok (.aload_n 0, 1) := by decide +kernel
theorem dX2_copy_88 : decode cX2_copy 88 = .ok (.getfield 14, 3) := by decide +kernel
theorem dX2_copy_91 : decode cX2_copy 91 = .ok (.invokevirtual 25, 3) := by decide +kernel
theorem dX2_copy_94 : decode cX2_copy 94 = .ok (.checkcast 26, 3) := by decide +kernel
theorem dX2_copy_97 : decode cX2_copy 97 = .ok (.putfield 14, 3) := by decide +kernel
theorem dX2_copy_100 : decode cX2_copy 100 = .ok (.aload_n 1, 1) := by decide +kernel
theorem dX2_copy_101 : decode cX2_copy 101 = .ok (.aload_n 0, 1) := by decide +kernel
theorem dX2_copy_102 : decode cX2_copy 102 = .ok (.getfield 30, 3) := by decide +kernel
theorem dX2_copy_105 : decode cX2_copy 105 = .ok (.putfield 30, 3) := by decide +kernel
theorem dX2_copy_108 : decode cX2_copy 108 = .ok (.aload_n 1, 1) := by decide +kernel
theorem dX2_copy_109 : decode cX2_copy 109 = .ok (.aload_n 0, 1) := by decide +kernel
theorem dX2_copy_110 : decode cX2_copy 110 = .ok (.getfield 18, 3) := by decide +kernel
theorem dX2_copy_113 : decode cX2_copy 113 = .ok (.invokevirtual 25, 3) := by decide +kernel
theorem dX2_copy_116 : decode cX2_copy 116 = .ok (.checkcast 26, 3) := by decide +kernel
theorem dX2_copy_119 : decode cX2_copy 119 = .ok (.putfield 18, 3) := by decide +kernel
theorem dX2_copy_122 : decode cX2_copy 122 = .ok (.aload_n 1, 1) := by decide +kernel
theorem dX2_copy_123 : decode cX2_copy 123 = .ok (.aload_n 0, 1) := by decide +kernel
theorem dX2_copy_124 : decode cX2_copy 124 = .ok (.getfield 21, 3) := by decide +kernel
theorem dX2_copy_127 : decode cX2_copy 127 = .ok (.invokevirtual 25, 3) := by decide +kernel
theorem dX2_copy_130 : decode cX2_copy 130 = .ok (.checkcast 26, 3) := by decide +kernel
theorem dX2_copy_133 : decode cX2_copy 133 = .ok (.putfield 21, 3) := by decide +kernel
theorem dX2_copy_136 : decode cX2_copy 136 = .ok (.aload_n 1, 1) := by decide +kernel
theorem dX2_copy_137 : decode cX2_copy 137 = .ok (.areturn, 1) := by decide +kernel
theorem dX2_lay_0 : decode cX2_lay 0 = .ok (.aload_n 0, 1) := by decide +kernel
theorem dX2_lay_1 : decode cX2_lay 1 = .ok (.iload_n 2, 1) := by decide +kernel
theorem dX2_lay_2 : decode cX2_lay 2 = .ok (.iload_n 1, 1) := by decide +kernel
theorem dX2_lay_3 : decode cX2_lay 3 = .ok (.iconst 3, 1) := by decide +kernel
theorem dX2_lay_4 : decode cX2_lay 4 = .ok (.multianewarray 7 3, 4) := by decide +kernel
theorem dX2_lay_8 : decode cX2_lay 8 = .ok (.putfield 9, 3) := by decide +kernel
theorem dX2_lay_11 : decode cX2_lay 11 = .ok (.aload_n 0, 1) := by decide +kernel
theorem dX2_lay_12 : decode cX2_lay 12 = .ok (.iload_n 1, 1) := by decide +kernel
theorem dX2_lay_13 : decode cX2_lay 13 = .ok (.newarray .int, 2) := by decide +kernel
theorem dX2_lay_15 : decode cX2_lay 15 = .ok (.putfield 14, 3) := by decide +kernel
theorem dX2_lay_18 : decode cX2_lay 18 = .ok (.aload_n 0, 1) := by decide +kernel
theorem dX2_lay_19 : decode cX2_lay 19 = .ok (.iconst 0, 1) := by decide +kernel
theorem dX2_lay_20 : decode cX2_lay 20 = .ok (.putfield 30, 3) := by decide +kernel
theorem dX2_lay_23 : decode cX2_lay 23 = .ok (.aload_n 0, 1) := by decide +kernel
theorem dX2_lay_24 : decode cX2_lay 24 = .ok (.iconst 2, 1) := by decide +kernel
theorem dX2_lay_25 : decode cX2_lay 25 = .ok (.newarray .int, 2) := by decide +kernel
theorem dX2_lay_27 : decode cX2_lay 27 = .ok (.dup, 1) := by decide +kernel
theorem dX2_lay_28 : decode cX2_lay 28 = .ok (.iconst 0, 1) := by decide +kernel
theorem dX2_lay_29 : decode cX2_lay 29 = .ok (.iconst 0, 1) := by decide +kernel
theorem dX2_lay_30 : decode cX2_lay 30 = .ok (.iastore, 1) := by decide +kernel
theorem dX2_lay_31 : decode cX2_lay 31 = .ok (.dup, 1) := by decide +kernel
theorem dX2_lay_32 : decode cX2_lay 32 = .ok (.iconst 1, 1) := by decide +kernel
theorem dX2_lay_33 : decode cX2_lay 33 = .ok (.iload_n 1, 1) := by decide +kernel
theorem dX2_lay_34 : decode cX2_lay 34 = .ok (.iconst 1, 1) := by decide +kernel
theorem dX2_lay_35 : decode cX2_lay 35 = .ok (.isub, 1) := by decide +kernel
theorem dX2_lay_36 : decode cX2_lay 36 = .ok (.iastore, 1) := by decide +kernel
theorem dX2_lay_37 : decode cX2_lay 37 = .ok (.putfield 18, 3) := by decide +kernel
theorem dX2_lay_40 : decode cX2_lay 40 = .ok (.return_, 1) := by decide +kernel
theorem dX2_fall_0 : decode cX2_fall 0 = .ok (.iload_n 1, 1) := by decide +kernel
theorem dX2_fall_1 : decode cX2_fall 1 = .ok (.istore_n 3, 1) := by decide +kernel
theorem dX2_fall_2 : decode cX2_fall 2 = .ok (.iconst 0, 1) := by decide +kernel
theorem dX2_fall_3 : decode cX2_fall 3 = .ok (.istore 4, 2) := by decide +kernel
theorem dX2_fall_5 : decode cX2_fall 5 = .ok (.iconst 0, 1) := by decide +kernel
theorem dX2_fall_6 : decode cX2_fall 6 = .ok (.istore 5, 2) := by decide +kernel
theorem dX2_fall_8 : decode cX2_fall 8 = .ok (.iload 5, 2) := by decide +kernel
theorem dX2_fall_10 : decode cX2_fall 10 = .ok (.iload_n 2, 1) := by decide +kernel
theorem dX2_fall_11 : decode cX2_fall 11 = .ok (.if_icmp .ge 180, 3) := by decide +kernel
theorem dX2_fall_14 : decode cX2_fall 14 = .ok (.aload_n 0, 1) := by decide +kernel
theorem dX2_fall_15 : decode cX2_fall 15 = .ok (.getfield 9, 3) := by decide +kernel
theorem dX2_fall_18 : decode cX2_fall 18 = .ok (.iload 5, 2) := by decide +kernel
theorem dX2_fall_20 : decode cX2_fall 20 = .ok (.aaload, 1) := by decide +kernel
theorem dX2_fall_21 : decode cX2_fall 21 = .ok (.iload_n 3, 1) := by decide +kernel
theorem dX2_fall_22 : decode cX2_fall 22 = .ok (.aaload, 1) := by decide +kernel
theorem dX2_fall_23 : decode cX2_fall 23 = .ok (.astore 6, 2) := by decide +kernel
theorem dX2_fall_25 : decode cX2_fall 25 = .ok (.aload 6, 2) := by decide +kernel
theorem dX2_fall_27 : decode cX2_fall 27 = .ok (.iconst 0, 1) := by decide +kernel
theorem dX2_fall_28 : decode cX2_fall 28 = .ok (.iaload, 1) := by decide +kernel
theorem dX2_fall_29 : decode cX2_fall 29 = .ok (.ifCond .ne 9, 3) := by decide +kernel
theorem dX2_fall_32 : decode cX2_fall 32 = .ok (.iconst 0, 1) := by decide +kernel
theorem dX2_fall_33 : decode cX2_fall 33 = .ok (.istore 4, 2) := by decide +kernel
theorem dX2_fall_35 : decode cX2_fall 35 = .ok (.goto 130, 3) := by decide +kernel
theorem dX2_fall_38 : decode cX2_fall 38 = .ok (.aload 6, 2) := by decide +kernel
theorem dX2_fall_40 : decode cX2_fall 40 = .ok (.iconst 0, 1) := by decide +kernel
theorem dX2_fall_41 : decode cX2_fall 41 = .ok (.iaload, 1) := by decide +kernel
theorem dX2_fall_42 : decode cX2_fall 42 = .ok (.iconst 3, 1) := by decide +kernel
theorem dX2_fall_43 : decode cX2_fall 43 = .ok (.if_icmp .ge 21, 3) := by decide +kernel
theorem dX2_fall_46 : decode cX2_fall 46 = .ok (.aload 6, 2) := by decide +kernel
theorem dX2_fall_48 : decode cX2_fall 48 = .ok (.iconst 0, 1) := by decide +kernel
theorem dX2_fall_49 : decode cX2_fall 49 = .ok (.iaload, 1) := by decide +kernel
theorem dX2_fall_50 : decode cX2_fall 50 = .ok (.iconst 1, 1) := by decide +kernel
theorem dX2_fall_51 : decode cX2_fall 51 = .ok (.if_icmp .ne 7, 3) := by decide +kernel
theorem dX2_fall_54 : decode cX2_fall 54 = .ok (.iconst (-1), 1) := by decide +kernel
theorem dX2_fall_55 : decode cX2_fall 55 = .ok (.goto 4, 3) := by decide +kernel
theorem dX2_fall_58 : decode cX2_fall 58 = .ok (.iconst 1, 1) := by decide +kernel
theorem dX2_fall_59 : decode cX2_fall 59 = .ok (.istore 4, 2) := by decide +kernel
theorem dX2_fall_61 : decode cX2_fall 61 = .ok (.goto 104, 3) := by decide +kernel
theorem dX2_fall_64 : decode cX2_fall 64 = .ok (.aload 6, 2) := by decide +kernel
theorem dX2_fall_66 : decode cX2_fall 66 = .ok (.iconst 0, 1) := by decide +kernel
theorem dX2_fall_67 : decode cX2_fall 67 = .ok (.iaload, 1) := by decide +kernel
theorem dX2_fall_68 : decode cX2_fall 68 = .ok (.iconst 3, 1) := by decide +kernel
theorem dX2_fall_69 : decode cX2_fall 69 = .ok (.if_icmp .ne 46, 3) := by decide +kernel
theorem dX2_fall_72 : decode cX2_fall 72 = .ok (.aload 6, 2) := by decide +kernel
theorem dX2_fall_74 : decode cX2_fall 74 = .ok (.iconst 2, 1) := by decide +kernel
theorem dX2_fall_75 : decode cX2_fall 75 = .ok (.iaload, 1) := by decide +kernel
theorem dX2_fall_76 : decode cX2_fall 76 = .ok (.ifCond .ne 7, 3) := by decide +kernel
theorem dX2_fall_79 : decode cX2_fall 79 = .ok (.iconst (-1), 1) := by decide +kernel
theorem dX2_fall_80 : decode cX2_fall 80 = .ok (.goto 4, 3) := by decide +kernel
theorem dX2_fall_83 : decode cX2_fall 83 = .ok (.iconst 1, 1) := by decide +kernel
theorem dX2_fall_84 : decode cX2_fall 84 = .ok (.istore 4, 2) := by decide +kernel
theorem dX2_fall_86 : decode cX2_fall 86 = .ok (.aload 6, 2) := by decide +kernel
theorem dX2_fall_88 : decode cX2_fall 88 = .ok (.iconst 2, 1) := by decide +kernel
theorem dX2_fall_89 : decode cX2_fall 89 = .ok (.aload 6, 2) := by decide +kernel
theorem dX2_fall_91 : decode cX2_fall 91 = .ok (.iconst 2, 1) := by decide +kernel
theorem dX2_fall_92 : decode cX2_fall 92 = .ok (.iaload, 1) := by decide +kernel
theorem dX2_fall_93 : decode cX2_fall 93 = .ok (.ifCond .ne 7, 3) := by decide +kernel
theorem dX2_fall_96 : decode cX2_fall 96 = .ok (.iconst 1, 1) := by decide +kernel
theorem dX2_fall_97 : decode cX2_fall 97 = .ok (.goto 4, 3) := by decide +kernel
theorem dX2_fall_100 : decode cX2_fall 100 = .ok (.iconst 0, 1) := by decide +kernel
theorem dX2_fall_101 : decode cX2_fall 101 = .ok (.iastore, 1) := by decide +kernel
theorem dX2_fall_102 : decode cX2_fall 102 = .ok (.aload_n 0, 1) := by decide +kernel
theorem dX2_fall_103 : decode cX2_fall 103 = .ok (.dup, 1) := by decide +kernel
theorem dX2_fall_104 : decode cX2_fall 104 = .ok (.getfield 34, 3) := by decide +kernel
theorem dX2_fall_107 : decode cX2_fall 107 = .ok (.iconst 1, 1) := by decide +kernel
theorem dX2_fall_108 : decode cX2_fall 108 = .ok (.iadd, 1) := by decide +kernel
theorem dX2_fall_109 : decode cX2_fall 109 = .ok (.putfield 34, 3) := by decide +kernel
theorem dX2_fall_112 : decode cX2_fall 112 = .ok (.goto 53, 3) := by decide +kernel
theorem dX2_fall_115 : decode cX2_fall 115 = .ok (.aload 6, 2) := by decide +kernel
theorem dX2_fall_117 : decode cX2_fall 117 = .ok (.iconst 0, 1) := by decide +kernel
theorem dX2_fall_118 : decode cX2_fall 118 = .ok (.iaload, 1) := by decide +kernel
theorem dX2_fall_119 : decode cX2_fall 119 = .ok (.iconst 5, 1) := by decide +kernel
theorem dX2_fall_120 : decode cX2_fall 120 = .ok (.if_icmp .ne 45, 3) := by decide +kernel
theorem dX2_fall_123 : decode cX2_fall 123 = .ok (.aload 6, 2) := by decide +kernel
theorem dX2_fall_125 : decode cX2_fall 125 = .ok (.iconst 2, 1) := by decide +kernel
theorem dX2_fall_126 : decode cX2_fall 126 = .ok (.dup2, 1) := by decide +kernel
theorem dX2_fall_127 : decode cX2_fall 127 = .ok (.iaload, 1) := by decide +kernel
theorem dX2_fall_128 : decode cX2_fall 128 = .ok (.iconst 1, 1) := by decide +kernel
theorem dX2_fall_129 : decode cX2_fall 129 = .ok (.iadd, 1) := by decide +kernel
theorem dX2_fall_130 : decode cX2_fall 130 = .ok (.iastore, 1) := by decide +kernel
theorem dX2_fall_131 : decode cX2_fall 131 = .ok (.aload 6, 2) := by decide +kernel
theorem dX2_fall_133 : decode cX2_fall 133 = .ok (.iconst 2, 1) := by decide +kernel
theorem dX2_fall_134 : decode cX2_fall 134 = .ok (.iaload, 1) := by decide +kernel
theorem dX2_fall_135 : decode cX2_fall 135 = .ok (.aload 6, 2) := by decide +kernel
theorem dX2_fall_137 : decode cX2_fall 137 = .ok (.iconst 1, 1) := by decide +kernel
theorem dX2_fall_138 : decode cX2_fall 138 = .ok (.iaload, 1) := by decide +kernel
theorem dX2_fall_139 : decode cX2_fall 139 = .ok (.if_icmp .ne 7, 3) := by decide +kernel
theorem dX2_fall_142 : decode cX2_fall 142 = .ok (.iconst 1, 1) := by decide +kernel
theorem dX2_fall_143 : decode cX2_fall 143 = .ok (.goto 4, 3) := by decide +kernel
theorem dX2_fall_146 : decode cX2_fall 146 = .ok (.iconst (-1), 1) := by decide +kernel
theorem dX2_fall_147 : decode cX2_fall 147 = .ok (.istore 4, 2) := by decide +kernel
theorem dX2_fall_149 : decode cX2_fall 149 = .ok (.aload 6, 2) := by decide +kernel
theorem dX2_fall_151 : decode cX2_fall 151 = .ok (.iconst 2, 1) := by decide +kernel
theorem dX2_fall_152 : decode cX2_fall 152 = .ok (.iaload, 1) := by decide +kernel
theorem dX2_fall_153 : decode cX2_fall 153 = .ok (.aload 6, 2) := by decide +kernel
theorem dX2_fall_155 : decode cX2_fall 155 = .ok (.iconst 1, 1) := by decide +kernel
theorem dX2_fall_156 : decode cX2_fall 156 = .ok (.iaload, 1) := by decide +kernel
theorem dX2_fall_157 : decode cX2_fall 157 = .ok (.if_icmp .ne 8, 3) := by decide +kernel
theorem dX2_fall_160 : decode cX2_fall 160 = .ok (.aload 6, 2) := by decide +kernel
theorem dX2_fall_162 : decode cX2_fall 162 = .ok (.iconst 2, 1) := by decide +kernel
theorem dX2_fall_163 : decode cX2_fall 163 = .ok (.iconst 0, 1) := by decide +kernel
theorem dX2_fall_164 : decode cX2_fall 164 = .ok (.iastore, 1) := by decide +kernel
theorem dX2_fall_165 : decode cX2_fall 165 = .ok (.iload_n 3, 1) := by decide +kernel
theorem dX2_fall_166 : decode cX2_fall 166 = .ok (.iload 4, 2) := by decide +kernel
theorem dX2_fall_168 : decode cX2_fall 168 = .ok (.iadd, 1) := by decide +kernel
theorem dX2_fall_169 : decode cX2_fall 169 = .ok (.istore_n 3, 1) := by decide +kernel
theorem dX2_fall_170 : decode cX2_fall 170 = .ok (.iload_n 3, 1) := by decide +kernel
theorem dX2_fall_171 : decode cX2_fall 171 = .ok (.ifCond .lt 12, 3) := by decide +kernel
theorem dX2_fall_174 : decode cX2_fall 174 = .ok (.iload_n 3, 1) := by decide +kernel
theorem dX2_fall_175 : decode cX2_fall 175 = .ok (.aload_n 0, 1) := by decide +kernel
theorem dX2_fall_176 : decode cX2_fall 176 = .ok (.getfield 14, 3) := by decide +kernel
theorem dX2_fall_179 : decode cX2_fall 179 = .ok (.arraylength, 1) := by decide +kernel
theorem dX2_fall_180 : decode cX2_fall 180 = .ok (.if_icmp .ne 5, 3) := by decide +kernel
theorem dX2_fall_183 : decode cX2_fall 183 = .ok (.iconst (-1), 1) := by decide +kernel
theorem dX2_fall_184 : decode cX2_fall 184 = .ok (.ireturn, 1) := by decide +kernel
theorem dX2_fall_185 : decode cX2_fall 185 = .ok (.iinc 5 1, 3) := by decide +kernel
theorem dX2_fall_188 : decode cX2_fall 188 = .ok (.goto (-180), 3) := by decide +kernel
theorem dX2_fall_191 : decode cX2_fall 191 = .ok (.iload_n 3, 1) := by decide +kernel
theorem dX2_fall_192 : decode cX2_fall 192 = .ok (.ireturn, 1) := by decide +kernel
set_option maxRecDepth 20000 in
theorem ggX2_drop_X2_fall : GoodIn wsX2_drop wsX2_fall := goodIn_r _ [8, 1, 9, 3, 10, 11, 12, 13, 14, 15] (by decide +kernel) (by decide +kernel)
set_option maxRecDepth 20000 in
theorem gX2_drop_X2_fall : GoodIn wsX2_drop (wsV RX2 37 RX2 yX2_fall wsX2_fall) := goodIn_app (goodIn_of _ (by decide +kernel)) ggX2_drop_X2_fall
theorem dX2_drop_0 : decode cX2_drop 0 = .ok (.aload_n 0, 1) := by decide +kernel
theorem dX2_drop_1 : decode cX2_drop 1 = .ok (.iload_n 1, 1) := by decide +kernel
theorem dX2_drop_2 : decode cX2_drop 2 = .ok (.aload_n 0, 1) := by decide +kernel
theorem dX2_drop_3 : decode cX2_drop 3 = .ok (.getfield 9, 3) := by decide +kernel
theorem dX2_drop_6 : decode cX2_drop 6 = .ok (.arraylength, 1) := by decide +kernel
theorem dX2_drop_7 : decode cX2_drop 7 = .ok (.invokevirtual 37, 3) := by decide +kernel
theorem dX2_drop_10 : decode cX2_drop 10 = .ok (.istore_n 2, 1) := by decide +kernel
theorem dX2_drop_11 : decode cX2_drop 11 = .ok (.iload_n 2, 1) := by decide +kernel
theorem dX2_drop_12 : decode cX2_drop 12 = .ok (.ifCond .ge 16, 3) := by decide +kernel
theorem dX2_drop_15 : decode cX2_drop 15 = .ok (.aload_n 0, 1) := by decide +kernel
theorem dX2_drop_16 : decode cX2_drop 16 = .ok (.dup, 1) := by decide +kernel
theorem dX2_drop_17 : decode cX2_drop 17 = .ok (.getfield 30, 3) := by decide +kernel
theorem dX2_drop_20 : decode cX2_drop 20 = .ok (.iconst 1, 1) := by decide +kernel
theorem dX2_drop_21 : decode cX2_drop 21 = .ok (.iadd, 1) := by decide +kernel
theorem dX2_drop_22 : decode cX2_drop 22 = .ok (.putfield 30, 3) := by decide +kernel
theorem dX2_drop_25 : decode cX2_drop 25 = .ok (.goto 13, 3) := by decide +kernel
theorem dX2_drop_28 : decode cX2_drop 28 = .ok (.aload_n 0, 1) := by decide +kernel
theorem dX2_drop_29 : decode cX2_drop 29 = .ok (.getfield 14, 3) := by decide +kernel
theorem dX2_drop_32 : decode cX2_drop 32 = .ok (.iload_n 2, 1) := by decide +kernel
theorem dX2_drop_33 : decode cX2_drop 33 = .ok (.dup2, 1) := by decide +kernel
theorem dX2_drop_34 : decode cX2_drop 34 = .ok (.iaload, 1) := by decide +kernel
theorem dX2_drop_35 : decode cX2_drop 35 = .ok (.iconst 1, 1) := by decide +kernel
theorem dX2_drop_36 : decode cX2_drop 36 = .ok (.iadd, 1) := by decide +kernel
theorem dX2_drop_37 : decode cX2_drop 37 = .ok (.iastore, 1) := by decide +kernel
theorem dX2_drop_38 : decode cX2_drop 38 = .ok (.iload_n 2, 1) := by decide +kernel
theorem dX2_drop_39 : decode cX2_drop 39 = .ok (.ireturn, 1) := by decide +kernel
set_option maxRecDepth 20000 in
theorem ggX2_run_X2_drop : GoodIn wsX2_run wsX2_drop := goodIn_r _ [8, 9, 10, 3, 11, 12, 13, 7, 14, 15, 16, 17, 18, 19, 20, 21] (by decide +kernel) (by decide +kernel)
set_option maxRecDepth 20000 in
theorem gX2_run_X2_drop : GoodIn wsX2_run (wsV RX2 41 RX2 yX2_drop wsX2_drop) := goodIn_app (goodIn_of _ (by decide +kernel)) ggX2_run_X2_drop
theorem dX2_run_0 : decode cX2_run 0 = .ok (.iconst 0, 1) := by decide +kernel
theorem dX2_run_1 : decode cX2_run 1 = .ok (.istore_n 3, 1) := by decide +kernel
theorem dX2_run_2 : decode cX2_run 2 = .ok (.iload_n 1, 1) := by decide +kernel
theorem dX2_run_3 : decode cX2_run 3 = .ok (.istore 4, 2) := by decide +kernel
theorem dX2_run_5 : decode cX2_run 5 = .ok (.iload_n 3, 1) := by decide +kernel
theorem dX2_run_6 : decode cX2_run 6 = .ok (.iload_n 2, 1) := by decide +kernel
theorem dX2_run_7 : decode cX2_run 7 = .ok (.if_icmp .ge 86, 3) := by decide +kernel
theorem dX2_run_10 : decode cX2_run 10 = .ok (.aload_n 0, 1) := by decide +kernel
theorem dX2_run_11 : decode cX2_run 11 = .ok (.getfield 21, 3) := by decide +kernel
theorem dX2_run_14 : decode cX2_run 14 = .ok (.iload 4, 2) := by decide +kernel
theorem dX2_run_16 : decode cX2_run 16 = .ok (.iaload, 1) := by decide +kernel
theorem dX2_run_17 : decode cX2_run 17 = .ok (.ifCond .le 76, 3) := by decide +kernel
theorem dX2_run_20 : decode cX2_run 20 = .ok (.aload_n 0, 1) := by decide +kernel
theorem dX2_run_21 : decode cX2_run 21 = .ok (.getfield 21, 3) := by decide +kernel
theorem dX2_run_24 : decode cX2_run 24 = .ok (.iload 4, 2) := by decide +kernel
theorem dX2_run_26 : decode cX2_run 26 = .ok (.dup2, 1) := by decide +kernel
theorem dX2_run_27 : decode cX2_run 27 = .ok (.iaload, 1) := by decide +kernel
theorem dX2_run_28 : decode cX2_run 28 = .ok (.iconst 1, 1) := by decide +kernel
theorem dX2_run_29 : decode cX2_run 29 = .ok (.isub, 1) := by decide +kernel
theorem dX2_run_30 : decode cX2_run 30 = .ok (.iastore, 1) := by decide +kernel
theorem dX2_run_31 : decode cX2_run 31 = .ok (.iinc 3 1, 3) := by decide +kernel
theorem dX2_run_34 : decode cX2_run 34 = .ok (.aload_n 0, 1) := by decide +kernel
theorem dX2_run_35 : decode cX2_run 35 = .ok (.aload_n 0, 1) := by decide +kernel
theorem dX2_run_36 : decode cX2_run 36 = .ok (.getfield 18, 3) := by decide +kernel
theorem dX2_run_39 : decode cX2_run 39 = .ok (.iload 4, 2) := by decide +kernel
theorem dX2_run_41 : decode cX2_run 41 = .ok (.iaload, 1) := by decide +kernel
theorem dX2_run_42 : decode cX2_run 42 = .ok (.invokevirtual 41, 3) := by decide +kernel
theorem dX2_run_45 : decode cX2_run 45 = .ok (.istore 5, 2) := by decide +kernel
theorem dX2_run_47 : decode cX2_run 47 = .ok (.aload_n 0, 1) := by decide +kernel
theorem dX2_run_48 : decode cX2_run 48 = .ok (.getfield 14, 3) := by decide +kernel
theorem dX2_run_51 : decode cX2_run 51 = .ok (.arraylength, 1) := by decide +kernel
theorem dX2_run_52 : decode cX2_run 52 = .ok (.iconst 1, 1) := by decide +kernel
theorem dX2_run_53 : decode cX2_run 53 = .ok (.isub, 1) := by decide +kernel
theorem dX2_run_54 : decode cX2_run 54 = .ok (.istore 6, 2) := by decide +kernel
theorem dX2_run_56 : decode cX2_run 56 = .ok (.iload 5, 2) := by decide +kernel
theorem dX2_run_58 : decode cX2_run 58 = .ok (.ifCond .lt 13, 3) := by decide +kernel
theorem dX2_run_61 : decode cX2_run 61 = .ok (.iload 5, 2) := by decide +kernel
theorem dX2_run_63 : decode cX2_run 63 = .ok (.iload 5, 2) := by decide +kernel
theorem dX2_run_65 : decode cX2_run 65 = .ok (.iadd, 1) := by decide +kernel
theorem dX2_run_66 : decode cX2_run 66 = .ok (.iload 6, 2) := by decide +kernel
theorem dX2_run_68 : decode cX2_run 68 = .ok (.if_icmp .ne 5, 3) := by decide +kernel
theorem dX2_run_71 : decode cX2_run 71 = .ok (.iload_n 3, 1) := by decide +kernel
theorem dX2_run_72 : decode cX2_run 72 = .ok (.ireturn, 1) := by decide +kernel
theorem dX2_run_73 : decode cX2_run 73 = .ok (.iload 5, 2) := by decide +kernel
theorem dX2_run_75 : decode cX2_run 75 = .ok (.iload 5, 2) := by decide +kernel
theorem dX2_run_77 : decode cX2_run 77 = .ok (.iadd, 1) := by decide +kernel
theorem dX2_run_78 : decode cX2_run 78 = .ok (.iload 6, 2) := by decide +kernel
theorem dX2_run_80 : decode cX2_run 80 = .ok (.if_icmp .ge 7, 3) := by decide +kernel
theorem dX2_run_83 : decode cX2_run 83 = .ok (.iconst 0, 1) := by decide +kernel
theorem dX2_run_84 : decode cX2_run 84 = .ok (.goto 4, 3) := by decide +kernel
theorem dX2_run_87 : decode cX2_run 87 = .ok (.iconst 1, 1) := by decide +kernel
theorem dX2_run_88 : decode cX2_run 88 = .ok (.istore 4, 2) := by decide +kernel
theorem dX2_run_90 : decode cX2_run 90 = .ok (.goto (-85), 3) := by decide +kernel
theorem dX2_run_93 : decode cX2_run 93 = .ok (.iload_n 3, 1) := by decide +kernel
theorem dX2_run_94 : decode cX2_run 94 = .ok (.ireturn, 1) := by decide +kernel
theorem dX2_hasSame_0 : decode cX2_hasSame 0 = .ok (.iconst 0, 1) := by decide +kernel
theorem dX2_hasSame_1 : decode cX2_hasSame 1 = .ok (.istore_n 2, 1) := by decide +kernel
theorem dX2_hasSame_2 : decode cX2_hasSame 2 = .ok (.iload_n 2, 1) := by decide +kernel
theorem dX2_hasSame_3 : decode cX2_hasSame 3 = .ok (.aload_n 0, 1) := by decide +kernel
theorem dX2_hasSame_4 : decode cX2_hasSame 4 = .ok (.getfield 9, 3) := by decide +kernel
theorem dX2_hasSame_7 : decode cX2_hasSame 7 = .ok (.arraylength, 1) := by decide +kernel
theorem dX2_hasSame_8 : decode cX2_hasSame 8 = .ok (.if_icmp .ge 51, 3) := by decide +kernel
theorem dX2_hasSame_11 : decode cX2_hasSame 11 = .ok (.iconst 0, 1) := by decide +kernel
theorem dX2_hasSame_12 : decode cX2_hasSame 12 = .ok (.istore_n 3, 1) := by decide +kernel
theorem dX2_hasSame_13 : decode cX2_hasSame 13 = .ok (.iload_n 3, 1) := by decide +kernel
theorem dX2_hasSame_14 : decode cX2_hasSame 14 = .ok (.aload_n 0, 1) := by decide +kernel
theorem dX2_hasSame_15 : decode cX2_hasSame 15 = .ok (.getfield 14, 3) := by decide +kernel
theorem dX2_hasSame_18 : decode cX2_hasSame 18 = .ok (.arraylength, 1) := by decide +kernel
theorem dX2_hasSame_19 : decode cX2_hasSame 19 = .ok (.if_icmp .ge 34, 3) := by decide +kernel
theorem dX2_hasSame_22 : decode cX2_hasSame 22 = .ok (.aload_n 0, 1) := by decide +kernel
theorem dX2_hasSame_23 : decode cX2_hasSame 23 = .ok (.getfield 9, 3) := by decide +kernel
theorem dX2_hasSame_26 : decode cX2_hasSame 26 = .ok (.iload_n 2, 1) := by decide +kernel
theorem dX2_hasSame_27 : decode cX2_hasSame 27 = .ok (.aaload, 1) := by decide +kernel
theorem dX2_hasSame_28 : decode cX2_hasSame 28 = .ok (.iload_n 3, 1) := by decide +kernel
theorem dX2_hasSame_29 : decode cX2_hasSame 29 = .ok (.aaload, 1) := by decide +kernel
theorem dX2_hasSame_30 : decode cX2_hasSame 30 = .ok (.iconst 2, 1) := by decide +kernel
theorem dX2_hasSame_31 : decode cX2_hasSame 31 = .ok (.iaload, 1) := by decide +kernel
theorem dX2_hasSame_32 : decode cX2_hasSame 32 = .ok (.aload_n 1, 1) := by decide +kernel
theorem dX2_hasSame_33 : decode cX2_hasSame 33 = .ok (.getfield 9, 3) := by decide +kernel
theorem dX2_hasSame_36 : decode cX2_hasSame 36 = .ok (.iload_n 2, 1) := by decide +kernel
theorem dX2_hasSame_37 : decode cX2_hasSame 37 = .ok (.aaload, 1) := by decide +kernel
theorem dX2_hasSame_38 : decode cX2_hasSame 38 = .ok (.iload_n 3, 1) := by decide +kernel
theorem dX2_hasSame_39 : decode cX2_hasSame 39 = .ok (.aaload, 1) := by decide +kernel
theorem dX2_hasSame_40 : decode cX2_hasSame 40 = .ok (.iconst 2, 1) := by decide +kernel
theorem dX2_hasSame_41 : decode cX2_hasSame 41 = .ok (.iaload, 1) := by decide +kernel
theorem dX2_hasSame_42 : decode cX2_hasSame 42 = .ok (.if_icmp .eq 5, 3) := by decide +kernel
theorem dX2_hasSame_45 : decode cX2_hasSame 45 = .ok (.iconst 0, 1) := by decide +kernel
theorem dX2_hasSame_46 : decode cX2_hasSame 46 = .ok (.ireturn, 1) := by decide +kernel
theorem dX2_hasSame_47 : decode cX2_hasSame 47 = .ok (.iinc 3 1, 3) := by decide +kernel
theorem dX2_hasSame_50 : decode cX2_hasSame 50 = .ok (.goto (-37), 3) := by decide +kernel
theorem dX2_hasSame_53 : decode cX2_hasSame 53 = .ok (.iinc 2 1, 3) := by decide +kernel
theorem dX2_hasSame_56 : decode cX2_hasSame 56 = .ok (.goto (-54), 3) := by decide +kernel
theorem dX2_hasSame_59 : decode cX2_hasSame 59 = .ok (.iconst 1, 1) := by decide +kernel
theorem dX2_hasSame_60 : decode cX2_hasSame 60 = .ok (.ireturn, 1) := by decide +kernel
set_option maxRecDepth 20000 in
theorem ggX2_isSame_X1_partAt : GoodIn wsX2_isSame wsX1_partAt := goodIn_ca (goodIn_r _ [10, 11, 12, 13, 14, 9, 15, 16, 17, 18, 19, 20, 21, 22, 23, 24, 25, 26, 27, 28, 29, 30, 31, 32, 33, 34, 35, 36, 37, 38, 39, 40, 41, 42, 43, 44, 45, 46, 47, 134, 135, 136, 137, 138, 139, 140, 141, 142, 143, 144] (by decide +kernel) (by decide +kernel)) (goodIn_sub (fun _ h => List.mem_cons_of_mem _ (List.mem_append_right _ h)) (by decide +kernel))
set_option maxRecDepth 20000 in
theorem gX2_isSame_X1_partAt : GoodIn wsX2_isSame (wsV RX2 45 RX1 yX1_partAt wsX1_partAt) := goodIn_app (goodIn_of _ (by decide +kernel)) ggX2_isSame_X1_partAt
set_option maxRecDepth 20000 in
theorem ggX2_isSame_X1_leadsRight : GoodIn wsX2_isSame wsX1_leadsRight := goodIn_ca (goodIn_r _ [51, 11, 12, 13, 14, 9, 15, 16, 17, 18, 19, 20, 21, 22, 23, 24, 25, 26, 27, 28, 29, 30, 31, 32, 33, 34, 35, 36, 37, 38, 39, 40, 52, 53, 54, 55, 56, 57, 42, 43, 44, 45, 46, 47, 134, 135, 136, 137, 138, 139, 140, 141, 142, 143, 144] (by decide +kernel) (by decide +kernel)) (goodIn_sub (fun _ h => List.mem_cons_of_mem _ (List.mem_append_right _ h)) (by decide +kernel))
set_option maxRecDepth 20000 in
theorem gX2_isSame_X1_leadsRight : GoodIn wsX2_isSame (wsV RX2 50 RX1 yX1_leadsRight wsX1_leadsRight) := goodIn_app (goodIn_of _ (by decide +kernel)) ggX2_isSame_X1_leadsRight
set_option maxRecDepth 20000 in
theorem ggX2_isSame_X1_countAt : GoodIn wsX2_isSame wsX1_countAt := goodIn_ca (goodIn_r _ [61, 11, 12, 13, 14, 9, 15, 16, 17, 18, 19, 20, 21, 22, 23, 24, 25, 26, 27, 28, 29, 30, 31, 32, 33, 34, 35, 36, 37, 38, 39, 40, 62, 63, 64, 65, 56, 57, 42, 43, 44, 45, 46, 47, 134, 135, 136, 137, 138, 139, 140, 141, 142, 143, 144] (by decide +kernel) (by decide +kernel)) (goodIn_sub (fun _ h => List.mem_cons_of_mem _ (List.mem_append_right _ h)) (by decide +kernel))
set_option maxRecDepth 20000 in
theorem gX2_isSame_X1_countAt : GoodIn wsX2_isSame (wsV RX2 54 RX1 yX1_countAt wsX1_countAt) := goodIn_app (goodIn_of _ (by decide +kernel)) ggX2_isSame_X1_countAt
set_option maxRecDepth 20000 in
theorem ggX2_isSame_X1_numberIn : GoodIn wsX2_isSame wsX1_numberIn := goodIn_ca (goodIn_r _ [69, 11, 16, 17, 18, 9, 19, 20, 21, 22, 23, 24, 25, 26, 27, 70, 71, 72, 73, 36, 74, 38, 39, 40, 57, 42, 43, 44, 45, 46, 47, 75, 53, 54, 55, 56, 134, 135, 136, 137, 138, 139, 140, 141, 142, 143, 144] (by decide +kernel) (by decide +kernel)) (goodIn_sub (fun _ h => List.mem_cons_of_mem _ (List.mem_append_right _ h)) (by decide +kernel))
set_option maxRecDepth 20000 in
theorem gX2_isSame_X1_numberIn : GoodIn wsX2_isSame (wsV RX2 57 RX1 yX1_numberIn wsX1_numberIn) := goodIn_app (goodIn_of _ (by decide +kernel)) ggX2_isSame_X1_numberIn
set_option maxRecDepth 20000 in
theorem ggX2_isSame_X1_binOf : GoodIn wsX2_isSame wsX1_binOf := goodIn_ca (goodIn_r _ [79, 11, 80, 28, 29, 30, 9, 31, 20, 21, 32, 33, 34, 25, 35, 36, 81, 46, 47, 134, 135, 136, 137, 138, 139, 140, 141, 142, 143, 144] (by decide +kernel) (by decide +kernel)) (goodIn_sub (fun _ h => List.mem_cons_of_mem _ (List.mem_append_right _ h)) (by decide +kernel))
set_option maxRecDepth 20000 in
theorem gX2_isSame_X1_binOf : GoodIn wsX2_isSame (wsV RX2 60 RX1 yX1_binOf wsX1_binOf) := goodIn_app (goodIn_of _ (by decide +kernel)) ggX2_isSame_X1_binOf
set_option maxRecDepth 20000 in
theorem ggX2_isSame_X1_marblesIn : GoodIn wsX2_isSame wsX1_marblesIn := goodIn_ca (goodIn_r _ [85, 11, 86, 87, 88, 9, 89, 20, 21, 81, 46, 47, 134, 135, 136, 137, 138, 139, 140, 141, 142, 143, 144] (by decide +kernel) (by decide +kernel)) (goodIn_sub (fun _ h => List.mem_cons_of_mem _ (List.mem_append_right _ h)) (by decide +kernel))
set_option maxRecDepth 20000 in
theorem gX2_isSame_X1_marblesIn : GoodIn wsX2_isSame (wsV RX2 63 RX1 yX1_marblesIn wsX1_marblesIn) := goodIn_app (goodIn_of _ (by decide +kernel)) ggX2_isSame_X1_marblesIn
set_option maxRecDepth 20000 in
theorem ggX2_isSame_X1_columnOf : GoodIn wsX2_isSame wsX1_columnOf := goodIn_ca (goodIn_r _ [93, 11, 94, 87, 88, 9, 89, 20, 21, 81, 46, 47, 134, 135, 136, 137, 138, 139, 140, 141, 142, 143, 144] (by decide +kernel) (by decide +kernel)) (goodIn_sub (fun _ h => List.mem_cons_of_mem _ (List.mem_append_right _ h)) (by decide +kernel))
set_option maxRecDepth 20000 in
theorem gX2_isSame_X1_columnOf : GoodIn wsX2_isSame (wsV RX2 66 RX1 yX1_columnOf wsX1_columnOf) := goodIn_app (goodIn_of _ (by decide +kernel)) ggX2_isSame_X1_columnOf
set_option maxRecDepth 20000 in
theorem ggX2_isSame_X1_columns : GoodIn wsX2_isSame wsX1_columns := goodIn_r _ [98, 11, 99, 134, 135, 136, 137, 138, 139, 140, 141, 142, 143, 144] (by decide +kernel) (by decide +kernel)
set_option maxRecDepth 20000 in
theorem gX2_isSame_X1_columns : GoodIn wsX2_isSame (wsV RX2 69 RX1 yX1_columns wsX1_columns) := goodIn_app (goodIn_of _ (by decide +kernel)) ggX2_isSame_X1_columns
set_option maxRecDepth 20000 in
theorem ggX2_isSame_X1_rows : GoodIn wsX2_isSame wsX1_rows := goodIn_r _ [103, 11, 104, 134, 135, 136, 137, 138, 139, 140, 141, 142, 143, 144] (by decide +kernel) (by decide +kernel)
set_option maxRecDepth 20000 in
theorem gX2_isSame_X1_rows : GoodIn wsX2_isSame (wsV RX2 73 RX1 yX1_rows wsX1_rows) := goodIn_app (goodIn_of _ (by decide +kernel)) ggX2_isSame_X1_rows
set_option maxRecDepth 20000 in
theorem ggX2_isSame_X1_lost : GoodIn wsX2_isSame wsX1_lost := goodIn_r _ [108, 11, 109, 134, 135, 136, 137, 138, 139, 140, 141, 142, 143, 144] (by decide +kernel) (by decide +kernel)
set_option maxRecDepth 20000 in
theorem gX2_isSame_X1_lost : GoodIn wsX2_isSame (wsV RX2 76 RX1 yX1_lost wsX1_lost) := goodIn_app (goodIn_of _ (by decide +kernel)) ggX2_isSame_X1_lost
set_option maxRecDepth 20000 in
theorem ggX2_isSame_X1_toggles : GoodIn wsX2_isSame wsX1_toggles := goodIn_r _ [113, 11, 114, 115, 116, 25, 117, 45, 134, 135, 136, 137, 138, 139, 140, 141, 142, 143, 144] (by decide +kernel) (by decide +kernel)
set_option maxRecDepth 20000 in
theorem gX2_isSame_X1_toggles : GoodIn wsX2_isSame (wsV RX2 78 RX1 yX1_toggles wsX1_toggles) := goodIn_app (goodIn_of _ (by decide +kernel)) ggX2_isSame_X1_toggles
set_option maxRecDepth 20000 in
theorem ggX2_isSame_X1_meanInBins : GoodIn wsX2_isSame wsX1_meanInBins := goodIn_r _ [121, 11, 122, 96, 97, 9, 98, 99, 123, 124, 125, 25, 126, 127, 134, 135, 136, 137, 138, 139, 140, 141, 142, 143, 144] (by decide +kernel) (by decide +kernel)
set_option maxRecDepth 20000 in
theorem gX2_isSame_X1_meanInBins : GoodIn wsX2_isSame (wsV RX2 81 RX1 yX1_meanInBins wsX1_meanInBins) := goodIn_app (goodIn_of _ (by decide +kernel)) ggX2_isSame_X1_meanInBins
theorem dX2_isSame_0 : decode cX2_isSame 0 = .ok (.iconst 0, 1) := by decide +kernel
theorem dX2_isSame_1 : decode cX2_isSame 1 = .ok (.istore_n 2, 1) := by decide +kernel
theorem dX2_isSame_2 : decode cX2_isSame 2 = .ok (.iconst 0, 1) := by decide +kernel
theorem dX2_isSame_3 : decode cX2_isSame 3 = .ok (.istore_n 3, 1) := by decide +kernel
theorem dX2_isSame_4 : decode cX2_isSame 4 = .ok (.iconst 0, 1) := by decide +kernel
theorem dX2_isSame_5 : decode cX2_isSame 5 = .ok (.istore 4, 2) := by decide +kernel
theorem dX2_isSame_7 : decode cX2_isSame 7 = .ok (.iload 4, 2) := by decide +kernel
theorem dX2_isSame_9 : decode cX2_isSame 9 = .ok (.aload_n 0, 1) := by decide +kernel
theorem dX2_isSame_10 : decode cX2_isSame 10 = .ok (.getfield 9, 3) := by decide +kernel
theorem dX2_isSame_13 : decode cX2_isSame 13 = .ok (.arraylength, 1) := by decide +kernel
theorem dX2_isSame_14 : decode cX2_isSame 14 = .ok (.if_icmp .ge 176, 3) := by decide +kernel
theorem dX2_isSame_17 : decode cX2_isSame 17 = .ok (.iconst 0, 1) := by decide +kernel
theorem dX2_isSame_18 : decode cX2_isSame 18 = .ok (.istore 5, 2) := by decide +kernel
theorem dX2_isSame_20 : decode cX2_isSame 20 = .ok (.iconst 0, 1) := by decide +kernel
theorem dX2_isSame_21 : decode cX2_isSame 21 = .ok (.istore 6, 2) := by decide +kernel
theorem dX2_isSame_23 : decode cX2_isSame 23 = .ok (.iconst 0, 1) := by decide +kernel
theorem dX2_isSame_24 : decode cX2_isSame 24 = .ok (.istore 7, 2) := by decide +kernel
theorem dX2_isSame_26 : decode cX2_isSame 26 = .ok (.iload 7, 2) := by decide +kernel
theorem dX2_isSame_28 : decode cX2_isSame 28 = .ok (.aload_n 0, 1) := by decide +kernel
theorem dX2_isSame_29 : decode cX2_isSame 29 = .ok (.getfield 14, 3) := by decide +kernel
theorem dX2_isSame_32 : decode cX2_isSame 32 = .ok (.arraylength, 1) := by decide +kernel
theorem dX2_isSame_33 : decode cX2_isSame 33 = .ok (.if_icmp .ge 133, 3) := by decide +kernel
theorem dX2_isSame_36 : decode cX2_isSame 36 = .ok (.aload_n 0, 1) := by decide +kernel
theorem dX2_isSame_37 : decode cX2_isSame 37 = .ok (.getfield 9, 3) := by decide +kernel
theorem dX2_isSame_40 : decode cX2_isSame 40 = .ok (.iload 4, 2) := by decide +kernel
theorem dX2_isSame_42 : decode cX2_isSame 42 = .ok (.aaload, 1) := by decide +kernel
theorem dX2_isSame_43 : decode cX2_isSame 43 = .ok (.iload 7, 2) := by decide +kernel
theorem dX2_isSame_45 : decode cX2_isSame 45 = .ok (.aaload, 1) := by decide +kernel
theorem dX2_isSame_46 : decode cX2_isSame 46 = .ok (.astore 8, 2) := by decide +kernel
theorem dX2_isSame_48 : decode cX2_isSame 48 = .ok (.aload 8, 2) := by decide +kernel
theorem dX2_isSame_50 : decode cX2_isSame 50 = .ok (.iconst 0, 1) := by decide +kernel
theorem dX2_isSame_51 : decode cX2_isSame 51 = .ok (.iaload, 1) := by decide +kernel
theorem dX2_isSame_52 : decode cX2_isSame 52 = .ok (.iconst 3, 1) := by decide +kernel
theorem dX2_isSame_53 : decode cX2_isSame 53 = .ok (.if_icmp .ne 15, 3) := by decide +kernel
theorem dX2_isSame_56 : decode cX2_isSame 56 = .ok (.aload 8, 2) := by decide +kernel
theorem dX2_isSame_58 : decode cX2_isSame 58 = .ok (.iconst 2, 1) := by decide +kernel
theorem dX2_isSame_59 : decode cX2_isSame 59 = .ok (.iaload, 1) := by decide +kernel
theorem dX2_isSame_60 : decode cX2_isSame 60 = .ok (.iconst 1, 1) := by decide +kernel
theorem dX2_isSame_61 : decode cX2_isSame 61 = .ok (.if_icmp .ne 7, 3) := by decide +kernel
theorem dX2_isSame_64 : decode cX2_isSame 64 = .ok (.iconst 1, 1) := by decide +kernel
theorem dX2_isSame_65 : decode cX2_isSame 65 = .ok (.goto 4, 3) := by decide +kernel
theorem dX2_isSame_68 : decode cX2_isSame 68 = .ok (.iconst 0, 1) := by decide +kernel
theorem dX2_isSame_69 : decode cX2_isSame 69 = .ok (.istore 9, 2) := by decide +kernel
theorem dX2_isSame_71 : decode cX2_isSame 71 = .ok (.iload 9, 2) := by decide +kernel
theorem dX2_isSame_73 : decode cX2_isSame 73 = .ok (.ifCond .eq 12, 3) := by decide +kernel
theorem dX2_isSame_76 : decode cX2_isSame 76 = .ok (.iload 5, 2) := by decide +kernel
theorem dX2_isSame_78 : decode cX2_isSame 78 = .ok (.iconst 1, 1) := by decide +kernel
theorem dX2_isSame_79 : decode cX2_isSame 79 = .ok (.iload 6, 2) := by decide +kernel
theorem dX2_isSame_81 : decode cX2_isSame 81 = .ok (.ishl, 1) := by decide +kernel
theorem dX2_isSame_82 : decode cX2_isSame 82 = .ok (.iadd, 1) := by decide +kernel
theorem dX2_isSame_83 : decode cX2_isSame 83 = .ok (.istore 5, 2) := by decide +kernel
theorem dX2_isSame_85 : decode cX2_isSame 85 = .ok (.iload 6, 2) := by decide +kernel
theorem dX2_isSame_87 : decode cX2_isSame 87 = .ok (.aload 8, 2) := by decide +kernel
theorem dX2_isSame_89 : decode cX2_isSame 89 = .ok (.iconst 0, 1) := by decide +kernel
theorem dX2_isSame_90 : decode cX2_isSame 90 = .ok (.iaload, 1) := by decide +kernel
theorem dX2_isSame_91 : decode cX2_isSame 91 = .ok (.iconst 3, 1) := by decide +kernel
theorem dX2_isSame_92 : decode cX2_isSame 92 = .ok (.if_icmp .ne 7, 3) := by decide +kernel
theorem dX2_isSame_95 : decode cX2_isSame 95 = .ok (.iconst 1, 1) := by decide +kernel
theorem dX2_isSame_96 : decode cX2_isSame 96 = .ok (.goto 4, 3) := by decide +kernel
theorem dX2_isSame_99 : decode cX2_isSame 99 = .ok (.iconst 0, 1) := by decide +kernel
theorem dX2_isSame_100 : decode cX2_isSame 100 = .ok (.iadd, 1) := by decide +kernel
theorem dX2_isSame_101 : decode cX2_isSame 101 = .ok (.istore 6, 2) := by decide +kernel
theorem dX2_isSame_103 : decode cX2_isSame 103 = .ok (.aload_n 1, 1) := by decide +kernel
theorem dX2_isSame_104 : decode cX2_isSame 104 = .ok (.iload 4, 2) := by decide +kernel
theorem dX2_isSame_106 : decode cX2_isSame 106 = .ok (.iload 7, 2) := by decide +kernel
theorem dX2_isSame_108 : decode cX2_isSame 108 = .ok (.invokevirtual 45, 3) := by decide +kernel
theorem dX2_isSame_111 : decode cX2_isSame 111 = .ok (.aload 8, 2) := by decide +kernel
theorem dX2_isSame_113 : decode cX2_isSame 113 = .ok (.iconst 0, 1) := by decide +kernel
theorem dX2_isSame_114 : decode cX2_isSame 114 = .ok (.iaload, 1) := by decide +kernel
theorem dX2_isSame_115 : decode cX2_isSame 115 = .ok (.if_icmp .ne 43, 3) := by decide +kernel
theorem dX2_isSame_118 : decode cX2_isSame 118 = .ok (.aload_n 1, 1) := by decide +kernel
theorem dX2_isSame_119 : decode cX2_isSame 119 = .ok (.iload 4, 2) := by decide +kernel
theorem dX2_isSame_121 : decode cX2_isSame 121 = .ok (.iload 7, 2) := by decide +kernel
theorem dX2_isSame_123 : decode cX2_isSame 123 = .ok (.invokevirtual 50, 3) := by decide +kernel
theorem dX2_isSame_126 : decode cX2_isSame 126 = .ok (.iload 9, 2) := by decide +kernel
theorem dX2_isSame_128 : decode cX2_isSame 128 = .ok (.if_icmp .ne 30, 3) := by decide +kernel
theorem dX2_isSame_131 : decode cX2_isSame 131 = .ok (.aload_n 1, 1) := by decide +kernel
theorem dX2_isSame_132 : decode cX2_isSame 132 = .ok (.iload 4, 2) := by decide +kernel
theorem dX2_isSame_134 : decode cX2_isSame 134 = .ok (.iload 7, 2) := by decide +kernel
theorem dX2_isSame_136 : decode cX2_isSame 136 = .ok (.invokevirtual 54, 3) := by decide +kernel
theorem dX2_isSame_139 : decode cX2_isSame 139 = .ok (.aload 8, 2) := by decide +kernel
theorem dX2_isSame_141 : decode cX2_isSame 141 = .ok (.iconst 0, 1) := by decide +kernel
theorem dX2_isSame_142 : decode cX2_isSame 142 = .ok (.iaload, 1) := by decide +kernel
theorem dX2_isSame_143 : decode cX2_isSame 143 = .ok (.iconst 5, 1) := by decide +kernel
theorem dX2_isSame_144 : decode cX2_isSame 144 = .ok (.if_icmp .ne 10, 3) := by decide +kernel
theorem dX2_isSame_147 : decode cX2_isSame 147 = .ok (.aload 8, 2) := by decide +kernel
theorem dX2_isSame_149 : decode cX2_isSame 149 = .ok (.iconst 2, 1) := by decide +kernel
theorem dX2_isSame_150 : decode cX2_isSame 150 = .ok (.iaload, 1) := by decide +kernel
theorem dX2_isSame_151 : decode cX2_isSame 151 = .ok (.goto 4, 3) := by decide +kernel
theorem dX2_isSame_154 : decode cX2_isSame 154 = .ok (.iconst 0, 1) := by decide +kernel
theorem dX2_isSame_155 : decode cX2_isSame 155 = .ok (.if_icmp .eq 5, 3) := by decide +kernel
theorem dX2_isSame_158 : decode cX2_isSame 158 = .ok (.iconst 0, 1) := by decide +kernel
theorem dX2_isSame_159 : decode cX2_isSame 159 = .ok (.ireturn, 1) := by decide +kernel
theorem dX2_isSame_160 : decode cX2_isSame 160 = .ok (.iinc 7 1, 3) := by decide +kernel
theorem dX2_isSame_163 : decode cX2_isSame 163 = .ok (.goto (-137), 3) := by decide +kernel
theorem dX2_isSame_166 : decode cX2_isSame 166 = .ok (.iload_n 2, 1) := by decide +kernel
theorem dX2_isSame_167 : decode cX2_isSame 167 = .ok (.iload 6, 2) := by decide +kernel
theorem dX2_isSame_169 : decode cX2_isSame 169 = .ok (.iadd, 1) := by decide +kernel
theorem dX2_isSame_170 : decode cX2_isSame 170 = .ok (.istore_n 2, 1) := by decide +kernel
theorem dX2_isSame_171 : decode cX2_isSame 171 = .ok (.aload_n 1, 1) := by decide +kernel
theorem dX2_isSame_172 : decode cX2_isSame 172 = .ok (.iload 4, 2) := by decide +kernel
theorem dX2_isSame_174 : decode cX2_isSame 174 = .ok (.invokevirtual 57, 3) := by decide +kernel
theorem dX2_isSame_177 : decode cX2_isSame 177 = .ok (.iload 5, 2) := by decide +kernel
theorem dX2_isSame_179 : decode cX2_isSame 179 = .ok (.if_icmp .eq 5, 3) := by decide +kernel
theorem dX2_isSame_182 : decode cX2_isSame 182 = .ok (.iconst 0, 1) := by decide +kernel
theorem dX2_isSame_183 : decode cX2_isSame 183 = .ok (.ireturn, 1) := by decide +kernel
theorem dX2_isSame_184 : decode cX2_isSame 184 = .ok (.iinc 4 1, 3) := by decide +kernel
theorem dX2_isSame_187 : decode cX2_isSame 187 = .ok (.goto (-180), 3) := by decide +kernel
theorem dX2_isSame_190 : decode cX2_isSame 190 = .ok (.iconst 0, 1) := by decide +kernel
theorem dX2_isSame_191 : decode cX2_isSame 191 = .ok (.istore 4, 2) := by decide +kernel
theorem dX2_isSame_193 : decode cX2_isSame 193 = .ok (.iload 4, 2) := by decide +kernel
theorem dX2_isSame_195 : decode cX2_isSame 195 = .ok (.aload_n 0, 1) := by decide +kernel
theorem dX2_isSame_196 : decode cX2_isSame 196 = .ok (.getfield 14, 3) := by decide +kernel
theorem dX2_isSame_199 : decode cX2_isSame 199 = .ok (.arraylength, 1) := by decide +kernel
theorem dX2_isSame_200 : decode cX2_isSame 200 = .ok (.if_icmp .ge 37, 3) := by decide +kernel
theorem dX2_isSame_203 : decode cX2_isSame 203 = .ok (.iload_n 3, 1) := by decide +kernel
theorem dX2_isSame_204 : decode cX2_isSame 204 = .ok (.aload_n 0, 1) := by decide +kernel
theorem dX2_isSame_205 : decode cX2_isSame 205 = .ok (.getfield 14, 3) := by decide +kernel
theorem dX2_isSame_208 : decode cX2_isSame 208 = .ok (.iload 4, 2) := by decide +kernel
theorem dX2_isSame_210 : decode cX2_isSame 210 = .ok (.iaload, 1) := by decide +kernel
theorem dX2_isSame_211 : decode cX2_isSame 211 = .ok (.iadd, 1) := by decide +kernel
theorem dX2_isSame_212 : decode cX2_isSame 212 = .ok (.istore_n 3, 1) := by decide +kernel
theorem dX2_isSame_213 : decode cX2_isSame 213 = .ok (.aload_n 1, 1) := by decide +kernel
theorem dX2_isSame_214 : decode cX2_isSame 214 = .ok (.iload 4, 2) := by decide +kernel
theorem dX2_isSame_216 : decode cX2_isSame 216 = .ok (.invokevirtual 60, 3) := by decide +kernel
theorem dX2_isSame_219 : decode cX2_isSame 219 = .ok (.aload_n 0, 1) := by decide +kernel
theorem dX2_isSame_220 : decode cX2_isSame 220 = .ok (.getfield 14, 3) := by decide +kernel
theorem dX2_isSame_223 : decode cX2_isSame 223 = .ok (.iload 4, 2) := by decide +kernel
theorem dX2_isSame_225 : decode cX2_isSame 225 = .ok (.iaload, 1) := by decide +kernel
theorem dX2_isSame_226 : decode cX2_isSame 226 = .ok (.if_icmp .eq 5, 3) := by decide +kernel
theorem dX2_isSame_229 : decode cX2_isSame 229 = .ok (.iconst 0, 1) := by decide +kernel
theorem dX2_isSame_230 : decode cX2_isSame 230 = .ok (.ireturn, 1) := by decide +kernel
theorem dX2_isSame_231 : decode cX2_isSame 231 = .ok (.iinc 4 1, 3) := by decide +kernel
theorem dX2_isSame_234 : decode cX2_isSame 234 = .ok (.goto (-41), 3) := by decide +kernel
theorem dX2_isSame_237 : decode cX2_isSame 237 = .ok (.iconst 0, 1) := by decide +kernel
theorem dX2_isSame_238 : decode cX2_isSame 238 = .ok (.istore 4, 2) := by decide +kernel
theorem dX2_isSame_240 : decode cX2_isSame 240 = .ok (.iload 4, 2) := by decide +kernel
theorem dX2_isSame_242 : decode cX2_isSame 242 = .ok (.iconst 2, 1) := by decide +kernel
theorem dX2_isSame_243 : decode cX2_isSame 243 = .ok (.if_icmp .ge 43, 3) := by decide +kernel
theorem dX2_isSame_246 : decode cX2_isSame 246 = .ok (.aload_n 1, 1) := by decide +kernel
theorem dX2_isSame_247 : decode cX2_isSame 247 = .ok (.iload 4, 2) := by decide +kernel
theorem dX2_isSame_249 : decode cX2_isSame 249 = .ok (.invokevirtual 63, 3) := by decide +kernel
theorem dX2_isSame_252 : decode cX2_isSame 252 = .ok (.aload_n 0, 1) := by decide +kernel
theorem dX2_isSame_253 : decode cX2_isSame 253 = .ok (.getfield 21, 3) := by decide +kernel
theorem dX2_isSame_256 : decode cX2_isSame 256 = .ok (.iload 4, 2) := by decide +kernel
theorem dX2_isSame_258 : decode cX2_isSame 258 = .ok (.iaload, 1) := by decide +kernel
theorem dX2_isSame_259 : decode cX2_isSame 259 = .ok (.if_icmp .ne 19, 3) := by decide +kernel
theorem dX2_isSame_262 : decode cX2_isSame 262 = .ok (.aload_n 1, 1) := by decide +kernel
theorem dX2_isSame_263 : decode cX2_isSame 263 = .ok (.iload 4, 2) := by decide +kernel
theorem dX2_isSame_265 : decode cX2_isSame 265 = .ok (.invokevirtual 66, 3) := by decide +kernel
theorem dX2_isSame_268 : decode cX2_isSame 268 = .ok (.aload_n 0, 1) := by decide +kernel
theorem dX2_isSame_269 : decode cX2_isSame 269 = .ok (.getfield 18, 3) := by decide +kernel
theorem dX2_isSame_272 : decode cX2_isSame 272 = .ok (.iload 4, 2) := by decide +kernel
theorem dX2_isSame_274 : decode cX2_isSame 274 = .ok (.iaload, 1) := by decide +kernel
theorem dX2_isSame_275 : decode cX2_isSame 275 = .ok (.if_icmp .eq 5, 3) := by decide +kernel
theorem dX2_isSame_278 : decode cX2_isSame 278 = .ok (.iconst 0, 1) := by decide +kernel
theorem dX2_isSame_279 : decode cX2_isSame 279 = .ok (.ireturn, 1) := by decide +kernel
theorem dX2_isSame_280 : decode cX2_isSame 280 = .ok (.iinc 4 1, 3) := by decide +kernel
theorem dX2_isSame_283 : decode cX2_isSame 283 = .ok (.goto (-43), 3) := by decide +kernel
theorem dX2_isSame_286 : decode cX2_isSame 286 = .ok (.aload_n 1, 1) := by decide +kernel
theorem dX2_isSame_287 : decode cX2_isSame 287 = .ok (.invokevirtual 69, 3) := by decide +kernel
theorem dX2_isSame_290 : decode cX2_isSame 290 = .ok (.aload_n 0, 1) := by decide +kernel
theorem dX2_isSame_291 : decode cX2_isSame 291 = .ok (.getfield 14, 3) := by decide +kernel
theorem dX2_isSame_294 : decode cX2_isSame 294 = .ok (.arraylength, 1) := by decide +kernel
theorem dX2_isSame_295 : decode cX2_isSame 295 = .ok (.if_icmp .ne 55, 3) := by decide +kernel
theorem dX2_isSame_298 : decode cX2_isSame 298 = .ok (.aload_n 1, 1) := by decide +kernel
theorem dX2_isSame_299 : decode cX2_isSame 299 = .ok (.invokevirtual 73, 3) := by decide +kernel
theorem dX2_isSame_302 : decode cX2_isSame 302 = .ok (.aload_n 0, 1) := by decide +kernel
theorem dX2_isSame_303 : decode cX2_isSame 303 = .ok (.getfield 9, 3) := by decide +kernel
theorem dX2_isSame_306 : decode cX2_isSame 306 = .ok (.arraylength, 1) := by decide +kernel
theorem dX2_isSame_307 : decode cX2_isSame 307 = .ok (.if_icmp .ne 43, 3) := by decide +kernel
theorem dX2_isSame_310 : decode cX2_isSame 310 = .ok (.aload_n 1, 1) := by decide +kernel
theorem dX2_isSame_311 : decode cX2_isSame 311 = .ok (.invokevirtual 76, 3) := by decide +kernel
theorem dX2_isSame_314 : decode cX2_isSame 314 = .ok (.aload_n 0, 1) := by decide +kernel
theorem dX2_isSame_315 : decode cX2_isSame 315 = .ok (.getfield 30, 3) := by decide +kernel
theorem dX2_isSame_318 : decode cX2_isSame 318 = .ok (.if_icmp .ne 32, 3) := by decide +kernel
theorem dX2_isSame_321 : decode cX2_isSame 321 = .ok (.aload_n 1, 1) := by decide +kernel
theorem dX2_isSame_322 : decode cX2_isSame 322 = .ok (.invokevirtual 78, 3) := by decide +kernel
theorem dX2_isSame_325 : decode cX2_isSame 325 = .ok (.iload_n 2, 1) := by decide +kernel
theorem dX2_isSame_326 : decode cX2_isSame 326 = .ok (.if_icmp .ne 24, 3) := by decide +kernel
theorem dX2_isSame_329 : decode cX2_isSame 329 = .ok (.aload_n 1, 1) := by decide +kernel
theorem dX2_isSame_330 : decode cX2_isSame 330 = .ok (.invokevirtual 81, 3) := by decide +kernel
theorem dX2_isSame_333 : decode cX2_isSame 333 = .ok (.iload_n 3, 1) := by decide +kernel
theorem dX2_isSame_334 : decode cX2_isSame 334 = .ok (.i2d, 1) := by decide +kernel
theorem dX2_isSame_335 : decode cX2_isSame 335 = .ok (.aload_n 0, 1) := by decide +kernel
theorem dX2_isSame_336 : decode cX2_isSame 336 = .ok (.getfield 14, 3) := by decide +kernel
theorem dX2_isSame_339 : decode cX2_isSame 339 = .ok (.arraylength, 1) := by decide +kernel
theorem dX2_isSame_340 : decode cX2_isSame 340 = .ok (.i2d, 1) := by decide +kernel
theorem dX2_isSame_341 : decode cX2_isSame 341 = .ok (.ddiv, 1) := by decide +kernel
theorem dX2_isSame_342 : decode cX2_isSame 342 = .ok (.dcmp .l, 1) := by decide +kernel
theorem dX2_isSame_343 : decode cX2_isSame 343 = .ok (.ifCond .ne 7, 3) := by decide +kernel
theorem dX2_isSame_346 : decode cX2_isSame 346 = .ok (.iconst 1, 1) := by decide +kernel
theorem dX2_isSame_347 : decode cX2_isSame 347 = .ok (.goto 4, 3) := by decide +kernel
theorem dX2_isSame_350 : decode cX2_isSame 350 = .ok (.iconst 0, 1) := by decide +kernel
theorem dX2_isSame_351 : decode cX2_isSame 351 = .ok (.ireturn, 1) := by decide +kernel
end
section
theorem dL_below_0 : decode cL_below 0 = .ok (.iload_n 0, 1) := by decide +kernel
theorem dL_below_1 : decode cL_below 1 = .ok (.ldc 7, 2) := by decide +kernel
theorem dL_below_3 : decode cL_below 3 = .ok (.iand, 1) := by decide +kernel
theorem dL_below_4 : decode cL_below 4 = .ok (.iload_n 1, 1) := by decide +kernel
theorem dL_below_5 : decode cL_below 5 = .ok (.irem, 1) := by decide +kernel
theorem dL_below_6 : decode cL_below 6 = .ok (.ireturn, 1) := by decide +kernel
theorem dL_cell_0 : decode cL_cell 0 = .ok (.iload_n 1, 1) := by decide +kernel
theorem dL_cell_1 : decode cL_cell 1 = .ok (.aload_n 0, 1) := by decide +kernel
theorem dL_cell_2 : decode cL_cell 2 = .ok (.arraylength, 1) := by decide +kernel
theorem dL_cell_3 : decode cL_cell 3 = .ok (.if_icmp .ge 9, 3) := by decide +kernel
theorem dL_cell_6 : decode cL_cell 6 = .ok (.aload_n 0, 1) := by decide +kernel
theorem dL_cell_7 : decode cL_cell 7 = .ok (.iload_n 1, 1) := by decide +kernel
theorem dL_cell_8 : decode cL_cell 8 = .ok (.iaload, 1) := by decide +kernel
theorem dL_cell_9 : decode cL_cell 9 = .ok (.goto 9, 3) := by decide +kernel
theorem dL_cell_12 : decode cL_cell 12 = .ok (.ldc 8, 2) := by decide +kernel
theorem dL_cell_14 : decode cL_cell 14 = .ok (.iload_n 1, 1) := by decide +kernel
theorem dL_cell_15 : decode cL_cell 15 = .ok (.iconst 3, 1) := by decide +kernel
theorem dL_cell_16 : decode cL_cell 16 = .ok (.iadd, 1) := by decide +kernel
theorem dL_cell_17 : decode cL_cell 17 = .ok (.imul, 1) := by decide +kernel
theorem dL_cell_18 : decode cL_cell 18 = .ok (.ireturn, 1) := by decide +kernel
set_option maxRecDepth 20000 in
theorem ggL_act_L_below : GoodIn wsL_act wsL_below := goodIn_r _ [10, 11] (by decide +kernel) (by decide +kernel)
set_option maxRecDepth 20000 in
theorem gL_act_L_below : GoodIn wsL_act (va_wsS RL 15 yL_below wsL_below) := goodIn_app (goodIn_of _ (by decide +kernel)) ggL_act_L_below
set_option maxRecDepth 20000 in
theorem ggL_act_X2_lay : GoodIn wsL_act wsX2_lay := goodIn_r _ [16, 17, 4, 18, 19, 20, 182, 183, 184, 185, 186, 187] (by decide +kernel) (by decide +kernel)
set_option maxRecDepth 20000 in
theorem gL_act_X2_lay : GoodIn wsL_act (wsV RL 25 RX2 yX2_lay wsX2_lay) := goodIn_app (goodIn_of _ (by decide +kernel)) ggL_act_X2_lay
set_option maxRecDepth 20000 in
theorem ggL_act_X1_lay : GoodIn wsL_act wsX1_lay := goodIn_ca (goodIn_r _ [25, 26, 27, 28, 24, 29, 30, 31, 32, 33, 34, 35, 36, 37, 38, 39, 40, 41, 42, 43, 44, 45, 46, 47, 48, 49, 50, 51, 52, 53, 54, 188, 189, 190, 191, 192, 193, 194, 195, 196, 197, 198] (by decide +kernel) (by decide +kernel)) (goodIn_sub (fun _ h => List.mem_cons_of_mem _ (List.mem_append_left _ (List.mem_append_left _ (List.mem_append_right _ h)))) (by decide +kernel))
set_option maxRecDepth 20000 in
theorem gL_act_X1_lay : GoodIn wsL_act (wsV RL 29 RX1 yX1_lay wsX1_lay) := goodIn_app (goodIn_of _ (by decide +kernel)) ggL_act_X1_lay
set_option maxRecDepth 20000 in
theorem ggL_act_X1_put : GoodIn wsL_act wsX1_put := goodIn_ca (goodIn_ca (goodIn_r _ [58, 26, 59, 60, 61, 24, 62, 63, 64, 65, 66, 67, 68, 69, 70, 71, 35, 72, 38, 73, 74, 75, 76, 77, 78, 79, 80, 37, 27, 28, 29, 30, 31, 81, 82, 83, 84, 40, 41, 42, 85, 86, 87, 88, 89, 90, 91, 92, 93, 94, 53, 54, 188, 189, 190, 191, 192, 193, 194, 195, 196, 197, 198] (by decide +kernel) (by decide +kernel)) (goodIn_sub (fun _ h => List.mem_cons_of_mem _ (List.mem_append_left _ (List.mem_append_right _ h))) (by decide +kernel))) (goodIn_sub (fun _ h => List.mem_cons_of_mem _ (List.mem_append_left _ (List.mem_append_left _ (List.mem_append_right _ h)))) (by decide +kernel))
set_option maxRecDepth 20000 in
theorem gL_act_X1_put : GoodIn wsL_act (wsV RL 33 RX1 yX1_put wsX1_put) := goodIn_app (goodIn_of _ (by decide +kernel)) ggL_act_X1_put
set_option maxRecDepth 20000 in
theorem ggL_act_X1_putCounter : GoodIn wsL_act wsX1_putCounter := goodIn_ca (goodIn_ca (goodIn_r _ [98, 26, 59, 60, 61, 24, 62, 63, 64, 65, 66, 67, 68, 69, 70, 71, 35, 72, 38, 73, 74, 75, 76, 77, 78, 79, 80, 37, 27, 28, 29, 30, 31, 81, 82, 83, 84, 40, 41, 42, 85, 86, 87, 88, 89, 90, 91, 92, 93, 94, 53, 54, 188, 189, 190, 191, 192, 193, 194, 195, 196, 197, 198] (by decide +kernel) (by decide +kernel)) (goodIn_sub (fun _ h => List.mem_cons_of_mem _ (List.mem_append_left _ (List.mem_append_right _ h))) (by decide +kernel))) (goodIn_sub (fun _ h => List.mem_cons_of_mem _ (List.mem_append_left _ (List.mem_append_left _ (List.mem_append_right _ h)))) (by decide +kernel))
set_option maxRecDepth 20000 in
theorem gL_act_X1_putCounter : GoodIn wsL_act (wsV RL 37 RX1 yX1_putCounter wsX1_putCounter) := goodIn_app (goodIn_of _ (by decide +kernel)) ggL_act_X1_putCounter
set_option maxRecDepth 20000 in
theorem ggL_act_X1_turn : GoodIn wsL_act wsX1_turn := goodIn_ca (goodIn_ca (goodIn_r _ [102, 103, 104, 26, 59, 60, 61, 24, 62, 63, 64, 65, 66, 67, 68, 69, 70, 71, 35, 72, 38, 73, 74, 75, 76, 77, 78, 79, 80, 37, 105, 86, 87, 88, 106, 90, 91, 92, 40, 93, 94, 107, 108, 109, 110, 42, 111, 112, 113, 114, 89, 53, 54, 115, 188, 189, 190, 191, 192, 193, 194, 195, 196, 197, 198] (by decide +kernel) (by decide +kernel)) (goodIn_sub (fun _ h => List.mem_cons_of_mem _ (List.mem_append_right _ h)) (by decide +kernel))) (goodIn_sub (fun _ h => List.mem_cons_of_mem _ (List.mem_append_left _ (List.mem_append_right _ h))) (by decide +kernel))
set_option maxRecDepth 20000 in
theorem gL_act_X1_turn : GoodIn wsL_act (wsV RL 40 RX1 yX1_turn wsX1_turn) := goodIn_app (goodIn_of _ (by decide +kernel)) ggL_act_X1_turn
set_option maxRecDepth 20000 in
theorem ggL_act_X1_setHopper : GoodIn wsL_act wsX1_setHopper := goodIn_ca (goodIn_ca (goodIn_r _ [119, 26, 120, 121, 24, 122, 67, 68, 73, 74, 75, 76, 77, 78, 79, 35, 80, 37, 27, 28, 29, 30, 31, 123, 124, 125, 126, 127, 43, 93, 94, 53, 54, 188, 189, 190, 191, 192, 193, 194, 195, 196, 197, 198] (by decide +kernel) (by decide +kernel)) (goodIn_sub (fun _ h => List.mem_cons_of_mem _ (List.mem_append_left _ (List.mem_append_right _ h))) (by decide +kernel))) (goodIn_sub (fun _ h => List.mem_cons_of_mem _ (List.mem_append_left _ (List.mem_append_left _ (List.mem_append_right _ h)))) (by decide +kernel))
set_option maxRecDepth 20000 in
theorem gL_act_X1_setHopper : GoodIn wsL_act (wsV RL 50 RX1 yX1_setHopper wsX1_setHopper) := goodIn_app (goodIn_of _ (by decide +kernel)) ggL_act_X1_setHopper
set_option maxRecDepth 20000 in
theorem ggL_act_X1_run : GoodIn wsL_act wsX1_run := goodIn_ca (goodIn_ca (goodIn_r _ [131, 26, 120, 121, 24, 122, 67, 68, 27, 28, 29, 30, 31, 132, 133, 134, 35, 135, 127, 43, 93, 94, 53, 54, 136, 137, 138, 139, 38, 39, 52, 140, 141, 142, 143, 85, 86, 87, 88, 37, 144, 145, 146, 147, 40, 42, 41, 148, 78, 79, 80, 149, 150, 151, 152, 188, 189, 190, 191, 192, 193, 194, 195, 196, 197, 198] (by decide +kernel) (by decide +kernel)) (goodIn_sub (fun _ h => List.mem_cons_of_mem _ (List.mem_append_left _ (List.mem_append_right _ h))) (by decide +kernel))) (goodIn_sub (fun _ h => List.mem_cons_of_mem _ (List.mem_append_left _ (List.mem_append_left _ (List.mem_append_right _ h)))) (by decide +kernel))
set_option maxRecDepth 20000 in
theorem gL_act_X1_run : GoodIn wsL_act (wsV RL 53 RX1 yX1_run wsX1_run) := goodIn_app (goodIn_of _ (by decide +kernel)) ggL_act_X1_run
set_option maxRecDepth 20000 in
theorem ggL_act_X2_run : GoodIn wsL_act wsX2_run := goodIn_r _ [156, 157, 20, 18, 158, 159, 160, 15, 161, 17, 19, 162, 163, 164, 165, 166, 182, 183, 184, 185, 186, 187] (by decide +kernel) (by decide +kernel)
set_option maxRecDepth 20000 in
theorem gL_act_X2_run : GoodIn wsL_act (wsV RL 56 RX2 yX2_run wsX2_run) := goodIn_app (goodIn_of _ (by decide +kernel)) ggL_act_X2_run
set_option maxRecDepth 20000 in
theorem ggL_act_X1_emptyBins : GoodIn wsL_act wsX1_emptyBins := goodIn_r _ [170, 26, 171, 172, 173, 35, 174, 52, 175, 49, 50, 51, 44, 45, 46, 47, 188, 189, 190, 191, 192, 193, 194, 195, 196, 197, 198] (by decide +kernel) (by decide +kernel)
set_option maxRecDepth 20000 in
theorem gL_act_X1_emptyBins : GoodIn wsL_act (wsV RL 57 RX1 yX1_emptyBins wsX1_emptyBins) := goodIn_app (goodIn_of _ (by decide +kernel)) ggL_act_X1_emptyBins
set_option maxRecDepth 20000 in
theorem ggL_act_X1_drop : GoodIn wsL_act wsX1_drop := goodIn_ca (goodIn_r _ [179, 26, 73, 74, 75, 24, 76, 67, 68, 77, 78, 79, 35, 80, 37, 180, 137, 138, 139, 38, 39, 52, 140, 141, 142, 143, 85, 86, 87, 88, 144, 145, 146, 147, 40, 42, 41, 93, 94, 53, 54, 148, 188, 189, 190, 191, 192, 193, 194, 195, 196, 197, 198] (by decide +kernel) (by decide +kernel)) (goodIn_sub (fun _ h => List.mem_cons_of_mem _ (List.mem_append_left _ (List.mem_append_right _ h))) (by decide +kernel))
set_option maxRecDepth 20000 in
theorem gL_act_X1_drop : GoodIn wsL_act (wsV RL 61 RX1 yX1_drop wsX1_drop) := goodIn_app (goodIn_of _ (by decide +kernel)) ggL_act_X1_drop
set_option maxRecDepth 20000 in
theorem ggL_act_X2_drop : GoodIn wsL_act wsX2_drop := goodIn_r _ [161, 17, 19, 18, 162, 163, 164, 15, 165, 166, 182, 183, 184, 185, 186, 187] (by decide +kernel) (by decide +kernel)
set_option maxRecDepth 20000 in
theorem gL_act_X2_drop : GoodIn wsL_act (wsV RL 65 RX2 yX2_drop wsX2_drop) := goodIn_app (goodIn_of _ (by decide +kernel)) ggL_act_X2_drop
theorem dL_act_0 : decode cL_act 0 = .ok (.iload_n 2, 1) := by decide +kernel
theorem dL_act_1 : decode cL_act 1 = .ok (.iconst 4, 1) := by decide +kernel
theorem dL_act_2 : decode cL_act 2 = .ok (.ishr, 1) := by decide +kernel
theorem dL_act_3 : decode cL_act 3 = .ok (.aload_n 1, 1) := by decide +kernel
theorem dL_act_4 : decode cL_act 4 = .ok (.getfield 9, 3) := by decide +kernel
theorem dL_act_7 : decode cL_act 7 = .ok (.arraylength, 1) := by decide +kernel
theorem dL_act_8 : decode cL_act 8 = .ok (.invokestatic 15, 3) := by decide +kernel
theorem dL_act_11 : decode cL_act 11 = .ok (.istore_n 3, 1) := by decide +kernel
theorem dL_act_12 : decode cL_act 12 = .ok (.iload_n 2, 1) := by decide +kernel
theorem dL_act_13 : decode cL_act 13 = .ok (.bipush 7, 2) := by decide +kernel
theorem dL_act_15 : decode cL_act 15 = .ok (.ishr, 1) := by decide +kernel
theorem dL_act_16 : decode cL_act 16 = .ok (.aload_n 1, 1) := by decide +kernel
theorem dL_act_17 : decode cL_act 17 = .ok (.getfield 21, 3) := by decide +kernel
theorem dL_act_20 : decode cL_act 20 = .ok (.arraylength, 1) := by decide +kernel
theorem dL_act_21 : decode cL_act 21 = .ok (.invokestatic 15, 3) := by decide +kernel
theorem dL_act_24 : decode cL_act 24 = .ok (.istore 4, 2) := by decide +kernel
theorem dL_act_26 : decode cL_act 26 = .ok (.aload_n 1, 1) := by decide +kernel
theorem dL_act_27 : decode cL_act 27 = .ok (.getfield 21, 3) := by decide +kernel
theorem dL_act_30 : decode cL_act 30 = .ok (.iload 4, 2) := by decide +kernel
theorem dL_act_32 : decode cL_act 32 = .ok (.aaload, 1) := by decide +kernel
theorem dL_act_33 : decode cL_act 33 = .ok (.iload_n 3, 1) := by decide +kernel
theorem dL_act_34 : decode cL_act 34 = .ok (.aaload, 1) := by decide +kernel
theorem dL_act_35 : decode cL_act 35 = .ok (.astore 5, 2) := by decide +kernel
theorem dL_act_37 : decode cL_act 37 = .ok (.iconst 1, 1) := by decide +kernel
theorem dL_act_38 : decode cL_act 38 = .ok (.istore 6, 2) := by decide +kernel
theorem dL_act_40 : decode cL_act 40 = .ok (.iload_n 2, 1) := by decide +kernel
theorem dL_act_41 : decode cL_act 41 = .ok (.bipush 16, 2) := by decide +kernel
theorem dL_act_43 : decode cL_act 43 = .ok (.invokestatic 15, 3) := by decide +kernel
theorem dL_act_46 : decode cL_act 46 = .ok (.tableswitch 523 0 12 #[66, 133, 133, 133, 133, 133, 209, 273, 337, 337, 405, 405, 453], 66) := by decide +kernel
theorem dL_act_112 : decode cL_act 112 = .ok (.iload_n 2, 1) := by decide +kernel
theorem dL_act_113 : decode cL_act 113 = .ok (.iconst 5, 1) := by decide +kernel
theorem dL_act_114 : decode cL_act 114 = .ok (.ishr, 1) := by decide +kernel
theorem dL_act_115 : decode cL_act 115 = .ok (.iconst 4, 1) := by decide +kernel
theorem dL_act_116 : decode cL_act 116 = .ok (.invokestatic 15, 3) := by decide +kernel
theorem dL_act_119 : decode cL_act 119 = .ok (.ifCond .le 5, 3) := by decide +kernel
theorem dL_act_122 : decode cL_act 122 = .ok (.iconst 1, 1) := by decide +kernel
theorem dL_act_123 : decode cL_act 123 = .ok (.ireturn, 1) := by decide +kernel
theorem dL_act_124 : decode cL_act 124 = .ok (.iconst 2, 1) := by decide +kernel
theorem dL_act_125 : decode cL_act 125 = .ok (.iload_n 2, 1) := by decide +kernel
theorem dL_act_126 : decode cL_act 126 = .ok (.iconst 3, 1) := by decide +kernel
theorem dL_act_127 : decode cL_act 127 = .ok (.ishr, 1) := by decide +kernel
theorem dL_act_128 : decode cL_act 128 = .ok (.bipush 8, 2) := by decide +kernel
theorem dL_act_130 : decode cL_act 130 = .ok (.invokestatic 15, 3) := by decide +kernel
theorem dL_act_133 : decode cL_act 133 = .ok (.iadd, 1) := by decide +kernel
theorem dL_act_134 : decode cL_act 134 = .ok (.istore 7, 2) := by decide +kernel
theorem dL_act_136 : decode cL_act 136 = .ok (.iconst 1, 1) := by decide +kernel
theorem dL_act_137 : decode cL_act 137 = .ok (.iload_n 2, 1) := by decide +kernel
theorem dL_act_138 : decode cL_act 138 = .ok (.bipush 6, 2) := by decide +kernel
theorem dL_act_140 : decode cL_act 140 = .ok (.ishr, 1) := by decide +kernel
theorem dL_act_141 : decode cL_act 141 = .ok (.bipush 8, 2) := by decide +kernel
theorem dL_act_143 : decode cL_act 143 = .ok (.invokestatic 15, 3) := by decide +kernel
theorem dL_act_146 : decode cL_act 146 = .ok (.iadd, 1) := by decide +kernel
theorem dL_act_147 : decode cL_act 147 = .ok (.istore 8, 2) := by decide +kernel
theorem dL_act_149 : decode cL_act 149 = .ok (.aload_n 1, 1) := by decide +kernel
theorem dL_act_150 : decode cL_act 150 = .ok (.iload 7, 2) := by decide +kernel
theorem dL_act_152 : decode cL_act 152 = .ok (.iload 8, 2) := by decide +kernel
theorem dL_act_154 : decode cL_act 154 = .ok (.invokevirtual 25, 3) := by decide +kernel
theorem dL_act_157 : decode cL_act 157 = .ok (.aload_n 0, 1) := by decide +kernel
theorem dL_act_158 : decode cL_act 158 = .ok (.iload 7, 2) := by decide +kernel
theorem dL_act_160 : decode cL_act 160 = .ok (.iload 8, 2) := by decide +kernel
theorem dL_act_162 : decode cL_act 162 = .ok (.invokevirtual 29, 3) := by decide +kernel
theorem dL_act_165 : decode cL_act 165 = .ok (.iload 7, 2) := by decide +kernel
theorem dL_act_167 : decode cL_act 167 = .ok (.iload 8, 2) := by decide +kernel
theorem dL_act_169 : decode cL_act 169 = .ok (.imul, 1) := by decide +kernel
theorem dL_act_170 : decode cL_act 170 = .ok (.if_icmp .ne 7, 3) := by decide +kernel
theorem dL_act_173 : decode cL_act 173 = .ok (.iconst 1, 1) := by decide +kernel
theorem dL_act_174 : decode cL_act 174 = .ok (.goto 4, 3) := by decide +kernel
theorem dL_act_177 : decode cL_act 177 = .ok (.iconst 0, 1) := by decide +kernel
theorem dL_act_178 : decode cL_act 178 = .ok (.ireturn, 1) := by decide +kernel
theorem dL_act_179 : decode cL_act 179 = .ok (.aload 5, 2) := by decide +kernel
theorem dL_act_181 : decode cL_act 181 = .ok (.iconst 0, 1) := by decide +kernel
theorem dL_act_182 : decode cL_act 182 = .ok (.iaload, 1) := by decide +kernel
theorem dL_act_183 : decode cL_act 183 = .ok (.istore 7, 2) := by decide +kernel
theorem dL_act_185 : decode cL_act 185 = .ok (.iload_n 2, 1) := by decide +kernel
theorem dL_act_186 : decode cL_act 186 = .ok (.bipush 8, 2) := by decide +kernel
theorem dL_act_188 : decode cL_act 188 = .ok (.ishr, 1) := by decide +kernel
theorem dL_act_189 : decode cL_act 189 = .ok (.iconst 3, 1) := by decide +kernel
theorem dL_act_190 : decode cL_act 190 = .ok (.invokestatic 15, 3) := by decide +kernel
theorem dL_act_193 : decode cL_act 193 = .ok (.ifCond .ne 7, 3) := by decide +kernel
theorem dL_act_196 : decode cL_act 196 = .ok (.iconst 3, 1) := by decide +kernel
theorem dL_act_197 : decode cL_act 197 = .ok (.goto 11, 3) := by decide +kernel
theorem dL_act_200 : decode cL_act 200 = .ok (.iload_n 2, 1) := by decide +kernel
theorem dL_act_201 : decode cL_act 201 = .ok (.bipush 9, 2) := by decide +kernel
theorem dL_act_203 : decode cL_act 203 = .ok (.ishr, 1) := by decide +kernel
theorem dL_act_204 : decode cL_act 204 = .ok (.iconst 5, 1) := by decide +kernel
theorem dL_act_205 : decode cL_act 205 = .ok (.invokestatic 15, 3) := by decide +kernel
theorem dL_act_208 : decode cL_act 208 = .ok (.istore 8, 2) := by decide +kernel
theorem dL_act_210 : decode cL_act 210 = .ok (.aload_n 1, 1) := by decide +kernel
theorem dL_act_211 : decode cL_act 211 = .ok (.getfield 21, 3) := by decide +kernel
theorem dL_act_214 : decode cL_act 214 = .ok (.iload 4, 2) := by decide +kernel
theorem dL_act_216 : decode cL_act 216 = .ok (.aaload, 1) := by decide +kernel
theorem dL_act_217 : decode cL_act 217 = .ok (.iload_n 3, 1) := by decide +kernel
theorem dL_act_218 : decode cL_act 218 = .ok (.iconst 3, 1) := by decide +kernel
theorem dL_act_219 : decode cL_act 219 = .ok (.newarray .int, 2) := by decide +kernel
theorem dL_act_221 : decode cL_act 221 = .ok (.dup, 1) := by decide +kernel
theorem dL_act_222 : decode cL_act 222 = .ok (.iconst 0, 1) := by decide +kernel
theorem dL_act_223 : decode cL_act 223 = .ok (.iload 8, 2) := by decide +kernel
theorem dL_act_225 : decode cL_act 225 = .ok (.iastore, 1) := by decide +kernel
theorem dL_act_226 : decode cL_act 226 = .ok (.dup, 1) := by decide +kernel
theorem dL_act_227 : decode cL_act 227 = .ok (.iconst 1, 1) := by decide +kernel
theorem dL_act_228 : decode cL_act 228 = .ok (.iconst 0, 1) := by decide +kernel
theorem dL_act_229 : decode cL_act 229 = .ok (.iastore, 1) := by decide +kernel
theorem dL_act_230 : decode cL_act 230 = .ok (.dup, 1) := by decide +kernel
theorem dL_act_231 : decode cL_act 231 = .ok (.iconst 2, 1) := by decide +kernel
theorem dL_act_232 : decode cL_act 232 = .ok (.iconst 0, 1) := by decide +kernel
theorem dL_act_233 : decode cL_act 233 = .ok (.iastore, 1) := by decide +kernel
theorem dL_act_234 : decode cL_act 234 = .ok (.aastore, 1) := by decide +kernel
theorem dL_act_235 : decode cL_act 235 = .ok (.aload_n 0, 1) := by decide +kernel
theorem dL_act_236 : decode cL_act 236 = .ok (.iload 4, 2) := by decide +kernel
theorem dL_act_238 : decode cL_act 238 = .ok (.iload_n 3, 1) := by decide +kernel
theorem dL_act_239 : decode cL_act 239 = .ok (.iload 8, 2) := by decide +kernel
theorem dL_act_241 : decode cL_act 241 = .ok (.invokevirtual 33, 3) := by decide +kernel
theorem dL_act_244 : decode cL_act 244 = .ok (.iload 7, 2) := by decide +kernel
theorem dL_act_246 : decode cL_act 246 = .ok (.if_icmp .ne 7, 3) := by decide +kernel
theorem dL_act_249 : decode cL_act 249 = .ok (.iconst 1, 1) := by decide +kernel
theorem dL_act_250 : decode cL_act 250 = .ok (.goto 4, 3) := by decide +kernel
theorem dL_act_253 : decode cL_act 253 = .ok (.iconst 0, 1) := by decide +kernel
theorem dL_act_254 : decode cL_act 254 = .ok (.ireturn, 1) := by decide +kernel
theorem dL_act_255 : decode cL_act 255 = .ok (.aload 5, 2) := by decide +kernel
theorem dL_act_257 : decode cL_act 257 = .ok (.iconst 0, 1) := by decide +kernel
theorem dL_act_258 : decode cL_act 258 = .ok (.iaload, 1) := by decide +kernel
theorem dL_act_259 : decode cL_act 259 = .ok (.istore 7, 2) := by decide +kernel
theorem dL_act_261 : decode cL_act 261 = .ok (.iconst 2, 1) := by decide +kernel
theorem dL_act_262 : decode cL_act 262 = .ok (.iload_n 2, 1) := by decide +kernel
theorem dL_act_263 : decode cL_act 263 = .ok (.bipush 9, 2) := by decide +kernel
theorem dL_act_265 : decode cL_act 265 = .ok (.ishr, 1) := by decide +kernel
theorem dL_act_266 : decode cL_act 266 = .ok (.bipush 8, 2) := by decide +kernel
theorem dL_act_268 : decode cL_act 268 = .ok (.invokestatic 15, 3) := by decide +kernel
theorem dL_act_271 : decode cL_act 271 = .ok (.iadd, 1) := by decide +kernel
theorem dL_act_272 : decode cL_act 272 = .ok (.istore 8, 2) := by decide +kernel
theorem dL_act_274 : decode cL_act 274 = .ok (.aload_n 1, 1) := by decide +kernel
theorem dL_act_275 : decode cL_act 275 = .ok (.getfield 21, 3) := by decide +kernel
theorem dL_act_278 : decode cL_act 278 = .ok (.iload 4, 2) := by decide +kernel
theorem dL_act_280 : decode cL_act 280 = .ok (.aaload, 1) := by decide +kernel
theorem dL_act_281 : decode cL_act 281 = .ok (.iload_n 3, 1) := by decide +kernel
theorem dL_act_282 : decode cL_act 282 = .ok (.iconst 3, 1) := by decide +kernel
theorem dL_act_283 : decode cL_act 283 = .ok (.newarray .int, 2) := by decide +kernel
theorem dL_act_285 : decode cL_act 285 = .ok (.dup, 1) := by decide +kernel
theorem dL_act_286 : decode cL_act 286 = .ok (.iconst 0, 1) := by decide +kernel
theorem dL_act_287 : decode cL_act 287 = .ok (.iconst 5, 1) := by decide +kernel
theorem dL_act_288 : decode cL_act 288 = .ok (.iastore, 1) := by decide +kernel
theorem dL_act_289 : decode cL_act 289 = .ok (.dup, 1) := by decide +kernel
theorem dL_act_290 : decode cL_act 290 = .ok (.iconst 1, 1) := by decide +kernel
theorem dL_act_291 : decode cL_act 291 = .ok (.iload 8, 2) := by decide +kernel
theorem dL_act_293 : decode cL_act 293 = .ok (.iastore, 1) := by decide +kernel
theorem dL_act_294 : decode cL_act 294 = .ok (.dup, 1) := by decide +kernel
theorem dL_act_295 : decode cL_act 295 = .ok (.iconst 2, 1) := by decide +kernel
theorem dL_act_296 : decode cL_act 296 = .ok (.iconst 0, 1) := by decide +kernel
theorem dL_act_297 : decode cL_act 297 = .ok (.iastore, 1) := by decide +kernel
theorem dL_act_298 : decode cL_act 298 = .ok (.aastore, 1) := by decide +kernel
theorem dL_act_299 : decode cL_act 299 = .ok (.aload_n 0, 1) := by decide +kernel
theorem dL_act_300 : decode cL_act 300 = .ok (.iload 4, 2) := by decide +kernel
theorem dL_act_302 : decode cL_act 302 = .ok (.iload_n 3, 1) := by decide +kernel
theorem dL_act_303 : decode cL_act 303 = .ok (.iload 8, 2) := by decide +kernel
theorem dL_act_305 : decode cL_act 305 = .ok (.invokevirtual 37, 3) := by decide +kernel
theorem dL_act_308 : decode cL_act 308 = .ok (.iload 7, 2) := by decide +kernel
theorem dL_act_310 : decode cL_act 310 = .ok (.if_icmp .ne 7, 3) := by decide +kernel
theorem dL_act_313 : decode cL_act 313 = .ok (.iconst 1, 1) := by decide +kernel
theorem dL_act_314 : decode cL_act 314 = .ok (.goto 4, 3) := by decide +kernel
theorem dL_act_317 : decode cL_act 317 = .ok (.iconst 0, 1) := by decide +kernel
theorem dL_act_318 : decode cL_act 318 = .ok (.ireturn, 1) := by decide +kernel
theorem dL_act_319 : decode cL_act 319 = .ok (.aload 5, 2) := by decide +kernel
theorem dL_act_321 : decode cL_act 321 = .ok (.iconst 0, 1) := by decide +kernel
theorem dL_act_322 : decode cL_act 322 = .ok (.iaload, 1) := by decide +kernel
theorem dL_act_323 : decode cL_act 323 = .ok (.iconst 3, 1) := by decide +kernel
theorem dL_act_324 : decode cL_act 324 = .ok (.if_icmp .ne 7, 3) := by decide +kernel
theorem dL_act_327 : decode cL_act 327 = .ok (.iconst 1, 1) := by decide +kernel
theorem dL_act_328 : decode cL_act 328 = .ok (.goto 4, 3) := by decide +kernel
theorem dL_act_331 : decode cL_act 331 = .ok (.iconst 0, 1) := by decide +kernel
theorem dL_act_332 : decode cL_act 332 = .ok (.istore 6, 2) := by decide +kernel
theorem dL_act_334 : decode cL_act 334 = .ok (.iload 6, 2) := by decide +kernel
theorem dL_act_336 : decode cL_act 336 = .ok (.ifCond .eq 13, 3) := by decide +kernel
theorem dL_act_339 : decode cL_act 339 = .ok (.aload 5, 2) := by decide +kernel
theorem dL_act_341 : decode cL_act 341 = .ok (.iconst 2, 1) := by decide +kernel
theorem dL_act_342 : decode cL_act 342 = .ok (.iconst 1, 1) := by decide +kernel
theorem dL_act_343 : decode cL_act 343 = .ok (.aload 5, 2) := by decide +kernel
theorem dL_act_345 : decode cL_act 345 = .ok (.iconst 2, 1) := by decide +kernel
theorem dL_act_346 : decode cL_act 346 = .ok (.iaload, 1) := by decide +kernel
theorem dL_act_347 : decode cL_act 347 = .ok (.isub, 1) := by decide +kernel
theorem dL_act_348 : decode cL_act 348 = .ok (.iastore, 1) := by decide +kernel
theorem dL_act_349 : decode cL_act 349 = .ok (.aload_n 0, 1) := by decide +kernel
theorem dL_act_350 : decode cL_act 350 = .ok (.iload 4, 2) := by decide +kernel
theorem dL_act_352 : decode cL_act 352 = .ok (.iload_n 3, 1) := by decide +kernel
theorem dL_act_353 : decode cL_act 353 = .ok (.invokevirtual 40, 3) := by decide +kernel
theorem dL_act_356 : decode cL_act 356 = .ok (.aload 5, 2) := by decide +kernel
theorem dL_act_358 : decode cL_act 358 = .ok (.iconst 2, 1) := by decide +kernel
theorem dL_act_359 : decode cL_act 359 = .ok (.iaload, 1) := by decide +kernel
theorem dL_act_360 : decode cL_act 360 = .ok (.iconst 1, 1) := by decide +kernel
theorem dL_act_361 : decode cL_act 361 = .ok (.if_icmp .ne 7, 3) := by decide +kernel
theorem dL_act_364 : decode cL_act 364 = .ok (.iconst 1, 1) := by decide +kernel
theorem dL_act_365 : decode cL_act 365 = .ok (.goto 4, 3) := by decide +kernel
theorem dL_act_368 : decode cL_act 368 = .ok (.iconst 0, 1) := by decide +kernel
theorem dL_act_369 : decode cL_act 369 = .ok (.if_icmp .ne 12, 3) := by decide +kernel
theorem dL_act_372 : decode cL_act 372 = .ok (.iload 6, 2) := by decide +kernel
theorem dL_act_374 : decode cL_act 374 = .ok (.ifCond .eq 7, 3) := by decide +kernel
theorem dL_act_377 : decode cL_act 377 = .ok (.iconst 1, 1) := by decide +kernel
theorem dL_act_378 : decode cL_act 378 = .ok (.goto 4, 3) := by decide +kernel
theorem dL_act_381 : decode cL_act 381 = .ok (.iconst 0, 1) := by decide +kernel
theorem dL_act_382 : decode cL_act 382 = .ok (.ireturn, 1) := by decide +kernel
theorem dL_act_383 : decode cL_act 383 = .ok (.iload_n 2, 1) := by decide +kernel
theorem dL_act_384 : decode cL_act 384 = .ok (.bipush 6, 2) := by decide +kernel
theorem dL_act_386 : decode cL_act 386 = .ok (.ishr, 1) := by decide +kernel
theorem dL_act_387 : decode cL_act 387 = .ok (.iconst 2, 1) := by decide +kernel
theorem dL_act_388 : decode cL_act 388 = .ok (.invokestatic 15, 3) := by decide +kernel
theorem dL_act_391 : decode cL_act 391 = .ok (.istore 7, 2) := by decide +kernel
theorem dL_act_393 : decode cL_act 393 = .ok (.aload_n 1, 1) := by decide +kernel
theorem dL_act_394 : decode cL_act 394 = .ok (.getfield 44, 3) := by decide +kernel
theorem dL_act_397 : decode cL_act 397 = .ok (.iload 7, 2) := by decide +kernel
theorem dL_act_399 : decode cL_act 399 = .ok (.iaload, 1) := by decide +kernel
theorem dL_act_400 : decode cL_act 400 = .ok (.istore 8, 2) := by decide +kernel
theorem dL_act_402 : decode cL_act 402 = .ok (.aload_n 1, 1) := by decide +kernel
theorem dL_act_403 : decode cL_act 403 = .ok (.getfield 47, 3) := by decide +kernel
theorem dL_act_406 : decode cL_act 406 = .ok (.iload 7, 2) := by decide +kernel
theorem dL_act_408 : decode cL_act 408 = .ok (.iload_n 3, 1) := by decide +kernel
theorem dL_act_409 : decode cL_act 409 = .ok (.iastore, 1) := by decide +kernel
theorem dL_act_410 : decode cL_act 410 = .ok (.aload_n 1, 1) := by decide +kernel
theorem dL_act_411 : decode cL_act 411 = .ok (.getfield 44, 3) := by decide +kernel
theorem dL_act_414 : decode cL_act 414 = .ok (.iload 7, 2) := by decide +kernel
theorem dL_act_416 : decode cL_act 416 = .ok (.iload_n 2, 1) := by decide +kernel
theorem dL_act_417 : decode cL_act 417 = .ok (.bipush 8, 2) := by decide +kernel
theorem dL_act_419 : decode cL_act 419 = .ok (.ishr, 1) := by decide +kernel
theorem dL_act_420 : decode cL_act 420 = .ok (.bipush 100, 2) := by decide +kernel
theorem dL_act_422 : decode cL_act 422 = .ok (.invokestatic 15, 3) := by decide +kernel
theorem dL_act_425 : decode cL_act 425 = .ok (.iastore, 1) := by decide +kernel
theorem dL_act_426 : decode cL_act 426 = .ok (.aload_n 0, 1) := by decide +kernel
theorem dL_act_427 : decode cL_act 427 = .ok (.iload 7, 2) := by decide +kernel
theorem dL_act_429 : decode cL_act 429 = .ok (.iload_n 3, 1) := by decide +kernel
theorem dL_act_430 : decode cL_act 430 = .ok (.aload_n 1, 1) := by decide +kernel
theorem dL_act_431 : decode cL_act 431 = .ok (.getfield 44, 3) := by decide +kernel
theorem dL_act_434 : decode cL_act 434 = .ok (.iload 7, 2) := by decide +kernel
theorem dL_act_436 : decode cL_act 436 = .ok (.iaload, 1) := by decide +kernel
theorem dL_act_437 : decode cL_act 437 = .ok (.invokevirtual 50, 3) := by decide +kernel
theorem dL_act_440 : decode cL_act 440 = .ok (.iload 8, 2) := by decide +kernel
theorem dL_act_442 : decode cL_act 442 = .ok (.if_icmp .ne 7, 3) := by decide +kernel
theorem dL_act_445 : decode cL_act 445 = .ok (.iconst 1, 1) := by decide +kernel
theorem dL_act_446 : decode cL_act 446 = .ok (.goto 4, 3) := by decide +kernel
theorem dL_act_449 : decode cL_act 449 = .ok (.iconst 0, 1) := by decide +kernel
theorem dL_act_450 : decode cL_act 450 = .ok (.ireturn, 1) := by decide +kernel
theorem dL_act_451 : decode cL_act 451 = .ok (.iload_n 2, 1) := by decide +kernel
theorem dL_act_452 : decode cL_act 452 = .ok (.bipush 6, 2) := by decide +kernel
theorem dL_act_454 : decode cL_act 454 = .ok (.ishr, 1) := by decide +kernel
theorem dL_act_455 : decode cL_act 455 = .ok (.iconst 2, 1) := by decide +kernel
theorem dL_act_456 : decode cL_act 456 = .ok (.invokestatic 15, 3) := by decide +kernel
theorem dL_act_459 : decode cL_act 459 = .ok (.istore 7, 2) := by decide +kernel
theorem dL_act_461 : decode cL_act 461 = .ok (.iconst 1, 1) := by decide +kernel
theorem dL_act_462 : decode cL_act 462 = .ok (.iload_n 2, 1) := by decide +kernel
theorem dL_act_463 : decode cL_act 463 = .ok (.bipush 8, 2) := by decide +kernel
theorem dL_act_465 : decode cL_act 465 = .ok (.ishr, 1) := by decide +kernel
theorem dL_act_466 : decode cL_act 466 = .ok (.bipush 99, 2) := by decide +kernel
theorem dL_act_468 : decode cL_act 468 = .ok (.invokestatic 15, 3) := by decide +kernel
theorem dL_act_471 : decode cL_act 471 = .ok (.iadd, 1) := by decide +kernel
theorem dL_act_472 : decode cL_act 472 = .ok (.istore 8, 2) := by decide +kernel
theorem dL_act_474 : decode cL_act 474 = .ok (.aload_n 0, 1) := by decide +kernel
theorem dL_act_475 : decode cL_act 475 = .ok (.iload 7, 2) := by decide +kernel
theorem dL_act_477 : decode cL_act 477 = .ok (.iload 8, 2) := by decide +kernel
theorem dL_act_479 : decode cL_act 479 = .ok (.invokevirtual 53, 3) := by decide +kernel
theorem dL_act_482 : decode cL_act 482 = .ok (.aload_n 1, 1) := by decide +kernel
theorem dL_act_483 : decode cL_act 483 = .ok (.iload 7, 2) := by decide +kernel
theorem dL_act_485 : decode cL_act 485 = .ok (.iload 8, 2) := by decide +kernel
theorem dL_act_487 : decode cL_act 487 = .ok (.invokevirtual 56, 3) := by decide +kernel
theorem dL_act_490 : decode cL_act 490 = .ok (.if_icmp .ne 7, 3) := by decide +kernel
theorem dL_act_493 : decode cL_act 493 = .ok (.iconst 1, 1) := by decide +kernel
theorem dL_act_494 : decode cL_act 494 = .ok (.goto 4, 3) := by decide +kernel
theorem dL_act_497 : decode cL_act 497 = .ok (.iconst 0, 1) := by decide +kernel
theorem dL_act_498 : decode cL_act 498 = .ok (.ireturn, 1) := by decide +kernel
theorem dL_act_499 : decode cL_act 499 = .ok (.iconst 0, 1) := by decide +kernel
theorem dL_act_500 : decode cL_act 500 = .ok (.istore 7, 2) := by decide +kernel
theorem dL_act_502 : decode cL_act 502 = .ok (.aload_n 1, 1) := by decide +kernel
theorem dL_act_503 : decode cL_act 503 = .ok (.getfield 9, 3) := by decide +kernel
theorem dL_act_506 : decode cL_act 506 = .ok (.astore 8, 2) := by decide +kernel
theorem dL_act_508 : decode cL_act 508 = .ok (.aload 8, 2) := by decide +kernel
theorem dL_act_510 : decode cL_act 510 = .ok (.arraylength, 1) := by decide +kernel
theorem dL_act_511 : decode cL_act 511 = .ok (.istore 9, 2) := by decide +kernel
theorem dL_act_513 : decode cL_act 513 = .ok (.iconst 0, 1) := by decide +kernel
theorem dL_act_514 : decode cL_act 514 = .ok (.istore 10, 2) := by decide +kernel
theorem dL_act_516 : decode cL_act 516 = .ok (.iload 10, 2) := by decide +kernel
theorem dL_act_518 : decode cL_act 518 = .ok (.iload 9, 2) := by decide +kernel
theorem dL_act_520 : decode cL_act 520 = .ok (.if_icmp .ge 23, 3) := by decide +kernel
theorem dL_act_523 : decode cL_act 523 = .ok (.aload 8, 2) := by decide +kernel
theorem dL_act_525 : decode cL_act 525 = .ok (.iload 10, 2) := by decide +kernel
theorem dL_act_527 : decode cL_act 527 = .ok (.iaload, 1) := by decide +kernel
theorem dL_act_528 : decode cL_act 528 = .ok (.istore 11, 2) := by decide +kernel
theorem dL_act_530 : decode cL_act 530 = .ok (.iload 7, 2) := by decide +kernel
theorem dL_act_532 : decode cL_act 532 = .ok (.iload 11, 2) := by decide +kernel
theorem dL_act_534 : decode cL_act 534 = .ok (.iadd, 1) := by decide +kernel
theorem dL_act_535 : decode cL_act 535 = .ok (.istore 7, 2) := by decide +kernel
theorem dL_act_537 : decode cL_act 537 = .ok (.iinc 10 1, 3) := by decide +kernel
theorem dL_act_540 : decode cL_act 540 = .ok (.goto (-24), 3) := by decide +kernel
theorem dL_act_543 : decode cL_act 543 = .ok (.aload_n 1, 1) := by decide +kernel
theorem dL_act_544 : decode cL_act 544 = .ok (.aload_n 1, 1) := by decide +kernel
theorem dL_act_545 : decode cL_act 545 = .ok (.getfield 9, 3) := by decide +kernel
theorem dL_act_548 : decode cL_act 548 = .ok (.arraylength, 1) := by decide +kernel
theorem dL_act_549 : decode cL_act 549 = .ok (.newarray .int, 2) := by decide +kernel
theorem dL_act_551 : decode cL_act 551 = .ok (.putfield 9, 3) := by decide +kernel
theorem dL_act_554 : decode cL_act 554 = .ok (.aload_n 0, 1) := by decide +kernel
theorem dL_act_555 : decode cL_act 555 = .ok (.invokevirtual 57, 3) := by decide +kernel
theorem dL_act_558 : decode cL_act 558 = .ok (.iload 7, 2) := by decide +kernel
theorem dL_act_560 : decode cL_act 560 = .ok (.if_icmp .ne 7, 3) := by decide +kernel
theorem dL_act_563 : decode cL_act 563 = .ok (.iconst 1, 1) := by decide +kernel
theorem dL_act_564 : decode cL_act 564 = .ok (.goto 4, 3) := by decide +kernel
theorem dL_act_567 : decode cL_act 567 = .ok (.iconst 0, 1) := by decide +kernel
theorem dL_act_568 : decode cL_act 568 = .ok (.ireturn, 1) := by decide +kernel
theorem dL_act_569 : decode cL_act 569 = .ok (.aload_n 0, 1) := by decide +kernel
theorem dL_act_570 : decode cL_act 570 = .ok (.iload_n 3, 1) := by decide +kernel
theorem dL_act_571 : decode cL_act 571 = .ok (.invokevirtual 61, 3) := by decide +kernel
theorem dL_act_574 : decode cL_act 574 = .ok (.aload_n 1, 1) := by decide +kernel
theorem dL_act_575 : decode cL_act 575 = .ok (.iload_n 3, 1) := by decide +kernel
theorem dL_act_576 : decode cL_act 576 = .ok (.invokevirtual 65, 3) := by decide +kernel
theorem dL_act_579 : decode cL_act 579 = .ok (.if_icmp .ne 7, 3) := by decide +kernel
theorem dL_act_582 : decode cL_act 582 = .ok (.iconst 1, 1) := by decide +kernel
theorem dL_act_583 : decode cL_act 583 = .ok (.goto 4, 3) := by decide +kernel
theorem dL_act_586 : decode cL_act 586 = .ok (.iconst 0, 1) := by decide +kernel
theorem dL_act_587 : decode cL_act 587 = .ok (.ireturn, 1) := by decide +kernel
theorem dL_act_588 : decode cL_act 588 = .ok (.astore 7, 2) := by decide +kernel
theorem dL_act_590 : decode cL_act 590 = .ok (.iload 6, 2) := by decide +kernel
theorem dL_act_592 : decode cL_act 592 = .ok (.ifCond .ne 7, 3) := by decide +kernel
theorem dL_act_595 : decode cL_act 595 = .ok (.iconst 1, 1) := by decide +kernel
theorem dL_act_596 : decode cL_act 596 = .ok (.goto 4, 3) := by decide +kernel
theorem dL_act_599 : decode cL_act 599 = .ok (.iconst 0, 1) := by decide +kernel
theorem dL_act_600 : decode cL_act 600 = .ok (.ireturn, 1) := by decide +kernel
set_option maxRecDepth 20000 in
theorem ggL_build_X2_init : GoodIn wsL_build wsX2_init := goodIn_r _ [5, 6, 7, 8, 9, 10, 11, 12, 13, 196, 197, 198, 199, 200, 201] (by decide +kernel) (by decide +kernel)
set_option maxRecDepth 20000 in
theorem gL_build_X2_init_n68 : GoodIn wsL_build (wsX2_init) := ggL_build_X2_init
set_option maxRecDepth 20000 in
theorem ggL_build_L_cell : GoodIn wsL_build wsL_cell := goodIn_r _ [17, 18] (by decide +kernel) (by decide +kernel)
set_option maxRecDepth 20000 in
theorem gL_build_L_cell : GoodIn wsL_build (va_wsS RL 69 yL_cell wsL_cell) := goodIn_app (goodIn_of _ (by decide +kernel)) ggL_build_L_cell
set_option maxRecDepth 20000 in
theorem ggL_build_L_below : GoodIn wsL_build wsL_below := goodIn_r _ [21, 22] (by decide +kernel) (by decide +kernel)
set_option maxRecDepth 20000 in
theorem gL_build_L_below : GoodIn wsL_build (va_wsS RL 15 yL_below wsL_below) := goodIn_app (goodIn_of _ (by decide +kernel)) ggL_build_L_below
set_option maxRecDepth 20000 in
theorem ggL_build_X2_lay : GoodIn wsL_build wsX2_lay := goodIn_r _ [26, 9, 10, 11, 27, 12, 196, 197, 198, 199, 200, 201] (by decide +kernel) (by decide +kernel)
set_option maxRecDepth 20000 in
theorem gL_build_X2_lay : GoodIn wsL_build (wsV RL 25 RX2 yX2_lay wsX2_lay) := goodIn_app (goodIn_of _ (by decide +kernel)) ggL_build_X2_lay
set_option maxRecDepth 20000 in
theorem ggL_build_X1_lay : GoodIn wsL_build wsX1_lay := goodIn_ca (goodIn_r _ [32, 33, 34, 35, 31, 36, 37, 38, 39, 40, 41, 42, 43, 44, 45, 46, 47, 48, 49, 50, 51, 52, 53, 54, 55, 56, 57, 58, 59, 60, 61, 202, 203, 204, 205, 206, 207, 208, 209, 210, 211, 212] (by decide +kernel) (by decide +kernel)) (goodIn_sub (fun _ h => List.mem_cons_of_mem _ (List.mem_append_left _ (List.mem_append_left _ (List.mem_append_right _ h)))) (by decide +kernel))
set_option maxRecDepth 20000 in
theorem gL_build_X1_lay : GoodIn wsL_build (wsV RL 29 RX1 yX1_lay wsX1_lay) := goodIn_app (goodIn_of _ (by decide +kernel)) ggL_build_X1_lay
set_option maxRecDepth 20000 in
theorem ggLba_h : GoodIn wsL_build [Cond.codeWith yL_act cL_act 12 (some .boolean) [(40, 123, 588, 66), (124, 178, 588, 66), (179, 254, 588, 66), (255, 318, 588, 66), (319, 382, 588, 66), (383, 450, 588, 66), (451, 498, 588, 66), (499, 568, 588, 66), (569, 587, 588, 66)]] := goodIn_r _ [64] (by decide +kernel) (by decide +kernel)
set_option maxRecDepth 20000 in
theorem ggLba_r1 : GoodIn wsL_build wsL_act_r1 := goodIn_r _ [65, 66, 67, 10, 68, 69, 19, 20, 16, 21, 22, 23, 24, 25, 3, 26, 9, 11, 27, 12, 28, 29, 30, 31] (by decide +kernel) (by decide +kernel)
set_option maxRecDepth 20000 in
theorem ggLba_r2 : GoodIn wsL_build wsL_act_r2 := goodIn_r _ [32, 33, 34, 35, 36, 37, 38, 39, 40, 41, 42, 43, 44, 45, 46, 47, 48, 49, 50, 51, 52, 53, 54, 55] (by decide +kernel) (by decide +kernel)
set_option maxRecDepth 20000 in
theorem ggLba_r3 : GoodIn wsL_build wsL_act_r3 := goodIn_r _ [56, 57, 58, 59, 60, 61, 70, 71, 72, 73, 74, 75, 76, 77, 78, 79, 80, 81, 82, 83, 84, 85, 86, 87] (by decide +kernel) (by decide +kernel)
set_option maxRecDepth 20000 in
theorem ggLba_r4 : GoodIn wsL_build wsL_act_r4 := goodIn_r _ [88, 89, 90, 91, 92, 93, 94, 95, 96, 97, 98, 99, 100, 101, 102, 103, 104, 105, 106, 107, 108, 109, 110, 111] (by decide +kernel) (by decide +kernel)
set_option maxRecDepth 20000 in
theorem ggLba_r5 : GoodIn wsL_build wsL_act_r5 := goodIn_r _ [112, 113, 114, 115, 116, 117, 118, 119, 120, 121, 122, 123, 124, 125, 126, 127, 128, 129, 130, 131, 132, 133, 134, 135] (by decide +kernel) (by decide +kernel)
set_option maxRecDepth 20000 in
theorem ggLba_r6 : GoodIn wsL_build wsL_act_r6 := goodIn_r _ [136, 137, 138, 139, 140, 141, 142, 143, 144, 145, 146, 147, 148, 149, 150, 151, 152, 153, 154, 155, 156, 157, 158, 159] (by decide +kernel) (by decide +kernel)
set_option maxRecDepth 20000 in
theorem ggLba_r7 : GoodIn wsL_build wsL_act_r7 := goodIn_r _ [160, 161, 162, 163, 164, 165, 166, 167, 168, 169, 170, 171, 13, 172, 173, 174, 175, 176, 177, 178, 179, 180, 181, 182] (by decide +kernel) (by decide +kernel)
set_option maxRecDepth 20000 in
theorem ggLba_r8 : GoodIn wsL_build wsL_act_r8 := goodIn_r _ [183, 184, 185, 186, 187, 188, 189, 190, 191, 192, 193, 194, 195] (by decide +kernel) (by decide +kernel)
set_option maxRecDepth 20000 in
theorem ggLba_X20 : GoodIn wsL_build wsX20 := goodIn_r _ [196, 197, 198, 199, 200, 201] (by decide +kernel) (by decide +kernel)
set_option maxRecDepth 20000 in
theorem ggLba_X10 : GoodIn wsL_build wsX10 := goodIn_r _ [202, 203] (by decide +kernel) (by decide +kernel)
set_option maxRecDepth 20000 in
theorem ggLba_X00 : GoodIn wsL_build wsX00 := goodIn_r _ [204, 205, 206, 207, 208, 209, 210, 211, 212] (by decide +kernel) (by decide +kernel)
set_option maxRecDepth 20000 in
theorem ggL_build_L_act : GoodIn wsL_build wsL_act := goodIn_ca (goodIn_ca (goodIn_ca (goodIn_app ggLba_h (goodIn_app (goodIn_app (goodIn_app (goodIn_app ggLba_r1 (goodIn_app ggLba_r2 (goodIn_app ggLba_r3 (goodIn_app ggLba_r4 (goodIn_app ggLba_r5 (goodIn_app ggLba_r6 (goodIn_app ggLba_r7 ggLba_r8))))))) ggLba_X20) ggLba_X10) ggLba_X00)) (goodIn_sub (fun _ h => List.mem_cons_of_mem _ (List.mem_append_left _ (List.mem_append_left _ (List.mem_append_right _ h)))) (by decide +kernel))) (goodIn_sub (fun _ h => List.mem_cons_of_mem _ (List.mem_append_left _ (List.mem_append_right _ h))) (by decide +kernel))) (goodIn_sub (fun _ h => List.mem_cons_of_mem _ (List.mem_append_right _ h)) (by decide +kernel))
set_option maxRecDepth 20000 in
theorem gL_build_L_act : GoodIn wsL_build (va_wsS RL 73 yL_act wsL_act) := goodIn_app (goodIn_of _ (by decide +kernel)) ggL_build_L_act
theorem dL_build_0 : decode cL_build 0 = .ok (.new 10, 3) := by decide +kernel
theorem dL_build_3 : decode cL_build 3 = .ok (.dup, 1) := by decide +kernel
theorem dL_build_4 : decode cL_build 4 = .ok (.invokespecial 68, 3) := by decide +kernel
theorem dL_build_7 : decode cL_build 7 = .ok (.astore_n 2, 1) := by decide +kernel
theorem dL_build_8 : decode cL_build 8 = .ok (.iconst 2, 1) := by decide +kernel
theorem dL_build_9 : decode cL_build 9 = .ok (.aload_n 1, 1) := by decide +kernel
theorem dL_build_10 : decode cL_build 10 = .ok (.iconst 0, 1) := by decide +kernel
theorem dL_build_11 : decode cL_build 11 = .ok (.invokestatic 69, 3) := by decide +kernel
theorem dL_build_14 : decode cL_build 14 = .ok (.bipush 8, 2) := by decide +kernel
theorem dL_build_16 : decode cL_build 16 = .ok (.invokestatic 15, 3) := by decide +kernel
theorem dL_build_19 : decode cL_build 19 = .ok (.iadd, 1) := by decide +kernel
theorem dL_build_20 : decode cL_build 20 = .ok (.istore_n 3, 1) := by decide +kernel
theorem dL_build_21 : decode cL_build 21 = .ok (.iconst 1, 1) := by decide +kernel
theorem dL_build_22 : decode cL_build 22 = .ok (.aload_n 1, 1) := by decide +kernel
theorem dL_build_23 : decode cL_build 23 = .ok (.iconst 0, 1) := by decide +kernel
theorem dL_build_24 : decode cL_build 24 = .ok (.invokestatic 69, 3) := by decide +kernel
theorem dL_build_27 : decode cL_build 27 = .ok (.iconst 4, 1) := by decide +kernel
theorem dL_build_28 : decode cL_build 28 = .ok (.ishr, 1) := by decide +kernel
theorem dL_build_29 : decode cL_build 29 = .ok (.bipush 8, 2) := by decide +kernel
theorem dL_build_31 : decode cL_build 31 = .ok (.invokestatic 15, 3) := by decide +kernel
theorem dL_build_34 : decode cL_build 34 = .ok (.iadd, 1) := by decide +kernel
theorem dL_build_35 : decode cL_build 35 = .ok (.istore 4, 2) := by decide +kernel
theorem dL_build_37 : decode cL_build 37 = .ok (.aload_n 2, 1) := by decide +kernel
theorem dL_build_38 : decode cL_build 38 = .ok (.iload_n 3, 1) := by decide +kernel
theorem dL_build_39 : decode cL_build 39 = .ok (.iload 4, 2) := by decide +kernel
theorem dL_build_41 : decode cL_build 41 = .ok (.invokevirtual 25, 3) := by decide +kernel
theorem dL_build_44 : decode cL_build 44 = .ok (.aload_n 0, 1) := by decide +kernel
theorem dL_build_45 : decode cL_build 45 = .ok (.iload_n 3, 1) := by decide +kernel
theorem dL_build_46 : decode cL_build 46 = .ok (.iload 4, 2) := by decide +kernel
theorem dL_build_48 : decode cL_build 48 = .ok (.invokevirtual 29, 3) := by decide +kernel
theorem dL_build_51 : decode cL_build 51 = .ok (.iload_n 3, 1) := by decide +kernel
theorem dL_build_52 : decode cL_build 52 = .ok (.iload 4, 2) := by decide +kernel
theorem dL_build_54 : decode cL_build 54 = .ok (.imul, 1) := by decide +kernel
theorem dL_build_55 : decode cL_build 55 = .ok (.if_icmp .eq 5, 3) := by decide +kernel
theorem dL_build_58 : decode cL_build 58 = .ok (.aconst_null, 1) := by decide +kernel
theorem dL_build_59 : decode cL_build 59 = .ok (.areturn, 1) := by decide +kernel
theorem dL_build_60 : decode cL_build 60 = .ok (.bipush 8, 2) := by decide +kernel
theorem dL_build_62 : decode cL_build 62 = .ok (.aload_n 1, 1) := by decide +kernel
theorem dL_build_63 : decode cL_build 63 = .ok (.iconst 0, 1) := by decide +kernel
theorem dL_build_64 : decode cL_build 64 = .ok (.invokestatic 69, 3) := by decide +kernel
theorem dL_build_67 : decode cL_build 67 = .ok (.bipush 7, 2) := by decide +kernel
theorem dL_build_69 : decode cL_build 69 = .ok (.ishr, 1) := by decide +kernel
theorem dL_build_70 : decode cL_build 70 = .ok (.bipush 30, 2) := by decide +kernel
theorem dL_build_72 : decode cL_build 72 = .ok (.invokestatic 15, 3) := by decide +kernel
theorem dL_build_75 : decode cL_build 75 = .ok (.iadd, 1) := by decide +kernel
theorem dL_build_76 : decode cL_build 76 = .ok (.istore 5, 2) := by decide +kernel
theorem dL_build_78 : decode cL_build 78 = .ok (.iconst 0, 1) := by decide +kernel
theorem dL_build_79 : decode cL_build 79 = .ok (.istore 6, 2) := by decide +kernel
theorem dL_build_81 : decode cL_build 81 = .ok (.iload 6, 2) := by decide +kernel
theorem dL_build_83 : decode cL_build 83 = .ok (.iload 5, 2) := by decide +kernel
theorem dL_build_85 : decode cL_build 85 = .ok (.if_icmp .ge 81, 3) := by decide +kernel
theorem dL_build_88 : decode cL_build 88 = .ok (.aload_n 1, 1) := by decide +kernel
theorem dL_build_89 : decode cL_build 89 = .ok (.iconst 1, 1) := by decide +kernel
theorem dL_build_90 : decode cL_build 90 = .ok (.iload 6, 2) := by decide +kernel
theorem dL_build_92 : decode cL_build 92 = .ok (.bipush 15, 2) := by decide +kernel
theorem dL_build_94 : decode cL_build 94 = .ok (.irem, 1) := by decide +kernel
theorem dL_build_95 : decode cL_build 95 = .ok (.iadd, 1) := by decide +kernel
theorem dL_build_96 : decode cL_build 96 = .ok (.invokestatic 69, 3) := by decide +kernel
theorem dL_build_99 : decode cL_build 99 = .ok (.iload 6, 2) := by decide +kernel
theorem dL_build_101 : decode cL_build 101 = .ok (.bipush 15, 2) := by decide +kernel
theorem dL_build_103 : decode cL_build 103 = .ok (.idiv, 1) := by decide +kernel
theorem dL_build_104 : decode cL_build 104 = .ok (.iconst 3, 1) := by decide +kernel
theorem dL_build_105 : decode cL_build 105 = .ok (.imul, 1) := by decide +kernel
theorem dL_build_106 : decode cL_build 106 = .ok (.ishr, 1) := by decide +kernel
theorem dL_build_107 : decode cL_build 107 = .ok (.bipush 37, 2) := by decide +kernel
theorem dL_build_109 : decode cL_build 109 = .ok (.iload 6, 2) := by decide +kernel
theorem dL_build_111 : decode cL_build 111 = .ok (.imul, 1) := by decide +kernel
theorem dL_build_112 : decode cL_build 112 = .ok (.iadd, 1) := by decide +kernel
theorem dL_build_113 : decode cL_build 113 = .ok (.istore 7, 2) := by decide +kernel
theorem dL_build_115 : decode cL_build 115 = .ok (.aload_n 0, 1) := by decide +kernel
theorem dL_build_116 : decode cL_build 116 = .ok (.aload_n 2, 1) := by decide +kernel
theorem dL_build_117 : decode cL_build 117 = .ok (.iload 6, 2) := by decide +kernel
theorem dL_build_119 : decode cL_build 119 = .ok (.iconst 4, 1) := by decide +kernel
theorem dL_build_120 : decode cL_build 120 = .ok (.irem, 1) := by decide +kernel
theorem dL_build_121 : decode cL_build 121 = .ok (.iconst 3, 1) := by decide +kernel
theorem dL_build_122 : decode cL_build 122 = .ok (.if_icmp .ge 28, 3) := by decide +kernel
theorem dL_build_125 : decode cL_build 125 = .ok (.iload 7, 2) := by decide +kernel
theorem dL_build_127 : decode cL_build 127 = .ok (.iload 7, 2) := by decide +kernel
theorem dL_build_129 : decode cL_build 129 = .ok (.bipush 16, 2) := by decide +kernel
theorem dL_build_131 : decode cL_build 131 = .ok (.invokestatic 15, 3) := by decide +kernel
theorem dL_build_134 : decode cL_build 134 = .ok (.isub, 1) := by decide +kernel
theorem dL_build_135 : decode cL_build 135 = .ok (.iconst 1, 1) := by decide +kernel
theorem dL_build_136 : decode cL_build 136 = .ok (.iadd, 1) := by decide +kernel
theorem dL_build_137 : decode cL_build 137 = .ok (.iload 7, 2) := by decide +kernel
theorem dL_build_139 : decode cL_build 139 = .ok (.iconst 5, 1) := by decide +kernel
theorem dL_build_140 : decode cL_build 140 = .ok (.ishr, 1) := by decide +kernel
theorem dL_build_141 : decode cL_build 141 = .ok (.bipush 6, 2) := by decide +kernel
theorem dL_build_143 : decode cL_build 143 = .ok (.invokestatic 15, 3) := by decide +kernel
theorem dL_build_146 : decode cL_build 146 = .ok (.iadd, 1) := by decide +kernel
theorem dL_build_147 : decode cL_build 147 = .ok (.goto 5, 3) := by decide +kernel
theorem dL_build_150 : decode cL_build 150 = .ok (.iload 7, 2) := by decide +kernel
theorem dL_build_152 : decode cL_build 152 = .ok (.invokestatic 73, 3) := by decide +kernel
theorem dL_build_155 : decode cL_build 155 = .ok (.ifCond .ne 5, 3) := by decide +kernel
theorem dL_build_158 : decode cL_build 158 = .ok (.aconst_null, 1) := by decide +kernel
theorem dL_build_159 : decode cL_build 159 = .ok (.areturn, 1) := by decide +kernel
theorem dL_build_160 : decode cL_build 160 = .ok (.iinc 6 1, 3) := by decide +kernel
theorem dL_build_163 : decode cL_build 163 = .ok (.goto (-82), 3) := by decide +kernel
theorem dL_build_166 : decode cL_build 166 = .ok (.aload_n 2, 1) := by decide +kernel
theorem dL_build_167 : decode cL_build 167 = .ok (.areturn, 1) := by decide +kernel
end
section
/-! ===== own base: contracts that only read (wPR), contracts that change their world (wPQ, wB), and calls of both, one row a call ===== -/
theorem mg {w : Cond} {L : List Cond} (i : Nat) (h : L[i]? = some w) : w ∈ L := List.mem_of_getElem? h
theorem fm_of {α β : Type} {f : α → Option β} {is : List α} {ws : List β} (h : is.map f = ws.map some) : is.filterMap f = ws := by
  have h1 : is.filterMap f = (is.map f).filterMap id := by simp [List.filterMap_map]
  rw [h1, h]
  simp [List.filterMap_map]
def KS (U : State) : Prop := va_Nw (.methodLinkNest RX0 53 yX1_setCell RX1) U ∧ va_Nw (.methodLinkNest RX0 57 yX1_copyCells RX1) U ∧ va_Nw (.methodLinkNest RX0 61 yX1_cell RX1) U
theorem KS.warm {s U : State} (hW : s.WarmedH U.vm) (h : KS s) : KS U := ⟨va_Nw.warmM hW h.1, va_Nw.warmM hW h.2.1, va_Nw.warmM hW h.2.2⟩
theorem KS.same {u U : State} (hv : u.vm = U.vm) (h : KS u) : KS U := ⟨va_Nw.same rfl hv h.1, va_Nw.same rfl hv h.2.1, va_Nw.same rfl hv h.2.2⟩
def wPR (D : va_G) (tys : List (ClassId × FieldType)) (ws : va_W) (U : State) : Prop := va_P D vwCl ws U.heap ∧ va_K D vwCl tys U ∧ KS U
theorem wPR.blind {D : va_G} {tys : List (ClassId × FieldType)} {ws : va_W} {As : List Value} : FrameBlind (va_Pc As (wPR D tys ws)) := fun a U g mk q => ⟨q.1, q.2.1, va_K.moved (u := U) (U := U.calling g mk a) (Vm.Alike.refl U.vm) q.2.2.1, KS.same (u := U) rfl q.2.2.2⟩
theorem wPR.of {D : va_G} {tys : List (ClassId × FieldType)} {ws : va_W} {s : State} {H : Heap} {As : List Value} (hP : va_P D vwCl ws H) (hK : va_K D vwCl tys s) (hN : KS s) : ∀ U : State, U.heap = H → s.WarmedH U.vm → va_Pc As (wPR D tys ws) As.toArray U := fun U hU hW => ⟨rfl, by rw [hU]; exact hP, va_K.moved hW.alike hK, KS.warm hW hN⟩
def wPQ (D : va_G) (tys : List (ClassId × FieldType)) (sz : Nat) (ws : va_W) (U : State) : Prop := U.heap.size = sz ∧ va_P D vwCl ws U.heap ∧ va_K D vwCl tys U ∧ KS U ∧ va_D (fun _ => True) ws
theorem wPQ.blind {D : va_G} {tys : List (ClassId × FieldType)} {sz : Nat} {ws : va_W} {As : List Value} : FrameBlind (va_Pc As (wPQ D tys sz ws)) := fun a U g mk q => ⟨q.1, q.2.1, q.2.2.1, va_K.moved (u := U) (U := U.calling g mk a) (Vm.Alike.refl U.vm) q.2.2.2.1, KS.same (u := U) rfl q.2.2.2.2.1, q.2.2.2.2.2⟩
theorem wPQ.of {D : va_G} {tys : List (ClassId × FieldType)} {ws : va_W} {A : Nat → Prop} {s : State} {H : Heap} {As : List Value} (hP : va_P D vwCl ws H) (hK : va_K D vwCl tys s) (hN : KS s) (hD : va_D A ws) : ∀ U : State, U.heap = H → s.WarmedH U.vm → va_Pc As (wPQ D tys H.size ws) As.toArray U := fun U hU hW => ⟨rfl, by rw [hU], by rw [hU]; exact hP, va_K.moved hW.alike hK, KS.warm hW hN, hD.weaken (fun _ _ _ _ => trivial)⟩
def wB (D : va_G) (tys : List (ClassId × FieldType)) (A : Nat → Prop) {S : Type} (w : S → va_W) (u : S) (t : State) : Prop := va_P D vwCl (w u) t.heap ∧ va_K D vwCl tys t ∧ va_D A (w u)
section KB
variable {p : Program} {l : Launch} {e : Env} {R : Room} {s : State} {m : MethodId} {args : Array Value} {below : List Frame} {meth : Method} {c : Code} {H : Heap} {locs : List Loc} {cells slots : Nat} {Q : State → Prop}
variable {D : va_G} {tys tys' : List (ClassId × FieldType)} {Wd Wd' : va_W}
/-- a body that only reads -/
theorem mR_of {y : MethodName} {ws ws' : List Cond} {rm : Room} {cc : ByteArray} {maxL : Nat} {ret : Option FieldType} {As : List Value} {Qc : Array Value → State → Outcome → State → Prop}
    (hy : plainName y.cls = true) (hw : ws = Cond.code y cc maxL ret :: ws') (hn : (lg_sl As).length ≤ maxL)
    (body : ∀ (p : Program) (e : Env) (s : State) (m : MethodId) (below : List Frame) (meth : Method) (c : Code), p.tables.exec = Jvm.exec → c.code = cc → meth.sig.returnType = ret → c.maxLocals = maxL → s.vm.findClass y.cls = some m.cls → (∀ w ∈ ws, w.before As.toArray s = true) → meth.locks = false → va_P D vwCl Wd s.heap → va_K D vwCl tys s → KS s → ∀ ls : Array Slot, lv_has ls maxL (lv_args 0 As) →
      W p l e rm s m As.toArray below meth c s.heap [] 0 0 (MQ below Qc As.toArray s 0 0 (fun _ => False)) (F0 m 0 ls [])) :
    Met l y ws rm (va_Pc As (wPR D tys Wd)) Qc 0 0 (fun _ => False) := by
  refine Met.ofW (cc := cc) (maxL := maxL) (ret := ret) hy hw ?_
  intro p e s m args below meth c s₁ B hml hv
  obtain ⟨rfl, hP, hK, hN⟩ := hv
  have hl := lv_entry As (n := maxL) hn
  rw [lg_entry_eq]
  exact body p e s m below meth c B.exec B.bytes B.returns hml (findClass_of_methodNamed B.named) (atoms_spec (ws := ws) B.pre) B.notSynchronized hP hK hN _ hl
/-- a body that changes its world, and may make cells -/
theorem mQ_of {y : MethodName} {ws ws' : List Cond} {rm : Room} {cc : ByteArray} {maxL mc ms : Nat} {ret : Option FieldType} {As : List Value} {Qc : Array Value → State → Outcome → State → Prop} {sz : Nat}
    (hy : plainName y.cls = true) (hw : ws = Cond.code y cc maxL ret :: ws') (hn : (lg_sl As).length ≤ maxL)
    (body : ∀ (p : Program) (e : Env) (s : State) (m : MethodId) (below : List Frame) (meth : Method) (c : Code), p.tables.exec = Jvm.exec → c.code = cc → meth.sig.returnType = ret → c.maxLocals = maxL → s.vm.findClass y.cls = some m.cls → meth.name = y.name → (∀ w ∈ ws, w.before As.toArray s = true) → meth.locks = false → s.heap.size = sz → va_P D vwCl Wd s.heap → va_K D vwCl tys s → KS s → va_D (va_A Wd sz) Wd → (∀ q : Nat, s.heap.size ≤ q → va_A Wd sz q) → va_S (va_A Wd sz) s.heap s.heap [] → ∀ ls : Array Slot, lv_has ls maxL (lv_args 0 As) →
      W p l e rm s m As.toArray below meth c s.heap [] 0 0 (MQ below Qc As.toArray s mc ms (va_A Wd sz)) (F0 m 0 ls [])) :
    Met l y ws rm (va_Pc As (wPQ D tys sz Wd)) Qc mc ms (va_A Wd sz) := by
  refine Met.ofW (cc := cc) (maxL := maxL) (ret := ret) hy hw ?_
  intro p e s m args below meth c s₁ B hml hv
  obtain ⟨rfl, hsz, hP, hK, hN, hD⟩ := hv
  have hl := lv_entry As (n := maxL) hn
  rw [lg_entry_eq]
  exact body p e s m below meth c B.exec B.bytes B.returns hml (findClass_of_methodNamed B.named) (name_of_methodNamed B.named B.method).1 (atoms_spec (ws := ws) B.pre) B.notSynchronized hsz hP hK hN (hD.self) (fun q h => Or.inr (hsz ▸ h)) va_S.rf _ hl
theorem eRi {cc : ByteArray} {post : Int32 → Prop} {v : Int32} {pc : Nat} {ls : Array Slot} (hx : p.tables.exec = Jvm.exec) (hb : c.code = cc) (hr : meth.sig.returnType = some .int) (hlocks : meth.locks = false) (hdg : decode cc pc = .ok (.ireturn, 1)) (h : post v) : W p l e R s m args below meth c s.heap [] 0 0 (MQ below (vp_Si post) args s 0 0 (fun _ => False)) (F0 m pc ls [.int v]) := W.iret hx hb hr (fun t ht _ => ⟨v, rfl, h, ht⟩) (fun q hq => absurd hq List.not_mem_nil) hdg hlocks
theorem nar_b {v : Int32} (hv : v = 0 ∨ v = 1) : narrow .boolean (.int v) = .int v := by rcases hv with rfl | rfl <;> rfl
theorem eRz {cc : ByteArray} {post : Int32 → Prop} {v : Int32} {pc : Nat} {ls : Array Slot} (hx : p.tables.exec = Jvm.exec) (hb : c.code = cc) (hr : meth.sig.returnType = some .boolean) (hlocks : meth.locks = false) (hdg : decode cc pc = .ok (.ireturn, 1)) (hv : v = 0 ∨ v = 1) (h : post v) : W p l e R s m args below meth c s.heap [] 0 0 (MQ below (vp_Si post) args s 0 0 (fun _ => False)) (F0 m pc ls [.int v]) := W.zret hx hb hr (nar_b hv) (fun t ht _ => ⟨v, rfl, h, ht⟩) (fun q hq => absurd hq List.not_mem_nil) hdg hlocks
theorem eRv {cc : ByteArray} {post : Unit → Prop} {pc : Nat} {ls : Array Slot} (hx : p.tables.exec = Jvm.exec) (hb : c.code = cc) (hr : meth.sig.returnType = none) (hlocks : meth.locks = false) (hdg : decode cc pc = .ok (.return_, 1)) (h : post ()) : W p l e R s m args below meth c s.heap [] 0 0 (MQ below (va_Sv post) args s 0 0 (fun _ => False)) (F0 m pc ls []) := W.vret hx hb hr (fun t ht _ => ⟨rfl, h, ht⟩) (fun q hq => absurd hq List.not_mem_nil) hdg hlocks
section EQ
variable {S : Type} {w : S → va_W} {A : Nat → Prop}
theorem eQi {cc : ByteArray} {post : Int32 → S → Prop} {v : Int32} {pc : Nat} {ls : Array Slot} (u : S) (hx : p.tables.exec = Jvm.exec) (hb : c.code = cc) (hr : meth.sig.returnType = some .int) (hlocks : meth.locks = false) (hP : va_P D vwCl (w u) H) (hD : va_D A (w u)) (hK : va_K D vwCl tys s) (hS : va_S A s.heap H locs) (hdg : decode cc pc = .ok (.ireturn, 1)) (h : post v u) : W p l e R s m args below meth c H locs cells slots (MQ below (va_Qi post (wB D tys A w) A) args s cells slots A) (F0 m pc ls [.int v]) := W.iret hx hb hr (fun t ht hW => ⟨⟨v, u, rfl, h, by rw [ht]; exact hP, va_K.moved hW.alike hK, hD⟩, hS.F ht⟩) hS.2.2 hdg hlocks
theorem eQz {cc : ByteArray} {post : Int32 → S → Prop} {v : Int32} {pc : Nat} {ls : Array Slot} (u : S) (hx : p.tables.exec = Jvm.exec) (hb : c.code = cc) (hr : meth.sig.returnType = some .boolean) (hlocks : meth.locks = false) (hP : va_P D vwCl (w u) H) (hD : va_D A (w u)) (hK : va_K D vwCl tys s) (hS : va_S A s.heap H locs) (hdg : decode cc pc = .ok (.ireturn, 1)) (hv : v = 0 ∨ v = 1) (h : post v u) : W p l e R s m args below meth c H locs cells slots (MQ below (va_Qi post (wB D tys A w) A) args s cells slots A) (F0 m pc ls [.int v]) := W.zret hx hb hr (nar_b hv) (fun t ht hW => ⟨⟨v, u, rfl, h, by rw [ht]; exact hP, va_K.moved hW.alike hK, hD⟩, hS.F ht⟩) hS.2.2 hdg hlocks
theorem eQl {cc : ByteArray} {post : Int64 → S → Prop} {v : Int64} {pc : Nat} {ls : Array Slot} (u : S) (hx : p.tables.exec = Jvm.exec) (hb : c.code = cc) (hr : meth.sig.returnType = some .long) (hlocks : meth.locks = false) (hP : va_P D vwCl (w u) H) (hD : va_D A (w u)) (hK : va_K D vwCl tys s) (hS : va_S A s.heap H locs) (hdg : decode cc pc = .ok (.lreturn, 1)) (h : post v u) : W p l e R s m args below meth c H locs cells slots (MQ below (va_Ql post (wB D tys A w) A) args s cells slots A) (F0 m pc ls [.long v]) := W.lret hx hb hr (fun t ht hW => ⟨⟨v, u, rfl, h, by rw [ht]; exact hP, va_K.moved hW.alike hK, hD⟩, hS.F ht⟩) hS.2.2 hdg hlocks
theorem eQv {cc : ByteArray} {post : S → Prop} {pc : Nat} {ls : Array Slot} (u : S) (hx : p.tables.exec = Jvm.exec) (hb : c.code = cc) (hr : meth.sig.returnType = none) (hlocks : meth.locks = false) (hP : va_P D vwCl (w u) H) (hD : va_D A (w u)) (hK : va_K D vwCl tys s) (hS : va_S A s.heap H locs) (hdg : decode cc pc = .ok (.return_, 1)) (h : post u) : W p l e R s m args below meth c H locs cells slots (MQ below (va_Qv post (wB D tys A w) A) args s cells slots A) (F0 m pc ls []) := W.vret hx hb hr (fun t ht hW => ⟨⟨u, rfl, h, by rw [ht]; exact hP, va_K.moved hW.alike hK, hD⟩, hS.F ht⟩) hS.2.2 hdg hlocks
end EQ
variable {y : MethodName} {bytes cc : ByteArray} {maxL nL n index mc ms : Nat} {ret : Option FieldType} {ws : List Cond} {rm : Room} {Ts : List Cond} {own C host : String} {b : Addr} {As st0 rest : List Value} {pc : Nat} {ls : Array Slot} {T : u_T} {N ci : Nat} {fs : List Value}
-- calls of what only reads
theorem kRVi {post : Int32 → Prop} (Sf : CallFix p m c cc nL s args Ts own) (hM : Met l y ws rm (va_Pc (.ref b :: As) (wPR D tys' Wd')) (vp_Si post) 0 0 (fun _ => False)) (cw : CallW R s args own C index y bytes maxL ret ws rm 0 0 n)
    (hP : va_P D vwCl Wd H) (hK : va_K D vwCl tys s) (hN : KS s) (is : List Nat) (hW : is.map (fun i => Wd[i]?) = Wd'.map some) (ts : List Nat) (hT : ts.filterMap (fun i => tys[i]?) = tys') (hci : vwCl[ci]? = some (C, T, N)) (hq0 : Wd'[0]? = some (b, .inr (ci, fs)))
    (hn : As.length = n) (hsize : ls.size = nL) (hstack : st0 = As.reverse ++ .ref b :: rest) (hW8 : (rest.map fun v => v.category).sum ≤ 8) (hdg : decode cc pc = .ok (.invokevirtual index, 3)) (hf : cells ≤ R.cells ∧ slots ≤ R.slots)
    (kk : ∀ r : Int32, post r → W p l e R s m args below meth c H locs cells slots Q (F0 m (pc + 3) ls (.int r :: rest))) : W p l e R s m args below meth c H locs cells slots Q (F0 m pc ls st0) :=
  vp_callSi (va_runV (As := As) (rest := rest) Sf hM cw ⟨wPR.blind, va_recv hK (hP.sub is (fm_of hW)) hci hq0, wPR.of (hP.sub is (fm_of hW)) (hK.sub ts hT) hN⟩ rfl hn hsize hstack (lv_room hW8) hdg hf).run kk
theorem kRVv {post : Unit → Prop} (Sf : CallFix p m c cc nL s args Ts own) (hM : Met l y ws rm (va_Pc (.ref b :: As) (wPR D tys' Wd')) (va_Sv post) 0 0 (fun _ => False)) (cw : CallW R s args own C index y bytes maxL ret ws rm 0 0 n)
    (hP : va_P D vwCl Wd H) (hK : va_K D vwCl tys s) (hN : KS s) (is : List Nat) (hW : is.map (fun i => Wd[i]?) = Wd'.map some) (ts : List Nat) (hT : ts.filterMap (fun i => tys[i]?) = tys') (hci : vwCl[ci]? = some (C, T, N)) (hq0 : Wd'[0]? = some (b, .inr (ci, fs)))
    (hn : As.length = n) (hsize : ls.size = nL) (hstack : st0 = As.reverse ++ .ref b :: rest) (hW8 : (rest.map fun v => v.category).sum ≤ 8) (hdg : decode cc pc = .ok (.invokevirtual index, 3)) (hf : cells ≤ R.cells ∧ slots ≤ R.slots)
    (kk : W p l e R s m args below meth c H locs cells slots Q (F0 m (pc + 3) ls rest)) : W p l e R s m args below meth c H locs cells slots Q (F0 m pc ls st0) :=
  va_csv (va_runV (As := As) (rest := rest) Sf hM cw ⟨wPR.blind, va_recv hK (hP.sub is (fm_of hW)) hci hq0, wPR.of (hP.sub is (fm_of hW)) (hK.sub ts hT) hN⟩ rfl hn hsize hstack (lv_room hW8) hdg hf).run (fun _ => kk)
theorem kRSi {post : Int32 → Prop} (Sf : CallFix p m c cc nL s args Ts own) (hM : Met l y ws rm (va_Pc As (wPR D tys' Wd')) (vp_Si post) 0 0 (fun _ => False)) (cw : CallB R s args own index y bytes maxL ret ws rm 0 0 n ∧ (Cond.static y).before args s = true)
    (hP : va_P D vwCl Wd H) (hK : va_K D vwCl tys s) (hN : KS s) (is : List Nat) (hW : is.map (fun i => Wd[i]?) = Wd'.map some) (ts : List Nat) (hT : ts.filterMap (fun i => tys[i]?) = tys')
    (hn : As.length = n) (hsize : ls.size = nL) (hstack : st0 = As.reverse ++ rest) (hW8 : (rest.map fun v => v.category).sum ≤ 8) (hdg : decode cc pc = .ok (.invokestatic index, 3)) (hf : cells ≤ R.cells ∧ slots ≤ R.slots)
    (kk : ∀ r : Int32, post r → W p l e R s m args below meth c H locs cells slots Q (F0 m (pc + 3) ls (.int r :: rest))) : W p l e R s m args below meth c H locs cells slots Q (F0 m pc ls st0) :=
  vp_callSi (va_runS (As := As) (rest := rest) Sf hM cw ⟨wPR.blind, wPR.of (hP.sub is (fm_of hW)) (hK.sub ts hT) hN⟩ rfl hn hsize hstack (lv_room hW8) hdg hf).run kk
theorem kRSv {post : Unit → Prop} (Sf : CallFix p m c cc nL s args Ts own) (hM : Met l y ws rm (va_Pc As (wPR D tys' Wd')) (va_Sv post) 0 0 (fun _ => False)) (cw : CallB R s args own index y bytes maxL ret ws rm 0 0 n ∧ (Cond.static y).before args s = true)
    (hP : va_P D vwCl Wd H) (hK : va_K D vwCl tys s) (hN : KS s) (is : List Nat) (hW : is.map (fun i => Wd[i]?) = Wd'.map some) (ts : List Nat) (hT : ts.filterMap (fun i => tys[i]?) = tys')
    (hn : As.length = n) (hsize : ls.size = nL) (hstack : st0 = As.reverse ++ rest) (hW8 : (rest.map fun v => v.category).sum ≤ 8) (hdg : decode cc pc = .ok (.invokestatic index, 3)) (hf : cells ≤ R.cells ∧ slots ≤ R.slots)
    (kk : W p l e R s m args below meth c H locs cells slots Q (F0 m (pc + 3) ls rest)) : W p l e R s m args below meth c H locs cells slots Q (F0 m pc ls st0) :=
  va_csv (va_runS (As := As) (rest := rest) Sf hM cw ⟨wPR.blind, wPR.of (hP.sub is (fm_of hW)) (hK.sub ts hT) hN⟩ rfl hn hsize hstack (lv_room hW8) hdg hf).run (fun _ => kk)
theorem kRNi {post : Int32 → Prop} (Sf : CallFix p m c cc nL s args Ts own) (hM : Met l y ws rm (va_Pc As (wPR D tys' Wd')) (vp_Si post) 0 0 (fun _ => False)) (cw : va_CN R s args own index y host bytes maxL ret ws rm 0 0 n ∧ (Cond.static y).before args s = true ∧ True)
    (hP : va_P D vwCl Wd H) (hK : va_K D vwCl tys s) (hN : KS s) (is : List Nat) (hW : is.map (fun i => Wd[i]?) = Wd'.map some) (ts : List Nat) (hT : ts.filterMap (fun i => tys[i]?) = tys')
    (hn : As.length = n) (hsize : ls.size = nL) (hstack : st0 = As.reverse ++ rest) (hW8 : (rest.map fun v => v.category).sum ≤ 8) (hdg : decode cc pc = .ok (.invokestatic index, 3)) (hf : cells ≤ R.cells ∧ slots ≤ R.slots)
    (kk : ∀ r : Int32, post r → W p l e R s m args below meth c H locs cells slots Q (F0 m (pc + 3) ls (.int r :: rest))) : W p l e R s m args below meth c H locs cells slots Q (F0 m pc ls st0) :=
  vp_callSi (va_runSN (As := As) (rest := rest) Sf hM cw ⟨wPR.blind, wPR.of (hP.sub is (fm_of hW)) (hK.sub ts hT) hN⟩ rfl hn hsize hstack (lv_room hW8) hdg hf).run kk
-- calls of what changes its world
section CQ
variable {S : Type} {w W2 : S → va_W} {wr : va_W} {A : Nat → Prop} {H0 : Heap}
theorem kQVi {post : Int32 → S → Prop} (Sf : CallFix p m c cc nL s args Ts own) (hM : Met l y ws rm (va_Pc (.ref b :: As) (wPQ D tys' H.size Wd')) (va_Qi post (wB D tys' (va_A Wd' H.size) w) (va_A Wd' H.size)) mc ms (va_A Wd' H.size)) (cw : CallW R s args own C index y bytes maxL ret ws rm mc ms n)
    (hP : va_P D vwCl Wd H) (hD : va_D A Wd) (hK : va_K D vwCl tys s) (hN : KS s) (hS : va_S A H0 H locs) (hA : ∀ q, H0.size ≤ q → A q) (is : List Nat) (hnd : va_nd is = true) (hW : is.map (fun i => Wd[i]?) = Wd'.map some) (ir : List Nat) (hrn : va_nd ir = true) (hR : ir.map (fun i => Wd[i]?) = wr.map some) (hdis : ∀ i ∈ ir, i ∉ is) (pm : List Nat) (hpn : va_nd pm = true) (hpm : ∀ u, pm.map (fun i => (wr ++ w u)[i]?) = (W2 u).map some) (ts : List Nat) (hT : ts.filterMap (fun i => tys[i]?) = tys') (hci : vwCl[ci]? = some (C, T, N)) (hq0 : Wd'[0]? = some (b, .inr (ci, fs)))
    (hn : As.length = n) (hsize : ls.size = nL) (hstack : st0 = As.reverse ++ .ref b :: rest) (hW8 : (rest.map fun v => v.category).sum ≤ 8) (hdg : decode cc pc = .ok (.invokevirtual index, 3)) (hf : cells + mc ≤ R.cells ∧ slots + ms ≤ R.slots)
    (kk : ∀ (r : Int32) (u : S) (H1 : Heap) (locs1 : List Loc), post r u → va_P D vwCl (W2 u) H1 → va_D A (W2 u) → va_S A H0 H1 locs1 → W p l e R s m args below meth c H1 locs1 (cells + mc) (slots + ms) Q (F0 m (pc + 3) ls (.int r :: rest))) : W p l e R s m args below meth c H locs cells slots Q (F0 m pc ls st0) := by
  have hFc := va_free (wc := Wd') hD hS hA is hW
  refine va_calli (va_runV (As := As) (rest := rest) Sf hM cw ⟨wPQ.blind, va_recv hK (hP.sub is (fm_of hW)) hci hq0, wPQ.of (hP.sub is (fm_of hW)) (hK.sub ts hT) hN (hD.sub is hnd hW)⟩ rfl hn hsize hstack (lv_room hW8) hdg hf) hS (fun q _ h => hFc q h) hFc (fun r u t H1 locs1 ht hvm hw hB hz1 hk1 hS1 => ?_)
  obtain ⟨hP1, hK1, hD1⟩ := hB
  rw [ht] at hP1
  obtain ⟨hP2, hD2⟩ := va_join hP hD is ir hW hR hrn hdis hk1 hFc hP1 hD1
  exact kk r u H1 locs1 hw (hP2.sub pm (fm_of (hpm u))) (hD2.sub pm hpn (hpm u)) hS1
theorem kQVl {post : Int64 → S → Prop} (Sf : CallFix p m c cc nL s args Ts own) (hM : Met l y ws rm (va_Pc (.ref b :: As) (wPQ D tys' H.size Wd')) (va_Ql post (wB D tys' (va_A Wd' H.size) w) (va_A Wd' H.size)) mc ms (va_A Wd' H.size)) (cw : CallW R s args own C index y bytes maxL ret ws rm mc ms n)
    (hP : va_P D vwCl Wd H) (hD : va_D A Wd) (hK : va_K D vwCl tys s) (hN : KS s) (hS : va_S A H0 H locs) (hA : ∀ q, H0.size ≤ q → A q) (is : List Nat) (hnd : va_nd is = true) (hW : is.map (fun i => Wd[i]?) = Wd'.map some) (ir : List Nat) (hrn : va_nd ir = true) (hR : ir.map (fun i => Wd[i]?) = wr.map some) (hdis : ∀ i ∈ ir, i ∉ is) (pm : List Nat) (hpn : va_nd pm = true) (hpm : ∀ u, pm.map (fun i => (wr ++ w u)[i]?) = (W2 u).map some) (ts : List Nat) (hT : ts.filterMap (fun i => tys[i]?) = tys') (hci : vwCl[ci]? = some (C, T, N)) (hq0 : Wd'[0]? = some (b, .inr (ci, fs)))
    (hn : As.length = n) (hsize : ls.size = nL) (hstack : st0 = As.reverse ++ .ref b :: rest) (hW8 : (rest.map fun v => v.category).sum ≤ 8) (hdg : decode cc pc = .ok (.invokevirtual index, 3)) (hf : cells + mc ≤ R.cells ∧ slots + ms ≤ R.slots)
    (kk : ∀ (r : Int64) (u : S) (H1 : Heap) (locs1 : List Loc), post r u → va_P D vwCl (W2 u) H1 → va_D A (W2 u) → va_S A H0 H1 locs1 → W p l e R s m args below meth c H1 locs1 (cells + mc) (slots + ms) Q (F0 m (pc + 3) ls (.long r :: rest))) : W p l e R s m args below meth c H locs cells slots Q (F0 m pc ls st0) := by
  have hFc := va_free (wc := Wd') hD hS hA is hW
  refine va_calll (va_runV (As := As) (rest := rest) Sf hM cw ⟨wPQ.blind, va_recv hK (hP.sub is (fm_of hW)) hci hq0, wPQ.of (hP.sub is (fm_of hW)) (hK.sub ts hT) hN (hD.sub is hnd hW)⟩ rfl hn hsize hstack (lv_room hW8) hdg hf) hS (fun q _ h => hFc q h) hFc (fun r u t H1 locs1 ht hvm hw hB hz1 hk1 hS1 => ?_)
  obtain ⟨hP1, hK1, hD1⟩ := hB
  rw [ht] at hP1
  obtain ⟨hP2, hD2⟩ := va_join hP hD is ir hW hR hrn hdis hk1 hFc hP1 hD1
  exact kk r u H1 locs1 hw (hP2.sub pm (fm_of (hpm u))) (hD2.sub pm hpn (hpm u)) hS1
theorem kQVv {post : S → Prop} (Sf : CallFix p m c cc nL s args Ts own) (hM : Met l y ws rm (va_Pc (.ref b :: As) (wPQ D tys' H.size Wd')) (va_Qv post (wB D tys' (va_A Wd' H.size) w) (va_A Wd' H.size)) mc ms (va_A Wd' H.size)) (cw : CallW R s args own C index y bytes maxL ret ws rm mc ms n)
    (hP : va_P D vwCl Wd H) (hD : va_D A Wd) (hK : va_K D vwCl tys s) (hN : KS s) (hS : va_S A H0 H locs) (hA : ∀ q, H0.size ≤ q → A q) (is : List Nat) (hnd : va_nd is = true) (hW : is.map (fun i => Wd[i]?) = Wd'.map some) (ir : List Nat) (hrn : va_nd ir = true) (hR : ir.map (fun i => Wd[i]?) = wr.map some) (hdis : ∀ i ∈ ir, i ∉ is) (pm : List Nat) (hpn : va_nd pm = true) (hpm : ∀ u, pm.map (fun i => (wr ++ w u)[i]?) = (W2 u).map some) (ts : List Nat) (hT : ts.filterMap (fun i => tys[i]?) = tys') (hci : vwCl[ci]? = some (C, T, N)) (hq0 : Wd'[0]? = some (b, .inr (ci, fs)))
    (hn : As.length = n) (hsize : ls.size = nL) (hstack : st0 = As.reverse ++ .ref b :: rest) (hW8 : (rest.map fun v => v.category).sum ≤ 8) (hdg : decode cc pc = .ok (.invokevirtual index, 3)) (hf : cells + mc ≤ R.cells ∧ slots + ms ≤ R.slots)
    (kk : ∀ (u : S) (H1 : Heap) (locs1 : List Loc), post u → va_P D vwCl (W2 u) H1 → va_D A (W2 u) → va_S A H0 H1 locs1 → W p l e R s m args below meth c H1 locs1 (cells + mc) (slots + ms) Q (F0 m (pc + 3) ls rest)) : W p l e R s m args below meth c H locs cells slots Q (F0 m pc ls st0) := by
  have hFc := va_free (wc := Wd') hD hS hA is hW
  refine va_callv (va_runV (As := As) (rest := rest) Sf hM cw ⟨wPQ.blind, va_recv hK (hP.sub is (fm_of hW)) hci hq0, wPQ.of (hP.sub is (fm_of hW)) (hK.sub ts hT) hN (hD.sub is hnd hW)⟩ rfl hn hsize hstack (lv_room hW8) hdg hf) hS (fun q _ h => hFc q h) hFc (fun u t H1 locs1 ht hvm hw hB hz1 hk1 hS1 => ?_)
  obtain ⟨hP1, hK1, hD1⟩ := hB
  rw [ht] at hP1
  obtain ⟨hP2, hD2⟩ := va_join hP hD is ir hW hR hrn hdis hk1 hFc hP1 hD1
  exact kk u H1 locs1 hw (hP2.sub pm (fm_of (hpm u))) (hD2.sub pm hpn (hpm u)) hS1
theorem kQSv {post : S → Prop} (Sf : CallFix p m c cc nL s args Ts own) (hM : Met l y ws rm (va_Pc As (wPQ D tys' H.size Wd')) (va_Qv post (wB D tys' (va_A Wd' H.size) w) (va_A Wd' H.size)) mc ms (va_A Wd' H.size)) (cw : CallB R s args own index y bytes maxL ret ws rm mc ms n ∧ (Cond.static y).before args s = true)
    (hP : va_P D vwCl Wd H) (hD : va_D A Wd) (hK : va_K D vwCl tys s) (hN : KS s) (hS : va_S A H0 H locs) (hA : ∀ q, H0.size ≤ q → A q) (is : List Nat) (hnd : va_nd is = true) (hW : is.map (fun i => Wd[i]?) = Wd'.map some) (ir : List Nat) (hrn : va_nd ir = true) (hR : ir.map (fun i => Wd[i]?) = wr.map some) (hdis : ∀ i ∈ ir, i ∉ is) (pm : List Nat) (hpn : va_nd pm = true) (hpm : ∀ u, pm.map (fun i => (wr ++ w u)[i]?) = (W2 u).map some) (ts : List Nat) (hT : ts.filterMap (fun i => tys[i]?) = tys')
    (hn : As.length = n) (hsize : ls.size = nL) (hstack : st0 = As.reverse ++ rest) (hW8 : (rest.map fun v => v.category).sum ≤ 8) (hdg : decode cc pc = .ok (.invokestatic index, 3)) (hf : cells + mc ≤ R.cells ∧ slots + ms ≤ R.slots)
    (kk : ∀ (u : S) (H1 : Heap) (locs1 : List Loc), post u → va_P D vwCl (W2 u) H1 → va_D A (W2 u) → va_S A H0 H1 locs1 → W p l e R s m args below meth c H1 locs1 (cells + mc) (slots + ms) Q (F0 m (pc + 3) ls rest)) : W p l e R s m args below meth c H locs cells slots Q (F0 m pc ls st0) := by
  have hFc := va_free (wc := Wd') hD hS hA is hW
  refine va_callv (va_runS (As := As) (rest := rest) Sf hM cw ⟨wPQ.blind, wPQ.of (hP.sub is (fm_of hW)) (hK.sub ts hT) hN (hD.sub is hnd hW)⟩ rfl hn hsize hstack (lv_room hW8) hdg hf) hS (fun q _ h => hFc q h) hFc (fun u t H1 locs1 ht hvm hw hB hz1 hk1 hS1 => ?_)
  obtain ⟨hP1, hK1, hD1⟩ := hB
  rw [ht] at hP1
  obtain ⟨hP2, hD2⟩ := va_join hP hD is ir hW hR hrn hdis hk1 hFc hP1 hD1
  exact kk u H1 locs1 hw (hP2.sub pm (fm_of (hpm u))) (hD2.sub pm hpn (hpm u)) hS1
theorem kQNv {post : S → Prop} (Sf : CallFix p m c cc nL s args Ts own) (hM : Met l y ws rm (va_Pc As (wPQ D tys' H.size Wd')) (va_Qv post (wB D tys' (va_A Wd' H.size) w) (va_A Wd' H.size)) mc ms (va_A Wd' H.size)) (cw : va_CN R s args own index y host bytes maxL ret ws rm mc ms n ∧ (Cond.static y).before args s = true ∧ True)
    (hP : va_P D vwCl Wd H) (hD : va_D A Wd) (hK : va_K D vwCl tys s) (hN : KS s) (hS : va_S A H0 H locs) (hA : ∀ q, H0.size ≤ q → A q) (is : List Nat) (hnd : va_nd is = true) (hW : is.map (fun i => Wd[i]?) = Wd'.map some) (ir : List Nat) (hrn : va_nd ir = true) (hR : ir.map (fun i => Wd[i]?) = wr.map some) (hdis : ∀ i ∈ ir, i ∉ is) (pm : List Nat) (hpn : va_nd pm = true) (hpm : ∀ u, pm.map (fun i => (wr ++ w u)[i]?) = (W2 u).map some) (ts : List Nat) (hT : ts.filterMap (fun i => tys[i]?) = tys')
    (hn : As.length = n) (hsize : ls.size = nL) (hstack : st0 = As.reverse ++ rest) (hW8 : (rest.map fun v => v.category).sum ≤ 8) (hdg : decode cc pc = .ok (.invokestatic index, 3)) (hf : cells + mc ≤ R.cells ∧ slots + ms ≤ R.slots)
    (kk : ∀ (u : S) (H1 : Heap) (locs1 : List Loc), post u → va_P D vwCl (W2 u) H1 → va_D A (W2 u) → va_S A H0 H1 locs1 → W p l e R s m args below meth c H1 locs1 (cells + mc) (slots + ms) Q (F0 m (pc + 3) ls rest)) : W p l e R s m args below meth c H locs cells slots Q (F0 m pc ls st0) := by
  have hFc := va_free (wc := Wd') hD hS hA is hW
  refine va_callv (va_runSN (As := As) (rest := rest) Sf hM cw ⟨wPQ.blind, wPQ.of (hP.sub is (fm_of hW)) (hK.sub ts hT) hN (hD.sub is hnd hW)⟩ rfl hn hsize hstack (lv_room hW8) hdg hf) hS (fun q _ h => hFc q h) hFc (fun u t H1 locs1 ht hvm hw hB hz1 hk1 hS1 => ?_)
  obtain ⟨hP1, hK1, hD1⟩ := hB
  rw [ht] at hP1
  obtain ⟨hP2, hD2⟩ := va_join hP hD is ir hW hR hrn hdis hk1 hFc hP1 hD1
  exact kk u H1 locs1 hw (hP2.sub pm (fm_of (hpm u))) (hD2.sub pm hpn (hpm u)) hS1
theorem kQIv {post : S → Prop} (Sf : CallFix p m c cc nL s args Ts own) (hM : Met l y ws rm (va_Pc (.ref b :: As) (wPQ D tys' H.size Wd')) (va_Qv post (wB D tys' (va_A Wd' H.size) w) (va_A Wd' H.size)) mc ms (va_A Wd' H.size)) (cw : CallB R s args own index y bytes maxL none ws rm mc ms n ∧ y.name = "<init>" ∧ (Cond.instanceMethod y).before args s = true)
    (hP : va_P D vwCl Wd H) (hD : va_D A Wd) (hK : va_K D vwCl tys s) (hN : KS s) (hS : va_S A H0 H locs) (hA : ∀ q, H0.size ≤ q → A q) (is : List Nat) (hnd : va_nd is = true) (hW : is.map (fun i => Wd[i]?) = Wd'.map some) (ir : List Nat) (hrn : va_nd ir = true) (hR : ir.map (fun i => Wd[i]?) = wr.map some) (hdis : ∀ i ∈ ir, i ∉ is) (pm : List Nat) (hpn : va_nd pm = true) (hpm : ∀ u, pm.map (fun i => (wr ++ w u)[i]?) = (W2 u).map some) (ts : List Nat) (hT : ts.filterMap (fun i => tys[i]?) = tys')
    (hn : As.length = n) (hsize : ls.size = nL) (hstack : st0 = As.reverse ++ .ref b :: rest) (hW8 : (rest.map fun v => v.category).sum ≤ 8) (hdg : decode cc pc = .ok (.invokespecial index, 3)) (hf : cells + mc ≤ R.cells ∧ slots + ms ≤ R.slots)
    (kk : ∀ (u : S) (H1 : Heap) (locs1 : List Loc), post u → va_P D vwCl (W2 u) H1 → va_D A (W2 u) → va_S A H0 H1 locs1 → W p l e R s m args below meth c H1 locs1 (cells + mc) (slots + ms) Q (F0 m (pc + 3) ls rest)) : W p l e R s m args below meth c H locs cells slots Q (F0 m pc ls st0) := by
  have hFc := va_free (wc := Wd') hD hS hA is hW
  refine va_callv (va_runI (As := As) (rest := rest) Sf hM cw ⟨wPQ.blind, wPQ.of (hP.sub is (fm_of hW)) (hK.sub ts hT) hN (hD.sub is hnd hW)⟩ rfl hn hsize hstack (lv_room hW8) hdg hf) hS (fun q _ h => hFc q h) hFc (fun u t H1 locs1 ht hvm hw hB hz1 hk1 hS1 => ?_)
  obtain ⟨hP1, hK1, hD1⟩ := hB
  rw [ht] at hP1
  obtain ⟨hP2, hD2⟩ := va_join hP hD is ir hW hR hrn hdis hk1 hFc hP1 hD1
  exact kk u H1 locs1 hw (hP2.sub pm (fm_of (hpm u))) (hD2.sub pm hpn (hpm u)) hS1
/-- a new row of ints, whose class is the one known -/
theorem newI {cA : ClassId} (hexec : p.tables.exec = Jvm.exec) (hb : c.code = cc) (harr : (Cond.arrayClass .int).before args s = true) (hK : va_K D vwCl tys s) (hP : va_P D vwCl Wd H) (hD : va_D A Wd) (hS : va_S A H0 H locs) (hA : ∀ q, H0.size ≤ q → A q) (t0 : Nat) (ht : tys[t0]? = some (cA, .int))
    {nn : Int32} {N' : Nat} (hn : ¬ nn < 0) (hN : nn.toNatClampNeg = N') (hbytes : N' * componentBytes .int ≤ 536870912) (hcells : cells + 1 ≤ R.cells) (hslots : slots + N' ≤ R.slots) (hdg : decode cc pc = .ok (.newarray .int, 2))
    (kk : ∀ (q : Nat) (H1 : Heap), va_P D vwCl (Wd ++ [(q, .inl (cA, N', .inl (fun _ => 0)))]) H1 → va_D A (Wd ++ [(q, .inl (cA, N', .inl (fun _ => 0)))]) → va_S A H0 H1 locs →
      W p l e R s m args below meth c H1 locs (cells + 1) (slots + N') Q (F0 m (pc + 2) ls (.ref q :: rest))) : W p l e R s m args below meth c H locs cells slots Q (F0 m pc ls (.int nn :: rest)) := by
  refine va_newa (atype := .int) (ty := .int) (a0 := (N', .inl (fun _ => 0))) hexec hb harr rfl hK hP hD hS hA (fun cA => rfl) hn hN hbytes hcells hslots hdg (fun q cB H1 hK1 hP1 hD1 hS1 => ?_)
  have h1 := (hK.2 t0 _ ht).2
  have h2 := (hK1.2 tys.length (cB, .int) (by simp)).2
  have h3 : cB = cA := Option.some.inj ((show s.vm.findClass _ = some cB from h2).symm.trans (show s.vm.findClass _ = some cA from h1))
  subst h3
  exact kk q H1 hP1 hD1 hS1
end CQ
end KB
/-- the class of the rows of ints, out of the tables' word -/
theorem arrI {s : State} {args : Array Value} (h : (Cond.arrayClass .int).before args s = true) : ∃ cA : ClassId, ArrOfT s cA .int ∧ va_RA s cA .int := by
  obtain ⟨cA, kA, comp, h1, h2, h3⟩ := Cond.arrayClass_spec (show (Cond.arrayClass .int).holds args s none s [] = true from h)
  exact ⟨cA, fun n z => ⟨fun k h => (by cases h), kA, h2, comp, h3⟩, h1⟩
theorem arrL {s : State} {args : Array Value} (h : (Cond.arrayClass .long).before args s = true) : ∃ cA : ClassId, ArrOfT s cA .long ∧ va_RA s cA .long := by
  obtain ⟨cA, kA, comp, h1, h2, h3⟩ := Cond.arrayClass_spec (show (Cond.arrayClass .long).holds args s none s [] = true from h)
  exact ⟨cA, fun n z => ⟨fun k h => (by cases h), kA, h2, comp, h3⟩, h1⟩
/-- two pictures of one row, which are the same within -/
theorem va_P.ext {D : va_G} {ws ws' : va_W} {H : Heap} (h : va_P D vwCl ws H) (q0 : Nat) {a n : Nat} {cA : ClassId} {f g : Nat → Int32} (h0 : ws[q0]? = some (a, .inl (cA, n, .inl f))) (hfg : ∀ j, j < n → f j = g j) (hw : ws.set q0 (a, .inl (cA, n, .inl g)) = ws') : va_P D vwCl ws' H := by
  subst hw
  intro k q hk
  by_cases hkq : k = q0
  · subst hkq
    have hl := (List.getElem?_eq_some_iff.mp h0).1
    rw [List.getElem?_set_self hl] at hk
    cases hk
    have h1 : H[a]? = some (vp_cell cA (n, .inl f)) := h k _ h0
    show H[a]? = some (vp_cell cA (n, .inl g))
    rw [h1, vp_cell_i, vp_cell_i]
    have h2 : (fun j : Fin n => Value.int (f j.val)) = (fun j : Fin n => Value.int (g j.val)) := funext fun j => by rw [hfg j.val j.isLt]
    exact congrArg (fun z : Fin n → Value => some ({ cls := cA, slots := Array.ofFn (n := n) z, vm := .none } : Cell)) h2
  · rw [List.getElem?_set_ne (Ne.symm hkq)] at hk
    exact h k q hk
end
section
/-! ===== the class in words of its own: pure functions that follow its methods ===== -/
abbrev wM (cI : ClassId) (a : Nat → Nat) (pa pe st bn hc hm : Nat → Int32) (C R lo : Int32) : va_W := [(a 0, .inr (0, [.ref (a 1), .ref (a 2), .ref (a 3), .ref (a 4), .ref (a 5), .ref (a 6), .int C, .int R, .int lo])), (a 1, .inl (cI, 72, .inl pa)), (a 2, .inl (cI, 72, .inl pe)), (a 3, .inl (cI, 72, .inl st)), (a 4, .inl (cI, 9, .inl bn)), (a 5, .inl (cI, 2, .inl hc)), (a 6, .inl (cI, 2, .inl hm))]
abbrev wX (x : Nat) (a b : Nat → Nat) : va_W := [(x, .inr (1, [.ref (a 0), .ref (b 0)]))]
abbrev wA (cI : ClassId) (q n : Nat) (f : Nat → Int32) : va_W := [(q, .inl (cI, n, .inl f))]
abbrev wL (cL : ClassId) (q n : Nat) (f : Nat → Int64) : va_W := [(q, .inl (cL, n, .inr (.inl f)))]
abbrev wN (cI : ClassId) (a : Nat → Nat) (pt pd ab nw kp wy : Nat → Int32) (th C R tn : Int32) : va_W := [(a 0, .inr (2, [.int th, .int C, .int R, .ref (a 1), .ref (a 2), .ref (a 3), .ref (a 4), .ref (a 5), .int tn, .ref (a 6)])), (a 1, .inl (cI, 72, .inl pt)), (a 2, .inl (cI, 72, .inl pd)), (a 3, .inl (cI, 2, .inl ab)), (a 4, .inl (cI, 84, .inl nw)), (a 5, .inl (cI, 84, .inl kp)), (a 6, .inl (cI, 8, .inl wy))]
def bi (b : Bool) : Int32 := if b then 1 else 0
theorem bi_t {b : Bool} (h : b = true) : bi b = 1 := by subst h; rfl
theorem bi_f {b : Bool} (h : b = false) : bi b = 0 := by subst h; rfl
theorem bi01 (b : Bool) : bi b = 0 ∨ bi b = 1 := by cases b <;> simp [bi]
theorem bi_e0 (b : Bool) : (bi b = 0) = (b = false) := by cases b <;> simp [bi]
theorem bi_e1 (b : Bool) : (bi b = 1) = (b = true) := by cases b <;> simp [bi]
theorem clampLt (x : Int32) : x.toNatClampNeg < 2 ^ 31 := by
  have h := x.toInt_lt
  have h2 : x.toNatClampNeg = x.toInt.toNat := rfl
  omega
theorem clampE (x : Int32) : x.toNatClampNeg = x.toInt.toNat := rfl
theorem lc_le {x : Int32} {k : Nat} (hk : k < 2 ^ 31) : x ≤ nI k ↔ x.toNatClampNeg ≤ k := by
  rw [Int32.le_iff_toInt_le, nI_toInt hk, clampE]
  omega
theorem in_cmp {x : Int32} {n : Nat} (hn : n < 2 ^ 31) (h1 : ¬ x < 0) (h2 : ¬ nI n ≤ x) : vp_in x n := by
  rcases pk_ix x hn with h | h | ⟨j, hj, rfl⟩
  · exact absurd h h1
  · exact absurd h h2
  · exact vp_in_nI hj hn
theorem sw_1_5 (x : Int32) : x = 1 ∨ x = 2 ∨ x = 3 ∨ x = 4 ∨ x = 5 ∨ ((x.toInt < 1 ∨ 5 < x.toInt) ∧ ¬ x = 1 ∧ ¬ x = 2 ∧ ¬ x = 3 ∧ ¬ x = 4 ∧ ¬ x = 5) := by
  have e : ∀ y : Int32, x = y ↔ x.toInt = y.toInt := fun y => ⟨fun h => by rw [h], fun h => Int32.toInt_inj.mp h⟩
  have q1 : (1 : Int32).toInt = 1 := by decide
  have q2 : (2 : Int32).toInt = 2 := by decide
  have q3 : (3 : Int32).toInt = 3 := by decide
  have q4 : (4 : Int32).toInt = 4 := by decide
  have q5 : (5 : Int32).toInt = 5 := by decide
  simp only [e, q1, q2, q3, q4, q5]
  omega
def xcl (n : Nat) (f : Nat → Int32) (i : Int32) : Int32 := if i < 0 then 0 else if nI n ≤ i then 0 else f i.toNatClampNeg
def xsc (n : Nat) (f : Nat → Int32) (i v : Int32) : Nat → Int32 := if i < 0 then f else if nI n ≤ i then f else upd f i.toNatClampNeg v
def xhas (C i : Int32) : Bool := if i < 0 then false else if C ≤ i then false else true
def xRight (pa st : Nat → Int32) (q : Int32) : Bool := if xcl 72 pa q = 3 then (if xcl 72 st q = 1 then true else false) else false
def xCnt (pa st : Nat → Int32) (q : Int32) : Int32 := if xcl 72 pa q = 5 then xcl 72 st q else 0
/-- how many toggles, from place k on, n places -/
def xTogL (pa : Nat → Int32) : Nat → Nat → Int32 → Int32
  | 0, _, t => t
  | n + 1, k, t => xTogL pa n (k + 1) (if pa k = 3 then t + 1 else t)
def xTog (pa : Nat → Int32) : Int32 := xTogL pa 72 0 0
def xNumL (pa st : Nat → Int32) (C r : Int32) : Nat → Nat → Int32 → Int32 → Int32
  | 0, _, t, _ => t
  | n + 1, k, t, w => if xcl 72 pa (r * C + nI k) = 3 then xNumL pa st C r n (k + 1) (t + if xRight pa st (r * C + nI k) = true then w else 0) (w * 2) else xNumL pa st C r n (k + 1) t w
def xNum (pa st : Nat → Int32) (C r : Int32) : Int32 := xNumL pa st C r C.toNatClampNeg 0 0 1
def xUnlL (pa st pa2 st2 : Nat → Int32) : Nat → Nat → Int32 → Int32
  | 0, _, t => t
  | n + 1, k, t => xUnlL pa st pa2 st2 n (k + 1) (if bi (xRight pa st (nI k)) = bi (xRight pa2 st2 (nI k)) then t else t + 1)
def xUnl (pa st pa2 st2 : Nat → Int32) : Int32 := xUnlL pa st pa2 st2 72 0 0
def xSameL (st st2 : Nat → Int32) : Nat → Nat → Bool
  | 0, _ => true
  | n + 1, k => if xcl 72 st (nI k) = xcl 72 st2 (nI k) then xSameL st st2 n (k + 1) else false
def xSame (st st2 : Nat → Int32) : Bool := xSameL st st2 72 0
/-- which way out of a place, and the states behind it -/
def xWayS (pe st : Nat → Int32) (q : Int32) : Int32 × (Nat → Int32) :=
  if xcl 72 st q + 1 < xcl 72 pe q then (-1, xsc 72 st q (xcl 72 st q + 1)) else (1, xsc 72 st q 0)
def xWay (pa pe st : Nat → Int32) (q came : Int32) : Int32 × (Nat → Int32) :=
  if xcl 72 pa q = 1 then (-1, st) else if xcl 72 pa q = 2 then (1, st) else if xcl 72 pa q = 4 then (came, st) else if xcl 72 pa q = 3 then xWayS pe st q else if xcl 72 pa q = 5 then xWayS pe st q else (0, st)
def xFallL (pa pe : Nat → Int32) (C : Int32) : Nat → Nat → Int32 → Int32 → (Nat → Int32) → Int32 × (Nat → Int32)
  | 0, _, at_, _, st => (at_, st)
  | n + 1, k, at_, way, st =>
    if xhas C (at_ + (xWay pa pe st (nI k * C + at_) way).1) = true then xFallL pa pe C n (k + 1) (at_ + (xWay pa pe st (nI k * C + at_) way).1) (xWay pa pe st (nI k * C + at_) way).1 (xWay pa pe st (nI k * C + at_) way).2
    else (-1, (xWay pa pe st (nI k * C + at_) way).2)
def xFall (pa pe st : Nat → Int32) (C col row : Int32) : Int32 × (Nat → Int32) := xFallL pa pe C row.toNatClampNeg 0 col 0 st
def xLandBn (bn : Nat → Int32) (r : Int32) : Nat → Int32 := if r = -1 then bn else xsc 9 bn r (xcl 9 bn r + 1)
def xLandLo (lo r : Int32) : Int32 := if r = -1 then lo + 1 else lo
def xSumL (bn : Nat → Int32) : Nat → Nat → Int32 → Int32
  | 0, _, t => t
  | n + 1, k, t => xSumL bn n (k + 1) (t + bn k)
def xSum (bn : Nat → Int32) : Int32 := xSumL bn 9 0 0
def xBehind (C bin : Int32) : Int32 := if bin = -1 then -1 else if 2 * bin = C - 1 then -1 else if 2 * bin < C - 1 then 0 else 1
def xRunL (pa pe hc : Nat → Int32) (C R : Int32) : Nat → Nat → Int32 → (Nat → Int32) → (Nat → Int32) → Int32 → (Nat → Int32) → Int32 × (Nat → Int32) × (Nat → Int32) × Int32 × (Nat → Int32)
  | 0, k, _, st, bn, lo, hm => (nI k, st, bn, lo, hm)
  | n + 1, k, fr, st, bn, lo, hm =>
    if fr = -1 then (nI k, st, bn, lo, hm)
    else if xcl 2 hm fr ≤ 0 then (nI k, st, bn, lo, hm)
    else xRunL pa pe hc C R n (k + 1) (xBehind C (xFall pa pe st C (xcl 2 hc fr) R).1) (xFall pa pe st C (xcl 2 hc fr) R).2 (xLandBn bn (xFall pa pe st C (xcl 2 hc fr) R).1) (xLandLo lo (xFall pa pe st C (xcl 2 hc fr) R).1) (xsc 2 hm fr (xcl 2 hm fr - 1))
def xRun (pa pe st bn hc hm : Nat → Int32) (C R lo hop most : Int32) : Int32 × (Nat → Int32) × (Nat → Int32) × Int32 × (Nat → Int32) := xRunL pa pe hc C R most.toNatClampNeg 0 hop st bn lo hm
def adr7 (h q1 q2 q3 q4 q5 q6 : Nat) : Nat → Nat
  | 0 => h
  | 1 => q1
  | 2 => q2
  | 3 => q3
  | 4 => q4
  | 5 => q5
  | _ => q6
theorem xsc_n {n k : Nat} (hk : k < n) (hn : n < 2 ^ 31) (f : Nat → Int32) (v : Int32) : xsc n f (nI k) v = upd f k v := by
  rw [xsc, if_neg (nI_pos (by omega)), if_neg (nI_ge hk hn), nI_clamp (by omega)]
theorem xcl_n {n k : Nat} (hk : k < n) (hn : n < 2 ^ 31) (f : Nat → Int32) : xcl n f (nI k) = f k := by
  rw [xcl, if_neg (nI_pos (by omega)), if_neg (nI_ge hk hn), nI_clamp (by omega)]
theorem xsc_fill {n k : Nat} (hn : n < 2 ^ 31) (hk : k < n) {f g : Nat → Int32} (h : ∀ j, j < k → g j = f j) : ∀ j, j < k + 1 → xsc n g (nI k) (f k) j = f j := by
  intro j hj
  rw [xsc_n hk hn]
  unfold upd
  by_cases e : j = k
  · rw [if_pos e, e]
  · rw [if_neg e]; exact h j (by omega)
theorem upd_fill {k : Nat} {v : Int32} {g : Nat → Int32} (h : ∀ j, j < k → g j = v) : ∀ j, j < k + 1 → upd g k v j = v := by
  intro j hj
  unfold upd
  by_cases e : j = k
  · rw [if_pos e]
  · rw [if_neg e]; exact h j (by omega)
end
section
/-! ===== the class's calls in pure words ===== -/
abbrev MS : Type := (Nat → Int32) × (Nat → Int32) × (Nat → Int32) × (Nat → Int32) × (Nat → Int32) × (Nat → Int32) × Int32 × Int32 × Int32
def xin (v lo hi : Int32) : Bool := if v < lo then false else if v ≤ hi then true else false
theorem xin_spec {v lo hi : Int32} (h : xin v lo hi = true) : ¬ v < lo ∧ v ≤ hi := by
  unfold xin at h
  by_cases a : v < lo
  · simp [a] at h
  · by_cases b : v ≤ hi
    · exact ⟨a, b⟩
    · simp [a, b] at h
theorem xhas_spec {C i : Int32} (h : xhas C i = true) : ¬ i < 0 ∧ ¬ C ≤ i := by
  unfold xhas at h
  by_cases a : i < 0
  · simp [a] at h
  · by_cases b : C ≤ i
    · simp [a, b] at h
    · exact ⟨a, b⟩
theorem xhas_2 {i : Int32} (h : xhas 2 i = true) : i < 2 := Int32.not_le.mp (xhas_spec h).2
theorem xhas_n {C : Int32} {k : Nat} (h : k < C.toNatClampNeg) : xhas C (nI k) = true := by
  have h1 := clampLt C
  have a : ¬ nI k < 0 := nI_pos (by omega)
  have b : ¬ C ≤ nI k := by rw [lc_le (by omega)]; omega
  rw [xhas, if_neg a, if_neg b]
def xWTurn (pa pe st : Nat → Int32) (C R col : Int32) : Int32 := xUnl pa (xFall pa pe st C col R).2 pa st
def xLastL (pa pe : Nat → Int32) (C R col : Int32) : Nat → Int32 → (Nat → Int32) → Int32
  | 0, en, _ => en
  | n + 1, _, sv => xLastL pa pe C R col n (xFall pa pe sv C col R).1 (xFall pa pe sv C col R).2
def xLast (pa pe st : Nat → Int32) (C R col mm : Int32) : Int32 := xLastL pa pe C R col mm.toNatClampNeg (-1) st
def xAsbL (pa pe st : Nat → Int32) (C R col : Int32) : Nat → Nat → (Nat → Int32) → Int32
  | 0, _, _ => -1
  | n + 1, k, sv => if xSame (xFall pa pe sv C col R).2 st = true then nI k else xAsbL pa pe st C R col n (k + 1) (xFall pa pe sv C col R).2
def xAsb (pa pe st : Nat → Int32) (C R col : Int32) : Int32 := xAsbL pa pe st C R col 60 1 st
def xBestL (pa pe st : Nat → Int32) (C R : Int32) : Nat → Nat → Int32 → Int32 → Int32
  | 0, _, be, _ => be
  | n + 1, k, be, mo => if xWTurn pa pe st C R (nI k) ≤ mo then xBestL pa pe st C R n (k + 1) be mo else xBestL pa pe st C R n (k + 1) (nI k) (xWTurn pa pe st C R (nI k))
def xBest (pa pe st : Nat → Int32) (C R : Int32) : Int32 := xBestL pa pe st C R C.toNatClampNeg 0 0 0
abbrev dg (d : Int64) (v : Int32) : Int64 := d * 31 + v.toInt64
def xDig4 (pa st : Nat → Int32) (C : Int32) (r : Nat) : Nat → Nat → Int64 → Int64
  | 0, _, d => d
  | n + 1, k, d => xDig4 pa st C r n (k + 1) (dg (dg (dg d (xcl 72 pa (nI r * C + nI k))) (if xRight pa st (nI r * C + nI k) = true then 1 else 0)) (xCnt pa st (nI r * C + nI k)))
def xDig3 (pa pe st bn hc hm : Nat → Int32) (C R lo : Int32) : Nat → Nat → Int64 → Int64
  | 0, _, d => d
  | n + 1, k, d => xDig3 pa pe st bn hc hm C R lo n (k + 1) (dg (dg (dg (dg d (xcl 9 bn (nI k))) (xFall pa pe st C (nI k) R).1) (xWTurn pa pe st C R (nI k))) (xAsb pa pe st C R (nI k)))
def xDig2 (pa pe st bn hc hm : Nat → Int32) (C R lo : Int32) : Nat → Nat → Int64 → Int64
  | 0, _, d => xDig3 pa pe st bn hc hm C R lo C.toNatClampNeg 0 d
  | n + 1, k, d => xDig2 pa pe st bn hc hm C R lo n (k + 1) (xDig4 pa st C k C.toNatClampNeg 0 (dg d (xNum pa st C (nI k))))
def xDig1 (pa pe st bn hc hm : Nat → Int32) (C R lo : Int32) : Nat → Nat → Int64 → Int64
  | 0, _, d => xDig2 pa pe st bn hc hm C R lo R.toNatClampNeg 0 d
  | n + 1, k, d => xDig1 pa pe st bn hc hm C R lo n (k + 1) (dg (dg (dg d (xcl 2 hm (nI k))) (xcl 2 hc (nI k))) (xRun pa pe st bn hc hm C R lo (nI k) 99).1)
def xDig (pa pe st bn hc hm : Nat → Int32) (C R lo : Int32) : Int64 := xDig1 pa pe st bn hc hm C R lo 2 0 (dg (dg (dg (dg (dg 2239 C) R) lo) (xTog pa)) (xBest pa pe st C R))
theorem nf_t {b : Bool} (h : ¬ b = false) : b = true := by cases b <;> simp_all
end
section
/-! ===== calls that throw: the class's own exceptions leave a method, and are caught in the law ===== -/
abbrev eIO : String := "java/lang/IndexOutOfBoundsException"
abbrev eIA : String := "java/lang/IllegalArgumentException"
abbrev eIS : String := "java/lang/IllegalStateException"
abbrev eNm : List String := ["java/lang/RuntimeException", "java/lang/Exception"]
def XT (E : String) : String → State → State → Prop := fun E' st t => E' = E ∧ st.heap.size ≤ t.heap.size ∧ ∀ q : Nat, q < st.heap.size → t.heap[q]? = st.heap[q]?
def XN : Array Value → State → Outcome → State → Prop := fun _ _ _ _ => False
def KX (U : State) : Prop := (∃ a, vk_R RX1 195 "there is no such column" a U) ∧ (∃ a, vk_R RX1 197 "there is no such hopper" a U) ∧ (∃ a, vk_R RX1 189 "there is no such row" a U) ∧ (∃ a, vk_R RX1 201 "a number is too small or too large" a U) ∧ (∃ a, vk_R RX1 44 "there is no toggle" a U) ∧ va_Nw (.castable eIO eIO) U ∧ va_Nw (.castable eIA eIA) U ∧ va_Nw (.castable eIS eIS) U ∧ va_Nc eIA eIO U ∧ va_Nc eIS eIO U ∧ va_Nw (.declares (Bundle.initS "java/lang/RuntimeException")) U ∧ va_Nw (.declares (Bundle.initS "java/lang/Exception")) U ∧ va_Nw (.declares (Bundle.initS Bundle.tN)) U
theorem KX.warm {s U : State} (hW : s.WarmedH U.vm) (h : KX s) : KX U := by
  obtain ⟨⟨a1, h1⟩, ⟨a2, h2⟩, ⟨a3, h3⟩, ⟨a4, h4⟩, ⟨a5, h5⟩, h6, h7, h8, h9, h10, h11, h12, h13⟩ := h
  exact ⟨⟨a1, vk_R.warm hW h1⟩, ⟨a2, vk_R.warm hW h2⟩, ⟨a3, vk_R.warm hW h3⟩, ⟨a4, vk_R.warm hW h4⟩, ⟨a5, vk_R.warm hW h5⟩, va_Nw.warmC hW h6, va_Nw.warmC hW h7, va_Nw.warmC hW h8, h9.moved hW.alike, h10.moved hW.alike, va_Nw.warmD hW h11, va_Nw.warmD hW h12, va_Nw.warmD hW h13⟩
theorem KX.same {u U : State} (hv : U.vm = u.vm) (h : KX u) : KX U := by
  obtain ⟨⟨a1, h1⟩, ⟨a2, h2⟩, ⟨a3, h3⟩, ⟨a4, h4⟩, ⟨a5, h5⟩, h6, h7, h8, h9, h10, h11, h12, h13⟩ := h
  exact ⟨⟨a1, vk_R.same hv h1⟩, ⟨a2, vk_R.same hv h2⟩, ⟨a3, vk_R.same hv h3⟩, ⟨a4, vk_R.same hv h4⟩, ⟨a5, vk_R.same hv h5⟩, va_Nw.same rfl hv.symm h6, va_Nw.same rfl hv.symm h7, va_Nw.same rfl hv.symm h8, h9.moved (by rw [hv]; exact Vm.Alike.refl u.vm), h10.moved (by rw [hv]; exact Vm.Alike.refl u.vm), va_Nw.same rfl hv.symm h11, va_Nw.same rfl hv.symm h12, va_Nw.same rfl hv.symm h13⟩
/-- Throwable's two statics, in cells that are old -/
def ZA (A : Nat → Prop) (U : State) (H : Heap) : Prop := vx_Zq Bundle.tN "UNASSIGNED_STACK" Bundle.steD A U H ∧ vx_Zq Bundle.tN "SUPPRESSED_SENTINEL" Bundle.listD A U H
def ZS (U : State) (H : Heap) : Prop := ZA (fun q => H.size ≤ q) U H
theorem ZA.to {A : Nat → Prop} {s : State} {H0 H : Heap} (hz : H0.size ≤ H.size) (hA : ∀ q, H0.size ≤ q → A q) (h : ZA A s H) : ZS s H := ⟨h.1.narrow (fun q hq => hA q (Nat.le_trans hz hq)), h.2.narrow (fun q hq => hA q (Nat.le_trans hz hq))⟩
def wPX (D : va_G) (tys : List (ClassId × FieldType)) (ws : va_W) (U : State) : Prop := va_P D vwCl ws U.heap ∧ va_K D vwCl tys U ∧ KS U ∧ KX U ∧ ZS U U.heap
theorem wPX.blind {D : va_G} {tys : List (ClassId × FieldType)} {ws : va_W} {As : List Value} : FrameBlind (va_Pc As (wPX D tys ws)) := fun a U g mk q => ⟨q.1, q.2.1, va_K.moved (u := U) (U := U.calling g mk a) (Vm.Alike.refl U.vm) q.2.2.1, KS.same (u := U) rfl q.2.2.2.1, KX.same (u := U) (U := U.calling g mk a) rfl q.2.2.2.2.1, ⟨vx_Zq.moved (u := U) (U := U.calling g mk a) (Vm.Alike.refl U.vm) q.2.2.2.2.2.1, vx_Zq.moved (u := U) (U := U.calling g mk a) (Vm.Alike.refl U.vm) q.2.2.2.2.2.2⟩⟩
theorem wPX.of {D : va_G} {tys : List (ClassId × FieldType)} {ws : va_W} {s : State} {H : Heap} {As : List Value} (hP : va_P D vwCl ws H) (hK : va_K D vwCl tys s) (hN : KS s) (hX : KX s) (hZ : ZS s H) : ∀ U : State, U.heap = H → s.WarmedH U.vm → va_Pc As (wPX D tys ws) As.toArray U := fun U hU hW => ⟨rfl, by rw [hU]; exact hP, va_K.moved hW.alike hK, KS.warm hW hN, KX.warm hW hX, by subst hU; exact ⟨vx_Zq.moved hW.alike hZ.1, vx_Zq.moved hW.alike hZ.2⟩⟩
section KXT
variable {p : Program} {l : Launch} {e : Env} {R : Room} {s : State} {m : MethodId} {args : Array Value} {below : List Frame} {meth : Method} {c : Code} {H : Heap} {locs : List Loc} {cells slots : Nat} {Q : State → Prop}
variable {D : va_G} {tys tys' : List (ClassId × FieldType)} {Wd Wd' : va_W} {E : String}
/-- a body that throws in the end -/
theorem mX_of {y : MethodName} {ws ws' : List Cond} {rm : Room} {cc : ByteArray} {maxL : Nat} {ret : Option FieldType} {As : List Value}
    (hy : plainName y.cls = true) (hw : ws = Cond.code y cc maxL ret :: ws') (hn : (lg_sl As).length ≤ maxL)
    (body : ∀ (p : Program) (e : Env) (s : State) (m : MethodId) (below : List Frame) (meth : Method) (c : Code), p.tables.exec = Jvm.exec → c.code = cc → meth.sig.returnType = ret → c.maxLocals = maxL → s.vm.findClass y.cls = some m.cls → (∀ w ∈ ws, w.before As.toArray s = true) → meth.locks = false → (∀ x ∈ c.exceptionTable.toList, False) → va_P D vwCl Wd s.heap → va_K D vwCl tys s → KS s → KX s → ZS s s.heap → ∀ ls : Array Slot, lv_has ls maxL (lv_args 0 As) →
      W p l e rm s m As.toArray below meth c s.heap [] 0 0 (vx_MQ below XN (XT E) As.toArray s 1 6 (fun _ => False)) (F0 m 0 ls [])) :
    vx_Met l y ws rm (va_Pc As (wPX D tys Wd)) XN (XT E) 1 6 (fun _ => False) := by
  refine vx_ofW (cc := cc) (maxL := maxL) (ret := ret) hy hw ?_
  intro p e s m args below meth c s₁ B hml ht hv
  obtain ⟨rfl, hP, hK, hN, hX, hZ⟩ := hv
  have hl := lv_entry As (n := maxL) hn
  rw [lg_entry_eq]
  exact body p e s m below meth c B.exec B.bytes B.returns hml (findClass_of_methodNamed B.named) (atoms_spec (ws := ws) B.pre) B.notSynchronized ht hP hK hN hX hZ _ hl
variable {y : MethodName} {bytes cc : ByteArray} {maxL nL n index : Nat} {ret : Option FieldType} {ws : List Cond} {rm : Room} {Ts : List Cond} {own C : String} {b : Addr} {As st0 rest : List Value} {pc : Nat} {ls : Array Slot} {T : u_T} {N ci : Nat} {fs : List Value}
/-- the end of a run that throws: on to the caller -/
theorem vxGo {Hm : Heap} (hr : vx_Run p l e R s m args below meth c s.heap [] 0 0 1 6 (F0 m pc ls st0) rest (XN args) (XT E) (fun _ => False)) (hlocks : meth.locks = false) (ht : ∀ x ∈ c.exceptionTable.toList, False) : W p l e R s m args below meth c s.heap [] 0 0 (vx_MQ below XN (XT E) args s 1 6 (fun _ => False)) (F0 m pc ls st0) := by
  intro T hT X
  rcases hr T hT X with ⟨v, st₀, t, T', L, h0, X', hL, e1, e2, hq, st⟩ | ⟨q, st₀, t, T', L, E', ce, h0, X', hL, e1, e2, hXC, hce, hcv, hcl, st⟩
  · exact hq.elim
  · obtain ⟨hE, hz, hk⟩ := hXC
    rw [h0] at hz hk
    have hout : vx_W p l e R s m args below meth c T'.heap ([] ++ L) (0 + 1) (0 + 6) (vx_MQ below XN (XT E) args s 1 6 (fun _ => False)) (F0 m pc ls rest) q :=
      vx_out (fun x hx => (ht x hx).elim) hlocks (by rw [e1]; exact hce) hcv hcl (fun t3 ht3 _ => ⟨hE, by rw [ht3, e1]; exact hz, fun q2 hq2 => by rw [ht3, e1]; exact hk q2 hq2⟩) (fun z hz2 => (hL z (by simpa using hz2)).elim) (Nat.le_refl _) (Nat.le_refl _)
    obtain ⟨t2, a1, b1⟩ := hout T' rfl X'
    exact ⟨t2, st.trans a1, b1⟩
theorem vxAny {Qa Qb : State → Outcome → State → Prop} {XC : String → State → State → Prop} {mc ms : Nat} {free : Addr → Prop} (h : ∀ st o t, Qa st o t → Qb st o t) (hr : vx_Run p l e R s m args below meth c H locs cells slots mc ms (F0 m pc ls st0) rest Qa XC free) : vx_Run p l e R s m args below meth c H locs cells slots mc ms (F0 m pc ls st0) rest Qb XC free := by
  intro T hT X
  rcases hr T hT X with ⟨v, st₀, t, T', L, h0, X', hL, e1, e2, hq, st⟩ | h2
  · exact Or.inl ⟨v, st₀, t, T', L, h0, X', hL, e1, e2, h _ _ _ hq, st⟩
  · exact Or.inr h2
theorem kXVo (Sf : CallFix p m c cc nL s args Ts own) (hM : vx_Met l y ws rm (va_Pc (.ref b :: As) (wPX D tys' Wd')) XN (XT E) 1 6 (fun _ => False)) (cw : CallW R s args own C index y bytes maxL ret ws rm 1 6 n)
    (hP : va_P D vwCl Wd s.heap) (hK : va_K D vwCl tys s) (hN : KS s) (hX : KX s) (hZ : ZS s s.heap) (is : List Nat) (hW : is.map (fun i => Wd[i]?) = Wd'.map some) (ts : List Nat) (hT : ts.filterMap (fun i => tys[i]?) = tys') (hci : vwCl[ci]? = some (C, T, N)) (hq0 : Wd'[0]? = some (b, .inr (ci, fs)))
    (hn : As.length = n) (hsize : ls.size = nL) (hstack : st0 = As.reverse ++ .ref b :: rest) (hW8 : (rest.map fun v => v.category).sum ≤ 8) (hdg : decode cc pc = .ok (.invokevirtual index, 3)) (hf : 0 + 1 ≤ R.cells ∧ 0 + 6 ≤ R.slots) (hlocks : meth.locks = false) (ht : ∀ x ∈ c.exceptionTable.toList, False) : W p l e R s m args below meth c s.heap [] 0 0 (vx_MQ below XN (XT E) args s 1 6 (fun _ => False)) (F0 m pc ls st0) :=
  vxGo (Hm := s.heap) (vxAny (fun _ _ _ h => h) (vx_runV (As := As) (rest := rest) Sf hM cw ⟨wPX.blind, va_recv hK (hP.sub is (fm_of hW)) hci hq0, wPX.of (hP.sub is (fm_of hW)) (hK.sub ts hT) hN hX hZ⟩ rfl hn hsize hstack (lv_room hW8) hdg hf)) hlocks ht
theorem kXSo (Sf : CallFix p m c cc nL s args Ts own) (hM : vx_Met l y ws rm (va_Pc As (wPX D tys' Wd')) XN (XT E) 1 6 (fun _ => False)) (cw : CallB R s args own index y bytes maxL ret ws rm 1 6 n ∧ (Cond.static y).before args s = true)
    (hP : va_P D vwCl Wd s.heap) (hK : va_K D vwCl tys s) (hN : KS s) (hX : KX s) (hZ : ZS s s.heap) (is : List Nat) (hW : is.map (fun i => Wd[i]?) = Wd'.map some) (ts : List Nat) (hT : ts.filterMap (fun i => tys[i]?) = tys')
    (hn : As.length = n) (hsize : ls.size = nL) (hstack : st0 = As.reverse ++ rest) (hW8 : (rest.map fun v => v.category).sum ≤ 8) (hdg : decode cc pc = .ok (.invokestatic index, 3)) (hf : 0 + 1 ≤ R.cells ∧ 0 + 6 ≤ R.slots) (hlocks : meth.locks = false) (ht : ∀ x ∈ c.exceptionTable.toList, False) : W p l e R s m args below meth c s.heap [] 0 0 (vx_MQ below XN (XT E) args s 1 6 (fun _ => False)) (F0 m pc ls st0) :=
  vxGo (Hm := s.heap) (vxAny (fun _ _ _ h => h) (vx_runS (As := As) (rest := rest) Sf hM cw ⟨wPX.blind, wPX.of (hP.sub is (fm_of hW)) (hK.sub ts hT) hN hX hZ⟩ rfl hn hsize hstack (lv_room hW8) hdg hf)) hlocks ht
/-- a call that throws, caught by a row of this method's own table -/
theorem kXVc {A : Nat → Prop} {H0 : Heap} {name : String} (Sf : CallFix p m c cc nL s args Ts own) (hM : vx_Met l y ws rm (va_Pc (.ref b :: As) (wPX D tys' Wd')) XN (XT E) 1 6 (fun _ => False)) (cw : CallW R s args own C index y bytes maxL ret ws rm 1 6 n)
    (hP : va_P D vwCl Wd H) (hK : va_K D vwCl tys s) (hN : KS s) (hX : KX s) (hZ : ZS s H) (hS : va_S A H0 H locs) (is : List Nat) (hW : is.map (fun i => Wd[i]?) = Wd'.map some) (ts : List Nat) (hT : ts.filterMap (fun i => tys[i]?) = tys') (hci : vwCl[ci]? = some (C, T, N)) (hq0 : Wd'[0]? = some (b, .inr (ci, fs)))
    (hn : As.length = n) (hsize : ls.size = nL) (hstack : st0 = As.reverse ++ .ref b :: rest) (hW8 : (rest.map fun v => v.category).sum ≤ 8) (hdg : decode cc pc = .ok (.invokevirtual index, 3)) (hf : cells + 1 ≤ R.cells ∧ slots + 6 ≤ R.slots)
    (pre : List ExceptionTableEntry) (x : ExceptionTableEntry) (suf : List ExceptionTableEntry) (hsplit : c.exceptionTable.toList = pre ++ x :: suf)
    (hpass : ∀ z ∈ pre, covers z pc = false ∨ (z.catchType ≠ 0 ∧ ∃ nm : String, (Cond.classLink own z.catchType nm).before args s = true ∧ va_Nc E nm s)) (hx : covers x pc = true) (h0 : x.catchType ≠ 0)
    (hlink : (Cond.classLink own x.catchType name).before args s = true) (hcast : va_Nw (.castable E name) s)
    (kk : ∀ (q9 : Nat) (H : Heap) (locs : List Loc), va_P D vwCl Wd H → va_S A H0 H locs → W p l e R s m args below meth c H locs (cells + 1) (slots + 6) Q (F0 m x.handlerPc ls [.ref q9])) : W p l e R s m args below meth c H locs cells slots Q (F0 m pc ls st0) := by
  intro U hU X
  rcases vx_runV (As := As) (rest := rest) Sf hM cw ⟨wPX.blind, va_recv hK (hP.sub is (fm_of hW)) hci hq0, wPX.of (hP.sub is (fm_of hW)) (hK.sub ts hT) hN hX hZ⟩ rfl hn hsize hstack (lv_room hW8) hdg hf U hU X with ⟨v, st₀, t, T', L, h0, X', hL, e1, e2, hq, st⟩ | ⟨q, st₀, t, T', L, E', ce, g0, X', hL, e1, e2, hXC, hce, hcv, hcl, st⟩
  · exact hq.elim
  · obtain ⟨hE, hz, hk⟩ := hXC
    subst hE
    rw [g0, ← e1] at hz
    rw [g0, ← e1] at hk
    have hL0 : L = [] := by
      cases L with
      | nil => rfl
      | cons z r => exact (hL z List.mem_cons_self).elim
    subst hL0
    have hP1 : va_P D vwCl Wd T'.heap := hP.kept (fun k q hq => hk q.1 ((hP k q hq).lt))
    have hS1 : va_S A H0 T'.heap (locs ++ []) := ⟨Nat.le_trans hS.1 hz, fun q h1 h2 => by rw [hk q (Nat.lt_of_lt_of_le h1 hS.1)]; exact hS.2.1 q h1 h2, by simpa using hS.2.2⟩
    have hcat : vx_W p l e R s m args below meth c T'.heap (locs ++ []) (cells + 1) (slots + 6) Q (F0 m pc ls rest) q :=
      vx_catch Sf.2.2.2.1 pre x suf hsplit hpass hx h0 hlink (va_Nw.use rfl hcast) (by rw [e1]; exact hce) hcv hcl (kk q T'.heap (locs ++ []) hP1 hS1)
    obtain ⟨t2, a1, b1⟩ := hcat T' rfl X'
    exact ⟨t2, st.trans a1, b1⟩
/-- a body with handlers -/
theorem mW_of {y : MethodName} {ws ws' : List Cond} {rm : Room} {cc : ByteArray} {maxL mc ms : Nat} {ret : Option FieldType} {hh : List (Nat × Nat × Nat × Nat)} {As : List Value} {Qc : Array Value → State → Outcome → State → Prop} {sz : Nat} {K2 : State → Prop}
    (hy : plainName y.cls = true) (hw : ws = Cond.codeWith y cc maxL ret hh :: ws') (hn : (lg_sl As).length ≤ maxL)
    (body : ∀ (p : Program) (e : Env) (s : State) (m : MethodId) (below : List Frame) (meth : Method) (c : Code), p.tables.exec = Jvm.exec → c.code = cc → meth.sig.returnType = ret → c.maxLocals = maxL → s.vm.findClass y.cls = some m.cls → c.exceptionTable.toList = tableOf hh → (∀ w ∈ ws, w.before As.toArray s = true) → meth.locks = false → s.heap.size = sz → va_P D vwCl Wd s.heap → va_K D vwCl tys s → KS s → va_D (va_A Wd sz) Wd → K2 s → (∀ q : Nat, s.heap.size ≤ q → va_A Wd sz q) → va_S (va_A Wd sz) s.heap s.heap [] → ∀ ls : Array Slot, lv_has ls maxL (lv_args 0 As) →
      W p l e rm s m As.toArray below meth c s.heap [] 0 0 (MQ below Qc As.toArray s mc ms (va_A Wd sz)) (F0 m 0 ls [])) :
    Met l y ws rm (va_Pc As (fun U => wPQ D tys sz Wd U ∧ K2 U)) Qc mc ms (va_A Wd sz) := by
  refine va_MetW (cc := cc) (maxL := maxL) (ret := ret) (hh := hh) hy hw ?_
  intro p e s m args below meth c s₁ B hml hv
  obtain ⟨rfl, ⟨hsz, hP, hK, hN, hD⟩, hK2⟩ := hv
  have hl := lv_entry As (n := maxL) hn
  rw [lg_entry_eq]
  have hts := atoms_spec (ws := ws) B.pre
  exact body p e s m below meth c B.exec B.bytes B.returns hml (findClass_of_methodNamed B.named) (vx_table (x := y) B (hts _ (by rw [hw]; exact List.mem_cons_self))) hts B.notSynchronized hsz hP hK hN (hD.self) hK2 (fun q h => Or.inr (hsz ▸ h)) va_S.rf _ hl
end KXT
end
section
/-! ===== a method that may draw (the mean), and its call ===== -/
section KDR
variable {p : Program} {l : Launch} {e : Env} {R : Room} {s : State} {m : MethodId} {args : Array Value} {below : List Frame} {meth : Method} {c : Code} {H : Heap} {locs : List Loc} {cells slots : Nat} {Q : State → Prop}
variable {D : va_G} {tys tys' : List (ClassId × FieldType)} {Wd Wd' : va_W}
theorem KS.drawn {s : State} (d : Drawn) (h : KS s) : KS (s.setDrawn d) := KS.same (u := s) (U := s.setDrawn d) rfl h
theorem mQD_of {y : MethodName} {ws ws' : List Cond} {rm : Room} {cc : ByteArray} {maxL mc ms : Nat} {ret : Option FieldType} {As : List Value} {Qc : Array Value → State → Outcome → State → Prop} {sz : Nat}
    (hy : plainName y.cls = true) (hw : ws = Cond.code y cc maxL ret :: ws') (hn : (lg_sl As).length ≤ maxL)
    (body : ∀ (p : Program) (e : Env) (s : State) (m : MethodId) (below : List Frame) (meth : Method) (c : Code), p.tables.exec = Jvm.exec → c.code = cc → meth.sig.returnType = ret → c.maxLocals = maxL → s.vm.findClass y.cls = some m.cls → (∀ w ∈ ws, w.before As.toArray s = true) → meth.locks = false → s.heap.size = sz → va_P D vwCl Wd s.heap → va_K D vwCl tys s → KS s → va_D (va_A Wd sz) Wd → (∀ q : Nat, s.heap.size ≤ q → va_A Wd sz q) → va_S (va_A Wd sz) s.heap s.heap [] → ∀ ls : Array Slot, lv_has ls maxL (lv_args 0 As) →
      W p l e rm s m As.toArray below meth c s.heap [] 0 0 (MQD lw_cs below Qc As.toArray s mc ms (va_A Wd sz)) (F0 m 0 ls [])) :
    MetD lw_cs l y ws rm (va_Pc As (wPQ D tys sz Wd)) Qc mc ms (va_A Wd sz) := by
  refine MetD.ofW (cc := cc) (maxL := maxL) (ret := ret) hy hw ?_
  intro p e s m args below meth c s₁ B hml hv hd0
  obtain ⟨rfl, hsz, hP, hK, hN, hD⟩ := hv
  have hl := lv_entry As (n := maxL) hn
  rw [lg_entry_eq]
  exact body p e s m below meth c B.exec B.bytes B.returns hml (findClass_of_methodNamed B.named) (atoms_spec (ws := ws) B.pre) B.notSynchronized hsz hP hK hN (hD.self) (fun q h => Or.inr (hsz ▸ h)) va_S.rf _ hl
theorem eQdD {S : Type} {w : S → va_W} {A : Nat → Prop} {cc : ByteArray} {post : UInt64 → S → Prop} {v : UInt64} {pc : Nat} {ls : Array Slot} {d1 : Drawn} (u : S) (hd1 : s.drawn.sameBut d1 lw_cs) (hx : p.tables.exec = Jvm.exec) (hb : c.code = cc) (hr : meth.sig.returnType = some .double) (hlocks : meth.locks = false) (hP : va_P D vwCl (w u) H) (hD : va_D A (w u)) (hK : va_K D vwCl tys s) (hS : va_S A s.heap H locs) (hdg : decode cc pc = .ok (.dreturn, 1)) (h : post v u) : W p l e R (s.setDrawn d1) m args below meth c H locs cells slots (MQD lw_cs below (va_Qd post (wB D tys A w) A) args s cells slots A) (F0 m pc ls [.double v]) :=
  W.endD hd1 (W.dret hx hb hr (fun t ht hW => ⟨⟨v, u, rfl, h, by rw [ht]; exact hP, va_K.moved (u := s) hW.alike hK, hD⟩, va_S.F (s := s.setDrawn d1) hS ht⟩) hS.2.2 hdg hlocks)
variable {y : MethodName} {bytes cc : ByteArray} {maxL nL n index mc ms : Nat} {ret : Option FieldType} {ws : List Cond} {rm : Room} {Ts : List Cond} {own C host : String} {b : Addr} {As st0 rest : List Value} {pc : Nat} {ls : Array Slot} {T : u_T} {N ci : Nat} {fs : List Value}
variable {S : Type} {w W2 : S → va_W} {wr : va_W} {A : Nat → Prop} {H0 : Heap}
theorem kQVdD {post : UInt64 → S → Prop} {d0 : Drawn} (hd0 : s.drawn.sameBut d0 lw_cs) (Sf : CallFix p m c cc nL (s.setDrawn d0) args Ts own) (hM : MetD lw_cs l y ws rm (va_Pc (.ref b :: As) (wPQ D tys' H.size Wd')) (va_Qd post (wB D tys' (va_A Wd' H.size) w) (va_A Wd' H.size)) mc ms (va_A Wd' H.size)) (cw : CallW R (s.setDrawn d0) args own C index y bytes maxL ret ws rm mc ms n)
    (hP : va_P D vwCl Wd H) (hD : va_D A Wd) (hK : va_K D vwCl tys (s.setDrawn d0)) (hN : KS (s.setDrawn d0)) (hS : va_S A H0 H locs) (hA : ∀ q, H0.size ≤ q → A q) (is : List Nat) (hnd : va_nd is = true) (hW : is.map (fun i => Wd[i]?) = Wd'.map some) (ir : List Nat) (hrn : va_nd ir = true) (hR : ir.map (fun i => Wd[i]?) = wr.map some) (hdis : ∀ i ∈ ir, i ∉ is) (pm : List Nat) (hpn : va_nd pm = true) (hpm : ∀ u, pm.map (fun i => (wr ++ w u)[i]?) = (W2 u).map some) (ts : List Nat) (hT : ts.filterMap (fun i => tys[i]?) = tys') (hci : vwCl[ci]? = some (C, T, N)) (hq0 : Wd'[0]? = some (b, .inr (ci, fs)))
    (hn : As.length = n) (hsize : ls.size = nL) (hstack : st0 = As.reverse ++ .ref b :: rest) (hW8 : (rest.map fun v => v.category).sum ≤ 8) (hdg : decode cc pc = .ok (.invokevirtual index, 3)) (hf : cells + mc ≤ R.cells ∧ slots + ms ≤ R.slots)
    (kk : ∀ (r : UInt64) (u : S) (H1 : Heap) (locs1 : List Loc), post r u → va_P D vwCl (W2 u) H1 → va_D A (W2 u) → va_S A H0 H1 locs1 → ∀ d' : Drawn, s.drawn.sameBut d' lw_cs → W p l e R (s.setDrawn d') m args below meth c H1 locs1 (cells + mc) (slots + ms) Q (F0 m (pc + 3) ls (.double r :: rest))) : W p l e R (s.setDrawn d0) m args below meth c H locs cells slots Q (F0 m pc ls st0) := by
  have hFc := va_free (wc := Wd') hD hS hA is hW
  refine va_calldD hd0 (va_runV_D (As := As) (rest := rest) Sf hM cw ⟨wPQ.blind, va_recv hK (hP.sub is (fm_of hW)) hci hq0, wPQ.of (hP.sub is (fm_of hW)) (hK.sub ts hT) hN (hD.sub is hnd hW)⟩ rfl hn hsize hstack (lv_room hW8) hdg hf) hS (fun q _ h => hFc q h) hFc (fun r u t H1 locs1 ht hvm hw hB hz1 hk1 hS1 d' hd' => ?_)
  obtain ⟨hP1, hK1, hD1⟩ := hB
  rw [ht] at hP1
  obtain ⟨hP2, hD2⟩ := va_join hP hD is ir hW hR hrn hdis hk1 hFc hP1 hD1
  exact kk r u H1 locs1 hw (hP2.sub pm (fm_of (hpm u))) (hD2.sub pm hpn (hpm u)) hS1 d' hd'
/-- a static call of a method with handlers, which returns -/
theorem kQWi {post : Int32 → S → Prop} {hh : List (Nat × Nat × Nat × Nat)} (Sf : CallFix p m c cc nL s args Ts own) (hM : Met l y ws rm (va_Pc As (fun U => wPQ D tys' H.size Wd' U ∧ (KX U ∧ ZS U U.heap))) (va_Qi post (wB D tys' (va_A Wd' H.size) w) (va_A Wd' H.size)) mc ms (va_A Wd' H.size)) (cw : vx_CSW R s args own index y bytes maxL ret hh ws rm mc ms n)
    (hP : va_P D vwCl Wd H) (hD : va_D A Wd) (hK : va_K D vwCl tys s) (hN : KS s) (hX : KX s) (hZ : ZS s H) (hS : va_S A H0 H locs) (hA : ∀ q, H0.size ≤ q → A q) (is : List Nat) (hnd : va_nd is = true) (hW : is.map (fun i => Wd[i]?) = Wd'.map some) (ir : List Nat) (hrn : va_nd ir = true) (hR : ir.map (fun i => Wd[i]?) = wr.map some) (hdis : ∀ i ∈ ir, i ∉ is) (pm : List Nat) (hpn : va_nd pm = true) (hpm : ∀ u, pm.map (fun i => (wr ++ w u)[i]?) = (W2 u).map some) (ts : List Nat) (hT : ts.filterMap (fun i => tys[i]?) = tys')
    (hn : As.length = n) (hsize : ls.size = nL) (hstack : st0 = As.reverse ++ rest) (hW8 : (rest.map fun v => v.category).sum ≤ 8) (hdg : decode cc pc = .ok (.invokestatic index, 3)) (hf : cells + mc ≤ R.cells ∧ slots + ms ≤ R.slots)
    (kk : ∀ (r : Int32) (u : S) (H1 : Heap) (locs1 : List Loc), post r u → va_P D vwCl (W2 u) H1 → va_D A (W2 u) → va_S A H0 H1 locs1 → W p l e R s m args below meth c H1 locs1 (cells + mc) (slots + ms) Q (F0 m (pc + 3) ls (.int r :: rest))) : W p l e R s m args below meth c H locs cells slots Q (F0 m pc ls st0) := by
  have hFc := va_free (wc := Wd') hD hS hA is hW
  have hbl : FrameBlind (va_Pc As (fun U => wPQ D tys' H.size Wd' U ∧ (KX U ∧ ZS U U.heap))) := fun a U g mk q => ⟨q.1, (wPQ.blind (As := As) a U g mk ⟨q.1, q.2.1⟩).2, KX.same (u := U) (U := U.calling g mk a) rfl q.2.2.1, ⟨vx_Zq.moved (u := U) (U := U.calling g mk a) (Vm.Alike.refl U.vm) q.2.2.2.1, vx_Zq.moved (u := U) (U := U.calling g mk a) (Vm.Alike.refl U.vm) q.2.2.2.2⟩⟩
  have hof : ∀ U : State, U.heap = H → s.WarmedH U.vm → va_Pc As (fun U => wPQ D tys' H.size Wd' U ∧ (KX U ∧ ZS U U.heap)) As.toArray U := fun U hU hWm => ⟨rfl, (wPQ.of (As := As) (hP.sub is (fm_of hW)) (hK.sub ts hT) hN (hD.sub is hnd hW) U hU hWm).2, KX.warm hWm hX, by subst hU; exact ⟨vx_Zq.moved hWm.alike hZ.1, vx_Zq.moved hWm.alike hZ.2⟩⟩
  refine va_calli (vx_runSW (As := As) (rest := rest) Sf hM cw ⟨hbl, hof⟩ rfl hn hsize hstack (lv_room hW8) hdg hf) hS (fun q _ h => hFc q h) hFc (fun r u t H1 locs1 ht hvm hw hB hz1 hk1 hS1 => ?_)
  obtain ⟨hP1, hK1, hD1⟩ := hB
  rw [ht] at hP1
  obtain ⟨hP2, hD2⟩ := va_join hP hD is ir hW hR hrn hdis hk1 hFc hP1 hD1
  exact kk r u H1 locs1 hw (hP2.sub pm (fm_of (hpm u))) (hD2.sub pm hpn (hpm u)) hS1
end KDR
end
section
/-! ===== new int[n][m], new int[n][m][k]: arrays of arrays, made in one go ===== -/
section MU
/-- what a maker of one array does to a state -/
def muG (g : State → State) (cn sl : Nat) : Prop :=
  (∀ s, (g s).heap.size = s.heap.size + cn) ∧ (∀ s, (g s).vm = s.vm) ∧ (∀ s, (g s).slotsUsed = s.slotsUsed + sl) ∧
  (∀ (s : State) (a : Nat), a < s.heap.size → (g s).heap[a]? = s.heap[a]?) ∧ (∀ (s : State) (f : JFrame), g (s.setTop f) = (g s).setTop f) ∧
  (∀ (p : Program) (l : Launch) (e : Env) (R : Room) (s : State) (m : MethodId) (args : Array Value) (below : List Frame) (meth : Method) (c : Code) (T : State) (locs : List Loc) (cells slots : Nat), Stand p l e R s m args below meth c T locs cells slots →
    ∃ L : List Loc, Stand p l e R s m args below meth c (g T) (locs ++ L) (cells + cn) (slots + sl) ∧ ∀ q ∈ L, T.heap.size ≤ q.base)
def muL (c : ClassId) (M : Nat) (dv : Value) (s : State) : State := s.pushCell { cls := c, slots := Array.replicate M dv, vm := .none }
theorem muL_G (c : ClassId) (M : Nat) (dv : Value) : muG (muL c M dv) 1 M := by
  refine ⟨fun s => by simp [muL], fun s => rfl, fun s => by simp [muL], fun s a ha => State.heap_pushCell_of_lt _ _ ha, fun s f => by simp [muL, State.pushCell_setTop], ?_⟩
  intro p l e R s m args below meth c2 T locs cells slots X
  have h := X.pushed { cls := c, slots := Array.replicate M dv, vm := .none }
  refine ⟨[], ?_, fun q hq => absurd hq List.not_mem_nil⟩
  simpa [muL] using h
def muO (c : ClassId) (N h cn : Nat) : Nat → Cell
  | 0 => { cls := c, slots := Array.replicate N .null, vm := .none }
  | i + 1 => (muO c N h cn i).setSlot i (.ref (h + 1 + i * cn))
theorem muO_f (c : ClassId) (N h cn : Nat) : ∀ i, (muO c N h cn i).cls = c ∧ (muO c N h cn i).vm = .none ∧ (muO c N h cn i).slots.size = N
  | 0 => ⟨rfl, rfl, by simp [muO]⟩
  | i + 1 => by
    obtain ⟨a, b, d⟩ := muO_f c N h cn i
    exact ⟨by simp [muO, Cell.setSlot, a], by simp [muO, Cell.setSlot, b], by simp [muO, Cell.setSlot, d]⟩
theorem muO_s (c : ClassId) (N h cn : Nat) : ∀ i j, j < N → (muO c N h cn i).slots[j]? = some (if j < i then .ref (h + 1 + j * cn) else .null)
  | 0, j, hj => by simp [muO, hj]
  | i + 1, j, hj => by
    have ih := muO_s c N h cn i j hj
    have hs := (muO_f c N h cn i).2.2
    show ((muO c N h cn i).setSlot i (.ref (h + 1 + i * cn))).slots[j]? = _
    simp only [Cell.setSlot, Array.getElem?_setIfInBounds]
    by_cases e : i = j
    · subst e; simp [hs, hj]
    · rw [if_neg e, ih]
      by_cases q : j < i
      · rw [if_pos q, if_pos (by omega)]
      · rw [if_neg q, if_neg (by omega)]
def muF (g : State → State) (cn : Nat) (c : ClassId) (N : Nat) (s : State) : Nat → State
  | 0 => s.pushCell (muO c N s.heap.size cn 0)
  | i + 1 => (g (muF g cn c N s i)).setCell s.heap.size (muO c N s.heap.size cn (i + 1))
theorem muF_f {g : State → State} {cn sl : Nat} (G : muG g cn sl) (c : ClassId) (N : Nat) (s : State) : ∀ i, (muF g cn c N s i).heap.size = s.heap.size + 1 + i * cn ∧ (muF g cn c N s i).heap[s.heap.size]? = some (muO c N s.heap.size cn i) ∧ (muF g cn c N s i).vm = s.vm ∧ (muF g cn c N s i).slotsUsed = s.slotsUsed + N + i * sl
  | 0 => ⟨by simp [muF], by simp [muF], rfl, by simp [muF, (muO_f c N s.heap.size cn 0).2.2]⟩
  | i + 1 => by
    obtain ⟨a, b, d, u⟩ := muF_f G c N s i
    obtain ⟨g1, g2, g3, g4, -, -⟩ := G
    have b2 : (g (muF g cn c N s i)).heap[s.heap.size]? = some (muO c N s.heap.size cn i) := by rw [g4 _ _ (by rw [a]; omega)]; exact b
    refine ⟨?_, State.heap_setCell_self b2, ?_, ?_⟩
    · simp [muF, State.setCell, g1, a, Nat.succ_mul]; omega
    · simp [muF, g2, d]
    · simp [muF, g3, u, Nat.succ_mul]; omega
theorem muF_old {g : State → State} {cn sl : Nat} (G : muG g cn sl) (c : ClassId) (N : Nat) (s : State) {a : Nat} (ha : a < s.heap.size) : ∀ i, (muF g cn c N s i).heap[a]? = s.heap[a]?
  | 0 => State.heap_pushCell_of_lt _ _ ha
  | i + 1 => by
    have f1 := (muF_f G c N s i).1
    show ((g (muF g cn c N s i)).setCell s.heap.size _).heap[a]? = _
    rw [State.heap_setCell_other (Nat.ne_of_gt ha), G.2.2.2.1 _ _ (by rw [f1]; omega)]
    exact muF_old G c N s ha i
theorem muF_top {g : State → State} {cn sl : Nat} (G : muG g cn sl) (c : ClassId) (N : Nat) (s : State) (f : JFrame) : ∀ i, muF g cn c N (s.setTop f) i = (muF g cn c N s i).setTop f
  | 0 => by simp only [muF, State.heap_setTop, State.pushCell_setTop]
  | i + 1 => by simp only [muF, muF_top G c N s f i, State.heap_setTop, G.2.2.2.2.1, State.setCell_setTop]
theorem muF_in {g : State → State} {cn sl : Nat} (G : muG g cn sl) (c : ClassId) (N : Nat) (s : State) : ∀ i j, j < i → ∀ a, s.heap.size + 1 + j * cn ≤ a → a < s.heap.size + 1 + (j + 1) * cn → (muF g cn c N s i).heap[a]? = (g (muF g cn c N s j)).heap[a]?
  | 0, _, h, _, _, _ => absurd h (Nat.not_lt_zero _)
  | i + 1, j, h, a, h1, h2 => by
    have f1 := (muF_f G c N s i).1
    show ((g (muF g cn c N s i)).setCell s.heap.size _).heap[a]? = _
    rw [State.heap_setCell_other (show s.heap.size ≠ a by omega)]
    rcases Nat.lt_or_ge j i with hj | hj
    · have := Nat.mul_le_mul_right cn (show j + 1 ≤ i from hj)
      rw [G.2.2.2.1 _ _ (by rw [f1]; omega)]
      exact muF_in G c N s i j hj a h1 h2
    · have e : j = i := by omega
      subst e
      rfl
theorem muF_X {g : State → State} {cn sl : Nat} (G : muG g cn sl) (c0 : ClassId) (N : Nat) {p : Program} {l : Launch} {e : Env} {R : Room} {s : State} {m : MethodId} {args : Array Value} {below : List Frame} {meth : Method} {c : Code} {T : State} {locs : List Loc} {cells slots : Nat} (X : Stand p l e R s m args below meth c T locs cells slots) : ∀ i, ∃ L : List Loc, Stand p l e R s m args below meth c (muF g cn c0 N T i) (locs ++ L) (cells + (1 + i * cn)) (slots + (N + i * sl)) ∧ ∀ q ∈ L, T.heap.size ≤ q.base
  | 0 => by
    have h := X.pushed (muO c0 N T.heap.size cn 0)
    rw [(muO_f c0 N T.heap.size cn 0).2.2] at h
    refine ⟨[], ?_, fun q hq => absurd hq List.not_mem_nil⟩
    simpa [muF] using h
  | i + 1 => by
    obtain ⟨L, Xi, hL⟩ := muF_X G c0 N X i
    obtain ⟨f1, f2, -, -⟩ := muF_f G c0 N T i
    obtain ⟨L2, X2, hL2⟩ := G.2.2.2.2.2 _ _ _ _ _ _ _ _ _ _ _ _ _ _ Xi
    have hcell : (g (muF g cn c0 N T i)).heap[T.heap.size]? = some (muO c0 N T.heap.size cn i) := by rw [G.2.2.2.1 _ _ (by rw [f1]; omega)]; exact f2
    have h := X2.stored hcell i (.ref (T.heap.size + 1 + i * cn))
    refine ⟨L ++ L2 ++ [⟨T.heap.size, i⟩], ?_, fun q hq => ?_⟩
    · have e1 : cells + (1 + (i + 1) * cn) = cells + (1 + i * cn) + cn := by rw [Nat.succ_mul]; omega
      have e2 : slots + (N + (i + 1) * sl) = slots + (N + i * sl) + sl := by rw [Nat.succ_mul]; omega
      rw [e1, e2, ← List.append_assoc, ← List.append_assoc]
      exact h
    · rcases List.mem_append.mp hq with hq | hq
      · rcases List.mem_append.mp hq with hq | hq
        · exact hL q hq
        · have := hL2 q hq; omega
      · rw [List.mem_singleton] at hq
        subst hq
        exact Nat.le_refl _
theorem muF_G {g : State → State} {cn sl : Nat} (G : muG g cn sl) (c : ClassId) (N : Nat) : muG (fun s => muF g cn c N s N) (1 + N * cn) (N + N * sl) := by
  refine ⟨fun s => ?_, fun s => (muF_f G c N s N).2.2.1, fun s => ?_, fun s a ha => muF_old G c N s ha N, fun s f => muF_top G c N s f N, fun p l e R s m args below meth c2 T locs cells slots X => muF_X G c N X N⟩
  · show (muF g cn c N s N).heap.size = _
    rw [(muF_f G c N s N).1]; omega
  · show (muF g cn c N s N).slotsUsed = _
    rw [(muF_f G c N s N).2.2.2]; omega
section
variable {E : CtlPost} {e : Env} {d : Bool} {acts : List Action} {s : State}
theorem mu_new {c comp : ClassId} {k : Class} {type : FieldType} {len : Nat} {init : Value} (hk : s.vm.classes[c]? = some k) (hkind : k.kind = .array comp type)
    (hlimit : ¬ len > e.platform.arrayLengthLimit) (hheap : ¬ len * componentBytes type > e.platform.maxHeapBytes) (hfit : fits type init = true) (hdef : init.isDefault = true) {Q : Addr → Pre}
    (h1 : s.heap.size < e.platform.maxCells) (h2 : s.slotsUsed + len ≤ e.platform.maxSlots)
    (hq : Q s.heap.size d acts (s.pushCell { cls := c, slots := Array.replicate len init, vm := .none })) :
    wp (Jvm.newArray c len init) Q E e d acts s := by
  have hfits : ∀ i v, (Array.replicate len init)[i]? = some v → s.fitsSlot c .none i v = true := by
    intro i v hv
    simp only [Array.getElem?_replicate] at hv
    split at hv
    · cases hv; simp [State.fitsSlot, State.slotType?, hk, hkind, hfit]
    · cases hv
  have hda : allocActs (Array.replicate len init) s.heap.size acts = acts := by
    have hall : ((Array.replicate len init).all (·.isDefault)) = true := by
      rw [Array.all_replicate]; split <;> simp [hdef]
    unfold allocActs; rw [if_pos hall]
  simp only [Jvm.newArray, Jvm.arrayFits, wp_bind', W.ask, W.ite, hlimit, if_false, wp_pure', W.theClass, hk, hkind, hheap, W.alloc, W.stop, Option.some.injEq, exists_eq_left', Array.size_replicate, hda]
  rw [if_neg (by omega)]
  exact ⟨h1, h2, hfits, hq⟩
theorem mu_rf {t : FieldType} (h : t.isReference = true) (v : Value) (hv : v = .null ∨ ∃ a, v = .ref a) : fits t v = true := by
  rcases hv with rfl | ⟨a, rfl⟩ <;> cases t <;> simp [FieldType.isReference] at h <;> rfl
theorem mu_wp1 {comp cc : ClassId} {kc : Class} {type : FieldType} {m : Int32} (hkc : s.vm.classes[comp]? = some kc) (hkindc : kc.kind = .array cc type) (hm : ¬ m < 0)
    (hl2 : ¬ m.toNatClampNeg > e.platform.arrayLengthLimit) (hh2 : ¬ m.toNatClampNeg * componentBytes type > e.platform.maxHeapBytes)
    (hdf : fits type (defaultValue type) = true) (hdd : (defaultValue type).isDefault = true)
    (h1 : s.heap.size < e.platform.maxCells) (h2 : s.slotsUsed + m.toNatClampNeg ≤ e.platform.maxSlots)
    {Q : Addr → Pre} (hq : Q s.heap.size d acts (muL comp m.toNatClampNeg (defaultValue type) s)) :
    wp (multianewarray.make comp [m]) Q E e d acts s := by
  rw [multianewarray.make]
  simp only [wp_bind', W.ite, hm, if_false, wp_pure', W.theClass, hkc, hkindc, Option.some.injEq, exists_eq_left']
  exact mu_new hkc hkindc hl2 hh2 hdf hdd h1 h2 hq
theorem mu_wpN {g : State → State} {cn sl : Nat} (G : muG g cn sl) {c comp : ClassId} {k : Class} {t0 : FieldType} {n r1 : Int32} {rs : List Int32} (hk : s.vm.classes[c]? = some k) (hkind : k.kind = .array comp t0) (href : t0.isReference = true) (hn : ¬ n < 0) (hfind : (r1 :: rs).find? (· < 0) = none)
    (hl1 : ¬ n.toNatClampNeg > e.platform.arrayLengthLimit) (hh1 : ¬ n.toNatClampNeg * componentBytes t0 > e.platform.maxHeapBytes)
    (hw : ∀ (s' : State) (d' : Bool) (acts' : List Action) (Q : Addr → Pre), s'.vm = s.vm → s'.heap.size + cn ≤ e.platform.maxCells → s'.slotsUsed + sl ≤ e.platform.maxSlots → (∀ d'' acts'', Q s'.heap.size d'' acts'' (g s')) → wp (multianewarray.make comp (r1 :: rs)) Q E e d' acts' s')
    (hc : s.heap.size + (1 + n.toNatClampNeg * cn) ≤ e.platform.maxCells) (hs : s.slotsUsed + (n.toNatClampNeg + n.toNatClampNeg * sl) ≤ e.platform.maxSlots)
    {Q : Addr → Pre} (hq : ∀ d' acts', Q s.heap.size d' acts' (muF g cn c n.toNatClampNeg s n.toNatClampNeg)) :
    wp (multianewarray.make c (n :: r1 :: rs)) Q E e d acts s := by
  rw [multianewarray.make]
  simp only [wp_bind', W.ite, hn, if_false, wp_pure', W.theClass, hk, hkind, Option.some.injEq, exists_eq_left']
  refine mu_new hk hkind hl1 hh1 (mu_rf href _ (Or.inl rfl)) rfl (by omega) (by omega) ?_
  simp only [hfind]
  rw [ite_self, wp_bind', Std.Legacy.Range.forIn_eq_forIn_range']
  have hsz : ([:n.toNatClampNeg] : Std.Legacy.Range).size = n.toNatClampNeg := by simp [Std.Legacy.Range.size]
  rw [hsz]
  show wp (forIn (List.range' 0 n.toNatClampNeg 1) PUnit.unit _) _ E e d acts _
  refine wp_forIn_inv (fun rest s' => ∃ i, i ≤ n.toNatClampNeg ∧ rest = List.range' i (n.toNatClampNeg - i) ∧ s' = muF g cn c n.toNatClampNeg s i) _ _ ⟨0, Nat.zero_le _, rfl, rfl⟩ ?_ ?_
  · rintro x rest s' d' acts' Q' ⟨i, hi, hl, rfl⟩ hnext
    have hlt : i < n.toNatClampNeg := by
      rcases Nat.lt_or_ge i n.toNatClampNeg with h | h
      · exact h
      · rw [show n.toNatClampNeg - i = 0 from by omega] at hl; simp at hl
    obtain ⟨rfl, hrest⟩ : x = i ∧ rest = List.range' (i + 1) (n.toNatClampNeg - (i + 1)) := by
      rw [show n.toNatClampNeg - i = (n.toNatClampNeg - (i + 1)) + 1 from by omega, List.range'_succ] at hl
      exact ⟨(List.cons.inj hl).1, (List.cons.inj hl).2⟩
    obtain ⟨f1, f2, f3, f4⟩ := muF_f G c n.toNatClampNeg s x
    obtain ⟨o1, o2, o3⟩ := muO_f c n.toNatClampNeg s.heap.size cn x
    have hm1 : x * cn + cn ≤ n.toNatClampNeg * cn := by
      have := Nat.mul_le_mul_right cn (show x + 1 ≤ n.toNatClampNeg from hlt)
      rw [Nat.succ_mul] at this; exact this
    have hm2 : x * sl + sl ≤ n.toNatClampNeg * sl := by
      have := Nat.mul_le_mul_right sl (show x + 1 ≤ n.toNatClampNeg from hlt)
      rw [Nat.succ_mul] at this; exact this
    simp only [wp_bind']
    refine hw _ _ _ _ f3 (by rw [f1]; omega) (by rw [f4]; omega) (fun d2 acts2 => ?_)
    have hb : (g (muF g cn c n.toNatClampNeg s x)).heap[s.heap.size]? = some (muO c n.toNatClampNeg s.heap.size cn x) := by rw [G.2.2.2.1 _ _ (by rw [f1]; omega)]; exact f2
    simp only [wp_bind', W.writeLoc, wp_pure']
    refine ⟨muO c n.toNatClampNeg s.heap.size cn x, hb, by rw [o2]; simp, by rw [o3]; exact hlt, ?_, hnext _ _ _ ⟨x + 1, hlt, hrest, ?_⟩⟩
    · rw [o1, o2]
      simp [State.fitsSlot, State.slotType?, G.2.1, f3, hk, hkind, mu_rf href _ (Or.inr ⟨_, rfl⟩)]
    · rw [f1]; rfl
  · rintro s' d' acts' ⟨i, hi, hl, rfl⟩
    have hiN : i = n.toNatClampNeg := by
      rcases Nat.lt_or_ge i n.toNatClampNeg with h | h
      · rw [show n.toNatClampNeg - i = (n.toNatClampNeg - (i + 1)) + 1 from by omega, List.range'_succ] at hl; cases hl
      · omega
    subst hiN
    simp only [wp_pure']
    exact hq _ _
end
end MU
end
section
/-! ===== worlds by membership and by permutation; calls by permutation ===== -/
section PB
variable {D : va_G} {cl : List vw_C} {H H1 : Heap} {ws ws' wc wr w1 : va_W} {A A0 : Nat → Prop}
theorem va_P.mem (h : va_P D cl ws H) {q : Nat × va_E} (hq : q ∈ ws) : va_at D cl q H := by
  obtain ⟨k, hk⟩ := List.getElem?_of_mem hq
  exact h k q hk
theorem va_P.all (h : ∀ q ∈ ws, va_at D cl q H) : va_P D cl ws H := fun _ q hk => h q (List.mem_of_getElem? hk)
theorem va_P.pm (h : va_P D cl ws H) (pm : ws.Perm ws') : va_P D cl ws' H := va_P.all fun _ hq => h.mem (pm.mem_iff.mpr hq)
theorem va_P.left (h : va_P D cl (wc ++ wr) H) : va_P D cl wc H := va_P.all fun _ hq => h.mem (List.mem_append_left _ hq)
theorem va_P.right (h : va_P D cl (wc ++ wr) H) : va_P D cl wr H := va_P.all fun _ hq => h.mem (List.mem_append_right _ hq)
theorem va_P.sub2 (h : va_P D cl ws H) (hs : ∀ q ∈ ws', q ∈ ws) : va_P D cl ws' H := va_P.all fun _ hq => h.mem (hs _ hq)
theorem va_D_iff : va_D A ws ↔ (ws.map Prod.fst).Nodup ∧ ∀ q ∈ ws, A q.1 := by
  constructor
  · rintro ⟨h1, h2⟩
    refine ⟨?_, fun q hq => ?_⟩
    · unfold List.Nodup
      rw [List.pairwise_iff_getElem]
      intro i j hi hj hij e
      rw [List.length_map] at hi hj
      rw [List.getElem_map, List.getElem_map] at e
      have := h1 i j _ _ (List.getElem?_eq_getElem hi) (List.getElem?_eq_getElem hj) e
      omega
    · obtain ⟨k, hk⟩ := List.getElem?_of_mem hq
      exact h2 k q hk
  · rintro ⟨h1, h2⟩
    unfold List.Nodup at h1
    rw [List.pairwise_iff_getElem] at h1
    refine ⟨fun i j p q hi hj e => ?_, fun k q hk => h2 q (List.mem_of_getElem? hk)⟩
    obtain ⟨li, ei⟩ := List.getElem?_eq_some_iff.mp hi
    obtain ⟨lj, ej⟩ := List.getElem?_eq_some_iff.mp hj
    rcases Nat.lt_trichotomy i j with c | c | c
    · have := h1 i j (by simpa using li) (by simpa using lj) c
      rw [List.getElem_map, List.getElem_map, ei, ej] at this
      exact absurd e this
    · exact c
    · have := h1 j i (by simpa using lj) (by simpa using li) c
      rw [List.getElem_map, List.getElem_map, ei, ej] at this
      exact absurd e.symm this
theorem va_D.pm (h : va_D A ws) (pm : ws.Perm ws') : va_D A ws' := by
  rw [va_D_iff] at h ⊢
  exact ⟨(pm.map Prod.fst).nodup_iff.mp h.1, fun q hq => h.2 q (pm.mem_iff.mpr hq)⟩
theorem va_D.left (h : va_D A (wc ++ wr)) : va_D A wc := by
  rw [va_D_iff] at h ⊢
  rw [List.map_append, List.nodup_append] at h
  exact ⟨h.1.1, fun q hq => h.2 q (List.mem_append_left _ hq)⟩
theorem va_D.right (h : va_D A (wc ++ wr)) : va_D A wr := by
  rw [va_D_iff] at h ⊢
  rw [List.map_append, List.nodup_append] at h
  exact ⟨h.1.2.1, fun q hq => h.2 q (List.mem_append_right _ hq)⟩
/-- the addresses alone say whether cells are apart -/
theorem va_D.fst (h : va_D A ws) (e : ws'.map Prod.fst = ws.map Prod.fst) : va_D A ws' := by
  rw [va_D_iff] at h ⊢
  refine ⟨by rw [e]; exact h.1, fun q hq => ?_⟩
  have h1 : q.1 ∈ ws.map Prod.fst := by rw [← e]; exact List.mem_map_of_mem hq
  obtain ⟨r, hr, hrq⟩ := List.mem_map.mp h1
  rw [← hrq]
  exact h.2 r hr
theorem va_D.inj (h : va_D A ws) {p q : Nat × va_E} (hp : p ∈ ws) (hq : q ∈ ws) (e : p.1 = q.1) : p = q := by
  obtain ⟨i, hi⟩ := List.getElem?_of_mem hp
  obtain ⟨j, hj⟩ := List.getElem?_of_mem hq
  have := h.1 i j p q hi hj e
  subst this
  exact Option.some.inj (hi.symm.trans hj)
theorem va_A.m {sz : Nat} {q : Nat × va_E} (h : q ∈ ws) : va_A ws sz q.1 := by
  obtain ⟨k, hk⟩ := List.getElem?_of_mem h
  exact Or.inl ⟨k, q.2, hk⟩
theorem va_A.e {sz q : Nat} (h : va_A ws sz q) : (∃ e : va_E, (q, e) ∈ ws) ∨ sz ≤ q := by
  rcases h with ⟨k, e, h⟩ | h
  · exact Or.inl ⟨e, List.mem_of_getElem? h⟩
  · exact Or.inr h
/-- what a callee may write is the caller's to write -/
theorem freeP {H0 : Heap} {locs : List Loc} (hD : va_D A0 (wc ++ wr)) (hS : va_S A0 H0 H locs) (hA : ∀ q, H0.size ≤ q → A0 q) : ∀ q, va_A wc H.size q → A0 q := by
  intro q h
  rcases va_A.e h with ⟨e, h⟩ | h
  · exact (va_D_iff.mp hD).2 _ (List.mem_append_left _ h)
  · exact hA q (Nat.le_trans hS.1 h)
/-- behind a call: what came back, beside the caller's other cells -/
theorem joinP (hP : va_P D cl (wc ++ wr) H) (hD : va_D A0 (wc ++ wr)) (hk : ∀ q : Nat, q < H.size → ¬ va_A wc H.size q → H1[q]? = H[q]?) (hF : ∀ q, va_A wc H.size q → A0 q) (hP1 : va_P D cl w1 H1) (hD1 : va_D (va_A wc H.size) w1) : va_P D cl (w1 ++ wr) H1 ∧ va_D A0 (w1 ++ wr) := by
  have apart : ∀ q ∈ wr, q.1 < H.size ∧ ¬ va_A wc H.size q.1 := by
    intro q hq
    have hl := (hP.mem (List.mem_append_right _ hq)).lt
    refine ⟨hl, fun h => ?_⟩
    rcases va_A.e h with ⟨e, h⟩ | h
    · have hd := (va_D_iff.mp hD).1
      rw [List.map_append, List.nodup_append] at hd
      exact hd.2.2 q.1 (List.mem_map.mpr ⟨(q.1, e), h, rfl⟩) q.1 (List.mem_map_of_mem (f := Prod.fst) hq) rfl
    · omega
  refine ⟨va_P.all fun q hq => ?_, va_D_iff.mpr ⟨?_, fun q hq => ?_⟩⟩
  · rcases List.mem_append.mp hq with h | h
    · exact hP1.mem h
    · obtain ⟨g1, g2⟩ := apart q h
      exact (hP.mem (List.mem_append_right _ h)).kept (hk q.1 g1 g2)
  · have hd := (va_D_iff.mp hD).1
    rw [List.map_append, List.nodup_append] at hd ⊢
    refine ⟨(va_D_iff.mp hD1).1, hd.2.1, fun a ha b hb e => ?_⟩
    obtain ⟨x, hx, rfl⟩ := List.mem_map.mp ha
    obtain ⟨y, hy, rfl⟩ := List.mem_map.mp hb
    exact (apart y hy).2 (e ▸ (va_D_iff.mp hD1).2 x hx)
  · rcases List.mem_append.mp hq with h | h
    · exact hF _ ((va_D_iff.mp hD1).2 q h)
    · exact (va_D_iff.mp hD).2 q (List.mem_append_right _ h)
theorem pm_12 {α : Type} (a b : List α) : (a ++ b).Perm (b ++ a) := List.perm_append_comm
/-- a cell written: the new world, by membership -/
theorem wr_done {a k : Nat} {e e' : va_E} (hk : ws[k]? = some (a, e)) (hP1 : va_P D cl (ws.set k (a, e')) H1) (hmem : ∀ q ∈ ws', q = (a, e') ∨ (q ∈ ws ∧ q.1 ≠ a)) : va_P D cl ws' H1 := by
  have hl := (List.getElem?_eq_some_iff.mp hk).1
  refine va_P.all fun q hq => ?_
  rcases hmem q hq with rfl | ⟨h1, h2⟩
  · exact hP1 k _ (List.getElem?_set_self hl)
  · obtain ⟨j, hj⟩ := List.getElem?_of_mem h1
    have hjk : j ≠ k := by
      intro z
      subst z
      exact h2 (by rw [Option.some.inj (hj.symm.trans hk)])
    exact hP1 j q (by rw [List.getElem?_set_ne (Ne.symm hjk)]; exact hj)
end PB
/-! what the tables say of arrays of arrays -/
def AO (t : FieldType) (cA comp : ClassId) (U : State) : Prop := ∃ k, U.vm.classes[cA]? = some k ∧ k.kind = .array comp (.array t) ∧ U.vm.findClass (FieldType.array t).toString = some comp ∧ U.vm.findClass ("[" ++ (FieldType.array t).toString) = some cA
theorem AO.moved {t : FieldType} {cA comp : ClassId} {u U : State} (hvm : u.vm.Alike U.vm) (h : AO t cA comp u) : AO t cA comp U := by
  obtain ⟨k, h1, h2, h3, h4⟩ := h
  obtain ⟨k', hk', he⟩ := hvm.2.2 _ _ h1
  exact ⟨k', hk', by rw [he]; exact h2, by rw [hvm.findClass]; exact h3, by rw [hvm.findClass]; exact h4⟩
theorem AO.arr {t : FieldType} {cA comp : ClassId} {s : State} (h : AO t cA comp s) : ArrOfT s cA (.array t) ∧ va_RA s cA (.array t) := by
  obtain ⟨k, h1, h2, h3, h4⟩ := h
  exact ⟨fun n z => ⟨fun q hq => (by cases hq), k, h1, comp, h2⟩, h4⟩
theorem AO.of {t : FieldType} {s : State} {args : Array Value} (h : (Cond.arrayOver (.array t)).before args s = true) : ∃ cA comp, AO t cA comp s := by
  obtain ⟨comp, cA, k, h1, -, h2, h3, h4⟩ := arrayOverA_spec h
  exact ⟨cA, comp, k, h2, h3, h1, h4⟩
def KG (cI c2 c3 : ClassId) (U : State) : Prop := AO .int c2 cI U ∧ AO (.array .int) c3 c2 U ∧ va_Nw (.classLink RX2 7 "[[[I") U ∧ va_Nw (.castable "[I" "java/lang/Cloneable") U
theorem va_Nw.warmL {a : String} {i : Nat} {b : String} {s U : State} (hW : s.WarmedH U.vm) (hZ : va_Nw (.classLink a i b) s) : va_Nw (.classLink a i b) U := va_tabs (A := #[]) rfl (rfl : (s.setVm U.vm).vm = U.vm) (by
  have hZ : (Cond.classLink a i b).before #[] s = true := hZ
  simp only [Cond.before, Cond.holds, Cond.value] at hZ ⊢
  rw [State.classLinks_warmed hW]
  exact hZ)
theorem KG.warm {cI c2 c3 : ClassId} {s U : State} (hW : s.WarmedH U.vm) (h : KG cI c2 c3 s) : KG cI c2 c3 U := ⟨h.1.moved hW.alike, h.2.1.moved hW.alike, va_Nw.warmL hW h.2.2.1, va_Nw.warmC hW h.2.2.2⟩
theorem KG.same {cI c2 c3 : ClassId} {u U : State} (hv : U.vm = u.vm) (h : KG cI c2 c3 u) : KG cI c2 c3 U := ⟨h.1.moved (by rw [hv]; exact Vm.Alike.refl u.vm), h.2.1.moved (by rw [hv]; exact Vm.Alike.refl u.vm), va_Nw.same rfl hv.symm h.2.2.1, va_Nw.same rfl hv.symm h.2.2.2⟩
def wBr (D : va_G) (tys : List (ClassId × FieldType)) (A : Nat → Prop) {S : Type} (w : S → va_W) (ad : S → Nat) (u : S) (ra : Nat) (t : State) : Prop := wB D tys A w u t ∧ ra = ad u
section KP
variable {p : Program} {l : Launch} {e : Env} {R : Room} {s : State} {m : MethodId} {args : Array Value} {below : List Frame} {meth : Method} {c : Code} {H : Heap} {locs : List Loc} {cells slots : Nat} {Q : State → Prop}
variable {D : va_G} {tys tys' : List (ClassId × FieldType)} {Wd Wc Wr : va_W}
variable {y : MethodName} {bytes cc : ByteArray} {maxL nL n index mc ms : Nat} {ret : Option FieldType} {ws : List Cond} {rm : Room} {Ts : List Cond} {own C host : String} {b : Addr} {As st0 rest : List Value} {pc : Nat} {ls : Array Slot} {T : u_T} {N ci : Nat} {fs : List Value} {B' : State → Prop}
variable {S : Type} {w W2 : S → va_W} {A : Nat → Prop} {H0 : Heap}
/-- what a call wants beforehand: the callee's world, and what else it asks -/
theorem preVQ (hK : va_K D vwCl tys s) (hN : KS s) (hP : va_P D vwCl Wc H) (hD : va_D A Wc) (ts : List Nat) (hT : ts.filterMap (fun i => tys[i]?) = tys') (hci : vwCl[ci]? = some (C, T, N)) (hq0 : Wc[0]? = some (b, .inr (ci, fs))) : PreV s H C b (va_Pc (.ref b :: As) (wPQ D tys' H.size Wc)) As := ⟨wPQ.blind, va_recv hK hP hci hq0, wPQ.of hP (hK.sub ts hT) hN hD⟩
theorem preSQ (hK : va_K D vwCl tys s) (hN : KS s) (hP : va_P D vwCl Wc H) (hD : va_D A Wc) (ts : List Nat) (hT : ts.filterMap (fun i => tys[i]?) = tys') : PreS s H (va_Pc As (wPQ D tys' H.size Wc)) As := ⟨wPQ.blind, wPQ.of hP (hK.sub ts hT) hN hD⟩
theorem preVK {K2 : State → Prop} (kb : ∀ (u U : State), U.vm = u.vm → U.heap = u.heap → K2 u → K2 U) (kw : ∀ U : State, U.heap = H → s.WarmedH U.vm → K2 U) (hp : PreV s H C b (va_Pc (.ref b :: As) (wPQ D tys' H.size Wc)) As) : PreV s H C b (va_Pc (.ref b :: As) (fun U => wPQ D tys' H.size Wc U ∧ K2 U)) As := ⟨fun a U g mk q => ⟨q.1, (hp.1 a U g mk ⟨q.1, q.2.1⟩).2, kb U (U.calling g mk a) rfl rfl q.2.2⟩, hp.2.1, fun U hU hW => ⟨rfl, (hp.2.2 U hU hW).2, kw U hU hW⟩⟩
theorem preSK {K2 : State → Prop} (kb : ∀ (u U : State), U.vm = u.vm → U.heap = u.heap → K2 u → K2 U) (kw : ∀ U : State, U.heap = H → s.WarmedH U.vm → K2 U) (hp : PreS s H (va_Pc As (wPQ D tys' H.size Wc)) As) : PreS s H (va_Pc As (fun U => wPQ D tys' H.size Wc U ∧ K2 U)) As := ⟨fun a U g mk q => ⟨q.1, (hp.1 a U g mk ⟨q.1, q.2.1⟩).2, kb U (U.calling g mk a) rfl rfl q.2.2⟩, fun U hU hW => ⟨rfl, (hp.2 U hU hW).2, kw U hU hW⟩⟩
theorem kPVi {post : Int32 → S → Prop} (Sf : CallFix p m c cc nL s args Ts own) (hM : Met l y ws rm (va_Pc (.ref b :: As) B') (va_Qi post (wB D tys' (va_A Wc H.size) w) (va_A Wc H.size)) mc ms (va_A Wc H.size)) (cw : CallW R s args own C index y bytes maxL ret ws rm mc ms n)
    (hpr : PreV s H C b (va_Pc (.ref b :: As) B') As) (hP : va_P D vwCl Wd H) (hD : va_D A Wd) (hS : va_S A H0 H locs) (hA : ∀ q, H0.size ≤ q → A q) (pm : Wd.Perm (Wc ++ Wr)) (pm2 : ∀ u, (w u ++ Wr).Perm (W2 u))
    (hn : As.length = n) (hsize : ls.size = nL) (hstack : st0 = As.reverse ++ .ref b :: rest) (hW8 : (rest.map fun v => v.category).sum ≤ 8) (hdg : decode cc pc = .ok (.invokevirtual index, 3)) (hf : cells + mc ≤ R.cells ∧ slots + ms ≤ R.slots)
    (kk : ∀ (r : Int32) (u : S) (H1 : Heap) (locs1 : List Loc), post r u → va_P D vwCl (W2 u) H1 → va_D A (W2 u) → va_S A H0 H1 locs1 → W p l e R s m args below meth c H1 locs1 (cells + mc) (slots + ms) Q (F0 m (pc + 3) ls (.int r :: rest))) : W p l e R s m args below meth c H locs cells slots Q (F0 m pc ls st0) := by
  have hFc := freeP (hD.pm pm) hS hA
  refine va_calli (va_runV (As := As) (rest := rest) Sf hM cw hpr rfl hn hsize hstack (lv_room hW8) hdg hf) hS (fun q _ h => hFc q h) hFc (fun r u t H1 locs1 ht hvm hw hB hz1 hk1 hS1 => ?_)
  obtain ⟨hP1, hK1, hD1⟩ := hB
  rw [ht] at hP1
  obtain ⟨hP2, hD2⟩ := joinP (hP.pm pm) (hD.pm pm) hk1 hFc hP1 hD1
  exact kk r u H1 locs1 hw (hP2.pm (pm2 u)) (hD2.pm (pm2 u)) hS1
theorem kPVv {post : S → Prop} (Sf : CallFix p m c cc nL s args Ts own) (hM : Met l y ws rm (va_Pc (.ref b :: As) B') (va_Qv post (wB D tys' (va_A Wc H.size) w) (va_A Wc H.size)) mc ms (va_A Wc H.size)) (cw : CallW R s args own C index y bytes maxL ret ws rm mc ms n)
    (hpr : PreV s H C b (va_Pc (.ref b :: As) B') As) (hP : va_P D vwCl Wd H) (hD : va_D A Wd) (hS : va_S A H0 H locs) (hA : ∀ q, H0.size ≤ q → A q) (pm : Wd.Perm (Wc ++ Wr)) (pm2 : ∀ u, (w u ++ Wr).Perm (W2 u))
    (hn : As.length = n) (hsize : ls.size = nL) (hstack : st0 = As.reverse ++ .ref b :: rest) (hW8 : (rest.map fun v => v.category).sum ≤ 8) (hdg : decode cc pc = .ok (.invokevirtual index, 3)) (hf : cells + mc ≤ R.cells ∧ slots + ms ≤ R.slots)
    (kk : ∀ (u : S) (H1 : Heap) (locs1 : List Loc), post u → va_P D vwCl (W2 u) H1 → va_D A (W2 u) → va_S A H0 H1 locs1 → W p l e R s m args below meth c H1 locs1 (cells + mc) (slots + ms) Q (F0 m (pc + 3) ls (rest))) : W p l e R s m args below meth c H locs cells slots Q (F0 m pc ls st0) := by
  have hFc := freeP (hD.pm pm) hS hA
  refine va_callv (va_runV (As := As) (rest := rest) Sf hM cw hpr rfl hn hsize hstack (lv_room hW8) hdg hf) hS (fun q _ h => hFc q h) hFc (fun u t H1 locs1 ht hvm hw hB hz1 hk1 hS1 => ?_)
  obtain ⟨hP1, hK1, hD1⟩ := hB
  rw [ht] at hP1
  obtain ⟨hP2, hD2⟩ := joinP (hP.pm pm) (hD.pm pm) hk1 hFc hP1 hD1
  exact kk u H1 locs1 hw (hP2.pm (pm2 u)) (hD2.pm (pm2 u)) hS1
theorem kPVl {post : Int64 → S → Prop} (Sf : CallFix p m c cc nL s args Ts own) (hM : Met l y ws rm (va_Pc (.ref b :: As) B') (va_Ql post (wB D tys' (va_A Wc H.size) w) (va_A Wc H.size)) mc ms (va_A Wc H.size)) (cw : CallW R s args own C index y bytes maxL ret ws rm mc ms n)
    (hpr : PreV s H C b (va_Pc (.ref b :: As) B') As) (hP : va_P D vwCl Wd H) (hD : va_D A Wd) (hS : va_S A H0 H locs) (hA : ∀ q, H0.size ≤ q → A q) (pm : Wd.Perm (Wc ++ Wr)) (pm2 : ∀ u, (w u ++ Wr).Perm (W2 u))
    (hn : As.length = n) (hsize : ls.size = nL) (hstack : st0 = As.reverse ++ .ref b :: rest) (hW8 : (rest.map fun v => v.category).sum ≤ 8) (hdg : decode cc pc = .ok (.invokevirtual index, 3)) (hf : cells + mc ≤ R.cells ∧ slots + ms ≤ R.slots)
    (kk : ∀ (r : Int64) (u : S) (H1 : Heap) (locs1 : List Loc), post r u → va_P D vwCl (W2 u) H1 → va_D A (W2 u) → va_S A H0 H1 locs1 → W p l e R s m args below meth c H1 locs1 (cells + mc) (slots + ms) Q (F0 m (pc + 3) ls (.long r :: rest))) : W p l e R s m args below meth c H locs cells slots Q (F0 m pc ls st0) := by
  have hFc := freeP (hD.pm pm) hS hA
  refine va_calll (va_runV (As := As) (rest := rest) Sf hM cw hpr rfl hn hsize hstack (lv_room hW8) hdg hf) hS (fun q _ h => hFc q h) hFc (fun r u t H1 locs1 ht hvm hw hB hz1 hk1 hS1 => ?_)
  obtain ⟨hP1, hK1, hD1⟩ := hB
  rw [ht] at hP1
  obtain ⟨hP2, hD2⟩ := joinP (hP.pm pm) (hD.pm pm) hk1 hFc hP1 hD1
  exact kk r u H1 locs1 hw (hP2.pm (pm2 u)) (hD2.pm (pm2 u)) hS1
theorem kPVd {post : UInt64 → S → Prop} (Sf : CallFix p m c cc nL s args Ts own) (hM : Met l y ws rm (va_Pc (.ref b :: As) B') (va_Qd post (wB D tys' (va_A Wc H.size) w) (va_A Wc H.size)) mc ms (va_A Wc H.size)) (cw : CallW R s args own C index y bytes maxL ret ws rm mc ms n)
    (hpr : PreV s H C b (va_Pc (.ref b :: As) B') As) (hP : va_P D vwCl Wd H) (hD : va_D A Wd) (hS : va_S A H0 H locs) (hA : ∀ q, H0.size ≤ q → A q) (pm : Wd.Perm (Wc ++ Wr)) (pm2 : ∀ u, (w u ++ Wr).Perm (W2 u))
    (hn : As.length = n) (hsize : ls.size = nL) (hstack : st0 = As.reverse ++ .ref b :: rest) (hW8 : (rest.map fun v => v.category).sum ≤ 8) (hdg : decode cc pc = .ok (.invokevirtual index, 3)) (hf : cells + mc ≤ R.cells ∧ slots + ms ≤ R.slots)
    (kk : ∀ (r : UInt64) (u : S) (H1 : Heap) (locs1 : List Loc), post r u → va_P D vwCl (W2 u) H1 → va_D A (W2 u) → va_S A H0 H1 locs1 → W p l e R s m args below meth c H1 locs1 (cells + mc) (slots + ms) Q (F0 m (pc + 3) ls (.double r :: rest))) : W p l e R s m args below meth c H locs cells slots Q (F0 m pc ls st0) := by
  have hFc := freeP (hD.pm pm) hS hA
  refine va_calld (va_runV (As := As) (rest := rest) Sf hM cw hpr rfl hn hsize hstack (lv_room hW8) hdg hf) hS (fun q _ h => hFc q h) hFc (fun r u t H1 locs1 ht hvm hw hB hz1 hk1 hS1 => ?_)
  obtain ⟨hP1, hK1, hD1⟩ := hB
  rw [ht] at hP1
  obtain ⟨hP2, hD2⟩ := joinP (hP.pm pm) (hD.pm pm) hk1 hFc hP1 hD1
  exact kk r u H1 locs1 hw (hP2.pm (pm2 u)) (hD2.pm (pm2 u)) hS1
theorem kPVr {post : S → Prop} {ad : S → Nat} (Sf : CallFix p m c cc nL s args Ts own) (hM : Met l y ws rm (va_Pc (.ref b :: As) B') (va_Qr post (wBr D tys' (va_A Wc H.size) w ad) (va_A Wc H.size)) mc ms (va_A Wc H.size)) (cw : CallW R s args own C index y bytes maxL ret ws rm mc ms n)
    (hpr : PreV s H C b (va_Pc (.ref b :: As) B') As) (hP : va_P D vwCl Wd H) (hD : va_D A Wd) (hS : va_S A H0 H locs) (hA : ∀ q, H0.size ≤ q → A q) (pm : Wd.Perm (Wc ++ Wr)) (pm2 : ∀ u, (w u ++ Wr).Perm (W2 u))
    (hn : As.length = n) (hsize : ls.size = nL) (hstack : st0 = As.reverse ++ .ref b :: rest) (hW8 : (rest.map fun v => v.category).sum ≤ 8) (hdg : decode cc pc = .ok (.invokevirtual index, 3)) (hf : cells + mc ≤ R.cells ∧ slots + ms ≤ R.slots)
    (kk : ∀ (u : S) (H1 : Heap) (locs1 : List Loc), post u → va_P D vwCl (W2 u) H1 → va_D A (W2 u) → va_S A H0 H1 locs1 → W p l e R s m args below meth c H1 locs1 (cells + mc) (slots + ms) Q (F0 m (pc + 3) ls (.ref (ad u) :: rest))) : W p l e R s m args below meth c H locs cells slots Q (F0 m pc ls st0) := by
  have hFc := freeP (hD.pm pm) hS hA
  refine va_callr (va_runV (As := As) (rest := rest) Sf hM cw hpr rfl hn hsize hstack (lv_room hW8) hdg hf) hS (fun q _ h => hFc q h) hFc (fun u ra t H1 locs1 ht hvm hw hB hz1 hk1 hS1 => ?_)
  obtain ⟨hB, rfl⟩ := hB
  obtain ⟨hP1, hK1, hD1⟩ := hB
  rw [ht] at hP1
  obtain ⟨hP2, hD2⟩ := joinP (hP.pm pm) (hD.pm pm) hk1 hFc hP1 hD1
  exact kk u H1 locs1 hw (hP2.pm (pm2 u)) (hD2.pm (pm2 u)) hS1
theorem kPSi {post : Int32 → S → Prop} (Sf : CallFix p m c cc nL s args Ts own) (hM : Met l y ws rm (va_Pc (As) B') (va_Qi post (wB D tys' (va_A Wc H.size) w) (va_A Wc H.size)) mc ms (va_A Wc H.size)) (cw : CallB R s args own index y bytes maxL ret ws rm mc ms n ∧ (Cond.static y).before args s = true)
    (hpr : PreS s H (va_Pc As B') As) (hP : va_P D vwCl Wd H) (hD : va_D A Wd) (hS : va_S A H0 H locs) (hA : ∀ q, H0.size ≤ q → A q) (pm : Wd.Perm (Wc ++ Wr)) (pm2 : ∀ u, (w u ++ Wr).Perm (W2 u))
    (hn : As.length = n) (hsize : ls.size = nL) (hstack : st0 = As.reverse ++ rest) (hW8 : (rest.map fun v => v.category).sum ≤ 8) (hdg : decode cc pc = .ok (.invokestatic index, 3)) (hf : cells + mc ≤ R.cells ∧ slots + ms ≤ R.slots)
    (kk : ∀ (r : Int32) (u : S) (H1 : Heap) (locs1 : List Loc), post r u → va_P D vwCl (W2 u) H1 → va_D A (W2 u) → va_S A H0 H1 locs1 → W p l e R s m args below meth c H1 locs1 (cells + mc) (slots + ms) Q (F0 m (pc + 3) ls (.int r :: rest))) : W p l e R s m args below meth c H locs cells slots Q (F0 m pc ls st0) := by
  have hFc := freeP (hD.pm pm) hS hA
  refine va_calli (va_runS (As := As) (rest := rest) Sf hM cw hpr rfl hn hsize hstack (lv_room hW8) hdg hf) hS (fun q _ h => hFc q h) hFc (fun r u t H1 locs1 ht hvm hw hB hz1 hk1 hS1 => ?_)
  obtain ⟨hP1, hK1, hD1⟩ := hB
  rw [ht] at hP1
  obtain ⟨hP2, hD2⟩ := joinP (hP.pm pm) (hD.pm pm) hk1 hFc hP1 hD1
  exact kk r u H1 locs1 hw (hP2.pm (pm2 u)) (hD2.pm (pm2 u)) hS1
theorem kPSr {post : S → Prop} {ad : S → Nat} (Sf : CallFix p m c cc nL s args Ts own) (hM : Met l y ws rm (va_Pc (As) B') (va_Qr post (wBr D tys' (va_A Wc H.size) w ad) (va_A Wc H.size)) mc ms (va_A Wc H.size)) (cw : CallB R s args own index y bytes maxL ret ws rm mc ms n ∧ (Cond.static y).before args s = true)
    (hpr : PreS s H (va_Pc As B') As) (hP : va_P D vwCl Wd H) (hD : va_D A Wd) (hS : va_S A H0 H locs) (hA : ∀ q, H0.size ≤ q → A q) (pm : Wd.Perm (Wc ++ Wr)) (pm2 : ∀ u, (w u ++ Wr).Perm (W2 u))
    (hn : As.length = n) (hsize : ls.size = nL) (hstack : st0 = As.reverse ++ rest) (hW8 : (rest.map fun v => v.category).sum ≤ 8) (hdg : decode cc pc = .ok (.invokestatic index, 3)) (hf : cells + mc ≤ R.cells ∧ slots + ms ≤ R.slots)
    (kk : ∀ (u : S) (H1 : Heap) (locs1 : List Loc), post u → va_P D vwCl (W2 u) H1 → va_D A (W2 u) → va_S A H0 H1 locs1 → W p l e R s m args below meth c H1 locs1 (cells + mc) (slots + ms) Q (F0 m (pc + 3) ls (.ref (ad u) :: rest))) : W p l e R s m args below meth c H locs cells slots Q (F0 m pc ls st0) := by
  have hFc := freeP (hD.pm pm) hS hA
  refine va_callr (va_runS (As := As) (rest := rest) Sf hM cw hpr rfl hn hsize hstack (lv_room hW8) hdg hf) hS (fun q _ h => hFc q h) hFc (fun u ra t H1 locs1 ht hvm hw hB hz1 hk1 hS1 => ?_)
  obtain ⟨hB, rfl⟩ := hB
  obtain ⟨hP1, hK1, hD1⟩ := hB
  rw [ht] at hP1
  obtain ⟨hP2, hD2⟩ := joinP (hP.pm pm) (hD.pm pm) hk1 hFc hP1 hD1
  exact kk u H1 locs1 hw (hP2.pm (pm2 u)) (hD2.pm (pm2 u)) hS1
theorem kPIv {post : S → Prop} (Sf : CallFix p m c cc nL s args Ts own) (hM : Met l y ws rm (va_Pc (.ref b :: As) B') (va_Qv post (wB D tys' (va_A Wc H.size) w) (va_A Wc H.size)) mc ms (va_A Wc H.size)) (cw : CallB R s args own index y bytes maxL none ws rm mc ms n ∧ y.name = "<init>" ∧ (Cond.instanceMethod y).before args s = true)
    (hpr : PreS s H (va_Pc (.ref b :: As) B') (.ref b :: As)) (hP : va_P D vwCl Wd H) (hD : va_D A Wd) (hS : va_S A H0 H locs) (hA : ∀ q, H0.size ≤ q → A q) (pm : Wd.Perm (Wc ++ Wr)) (pm2 : ∀ u, (w u ++ Wr).Perm (W2 u))
    (hn : As.length = n) (hsize : ls.size = nL) (hstack : st0 = As.reverse ++ .ref b :: rest) (hW8 : (rest.map fun v => v.category).sum ≤ 8) (hdg : decode cc pc = .ok (.invokespecial index, 3)) (hf : cells + mc ≤ R.cells ∧ slots + ms ≤ R.slots)
    (kk : ∀ (u : S) (H1 : Heap) (locs1 : List Loc), post u → va_P D vwCl (W2 u) H1 → va_D A (W2 u) → va_S A H0 H1 locs1 → W p l e R s m args below meth c H1 locs1 (cells + mc) (slots + ms) Q (F0 m (pc + 3) ls (rest))) : W p l e R s m args below meth c H locs cells slots Q (F0 m pc ls st0) := by
  have hFc := freeP (hD.pm pm) hS hA
  refine va_callv (va_runI (As := As) (rest := rest) Sf hM cw hpr rfl hn hsize hstack (lv_room hW8) hdg hf) hS (fun q _ h => hFc q h) hFc (fun u t H1 locs1 ht hvm hw hB hz1 hk1 hS1 => ?_)
  obtain ⟨hP1, hK1, hD1⟩ := hB
  rw [ht] at hP1
  obtain ⟨hP2, hD2⟩ := joinP (hP.pm pm) (hD.pm pm) hk1 hFc hP1 hD1
  exact kk u H1 locs1 hw (hP2.pm (pm2 u)) (hD2.pm (pm2 u)) hS1
end KP
end
section
/-! ===== the law's board by hand: its cells, and rows on them ===== -/
/-- a place's own three numbers; what lies behind the row's end is never read -/
def t3 (a b c : Int32) : Nat → Int32
  | 0 => a
  | 1 => b
  | 2 => c
  | _ => 0
theorem t3_2 (a b c v : Int32) : upd (t3 a b c) 2 v = t3 a b v := by
  funext j
  unfold upd
  match j with
  | 0 => rfl
  | 1 => rfl
  | 2 => rfl
  | n + 3 => rw [if_neg (by omega)]; rfl
theorem t3_new (a b c : Int32) : upd (upd (upd (fun _ => 0) 0 a) 1 b) 2 c = t3 a b c := by
  funext j
  unfold upd
  match j with
  | 0 => rfl
  | 1 => rfl
  | 2 => rfl
  | n + 3 => rw [if_neg (by omega), if_neg (by omega), if_neg (by omega)]; rfl
theorem t3_0 : (fun _ : Nat => (0 : Int32)) = t3 0 0 0 := by
  funext j
  match j with
  | 0 => rfl
  | 1 => rfl
  | 2 => rfl
  | n + 3 => rfl
theorem rg_split {p n : Nat} (h : p < n) : List.range n = List.range p ++ p :: List.range' (p + 1) (n - p - 1) := by
  rw [List.range_eq_range', List.range_eq_range']
  have e : n = p + (1 + (n - p - 1)) := by omega
  have h1 : List.range' 0 n = List.range' 0 p ++ List.range' (0 + p) (1 + (n - p - 1)) := by
    rw [List.range'_append_1, ← e]
  rw [h1, Nat.zero_add, Nat.add_comm 1, List.range'_succ]
theorem mp_split {β : Type} {p n : Nat} (h : p < n) (f g : Nat → β) (hfg : ∀ q, q ≠ p → g q = f q) : (List.range n).map g = (List.range p).map f ++ g p :: (List.range' (p + 1) (n - p - 1)).map f := by
  rw [rg_split h, List.map_append, List.map_cons]
  congr 1
  · exact List.map_congr_left fun q hq => hfg q (by have := List.mem_range.mp hq; omega)
  · congr 1
    exact List.map_congr_left fun q hq => hfg q (by have := (List.mem_range'_1.mp hq).1; omega)
theorem pl_div {cN r c : Nat} (hc : c < cN) : (r * cN + c) / cN = r ∧ (r * cN + c) % cN = c := by
  have h0 : 0 < cN := by omega
  refine ⟨?_, ?_⟩
  · rw [Nat.mul_comm, Nat.mul_add_div h0, Nat.div_eq_of_lt hc, Nat.add_zero]
  · rw [Nat.mul_comm, Nat.mul_add_mod, Nat.mod_eq_of_lt hc]
theorem pl_rc {cN rN p : Nat} (hp : p < rN * cN) : p / cN < rN ∧ p % cN < cN ∧ p / cN * cN + p % cN = p := by
  have h0 : 0 < cN := by
    rcases Nat.eq_zero_or_pos cN with z | z
    · subst z; omega
    · exact z
  exact ⟨(Nat.div_lt_iff_lt_mul h0).mpr hp, Nat.mod_lt _ h0, by rw [Nat.mul_comm]; exact Nat.div_add_mod p cN⟩
def upd2 (f : Nat → Nat → Nat) (r c v : Nat) : Nat → Nat → Nat := fun r2 c2 => if r2 = r ∧ c2 = c then v else f r2 c2
def sRow (c2 : ClassId) (cN : Nat) (rw_ : Nat → Nat) (ow : Nat → Nat → Nat) (r : Nat) : Nat × va_E := (rw_ r, .inl (c2, cN, .inr (.inr (.inr (.inr (fun c => some (ow r c)))))))
def sCell (cI : ClassId) (cN : Nat) (ow : Nat → Nat → Nat) (pa pd st : Nat → Int32) (p : Nat) : Nat × va_E := (ow (p / cN) (p % cN), .inl (cI, 3, .inl (t3 (pa p) (pd p) (st p))))
def sRows (c2 : ClassId) (cN : Nat) (rw_ : Nat → Nat) (ow : Nat → Nat → Nat) (rN : Nat) : va_W := (List.range rN).map (sRow c2 cN rw_ ow)
def sCells (cI : ClassId) (cN : Nat) (ow : Nat → Nat → Nat) (pa pd st : Nat → Int32) (n : Nat) : va_W := (List.range n).map (sCell cI cN ow pa pd st)
abbrev wS (cI c2 c3 : ClassId) (v rw_ : Nat → Nat) (ow : Nat → Nat → Nat) (cN rN : Nat) (pa pd st bn hc hm : Nat → Int32) (lo tn : Int32) : va_W := [(v 0, .inr (2, [.ref (v 4), .ref (v 1), .int lo, .ref (v 2), .ref (v 3), .int tn])), (v 1, .inl (cI, cN, .inl bn)), (v 2, .inl (cI, 2, .inl hc)), (v 3, .inl (cI, 2, .inl hm)), (v 4, .inl (c3, rN, .inr (.inr (.inr (.inr (fun r => some (rw_ r)))))))] ++ (sRows c2 cN rw_ ow rN ++ sCells cI cN ow pa pd st (rN * cN))
theorem sRow_m {cI c2 c3 : ClassId} {v rw_ : Nat → Nat} {ow : Nat → Nat → Nat} {cN rN r : Nat} {pa pd st bn hc hm : Nat → Int32} {lo tn : Int32} (hr : r < rN) : sRow c2 cN rw_ ow r ∈ wS cI c2 c3 v rw_ ow cN rN pa pd st bn hc hm lo tn := List.mem_append_right _ (List.mem_append_left _ (List.mem_map_of_mem (List.mem_range.mpr hr)))
theorem sCell_m {cI c2 c3 : ClassId} {v rw_ : Nat → Nat} {ow : Nat → Nat → Nat} {cN rN r c : Nat} {pa pd st bn hc hm : Nat → Int32} {lo tn : Int32} (hr : r < rN) (hcc : c < cN) : (ow r c, .inl (cI, 3, .inl (t3 (pa (r * cN + c)) (pd (r * cN + c)) (st (r * cN + c))))) ∈ wS cI c2 c3 v rw_ ow cN rN pa pd st bn hc hm lo tn := by
  refine List.mem_append_right _ (List.mem_append_right _ (List.mem_map.mpr ⟨r * cN + c, List.mem_range.mpr ?_, ?_⟩))
  · have h := Nat.mul_le_mul_right cN (show r + 1 ≤ rN from hr)
    rw [Nat.succ_mul] at h
    omega
  · unfold sCell
    rw [(pl_div hcc).1, (pl_div hcc).2]
section SW
variable {p : Program} {l : Launch} {e : Env} {R : Room} {s : State} {m : MethodId} {args : Array Value} {below : List Frame} {meth : Method} {c : Code} {H : Heap} {locs : List Loc} {cells slots : Nat} {Q : State → Prop}
variable {cc : ByteArray} {pc : Nat} {ls : Array Slot} {rest : List Value} {D : va_G} {A : Nat → Prop} {a : Nat} {tys : List (ClassId × FieldType)} {ws : va_W} {H0 : Heap}
variable {cI c2 c3 : ClassId} {v rw_ : Nat → Nat} {ow : Nat → Nat → Nat} {cN rN : Nat} {pa pd st bn hc hm : Nat → Int32} {lo tn : Int32} {X Y : va_W}
/-- a reference out of an array of arrays -/
theorem sLdR {cA : ClassId} {t : FieldType} {n r : Nat} {g : Nat → Nat} (hexec : p.tables.exec = Jvm.exec) (hb : c.code = cc) (hK : va_K D vwCl tys s) (hP : va_P D vwCl ws H) (t0 : Nat) (ht : tys[t0]? = some (cA, .array t)) (hm : (a, .inl (cA, n, .inr (.inr (.inr (.inr (fun j => some (g j))))))) ∈ ws) (hr : r < n) (hn : n < 2 ^ 31) (hdg : decode cc pc = .ok (.aaload, 1))
    (kk : W p l e R s m args below meth c H locs cells slots Q (F0 m (pc + 1) ls (.ref (g r) :: rest))) : W p l e R s m args below meth c H locs cells slots Q (F0 m pc ls (.int (nI r) :: .ref a :: rest)) := by
  have hin : vp_in (nI r) n := vp_in_nI hr hn
  have hlt : (nI r).toNatClampNeg < n := Nat.not_le.mp fun q => hin (Or.inr q)
  refine W.aald (v := va_rf (some (g r))) (ty := .array t) hexec hb (hP.mem hm) ((hK.2 t0 _ ht).1 n (fun j => va_rf (some (g j)))) rfl (fun q => by cases q) (by show ¬ (nI r < 0 ∨ (arrV _ _ _).slots.size ≤ _); rw [arrV_size]; exact hin) (by show (arrV _ _ _).slots[_]? = _; rw [arrV_read _ _ hlt, nI_clamp (by omega)]) rfl rfl hdg kk
/-- a number out of a row of ints -/
theorem sLdI {cA : ClassId} {n j : Nat} {f : Nat → Int32} (hexec : p.tables.exec = Jvm.exec) (hb : c.code = cc) (hK : va_K D vwCl tys s) (hP : va_P D vwCl ws H) (t0 : Nat) (ht : tys[t0]? = some (cA, .int)) (hm : (a, .inl (cA, n, .inl f)) ∈ ws) (hj : j < n) (hn : n < 2 ^ 31) (hdg : decode cc pc = .ok (.iaload, 1))
    (kk : W p l e R s m args below meth c H locs cells slots Q (F0 m (pc + 1) ls (.int (f j) :: rest))) : W p l e R s m args below meth c H locs cells slots Q (F0 m pc ls (.int (nI j) :: .ref a :: rest)) := by
  obtain ⟨k, hk⟩ := List.getElem?_of_mem hm
  refine va_iald hexec hb hK hP k t0 hk ht (vp_in_nI hj hn) hdg ?_
  rw [nI_clamp (by omega)]
  exact kk
/-- the length of any array -/
theorem sLen {cA : ClassId} {x : vp_A} {ty : FieldType} (hexec : p.tables.exec = Jvm.exec) (hb : c.code = cc) (hK : va_K D vwCl tys s) (hP : va_P D vwCl ws H) (t0 : Nat) (ht : tys[t0]? = some (cA, ty)) (hm : (a, .inl (cA, x)) ∈ ws) (hdg : decode cc pc = .ok (.arraylength, 1))
    (kk : W p l e R s m args below meth c H locs cells slots Q (F0 m (pc + 1) ls (.int (nI x.1) :: rest))) : W p l e R s m args below meth c H locs cells slots Q (F0 m pc ls (.ref a :: rest)) := by
  obtain ⟨k, hk⟩ := List.getElem?_of_mem hm
  exact va_alen hexec hb hK hP k t0 hk ht rfl hdg kk
theorem nd_sep {L1 L2 : va_W} {q0 : Nat × va_E} (hD : va_D A (L1 ++ q0 :: L2)) : ∀ q ∈ L1 ++ L2, q.1 ≠ q0.1 := by
  intro q hq e
  have h := (va_D_iff.mp (hD.pm List.perm_middle)).1
  rw [List.map_cons, List.nodup_cons] at h
  exact h.1 (by rw [← e]; exact List.mem_map_of_mem hq)
/-- a place's state written -/
theorem sSt2 {r k : Nat} {x : Int32} (hexec : p.tables.exec = Jvm.exec) (hb : c.code = cc) (hK : va_K D vwCl tys s) (hP : va_P D vwCl (X ++ wS cI c2 c3 v rw_ ow cN rN pa pd st bn hc hm lo tn) H) (hD : va_D A (X ++ wS cI c2 c3 v rw_ ow cN rN pa pd st bn hc hm lo tn)) (hS : va_S A H0 H locs) (t0 : Nat) (ht : tys[t0]? = some (cI, .int)) (hr : r < rN) (hk : k < cN) (hdg : decode cc pc = .ok (.iastore, 1))
    (kk : ∀ (H1 : Heap) (locs1 : List Loc), va_P D vwCl (X ++ wS cI c2 c3 v rw_ ow cN rN pa pd (upd st (r * cN + k) x) bn hc hm lo tn) H1 → va_D A (X ++ wS cI c2 c3 v rw_ ow cN rN pa pd (upd st (r * cN + k) x) bn hc hm lo tn) → va_S A H0 H1 locs1 → W p l e R s m args below meth c H1 locs1 cells slots Q (F0 m (pc + 1) ls rest)) : W p l e R s m args below meth c H locs cells slots Q (F0 m pc ls (.int x :: .int (nI 2) :: .ref (ow r k) :: rest)) := by
  have hpl : r * cN + k < rN * cN := by
    have h := Nat.mul_le_mul_right cN (show r + 1 ≤ rN from hr)
    rw [Nat.succ_mul] at h
    omega
  obtain ⟨d1, d2⟩ := pl_div (r := r) hk
  obtain ⟨i, hi⟩ := List.getElem?_of_mem (List.mem_append_right X (sCell_m (cI := cI) (c2 := c2) (c3 := c3) (v := v) (rw_ := rw_) (ow := ow) (pa := pa) (pd := pd) (st := st) (bn := bn) (hc := hc) (hm := hm) (lo := lo) (tn := tn) hr hk))
  have e1 : ∀ q, q ≠ r * cN + k → sCell cI cN ow pa pd (upd st (r * cN + k) x) q = sCell cI cN ow pa pd st q := fun q hq => by
    unfold sCell
    rw [pk_un hq]
  have hw1 : sCells cI cN ow pa pd st (rN * cN) = (List.range (r * cN + k)).map (sCell cI cN ow pa pd st) ++ sCell cI cN ow pa pd st (r * cN + k) :: (List.range' (r * cN + k + 1) (rN * cN - (r * cN + k) - 1)).map (sCell cI cN ow pa pd st) := mp_split hpl _ _ fun _ _ => rfl
  have hw2 : sCells cI cN ow pa pd (upd st (r * cN + k) x) (rN * cN) = (List.range (r * cN + k)).map (sCell cI cN ow pa pd st) ++ sCell cI cN ow pa pd (upd st (r * cN + k) x) (r * cN + k) :: (List.range' (r * cN + k + 1) (rN * cN - (r * cN + k) - 1)).map (sCell cI cN ow pa pd st) := mp_split hpl _ _ e1
  have e2 : sCell cI cN ow pa pd (upd st (r * cN + k) x) (r * cN + k) = (ow r k, .inl (cI, 3, .inl (t3 (pa (r * cN + k)) (pd (r * cN + k)) x))) := by
    unfold sCell
    rw [pk_us, d1, d2]
  have e3 : sCell cI cN ow pa pd st (r * cN + k) = (ow r k, .inl (cI, 3, .inl (t3 (pa (r * cN + k)) (pd (r * cN + k)) (st (r * cN + k))))) := by
    unfold sCell
    rw [d1, d2]
  have hin : vp_in (nI 2) 3 := vp_in_nI (by decide) (by decide)
  refine va_iast hexec hb hK hP hD hS i t0 hi ht hin hdg (fun H1 locs1 hP1 hD1 hS1 => kk H1 locs1 (wr_done hi hP1 ?_) (hD.fst ?_) hS1)
  · intro q hq
    rw [show upd (t3 (pa (r * cN + k)) (pd (r * cN + k)) (st (r * cN + k))) (nI 2).toNatClampNeg x = t3 (pa (r * cN + k)) (pd (r * cN + k)) x from by rw [nI_clamp (by decide)]; exact t3_2 _ _ _ _]
    unfold wS at hD hq ⊢
    rw [hw1] at hD ⊢
    rw [hw2] at hq
    simp only [← List.append_assoc] at hD hq ⊢
    have hs := nd_sep hD
    rw [e3] at hs
    rcases List.mem_append.mp hq with h | h
    · exact Or.inr ⟨List.mem_append_left _ h, hs q (List.mem_append_left _ h)⟩
    · rcases List.mem_cons.mp h with h | h
      · exact Or.inl (h.trans e2)
      · exact Or.inr ⟨List.mem_append_right _ (List.mem_cons_of_mem _ h), hs q (List.mem_append_right _ h)⟩
  · simp only [List.map_append]
    congr 1
    congr 1
    congr 1
    unfold sCells
    rw [List.map_map, List.map_map]
    rfl
/-- a place made anew: its own numbers are the new row, behind the world's end -/
theorem sStN {r k q : Nat} {a' b' d' : Int32} (hexec : p.tables.exec = Jvm.exec) (hb : c.code = cc) (hK : va_K D vwCl tys s) (hP : va_P D vwCl ((X ++ wS cI c2 c3 v rw_ ow cN rN pa pd st bn hc hm lo tn) ++ [(q, .inl (cI, 3, .inl (t3 a' b' d')))]) H) (hD : va_D A ((X ++ wS cI c2 c3 v rw_ ow cN rN pa pd st bn hc hm lo tn) ++ [(q, .inl (cI, 3, .inl (t3 a' b' d')))])) (hS : va_S A H0 H locs) (hG : AO .int c2 cI s) (hKI : ∃ kI : Class, s.vm.classes[cI]? = some kI) (hr : r < rN) (hk : k < cN) (hc9 : cN < 2 ^ 31) (hdg : decode cc pc = .ok (.aastore, 1))
    (kk : ∀ (H1 : Heap) (locs1 : List Loc), va_P D vwCl (X ++ wS cI c2 c3 v rw_ (upd2 ow r k q) cN rN (upd pa (r * cN + k) a') (upd pd (r * cN + k) b') (upd st (r * cN + k) d') bn hc hm lo tn) H1 → va_D A (X ++ wS cI c2 c3 v rw_ (upd2 ow r k q) cN rN (upd pa (r * cN + k) a') (upd pd (r * cN + k) b') (upd st (r * cN + k) d') bn hc hm lo tn) → va_S A H0 H1 locs1 → W p l e R s m args below meth c H1 locs1 cells slots Q (F0 m (pc + 1) ls rest)) : W p l e R s m args below meth c H locs cells slots Q (F0 m pc ls (.ref q :: .int (nI k) :: .ref (rw_ r) :: rest)) := by
  have hpl : r * cN + k < rN * cN := by
    have h := Nat.mul_le_mul_right cN (show r + 1 ≤ rN from hr)
    rw [Nat.succ_mul] at h
    omega
  obtain ⟨d1, d2⟩ := pl_div (r := r) hk
  have hsub : (X ++ wS cI c2 c3 v rw_ ow cN rN pa pd st bn hc hm lo tn) ++ [(q, .inl (cI, 3, .inl (t3 a' b' d')))] = (X ++ ([(v 0, .inr (2, [.ref (v 4), .ref (v 1), .int lo, .ref (v 2), .ref (v 3), .int tn])), (v 1, .inl (cI, cN, .inl bn)), (v 2, .inl (cI, 2, .inl hc)), (v 3, .inl (cI, 2, .inl hm)), (v 4, .inl (c3, rN, .inr (.inr (.inr (.inr (fun r => some (rw_ r)))))))] ++ (sRows c2 cN rw_ ow rN ++ sCells cI cN ow pa pd st (rN * cN)))) ++ [(q, .inl (cI, 3, .inl (t3 a' b' d')))] := rfl
  have hR : va_at D vwCl (sRow c2 cN rw_ ow r) H := hP.mem (List.mem_append_left _ (List.mem_append_right _ (sRow_m hr)))
  have hRA : A (rw_ r) := (va_D_iff.mp hD).2 (sRow c2 cN rw_ ow r) (List.mem_append_left _ (List.mem_append_right _ (sRow_m hr)))
  have hq : va_at D vwCl (q, .inl (cI, 3, .inl (t3 a' b' d'))) H := hP.mem (List.mem_append_right _ List.mem_cons_self)
  obtain ⟨kA, g1, g2, -, -⟩ := hG
  obtain ⟨kI, hkI⟩ := hKI
  have hlt : (nI k).toNatClampNeg < cN := by rw [nI_clamp (by omega)]; exact hk
  generalize hHD : ([(v 0, .inr (2, [.ref (v 4), .ref (v 1), .int lo, .ref (v 2), .ref (v 3), .int tn])), (v 1, .inl (cI, cN, .inl bn)), (v 2, .inl (cI, 2, .inl hc)), (v 3, .inl (cI, 2, .inl hm)), (v 4, .inl (c3, rN, .inr (.inr (.inr (.inr (fun r => some (rw_ r)))))))] : va_W) = HD at hsub
  have hw' : X ++ wS cI c2 c3 v rw_ (upd2 ow r k q) cN rN (upd pa (r * cN + k) a') (upd pd (r * cN + k) b') (upd st (r * cN + k) d') bn hc hm lo tn = X ++ (HD ++ (sRows c2 cN rw_ (upd2 ow r k q) rN ++ sCells cI cN (upd2 ow r k q) (upd pa (r * cN + k) a') (upd pd (r * cN + k) b') (upd st (r * cN + k) d') (rN * cN))) := by rw [← hHD]
  have eR : ∀ r2, r2 ≠ r → sRow c2 cN rw_ (upd2 ow r k q) r2 = sRow c2 cN rw_ ow r2 := fun r2 h2 => by
    unfold sRow
    have : (fun c => some (upd2 ow r k q r2 c)) = fun c => some (ow r2 c) := funext fun c => by
      unfold upd2
      rw [if_neg (fun z => h2 z.1)]
    rw [this]
  have eC : ∀ p2, p2 ≠ r * cN + k → sCell cI cN (upd2 ow r k q) (upd pa (r * cN + k) a') (upd pd (r * cN + k) b') (upd st (r * cN + k) d') p2 = sCell cI cN ow pa pd st p2 := fun p2 h2 => by
    unfold sCell
    rw [pk_un h2, pk_un h2, pk_un h2]
    have : upd2 ow r k q (p2 / cN) (p2 % cN) = ow (p2 / cN) (p2 % cN) := by
      unfold upd2
      rw [if_neg]
      rintro ⟨z1, z2⟩
      exact h2 (by rw [← z1, ← z2, Nat.mul_comm]; exact (Nat.div_add_mod p2 cN).symm)
    rw [this]
  have eCk : sCell cI cN (upd2 ow r k q) (upd pa (r * cN + k) a') (upd pd (r * cN + k) b') (upd st (r * cN + k) d') (r * cN + k) = (q, .inl (cI, 3, .inl (t3 a' b' d'))) := by
    unfold sCell
    rw [pk_us, pk_us, pk_us, d1, d2]
    have : upd2 ow r k q r k = q := by unfold upd2; rw [if_pos ⟨rfl, rfl⟩]
    rw [this]
  have w1 : sRows c2 cN rw_ ow rN = (List.range r).map (sRow c2 cN rw_ ow) ++ sRow c2 cN rw_ ow r :: (List.range' (r + 1) (rN - r - 1)).map (sRow c2 cN rw_ ow) := mp_split hr _ _ fun _ _ => rfl
  have w2 : sRows c2 cN rw_ (upd2 ow r k q) rN = (List.range r).map (sRow c2 cN rw_ ow) ++ sRow c2 cN rw_ (upd2 ow r k q) r :: (List.range' (r + 1) (rN - r - 1)).map (sRow c2 cN rw_ ow) := mp_split hr _ _ eR
  have w3 : sCells cI cN ow pa pd st (rN * cN) = (List.range (r * cN + k)).map (sCell cI cN ow pa pd st) ++ sCell cI cN ow pa pd st (r * cN + k) :: (List.range' (r * cN + k + 1) (rN * cN - (r * cN + k) - 1)).map (sCell cI cN ow pa pd st) := mp_split hpl _ _ fun _ _ => rfl
  have w4 : sCells cI cN (upd2 ow r k q) (upd pa (r * cN + k) a') (upd pd (r * cN + k) b') (upd st (r * cN + k) d') (rN * cN) = (List.range (r * cN + k)).map (sCell cI cN ow pa pd st) ++ (q, .inl (cI, 3, .inl (t3 a' b' d'))) :: (List.range' (r * cN + k + 1) (rN * cN - (r * cN + k) - 1)).map (sCell cI cN ow pa pd st) := by
    rw [← eCk]
    exact mp_split hpl _ _ eC
  rw [hsub, w1, w3] at hP hD
  rw [hw', w2, w4] at kk
  generalize (List.range r).map (sRow c2 cN rw_ ow) = R1 at hP hD kk
  generalize (List.range' (r + 1) (rN - r - 1)).map (sRow c2 cN rw_ ow) = R2 at hP hD kk
  generalize (List.range (r * cN + k)).map (sCell cI cN ow pa pd st) = C1 at hP hD kk
  generalize (List.range' (r * cN + k + 1) (rN * cN - (r * cN + k) - 1)).map (sCell cI cN ow pa pd st) = C2 at hP hD kk
  generalize sCell cI cN ow pa pd st (r * cN + k) = C0 at hP hD
  have hD1 : va_D A ((X ++ HD ++ R1) ++ sRow c2 cN rw_ ow r :: (R2 ++ (C1 ++ C0 :: C2) ++ [(q, .inl (cI, 3, .inl (t3 a' b' d')))])) := by
    simpa only [List.append_assoc, List.cons_append] using hD
  have hs := nd_sep hD1
  refine W.aast hexec hb (a := rw_ r) (cell := vp_cell c2 (cN, .inr (.inr (.inr (.inr (fun c => some (ow r c))))))) hR (fun q h => by cases h) (fun h => by cases h) g1 g2 rfl hkI ⟨nI_pos (by omega), by show _ < (arrV _ _ _).slots.size; rw [arrV_size]; exact hlt⟩ hq (fun q h => by cases h) hkI (va_asg _ _) rfl rfl hdg fun H1 e z oq => ?_
  refine kk H1 _ (va_P.all fun x hx => ?_) ?_ (hS.put z oq hRA)
  · have keep : x ∈ (X ++ HD ++ R1) ++ (R2 ++ (C1 ++ C0 :: C2) ++ [(q, .inl (cI, 3, .inl (t3 a' b' d')))]) → va_at D vwCl x H1 := fun h => by
      refine (hP.mem ?_).kept (oq x.1 (hs x h))
      simp only [List.mem_append, List.mem_cons, List.mem_singleton] at h ⊢
      grind
    by_cases h0 : x = sRow c2 cN rw_ (upd2 ow r k q) r
    · subst h0
      show H1[rw_ r]? = some (vp_cell _ _)
      rw [e, vp_cell_q, vp_cell_q, arrV_store]
      congr 2
      funext j
      rw [nI_clamp (by omega)]
      by_cases hj : j = k
      · subst hj
        simp [updV, upd2, va_rf]
      · simp [updV, upd2, hj]
    · refine keep ?_
      simp only [List.mem_append, List.mem_cons, List.mem_singleton] at hx ⊢
      grind
  · have h1 : va_D A ((X ++ HD ++ R1) ++ sRow c2 cN rw_ ow r :: (R2 ++ C1) ++ C0 :: (C2 ++ [(q, .inl (cI, 3, .inl (t3 a' b' d')))])) := by
      simpa only [List.append_assoc, List.cons_append] using hD
    have h2 := (h1.pm List.perm_middle)
    have h3 : va_D A ((X ++ HD ++ R1) ++ sRow c2 cN rw_ ow r :: (R2 ++ C1) ++ (C2 ++ [(q, .inl (cI, 3, .inl (t3 a' b' d')))])) := va_D.right (wc := [C0]) h2
    have h4 := h3.pm (List.Perm.append_left _ (pm_12 C2 [(q, .inl (cI, 3, .inl (t3 a' b' d')))]))
    refine h4.fst ?_
    simp only [List.map_append, List.map_cons, List.append_assoc, List.cons_append, List.nil_append, List.map_nil, sRow]
end SW
end
section
/-! ===== the instruction itself ===== -/
section MU2
variable {p : Program} {l : Launch} {e : Env} {R : Room} {s : State} {m : MethodId} {args : Array Value} {below : List Frame} {meth : Method} {c : Code} {H : Heap} {locs : List Loc} {cells slots : Nat} {Q : State → Prop}
theorem muO_i (c : ClassId) (N h cn : Nat) : ∀ i : Nat, muO c N h cn i = arrV c N (fun j => va_rf (if j < i then some (h + 1 + j * cn) else none))
  | 0 => by
    show ({ cls := c, slots := Array.replicate N .null, vm := .none } : Cell) = _
    rw [arrV_new]
    refine congrArg (arrV c N) (funext fun j => ?_)
    simp [va_rf]
  | i + 1 => by
    show (muO c N h cn i).setSlot i (.ref (h + 1 + i * cn)) = _
    rw [muO_i c N h cn i, arrV_store]
    refine congrArg (arrV c N) (funext fun j => ?_)
    by_cases e : j = i
    · subst e
      simp [updV, va_rf]
    · by_cases h : j < i
      · simp [updV, e, h, Nat.lt_succ_of_lt h]
      · simp [updV, e, h, show ¬ j < i + 1 by omega]
theorem arrV_ext {c : ClassId} {N : Nat} {f g : Nat → Value} (h : ∀ j, j < N → f j = g j) : arrV c N f = arrV c N g := by
  unfold arrV
  have h2 : (fun j : Fin N => f j.val) = (fun j : Fin N => g j.val) := funext fun j => h j.val j.isLt
  rw [h2]
theorem muO_V (c : ClassId) (N h cn : Nat) : muO c N h cn N = arrV c N (fun j => va_rf (some (h + 1 + j * cn))) := by
  rw [muO_i]
  exact arrV_ext fun j hj => by rw [if_pos hj]
theorem W_mu {own nm : String} {index dims : Nat} {cO : ClassId} {g0 : State → State} {cn sl : Nat} {counts : List Int32} (G : muG g0 cn sl) (hexec : p.tables.exec = Jvm.exec) {cc : ByteArray} (hb : c.code = cc) (hown : s.vm.findClass own = some m.cls) (hclink : (Cond.classLink own index nm).before args s = true) (hnm : s.vm.findClass nm = some cO)
    (hd0 : ¬ dims = 0) (hlen : counts.length = dims) (hcnt : (∃ n k, counts = [n, k]) ∨ ∃ n k z, counts = [n, k, z]) {g : JFrame} (hg : g.method = m) (hdg : decode cc g.pc = .ok (.multianewarray index dims, 4)) {rest : List Value} (hstack : g.stack = (counts.map Value.int).reverse ++ rest)
    (hcells : cells + cn ≤ R.cells) (hslots : slots + sl ≤ R.slots)
    (hw : l.admits e → ∀ (s' : State) (d' : Bool) (acts' : List Action) (E : CtlPost) (Q : Addr → Pre), s.vm.Alike s'.vm → s'.heap.size + cn ≤ e.platform.maxCells → s'.slotsUsed + sl ≤ e.platform.maxSlots → (∀ d'' acts'', Q s'.heap.size d'' acts'' (g0 s')) → wp (multianewarray.make cO counts) Q E e d' acts' s')
    (kk : ∀ (T1 : State) (L : List Loc), T1.heap = H → (∀ q ∈ L, H.size ≤ q.base) → W p l e R s m args below meth c (g0 T1).heap (locs ++ L) (cells + cn) (slots + sl) Q { g with pc := g.pc + 4, stack := .ref H.size :: rest }) : W p l e R s m args below meth c H locs cells slots Q g := by
  intro T hT X
  subst hb
  subst hg
  subst hT
  have hpl : e.platform.magicAccessors = ({} : Platform).magicAccessors := by rw [X.admits.platform]
  obtain ⟨c0, hfc0, hcl⟩ := Cond.classLink_spec hown hclink e.platform hpl
  cases hnm.symm.trans hfc0
  obtain ⟨hg₁, hwarm₁, hready₁⟩ := State.classEntry (e := e) X.warmed hcl
  generalize T.vm.noted g.method.cls index (.cls cO) = vm₁ at hg₁ hwarm₁ hready₁
  have X₁ := X.noted hwarm₁
  obtain ⟨hr1, hr2⟩ := X.roomAbove hcells hslots
  obtain ⟨L, XF, hL⟩ := G.2.2.2.2.2 _ _ _ _ _ _ _ _ _ _ _ _ _ _ X₁
  obtain ⟨t, a1, b1⟩ := kk (T.setVm vm₁) L rfl hL (g0 (T.setVm vm₁)) rfl XF
  refine ⟨t, ?_, b1⟩
  jvm_step X.here [hexec, hdg]
  simp only [multianewarray.sem, wp_bind', W.resolveClassAt_links (State.method?_setTop g X.here.top) hg₁]
  rw [W.popN, if_neg hd0]
  refine ⟨g, State.topJava?_setTop' (s := T.setVm vm₁) g X.here.top, counts.map Value.int, rest, by simpa using hlen, hstack, ?_⟩
  have eS : ((T.setTop g).setVm vm₁).setTop { g with stack := rest } = (T.setVm vm₁).setTop { g with stack := rest } := by
    show ((T.setVm vm₁).setTop g).setTop _ = _
    rw [State.setTop_setTop]
  rw [eS]
  rcases hcnt with ⟨n, k, rfl⟩ | ⟨n, k, z, rfl⟩ <;> simp only [List.map_cons, List.map_nil, List.mapM_cons, List.mapM_nil, wp_bind', wp_pure']
  all_goals
    refine hw X.admits _ _ _ _ _ hwarm₁.alike (by show T.heap.size + _ ≤ _; omega) (by show T.slotsUsed + _ ≤ _; omega) (fun d2 acts2 => ?_)
    rw [G.2.2.2.2.1]
    simp only [wp_bind', W.mark, W.pushRef, State.topJava?_setTop' _ XF.here.top, Option.some.injEq, exists_eq_left', State.setTop_setTop, State.heap_setTop]
    intro acts
    simp [jvm, XF.here.top]
    exact a1
end MU2
end
section
/-! ===== new arrays of arrays, as cells of a world ===== -/
section MU3
variable {p : Program} {l : Launch} {e : Env} {R : Room} {s : State} {m : MethodId} {args : Array Value} {below : List Frame} {meth : Method} {c : Code} {H : Heap} {locs : List Loc} {cells slots : Nat} {Q : State → Prop}
variable {cc : ByteArray} {pc : Nat} {ls : Array Slot} {rest : List Value} {D : va_G} {A : Nat → Prop} {tys : List (ClassId × FieldType)} {ws : va_W} {H0 : Heap}
variable {cI c2 c3 : ClassId}
theorem kindOf {s s' : State} {cA : ClassId} {k : Class} {comp : ClassId} {t : FieldType} (hal : s.vm.Alike s'.vm) (h1 : s.vm.classes[cA]? = some k) (h2 : k.kind = .array comp t) : ∃ k', s'.vm.classes[cA]? = some k' ∧ k'.kind = .array comp t := by
  obtain ⟨k', h3, h4⟩ := hal.2.2 _ _ h1
  exact ⟨k', h3, by rw [h4]; exact h2⟩
theorem two_nd {α : Type} {f : α → Nat} {l : List α} {R : α → α → Prop} (h : l.Pairwise R) (hf : ∀ a b, R a b → f a ≠ f b) : (l.map f).Nodup := by
  unfold List.Nodup
  rw [List.pairwise_map]
  exact h.imp fun {a b} q => hf a b q
/-- new int[n][k][3] -/
theorem va_mu3 {n k : Nat} (hexec : p.tables.exec = Jvm.exec) (hb : c.code = cc) (hown : s.vm.findClass RX2 = some m.cls) (hG : KG cI c2 c3 s) (hK : va_K D vwCl tys s) (t0 : Nat) (ht : tys[t0]? = some (cI, .int)) (hP : va_P D vwCl ws H) (hD : va_D A ws) (hS : va_S A H0 H locs) (hA : ∀ q, H0.size ≤ q → A q) (hn : n < 100) (hk : k < 100) (hk0 : 0 < k)
    (hcells : cells + (1 + n * (1 + k)) ≤ R.cells) (hslots : slots + (n + n * (k + k * 3)) ≤ R.slots) (hdg : decode cc pc = .ok (.multianewarray 7 3, 4))
    (kk : ∀ (b : Nat) (rw_ : Nat → Nat) (ow : Nat → Nat → Nat) (H1 : Heap) (locs1 : List Loc), va_P D vwCl (ws ++ ([(b, .inl (c3, n, .inr (.inr (.inr (.inr (fun r => some (rw_ r)))))))] ++ (sRows c2 k rw_ ow n ++ sCells cI k ow (fun _ => 0) (fun _ => 0) (fun _ => 0) (n * k)))) H1 → va_D A (ws ++ ([(b, .inl (c3, n, .inr (.inr (.inr (.inr (fun r => some (rw_ r)))))))] ++ (sRows c2 k rw_ ow n ++ sCells cI k ow (fun _ => 0) (fun _ => 0) (fun _ => 0) (n * k)))) → va_S A H0 H1 locs1 →
      W p l e R s m args below meth c H1 locs1 (cells + (1 + n * (1 + k))) (slots + (n + n * (k + k * 3))) Q (F0 m (pc + 4) ls (.ref b :: rest))) : W p l e R s m args below meth c H locs cells slots Q (F0 m pc ls (.int 3 :: .int (nI k) :: .int (nI n) :: rest)) := by
  obtain ⟨⟨k2, a1, a2, -, -⟩, ⟨k3, b1, b2, -, b4⟩, hcl, -⟩ := hG
  obtain ⟨-, kI, i1, compI, i2⟩ := (hK.2 t0 _ ht).1 0 (fun _ => .null)
  have i1 : s.vm.classes[cI]? = some kI := i1
  have G1 := muL_G cI 3 (.int 0)
  have G2 := muF_G G1 c2 k
  have G3 := muF_G G2 c3 n
  have en : (nI n).toNatClampNeg = n := nI_clamp (by omega)
  have ek : (nI k).toNatClampNeg = k := nI_clamp (by omega)
  have e3 : (3 : Int32).toNatClampNeg = 3 := by decide
  have q1 : 1 + n * (1 + k * 1) = 1 + n * (1 + k) := by rw [Nat.mul_one]
  have hpn : ¬ nI n < 0 := nI_pos (by omega)
  have hpk : ¬ nI k < 0 := nI_pos (by omega)
  refine W_mu (own := RX2) (nm := "[[[I") (index := 7) (dims := 3) (cO := c3) (counts := [nI n, nI k, 3]) (g := F0 m pc ls (.int 3 :: .int (nI k) :: .int (nI n) :: rest)) (rest := rest) G3 hexec hb hown (va_Nw.use rfl hcl) b4 (by decide) rfl (Or.inr ⟨_, _, _, rfl⟩) rfl hdg rfl (by rw [q1]; exact hcells) hslots ?_ ?_
  · intro hadm s' d' acts' E Q' hal h1 h2 hq
    obtain ⟨k3', b1', b2'⟩ := kindOf hal b1 b2
    have L1 : ∀ z : Nat, z < 100 → ¬ z > e.platform.arrayLengthLimit := fun z hz => by rw [Launch.admits_arrayLengthLimit hadm]; omega
    have L2 : ∀ z : Nat, z < 100 → ¬ z * 4 > e.platform.maxHeapBytes := fun z hz => by rw [Launch.admits_maxHeapBytes hadm]; omega
    refine mu_wpN G2 (t0 := .array (.array .int)) b1' b2' rfl hpn (by simp [hpk]) (by rw [en]; exact L1 n hn) (by rw [en]; exact L2 n hn) ?_ (by rw [en]; exact h1) (by rw [en]; exact h2) (by rw [en]; exact hq)
    intro s2 d2 acts2 Q2 hv2 h3 h4 hq2
    have hal2 : s.vm.Alike s2.vm := by rw [hv2]; exact hal
    obtain ⟨k2', a1', a2'⟩ := kindOf hal2 a1 a2
    refine mu_wpN G1 (t0 := .array .int) a1' a2' rfl hpk (by simp) (by rw [ek]; exact L1 k hk) (by rw [ek]; exact L2 k hk) ?_ (by rw [ek]; exact h3) (by rw [ek]; exact h4) (by rw [ek]; exact hq2)
    intro s3 d3 acts3 Q3 hv3 h5 h6 hq3
    have hal3 : s.vm.Alike s3.vm := by rw [hv3]; exact hal2
    obtain ⟨kI', i1', i2'⟩ := kindOf hal3 i1 i2
    refine mu_wp1 i1' i2' (by decide) (by rw [e3]; exact L1 3 (by omega)) (by rw [e3]; exact L2 3 (by omega)) rfl rfl (by omega) (by rw [e3]; omega) ?_
    rw [e3]
    exact hq3 _ _
  · intro T1 L hT1 hL
    obtain ⟨f1, f2, -, -⟩ := muF_f G2 c3 n T1 n
    have hold : ∀ q, q < H.size → (muF (fun s => muF (muL cI 3 (.int 0)) 1 c2 k s k) (1 + k * 1) c3 n T1 n).heap[q]? = H[q]? := fun q hq => by
      rw [muF_old G2 c3 n T1 (a := q) (by rw [hT1]; exact hq), hT1]
    rw [hT1, muO_V] at f2
    have hrow : ∀ r, r < n → (muF (fun s => muF (muL cI 3 (.int 0)) 1 c2 k s k) (1 + k * 1) c3 n T1 n).heap[H.size + 1 + r * (1 + k * 1)]? = some (arrV c2 k (fun j => va_rf (some (H.size + 1 + r * (1 + k * 1) + 1 + j * 1)))) := fun r hr => by
      rw [muF_in G2 c3 n T1 n r hr _ (by rw [hT1]; exact Nat.le_refl _) (by rw [hT1, Nat.succ_mul]; omega)]
      have hs := (muF_f G2 c3 n T1 r).1
      rw [hT1] at hs
      have h3 := (muF_f G1 c2 k (muF (fun s => muF (muL cI 3 (.int 0)) 1 c2 k s k) (1 + k * 1) c3 n T1 r) k).2.1
      rw [hs, muO_V] at h3
      exact h3
    have hcell : ∀ r j, r < n → j < k → (muF (fun s => muF (muL cI 3 (.int 0)) 1 c2 k s k) (1 + k * 1) c3 n T1 n).heap[H.size + 1 + r * (1 + k * 1) + 1 + j * 1]? = some (arrV cI 3 (fun _ => .int 0)) := fun r j hr hj => by
      rw [muF_in G2 c3 n T1 n r hr _ (by rw [hT1]; omega) (by rw [hT1, Nat.succ_mul]; omega)]
      have hs := (muF_f G2 c3 n T1 r).1
      rw [hT1] at hs
      have h3 := muF_in G1 c2 k (muF (fun s => muF (muL cI 3 (.int 0)) 1 c2 k s k) (1 + k * 1) c3 n T1 r) k j hj (H.size + 1 + r * (1 + k * 1) + 1 + j * 1) (by rw [hs]; exact Nat.le_refl _) (by rw [hs]; omega)
      have h4 := (muF_f G1 c2 k (muF (fun s => muF (muL cI 3 (.int 0)) 1 c2 k s k) (1 + k * 1) c3 n T1 r) j).1
      rw [hs] at h4
      refine h3.trans ?_
      rw [← h4]
      exact (State.heap_pushCell_size _ _).trans (by rw [arrV_new])
    have hsz : H.size + (1 + n * (1 + k * 1)) = (muF (fun s => muF (muL cI 3 (.int 0)) 1 c2 k s k) (1 + k * 1) c3 n T1 n).heap.size := by
      rw [f1, hT1]; omega
    generalize (muF (fun s => muF (muL cI 3 (.int 0)) 1 c2 k s k) (1 + k * 1) c3 n T1 n).heap = H1 at hold f2 hrow hcell hsz ⊢
    have hP1 : va_P D vwCl ws H1 := hP.kept (fun i x hx => hold x.1 ((hP i x hx).lt))
    have hlt : ∀ x ∈ ws, x.1 < H.size := fun x hx => (hP.mem hx).lt
    have eC : ∀ p, p < n * k → sCell cI k (fun r j => H.size + 1 + r * (1 + k * 1) + 1 + j * 1) (fun _ => 0) (fun _ => 0) (fun _ => 0) p = (H.size + 2 + p + p / k, .inl (cI, 3, .inl (t3 0 0 0))) := fun p hp => by
      obtain ⟨g1, g2, g3⟩ := pl_rc hp
      unfold sCell
      have : H.size + 1 + p / k * (1 + k * 1) + 1 + p % k * 1 = H.size + 2 + p + p / k := by
        rw [Nat.mul_one, Nat.mul_one, Nat.mul_add, Nat.mul_one]
        omega
      dsimp only
      rw [this]
    have := kk H.size (fun r => H.size + 1 + r * (1 + k * 1)) (fun r j => H.size + 1 + r * (1 + k * 1) + 1 + j * 1) H1 (locs ++ L) ?_ ?_ ?_
    · rw [q1]; exact this
    · refine va_P.all fun x hx => ?_
      rcases List.mem_append.mp hx with h | h
      · exact hP1.mem h
      rcases List.mem_append.mp h with h | h
      · rw [List.mem_singleton] at h
        subst h
        show H1[H.size]? = some (vp_cell c3 _)
        rw [vp_cell_q]
        exact f2
      rcases List.mem_append.mp h with h | h
      · obtain ⟨r, hr, rfl⟩ := List.mem_map.mp h
        show H1[H.size + 1 + r * (1 + k * 1)]? = some (vp_cell c2 _)
        rw [vp_cell_q]
        exact hrow r (List.mem_range.mp hr)
      · obtain ⟨p1, hp1, rfl⟩ := List.mem_map.mp h
        obtain ⟨g1, g2, g3⟩ := pl_rc (List.mem_range.mp hp1)
        show H1[H.size + 1 + p1 / k * (1 + k * 1) + 1 + p1 % k * 1]? = some (vp_cell cI _)
        rw [vp_cell_i, ← t3_0]
        exact hcell _ _ g1 g2
    · refine va_D_iff.mpr ⟨?_, fun x hx => ?_⟩
      · have hpw := List.pairwise_lt_range (n := n)
        have hpw2 := List.pairwise_lt_range (n := n * k)
        rw [List.map_append, List.map_append, List.map_append, List.nodup_append]
        have n1 : ∀ y ∈ (sRows c2 k (fun r => H.size + 1 + r * (1 + k * 1)) (fun r j => H.size + 1 + r * (1 + k * 1) + 1 + j * 1) n).map Prod.fst, ∃ r, r < n ∧ y = H.size + 1 + r * (1 + k) := fun y hy => by
          obtain ⟨x, hx, rfl⟩ := List.mem_map.mp hy
          obtain ⟨r, hr, rfl⟩ := List.mem_map.mp hx
          exact ⟨r, List.mem_range.mp hr, by show H.size + 1 + r * (1 + k * 1) = _; rw [Nat.mul_one]⟩
        have n2 : ∀ y ∈ (sCells cI k (fun r j => H.size + 1 + r * (1 + k * 1) + 1 + j * 1) (fun _ => 0) (fun _ => 0) (fun _ => 0) (n * k)).map Prod.fst, ∃ r j, r < n ∧ j < k ∧ y = H.size + 1 + r * (1 + k) + 1 + j := fun y hy => by
          obtain ⟨x, hx, rfl⟩ := List.mem_map.mp hy
          obtain ⟨p1, hp1, rfl⟩ := List.mem_map.mp hx
          obtain ⟨g1, g2, g3⟩ := pl_rc (List.mem_range.mp hp1)
          exact ⟨p1 / k, p1 % k, g1, g2, by show H.size + 1 + p1 / k * (1 + k * 1) + 1 + p1 % k * 1 = _; rw [Nat.mul_one, Nat.mul_one]⟩
        refine ⟨(va_D_iff.mp hD).1, ?_, ?_⟩
        · rw [List.nodup_append, List.nodup_append]
          refine ⟨by simp, ⟨?_, ?_, ?_⟩, ?_⟩
          · unfold sRows
            rw [List.map_map]
            refine two_nd hpw fun a b hab => ?_
            show H.size + 1 + a * (1 + k * 1) ≠ H.size + 1 + b * (1 + k * 1)
            have := Nat.mul_le_mul_right (1 + k * 1) (show a + 1 ≤ b from hab)
            rw [Nat.succ_mul] at this
            omega
          · unfold sCells
            rw [List.map_map]
            have e0 : (List.range (n * k)).map (Prod.fst ∘ sCell cI k (fun r j => H.size + 1 + r * (1 + k * 1) + 1 + j * 1) (fun _ => 0) (fun _ => 0) (fun _ => 0)) = (List.range (n * k)).map (fun p => H.size + 2 + p + p / k) := List.map_congr_left fun p hp => by
              show (sCell cI k _ _ _ _ p).1 = _
              rw [eC p (List.mem_range.mp hp)]
            rw [e0]
            refine two_nd hpw2 fun a b hab => ?_
            have := Nat.div_le_div_right (c := k) (Nat.le_of_lt hab)
            show H.size + 2 + a + a / k ≠ H.size + 2 + b + b / k
            omega
          · intro a ha b hb e
            obtain ⟨r, hr, rfl⟩ := n1 a ha
            obtain ⟨r2, j, hr2, hj, rfl⟩ := n2 b hb
            rcases Nat.lt_or_ge r2 r with z | z
            · have := Nat.mul_le_mul_right (1 + k) (show r2 + 1 ≤ r from z)
              rw [Nat.succ_mul] at this
              omega
            · have := Nat.mul_le_mul_right (1 + k) z
              omega
          · intro a ha b hb e
            rw [List.map_singleton, List.mem_singleton] at ha
            subst ha
            rcases List.mem_append.mp hb with hb | hb
            · obtain ⟨r, hr, rfl⟩ := n1 b hb
              omega
            · obtain ⟨r2, j, hr2, hj, rfl⟩ := n2 b hb
              omega
        · intro a ha b hb e
          obtain ⟨x, hx, rfl⟩ := List.mem_map.mp ha
          have h1 := hlt x hx
          rcases List.mem_append.mp hb with hb | hb
          · rw [List.map_singleton, List.mem_singleton] at hb
            subst hb
            omega
          rcases List.mem_append.mp hb with hb | hb
          · obtain ⟨r, hr, rfl⟩ := n1 b hb
            omega
          · obtain ⟨r2, j, hr2, hj, rfl⟩ := n2 b hb
            omega
      · rcases List.mem_append.mp hx with h | h
        · exact (va_D_iff.mp hD).2 x h
        refine hA _ (Nat.le_trans hS.1 ?_)
        rcases List.mem_append.mp h with h | h
        · rw [List.mem_singleton] at h
          subst h
          exact Nat.le_refl _
        rcases List.mem_append.mp h with h | h
        · obtain ⟨r, hr, rfl⟩ := List.mem_map.mp h
          show H.size ≤ H.size + 1 + r * (1 + k * 1)
          omega
        · obtain ⟨p1, hp1, rfl⟩ := List.mem_map.mp h
          show H.size ≤ H.size + 1 + p1 / k * (1 + k * 1) + 1 + p1 % k * 1
          omega
    · refine ⟨Nat.le_trans hS.1 (by omega), fun q h1 h2 => ?_, fun q hq => ?_⟩
      · rw [hold q (Nat.lt_of_lt_of_le h1 hS.1)]
        exact hS.2.1 q h1 h2
      · rcases List.mem_append.mp hq with h | h
        · exact hS.2.2 q h
        · exact hA _ (Nat.le_trans hS.1 (hL q h))
end MU3
end
section
section MU4
variable {p : Program} {l : Launch} {e : Env} {R : Room} {s : State} {m : MethodId} {args : Array Value} {below : List Frame} {meth : Method} {c : Code} {H : Heap} {locs : List Loc} {cells slots : Nat} {Q : State → Prop}
variable {cc : ByteArray} {pc : Nat} {ls : Array Slot} {rest : List Value} {D : va_G} {A : Nat → Prop} {tys : List (ClassId × FieldType)} {ws : va_W} {H0 : Heap}
/-- new T[n][k], an array of n rows, each of k -/
theorem va_mu2 {own nm : String} {index n k : Nat} {cO comp cx : ClassId} {kO kc : Class} {t0 type : FieldType} {z : vp_A} (hexec : p.tables.exec = Jvm.exec) (hb : c.code = cc) (hown : s.vm.findClass own = some m.cls) (hclink : (Cond.classLink own index nm).before args s = true) (hnm : s.vm.findClass nm = some cO)
    (a1 : s.vm.classes[cO]? = some kO) (a2 : kO.kind = .array comp t0) (href : t0.isReference = true) (i1 : s.vm.classes[comp]? = some kc) (i2 : kc.kind = .array cx type) (hz : arrV comp k (fun _ => defaultValue type) = vp_cell comp z) (hdf : fits type (defaultValue type) = true) (hdd : (defaultValue type).isDefault = true) (hcb : componentBytes type ≤ 8) (hcb0 : componentBytes t0 ≤ 8)
    (hP : va_P D vwCl ws H) (hD : va_D A ws) (hS : va_S A H0 H locs) (hA : ∀ q, H0.size ≤ q → A q) (hn : n < 100) (hk : k < 100)
    (hcells : cells + (1 + n) ≤ R.cells) (hslots : slots + (n + n * k) ≤ R.slots) (hdg : decode cc pc = .ok (.multianewarray index 2, 4))
    (kk : ∀ (b : Nat) (rw_ : Nat → Nat) (H1 : Heap) (locs1 : List Loc), va_P D vwCl (ws ++ ([(b, .inl (cO, n, .inr (.inr (.inr (.inr (fun r => some (rw_ r)))))))] ++ (List.range n).map (fun r => (rw_ r, .inl (comp, z))))) H1 → va_D A (ws ++ ([(b, .inl (cO, n, .inr (.inr (.inr (.inr (fun r => some (rw_ r)))))))] ++ (List.range n).map (fun r => (rw_ r, .inl (comp, z))))) → va_S A H0 H1 locs1 →
      W p l e R s m args below meth c H1 locs1 (cells + (1 + n)) (slots + (n + n * k)) Q (F0 m (pc + 4) ls (.ref b :: rest))) : W p l e R s m args below meth c H locs cells slots Q (F0 m pc ls (.int (nI k) :: .int (nI n) :: rest)) := by
  have G2 := muL_G comp k (defaultValue type)
  have G3 := muF_G G2 cO n
  have en : (nI n).toNatClampNeg = n := nI_clamp (by omega)
  have ek : (nI k).toNatClampNeg = k := nI_clamp (by omega)
  have q1 : 1 + n * 1 = 1 + n := by rw [Nat.mul_one]
  have hpn : ¬ nI n < 0 := nI_pos (by omega)
  have hpk : ¬ nI k < 0 := nI_pos (by omega)
  refine W_mu (own := own) (nm := nm) (index := index) (dims := 2) (cO := cO) (counts := [nI n, nI k]) (g := F0 m pc ls (.int (nI k) :: .int (nI n) :: rest)) (rest := rest) G3 hexec hb hown hclink hnm (by decide) rfl (Or.inl ⟨_, _, rfl⟩) rfl hdg rfl (by rw [q1]; exact hcells) hslots ?_ ?_
  · intro hadm s' d' acts' E Q' hal h1 h2 hq
    obtain ⟨k3', b1', b2'⟩ := kindOf hal a1 a2
    have L1 : ∀ z : Nat, z < 100 → ¬ z > e.platform.arrayLengthLimit := fun z hz => by rw [Launch.admits_arrayLengthLimit hadm]; omega
    have L2 : ∀ z y : Nat, z < 100 → y ≤ 8 → ¬ z * y > e.platform.maxHeapBytes := fun z y hz hy => by
      rw [Launch.admits_maxHeapBytes hadm]
      have := Nat.mul_le_mul (Nat.le_of_lt hz) hy
      omega
    refine mu_wpN G2 (t0 := t0) b1' b2' href hpn (by simp [hpk]) (by rw [en]; exact L1 n hn) (by rw [en]; exact L2 n _ hn hcb0) ?_ (by rw [en]; exact h1) (by rw [en]; exact h2) (by rw [en]; exact hq)
    intro s3 d3 acts3 Q3 hv3 h5 h6 hq3
    have hal3 : s.vm.Alike s3.vm := by rw [hv3]; exact hal
    obtain ⟨kI', i1', i2'⟩ := kindOf hal3 i1 i2
    refine mu_wp1 i1' i2' hpk (by rw [ek]; exact L1 k hk) (by rw [ek]; exact L2 k _ hk hcb) hdf hdd (by omega) (by rw [ek]; omega) ?_
    rw [ek]
    exact hq3 _ _
  · intro T1 L hT1 hL
    obtain ⟨f1, f2, -, -⟩ := muF_f G2 cO n T1 n
    have hold : ∀ q, q < H.size → (muF (muL comp k (defaultValue type)) 1 cO n T1 n).heap[q]? = H[q]? := fun q hq => by
      rw [muF_old G2 cO n T1 (a := q) (by rw [hT1]; exact hq), hT1]
    rw [hT1, muO_V] at f2
    have hrow : ∀ r, r < n → (muF (muL comp k (defaultValue type)) 1 cO n T1 n).heap[H.size + 1 + r * 1]? = some (arrV comp k (fun _ => defaultValue type)) := fun r hr => by
      rw [muF_in G2 cO n T1 n r hr _ (by rw [hT1]; exact Nat.le_refl _) (by rw [hT1]; omega)]
      have h4 := (muF_f G2 cO n T1 r).1
      rw [hT1] at h4
      rw [← h4]
      exact (State.heap_pushCell_size _ _).trans (by rw [arrV_new])
    have hsz : H.size + (1 + n * 1) = (muF (muL comp k (defaultValue type)) 1 cO n T1 n).heap.size := by
      rw [f1, hT1]; omega
    generalize (muF (muL comp k (defaultValue type)) 1 cO n T1 n).heap = H1 at hold f2 hrow hsz ⊢
    have hP1 : va_P D vwCl ws H1 := hP.kept (fun i x hx => hold x.1 ((hP i x hx).lt))
    have hlt : ∀ x ∈ ws, x.1 < H.size := fun x hx => (hP.mem hx).lt
    have := kk H.size (fun r => H.size + 1 + r * 1) H1 (locs ++ L) ?_ ?_ ?_
    · rw [q1]; exact this
    · refine va_P.all fun x hx => ?_
      rcases List.mem_append.mp hx with h | h
      · exact hP1.mem h
      rcases List.mem_append.mp h with h | h
      · rw [List.mem_singleton] at h
        subst h
        show H1[H.size]? = some (vp_cell cO _)
        rw [vp_cell_q]
        exact f2
      · obtain ⟨r, hr, rfl⟩ := List.mem_map.mp h
        show H1[H.size + 1 + r * 1]? = some (vp_cell comp z)
        rw [← hz]
        exact hrow r (List.mem_range.mp hr)
    · refine va_D_iff.mpr ⟨?_, fun x hx => ?_⟩
      · have hpw := List.pairwise_lt_range (n := n)
        rw [List.map_append, List.map_append, List.nodup_append]
        have n1 : ∀ y ∈ ((List.range n).map (fun r => ((H.size + 1 + r * 1, .inl (comp, z)) : Nat × va_E))).map Prod.fst, ∃ r, r < n ∧ y = H.size + 1 + r := fun y hy => by
          obtain ⟨x, hx, rfl⟩ := List.mem_map.mp hy
          obtain ⟨r, hr, rfl⟩ := List.mem_map.mp hx
          exact ⟨r, List.mem_range.mp hr, by show H.size + 1 + r * 1 = _; rw [Nat.mul_one]⟩
        refine ⟨(va_D_iff.mp hD).1, ?_, ?_⟩
        · rw [List.nodup_append]
          refine ⟨by simp, ?_, ?_⟩
          · rw [List.map_map]
            refine two_nd hpw fun a b hab => ?_
            show H.size + 1 + a * 1 ≠ H.size + 1 + b * 1
            omega
          · intro a ha b hb e
            rw [List.map_singleton, List.mem_singleton] at ha
            subst ha
            obtain ⟨r, hr, rfl⟩ := n1 b hb
            omega
        · intro a ha b hb e
          obtain ⟨x, hx, rfl⟩ := List.mem_map.mp ha
          have h1 := hlt x hx
          rcases List.mem_append.mp hb with hb | hb
          · rw [List.map_singleton, List.mem_singleton] at hb
            subst hb
            omega
          · obtain ⟨r, hr, rfl⟩ := n1 b hb
            omega
      · rcases List.mem_append.mp hx with h | h
        · exact (va_D_iff.mp hD).2 x h
        refine hA _ (Nat.le_trans hS.1 ?_)
        rcases List.mem_append.mp h with h | h
        · rw [List.mem_singleton] at h
          subst h
          exact Nat.le_refl _
        · obtain ⟨r, hr, rfl⟩ := List.mem_map.mp h
          show H.size ≤ H.size + 1 + r * 1
          omega
    · refine ⟨Nat.le_trans hS.1 (by omega), fun q h1 h2 => ?_, fun q hq => ?_⟩
      · rw [hold q (Nat.lt_of_lt_of_le h1 hS.1)]
        exact hS.2.1 q h1 h2
      · rcases List.mem_append.mp hq with h | h
        · exact hS.2.2 q h
        · exact hA _ (Nat.le_trans hS.1 (hL q h))
end MU4
end
