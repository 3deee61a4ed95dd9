section
-- ===== PART A: goes FIRST, ahead of the names: the tables' words, and 'selects' of the private methods out of them =====
/-- a private method of a class that the tables say can be made, by its rows of tables_1 -/
def lw_okq (q : MethodName × Nat) : Prop := (q.1.cls ≠ "java/lang/invoke/MethodHandle" ∧ q.1.cls ≠ "java/lang/invoke/VarHandle") ∧ Cond.instantiable q.1.cls q.2 ∈ tables_1 ∧ Cond.privateMethod q.1 ∈ tables_1 ∧ Cond.instanceMethod q.1 ∈ tables_1
theorem lw_p0 : lw_okq (⟨"MarbleRamps", "needColumn", "(I)V"⟩, 2) := ⟨⟨by decide +kernel, by decide +kernel⟩, List.mem_of_getElem? (i := 14) (by decide +kernel), List.mem_of_getElem? (i := 122) (by decide +kernel), List.mem_of_getElem? (i := 123) (by decide +kernel)⟩
theorem lw_p1 : lw_okq (⟨"java/lang/Throwable", "fillInStackTrace", "(I)Ljava/lang/Throwable;"⟩, 6) := ⟨⟨by decide +kernel, by decide +kernel⟩, List.mem_of_getElem? (i := 168) (by decide +kernel), List.mem_of_getElem? (i := 166) (by decide +kernel), List.mem_of_getElem? (i := 167) (by decide +kernel)⟩
theorem lw_p2 : lw_okq (⟨"MarbleRamps", "needRow", "(I)V"⟩, 2) := ⟨⟨by decide +kernel, by decide +kernel⟩, List.mem_of_getElem? (i := 14) (by decide +kernel), List.mem_of_getElem? (i := 282) (by decide +kernel), List.mem_of_getElem? (i := 283) (by decide +kernel)⟩
theorem lw_p3 : lw_okq (⟨"MarbleRamps", "needPlace", "(II)V"⟩, 2) := ⟨⟨by decide +kernel, by decide +kernel⟩, List.mem_of_getElem? (i := 14) (by decide +kernel), List.mem_of_getElem? (i := 299) (by decide +kernel), List.mem_of_getElem? (i := 300) (by decide +kernel)⟩
theorem lw_p4 : lw_okq (⟨"MarbleRampsModel", "no", "(I)I"⟩, 10) := ⟨⟨by decide +kernel, by decide +kernel⟩, List.mem_of_getElem? (i := 493) (by decide +kernel), List.mem_of_getElem? (i := 541) (by decide +kernel), List.mem_of_getElem? (i := 542) (by decide +kernel)⟩
theorem lw_p5 : lw_okq (⟨"MarbleRampsModel", "isPlace", "(II)Z"⟩, 10) := ⟨⟨by decide +kernel, by decide +kernel⟩, List.mem_of_getElem? (i := 493) (by decide +kernel), List.mem_of_getElem? (i := 549) (by decide +kernel), List.mem_of_getElem? (i := 550) (by decide +kernel)⟩
theorem lw_p6 : lw_okq (⟨"MarbleRampsModel", "isRow", "(I)Z"⟩, 10) := ⟨⟨by decide +kernel, by decide +kernel⟩, List.mem_of_getElem? (i := 493) (by decide +kernel), List.mem_of_getElem? (i := 553) (by decide +kernel), List.mem_of_getElem? (i := 554) (by decide +kernel)⟩
theorem lw_p7 : lw_okq (⟨"MarbleRampsModel", "isColumn", "(I)Z"⟩, 10) := ⟨⟨by decide +kernel, by decide +kernel⟩, List.mem_of_getElem? (i := 493) (by decide +kernel), List.mem_of_getElem? (i := 557) (by decide +kernel), List.mem_of_getElem? (i := 558) (by decide +kernel)⟩
theorem lw_p8 : lw_okq (⟨"MarbleRampsModel", "placed", "(III)I"⟩, 10) := ⟨⟨by decide +kernel, by decide +kernel⟩, List.mem_of_getElem? (i := 493) (by decide +kernel), List.mem_of_getElem? (i := 561) (by decide +kernel), List.mem_of_getElem? (i := 562) (by decide +kernel)⟩
theorem lw_p9 : lw_okq (⟨"MarbleRampsModel", "isNot", "(I)Z"⟩, 10) := ⟨⟨by decide +kernel, by decide +kernel⟩, List.mem_of_getElem? (i := 493) (by decide +kernel), List.mem_of_getElem? (i := 573) (by decide +kernel), List.mem_of_getElem? (i := 574) (by decide +kernel)⟩
theorem lw_p10 : lw_okq (⟨"MarbleRampsModel", "fall", "(I)I"⟩, 10) := ⟨⟨by decide +kernel, by decide +kernel⟩, List.mem_of_getElem? (i := 493) (by decide +kernel), List.mem_of_getElem? (i := 585) (by decide +kernel), List.mem_of_getElem? (i := 586) (by decide +kernel)⟩
theorem lw_p11 : lw_okq (⟨"MarbleRampsModel", "goes", "(II)I"⟩, 10) := ⟨⟨by decide +kernel, by decide +kernel⟩, List.mem_of_getElem? (i := 493) (by decide +kernel), List.mem_of_getElem? (i := 589) (by decide +kernel), List.mem_of_getElem? (i := 590) (by decide +kernel)⟩
theorem lw_p12 : lw_okq (⟨"MarbleRampsModel", "runFrom", "(II)I"⟩, 10) := ⟨⟨by decide +kernel, by decide +kernel⟩, List.mem_of_getElem? (i := 493) (by decide +kernel), List.mem_of_getElem? (i := 597) (by decide +kernel), List.mem_of_getElem? (i := 598) (by decide +kernel)⟩
theorem lw_p13 : lw_okq (⟨"MarbleRampsModel", "inBins", "()I"⟩, 10) := ⟨⟨by decide +kernel, by decide +kernel⟩, List.mem_of_getElem? (i := 493) (by decide +kernel), List.mem_of_getElem? (i := 608) (by decide +kernel), List.mem_of_getElem? (i := 609) (by decide +kernel)⟩
theorem lw_p14 : lw_okq (⟨"MarbleRampsModel", "ok", "(I)I"⟩, 10) := ⟨⟨by decide +kernel, by decide +kernel⟩, List.mem_of_getElem? (i := 493) (by decide +kernel), List.mem_of_getElem? (i := 612) (by decide +kernel), List.mem_of_getElem? (i := 613) (by decide +kernel)⟩
theorem lw_p15 : lw_okq (⟨"MarbleRampsModel", "isRight", "(II)Z"⟩, 10) := ⟨⟨by decide +kernel, by decide +kernel⟩, List.mem_of_getElem? (i := 493) (by decide +kernel), List.mem_of_getElem? (i := 632) (by decide +kernel), List.mem_of_getElem? (i := 633) (by decide +kernel)⟩
def lw_privs_1 : List (MethodName × Nat) := [(⟨"MarbleRamps", "needColumn", "(I)V"⟩, 2), (⟨"java/lang/Throwable", "fillInStackTrace", "(I)Ljava/lang/Throwable;"⟩, 6), (⟨"MarbleRamps", "needRow", "(I)V"⟩, 2), (⟨"MarbleRamps", "needPlace", "(II)V"⟩, 2), (⟨"MarbleRampsModel", "no", "(I)I"⟩, 10), (⟨"MarbleRampsModel", "isPlace", "(II)Z"⟩, 10), (⟨"MarbleRampsModel", "isRow", "(I)Z"⟩, 10), (⟨"MarbleRampsModel", "isColumn", "(I)Z"⟩, 10), (⟨"MarbleRampsModel", "placed", "(III)I"⟩, 10), (⟨"MarbleRampsModel", "isNot", "(I)Z"⟩, 10), (⟨"MarbleRampsModel", "fall", "(I)I"⟩, 10), (⟨"MarbleRampsModel", "goes", "(II)I"⟩, 10), (⟨"MarbleRampsModel", "runFrom", "(II)I"⟩, 10), (⟨"MarbleRampsModel", "inBins", "()I"⟩, 10), (⟨"MarbleRampsModel", "ok", "(I)I"⟩, 10), (⟨"MarbleRampsModel", "isRight", "(II)Z"⟩, 10)]
theorem lw_r1 : ∀ q ∈ lw_privs_1, lw_okq q := List.forall_mem_cons.mpr ⟨lw_p0, List.forall_mem_cons.mpr ⟨lw_p1, List.forall_mem_cons.mpr ⟨lw_p2, List.forall_mem_cons.mpr ⟨lw_p3, List.forall_mem_cons.mpr ⟨lw_p4, List.forall_mem_cons.mpr ⟨lw_p5, List.forall_mem_cons.mpr ⟨lw_p6, List.forall_mem_cons.mpr ⟨lw_p7, List.forall_mem_cons.mpr ⟨lw_p8, List.forall_mem_cons.mpr ⟨lw_p9, List.forall_mem_cons.mpr ⟨lw_p10, List.forall_mem_cons.mpr ⟨lw_p11, List.forall_mem_cons.mpr ⟨lw_p12, List.forall_mem_cons.mpr ⟨lw_p13, List.forall_mem_cons.mpr ⟨lw_p14, List.forall_mem_cons.mpr ⟨lw_p15, fun _ h => absurd h List.not_mem_nil⟩⟩⟩⟩⟩⟩⟩⟩⟩⟩⟩⟩⟩⟩⟩⟩
theorem lw_p16 : lw_okq (⟨"MarbleRampsModel", "counted", "(II)I"⟩, 10) := ⟨⟨by decide +kernel, by decide +kernel⟩, List.mem_of_getElem? (i := 493) (by decide +kernel), List.mem_of_getElem? (i := 640) (by decide +kernel), List.mem_of_getElem? (i := 641) (by decide +kernel)⟩
theorem lw_p17 : lw_okq (⟨"MarbleRampsModel", "togglesNow", "()I"⟩, 10) := ⟨⟨by decide +kernel, by decide +kernel⟩, List.mem_of_getElem? (i := 493) (by decide +kernel), List.mem_of_getElem? (i := 664) (by decide +kernel), List.mem_of_getElem? (i := 665) (by decide +kernel)⟩
theorem lw_p18 : lw_okq (⟨"MarbleRampsModel", "number", "(I)I"⟩, 10) := ⟨⟨by decide +kernel, by decide +kernel⟩, List.mem_of_getElem? (i := 493) (by decide +kernel), List.mem_of_getElem? (i := 672) (by decide +kernel), List.mem_of_getElem? (i := 673) (by decide +kernel)⟩
theorem lw_p19 : lw_okq (⟨"MarbleRampsModel", "look", "(II)I"⟩, 10) := ⟨⟨by decide +kernel, by decide +kernel⟩, List.mem_of_getElem? (i := 493) (by decide +kernel), List.mem_of_getElem? (i := 680) (by decide +kernel), List.mem_of_getElem? (i := 681) (by decide +kernel)⟩
theorem lw_p20 : lw_okq (⟨"MarbleRampsModel", "keep", "()V"⟩, 10) := ⟨⟨by decide +kernel, by decide +kernel⟩, List.mem_of_getElem? (i := 493) (by decide +kernel), List.mem_of_getElem? (i := 684) (by decide +kernel), List.mem_of_getElem? (i := 685) (by decide +kernel)⟩
theorem lw_p21 : lw_okq (⟨"MarbleRampsModel", "bringBack", "()V"⟩, 10) := ⟨⟨by decide +kernel, by decide +kernel⟩, List.mem_of_getElem? (i := 493) (by decide +kernel), List.mem_of_getElem? (i := 691) (by decide +kernel), List.mem_of_getElem? (i := 692) (by decide +kernel)⟩
theorem lw_p22 : lw_okq (⟨"MarbleRampsModel", "turnedBy", "(I)I"⟩, 10) := ⟨⟨by decide +kernel, by decide +kernel⟩, List.mem_of_getElem? (i := 493) (by decide +kernel), List.mem_of_getElem? (i := 703) (by decide +kernel), List.mem_of_getElem? (i := 704) (by decide +kernel)⟩
theorem lw_p23 : lw_okq (⟨"MarbleRampsModel", "asBefore", "(I)I"⟩, 10) := ⟨⟨by decide +kernel, by decide +kernel⟩, List.mem_of_getElem? (i := 493) (by decide +kernel), List.mem_of_getElem? (i := 715) (by decide +kernel), List.mem_of_getElem? (i := 716) (by decide +kernel)⟩
theorem lw_p24 : lw_okq (⟨"MarbleRampsModel", "isAsKept", "()Z"⟩, 10) := ⟨⟨by decide +kernel, by decide +kernel⟩, List.mem_of_getElem? (i := 493) (by decide +kernel), List.mem_of_getElem? (i := 719) (by decide +kernel), List.mem_of_getElem? (i := 720) (by decide +kernel)⟩
theorem lw_p25 : lw_okq (⟨"MarbleRampsModel", "runs", "(I)I"⟩, 10) := ⟨⟨by decide +kernel, by decide +kernel⟩, List.mem_of_getElem? (i := 493) (by decide +kernel), List.mem_of_getElem? (i := 727) (by decide +kernel), List.mem_of_getElem? (i := 728) (by decide +kernel)⟩
theorem lw_p26 : lw_okq (⟨"MarbleRampsModel", "best", "()I"⟩, 10) := ⟨⟨by decide +kernel, by decide +kernel⟩, List.mem_of_getElem? (i := 493) (by decide +kernel), List.mem_of_getElem? (i := 735) (by decide +kernel), List.mem_of_getElem? (i := 736) (by decide +kernel)⟩
def lw_privs_2 : List (MethodName × Nat) := [(⟨"MarbleRampsModel", "counted", "(II)I"⟩, 10), (⟨"MarbleRampsModel", "togglesNow", "()I"⟩, 10), (⟨"MarbleRampsModel", "number", "(I)I"⟩, 10), (⟨"MarbleRampsModel", "look", "(II)I"⟩, 10), (⟨"MarbleRampsModel", "keep", "()V"⟩, 10), (⟨"MarbleRampsModel", "bringBack", "()V"⟩, 10), (⟨"MarbleRampsModel", "turnedBy", "(I)I"⟩, 10), (⟨"MarbleRampsModel", "asBefore", "(I)I"⟩, 10), (⟨"MarbleRampsModel", "isAsKept", "()Z"⟩, 10), (⟨"MarbleRampsModel", "runs", "(I)I"⟩, 10), (⟨"MarbleRampsModel", "best", "()I"⟩, 10)]
theorem lw_r2 : ∀ q ∈ lw_privs_2, lw_okq q := List.forall_mem_cons.mpr ⟨lw_p16, List.forall_mem_cons.mpr ⟨lw_p17, List.forall_mem_cons.mpr ⟨lw_p18, List.forall_mem_cons.mpr ⟨lw_p19, List.forall_mem_cons.mpr ⟨lw_p20, List.forall_mem_cons.mpr ⟨lw_p21, List.forall_mem_cons.mpr ⟨lw_p22, List.forall_mem_cons.mpr ⟨lw_p23, List.forall_mem_cons.mpr ⟨lw_p24, List.forall_mem_cons.mpr ⟨lw_p25, List.forall_mem_cons.mpr ⟨lw_p26, fun _ h => absurd h List.not_mem_nil⟩⟩⟩⟩⟩⟩⟩⟩⟩⟩⟩
def lw_privs : List (MethodName × Nat) := lw_privs_1 ++ (lw_privs_2)
def lw_tbl : List Cond := k2_sels lw_privs ++ tables_1
theorem lw_privs_ok : ∀ q ∈ lw_privs, lw_okq q := by
  show ∀ q ∈ lw_privs_1 ++ (lw_privs_2), lw_okq q
  exact List.forall_mem_append.mpr ⟨lw_r1, lw_r2⟩
/-- the streams that the claim lets the run draw from -/
abbrev lw_cs : List Choice := [Jvm.Choice.named "NaN.bits"]
theorem lw_bits : nanBits ∈ lw_cs := by first | decide | exact List.mem_cons_self | simp [lw_cs, nanBits]
-- ===== end of PART A; then your names; then what follows =====
end
section
/-! ===== BEGIN words of one list among another's, by their places ===== -/
theorem goodIn_r {big : List Cond} (ws : List Cond) (ps : List Nat) (hp : ws = ps.filterMap (fun i => big[i]?)) (h : ws.all goodWord = true) : GoodIn big ws := by
  intro w hw
  have h1 := List.all_eq_true.mp h w hw
  rw [hp] at hw
  obtain ⟨i, -, hi⟩ := List.mem_filterMap.mp hw
  have hm : w ∈ big := by first | exact List.mem_of_getElem? hi | exact List.getElem?_mem hi
  exact ⟨hm, good_of_word h1⟩
theorem goodIn_app {big a b : List Cond} (ha : GoodIn big a) (hb : GoodIn big b) : GoodIn big (a ++ b) := fun w h => (List.mem_append.mp h).elim (ha w) (hb w)
theorem goodIn_ca {big a b : List Cond} {c : Cond} (ha : GoodIn big (c :: a)) (hb : GoodIn big b) : GoodIn big (c :: (a ++ b)) := fun w h => (List.mem_cons.mp h).elim (fun e => ha w (List.mem_cons.mpr (Or.inl e))) (fun h => (List.mem_append.mp h).elim (fun h => ha w (List.mem_cons.mpr (Or.inr h))) (hb w))
theorem goodIn_sub {big ws : List Cond} (hm : ∀ w ∈ ws, w ∈ big) (h : ws.all goodWord = true) : GoodIn big ws := fun w hw => ⟨hm w hw, good_of_word (List.all_eq_true.mp h w hw)⟩
/-! ===== END ===== -/

/-! ===== BEGIN exceptions that leave a method, and their catching by the caller (launches without stack traces) ===== -/
section VXA
/-! The laws vx_back, vx_callV, vx_callS, vx_callSW, vx_throw0, vx_throwS follow proofs of the library, with one case more: JvmDerived/Free/Laws.lean (Back.of_free), Shelf42/LK1.lean (callV, callS), Shelf/KitTraced.lean (throwNew0V, throwNewS). -/
/-- where a method has thrown q: the class by its name, the cell, what was written, the world -/
def vx_T (XC : String → State → State → Prop) (st : State) (q : Addr) (t : State) (mc ms : Nat) (free : Addr → Prop) : Prop :=
  ∃ (E : String) (ce : Cell) (L : List Loc), XC E st t ∧ t.heap[q]? = some ce ∧ ce.vm = .none ∧ st.vm.findClass E = some ce.cls ∧ st.WarmedH t.vm ∧ st.sameButNew ({ t with vm := st.vm } : State) L mc ms ∧ ∀ z ∈ L, free z.base
def vx_Q (Qc : Array Value → State → Outcome → State → Prop) (XC : String → State → State → Prop) (mc ms : Nat) (free : Addr → Prop) : Array Value → State → Outcome → State → Prop := fun a st o t =>
  (Qc a st o t ∧ ∃ L, FrameEnd st o t L mc ms ∧ ∀ q ∈ L, free q.base) ∨ ∃ q, o = .threw q ∧ vx_T XC st q t mc ms free
/-- a callee that returns or throws -/
def vx_Met (l : Launch) (y : MethodName) (ws : List Cond) (rm : Room) (Pc : Array Value → State → Prop) (Qc : Array Value → State → Outcome → State → Prop) (XC : String → State → State → Prop) (mc ms : Nat) (free : Addr → Prop) : Prop :=
  MetFree l y (headSpec ws rm) Pc (fun _ _ _ _ _ => True) (vx_Q Qc XC mc ms free)
def vx_Post (XC : String → State → State → Prop) (mc ms : Nat) (free : Addr → Prop) : Pt → Array Value → Addr → Pt → Prop := fun A a q B =>
  ∃ (g : JFrame) (mk : MethodId) (t : State) (L : List Loc) (E : String) (ce : Cell), B.U.heap = t.heap ∧ B.U.vm = t.vm ∧ XC E (A.U.calling g mk a) t ∧ t.heap[q]? = some ce ∧ ce.vm = .none ∧ A.U.vm.findClass E = some ce.cls ∧ B.locs = A.locs ++ L ∧ (∀ z ∈ L, free z.base) ∧ B.cells = A.cells + mc ∧ B.slots = A.slots + ms
def vx_Back (l : Launch) (R : Room) (p : Program) (e : Env) (below : List Frame) (s : State) (sargs : Array Value) (y : MethodName) (len W9 : Nat)
    (Pre : Pt → Array Value → Prop) (Post : Pt → Array Value → Option Value → Pt → Prop) (PostX : Pt → Array Value → Addr → Pt → Prop) : Prop :=
  ∀ (m : MethodId) (meth : Method) (c : Code) (A : Pt) (g : JFrame) (ig : Instr) (mk : MethodId) (a : Array Value),
    Stand p l e R s m sargs below meth c A.U A.locs A.cells A.slots → g.method = m → g.locals.size = c.maxLocals → decode c.code g.pc = .ok (ig, len) →
    2 * g.monitorRoom + (g.stack.map fun v => v.category).sum ≤ W9 → A.U.methodNamed? y = some mk → Pre A a →
    (∃ (v : Option Value) (B : Pt), Stand p l e R s m sargs below meth c B.U B.locs B.cells B.slots ∧ Post A a v B ∧
      Steps p.tables e below (doInvoke e (A.U.setTop g) [] mk a).1 (B.U.setTop { g with pc := g.pc + len, stack := v.toList ++ g.stack })) ∨
    (∃ (q : Addr) (B : Pt), Stand p l e R s m sargs below meth c B.U B.locs B.cells B.slots ∧ PostX A a q B ∧
      Steps p.tables e below (doInvoke e (A.U.setTop g) [] mk a).1 ((B.U.setTop g).pushFrame (.throwing q)))
section Payer
variable {l : Launch} {R : Room} {p : Program} {e : Env} {below : List Frame} {s : State} {sargs : Array Value} {y : MethodName} {len W9 : Nat}
theorem vx_back {ws : List Cond} {rm : Room} {Pc : Array Value → State → Prop} {Qc : Array Value → State → Outcome → State → Prop} {XC : String → State → State → Prop} {mc ms : Nat} {free : Addr → Prop} {bytes : ByteArray} {maxL : Nat} {ret : Option FieldType}
    (hM : vx_Met l y ws rm Pc Qc XC mc ms free) (hblind : FrameBlind Pc) (hrc : rm.cells = mc) (hrs : rm.slots = ms)
    (hframes : rm.frames + 1 ≤ R.frames) (hlocals : W9 + (maxL + 11) + rm.locals ≤ R.locals)
    (hws : ∀ w ∈ ws, ∀ a' U, s.WarmedH U.vm → w.before a' U = true) (hcode : Cond.code y bytes maxL ret ∈ ws) (hinit : ∀ a' U, s.WarmedH U.vm → (Cond.initialized y.cls).before a' U = true) :
    vx_Back l R p e below s sargs y len W9 (PreOf R mc ms Pc) (PostOf Qc mc ms free) (vx_Post XC mc ms free) := by
  intro m meth c A g ig mk a X hg hsize hdg hW hn hp
  have h1 : (headSpec ws rm).pre.before a A.U = true := atoms_intro fun w hw => hws w hw _ _ X.warmed
  have h2 : (Cond.code y bytes maxL ret).before a A.U = true := hws _ hcode _ _ X.warmed
  have h3 : (Cond.initialized y.cls).before a A.U = true := hinit _ _ X.warmed
  have h4 : A.cells + (headSpec ws rm).room.cells ≤ R.cells := by rw [show (headSpec ws rm).room.cells = mc from hrc]; exact hp.1
  have h5 : A.slots + (headSpec ws rm).room.slots ≤ R.slots := by rw [show (headSpec ws rm).room.slots = ms from hrs]; exact hp.2.1
  have hPc : Pc a (A.U.calling g mk a) := hblind _ _ _ _ hp.2.2
  obtain ⟨U, Ls, c0, s0⟩ := A
  dsimp only [Pt.U, Pt.locs, Pt.cells, Pt.slots] at h1 h2 h3 h4 h5 X hn hPc ⊢
  obtain ⟨methY, cY, hmY, hcY, -, hlY, -, -, -, -⟩ := Cond.code_spec hn h2
  obtain ⟨kY, hkY, -⟩ := className_of_methodNamed hn
  have hinitY : kY.init = .initialized := Cond.initialized_spec (findClass_of_methodNamed hn) hkY h3
  have h : At U g.method c below := by rw [hg]; exact X.here
  have hlocals9 : W9 + (maxL + 11) + (headSpec ws rm).room.locals ≤ R.locals := hlocals
  have happ : (headSpec ws rm).appliesLoose y e.platform (U.calling g mk a) = true :=
    Spec.appliesLoose_calling (g := g) h hdg hn hkY hinitY
      (X.room_calling (g := g) (R' := (headSpec ws rm).room) hsize hmY hcY hframes (by rw [hlY]; omega) h4 h5) h1
  obtain ⟨mid, hmid⟩ := h.above
  have hfr : (U.setTop g).frames = (.java g :: mid) ++ below := by rw [State.frames_setTop' g h.top, hmid]; rfl
  obtain ⟨o, s₂, hsteps, -, hend, hq⟩ := Steps.callFree hM p X.admits X.cas X.clock (acts := []) hfr happ hPc trivial
  have hq' : vx_Q Qc XC mc ms free a (U.calling g mk a) o s₂ := hq
  rw [State.frames_setTop' g h.top] at hend
  obtain ⟨g₀, hg0⟩ := Option.isSome_iff_exists.mp h.top
  obtain ⟨r, hr⟩ := State.topJava?_eq_some.mp hg0
  have hr' : (({ U with heap := s₂.heap, slotsUsed := s₂.slotsUsed } : State).setVm s₂.vm).frames = .java g₀ :: r := hr
  rcases hq' with ⟨hqc, L, hfe, hL⟩ | ⟨q, rfl, E, ce, L, hx, hce, hcv, hcl, hW₂, hsm, hL⟩
  · obtain ⟨⟨v, rfl⟩, hW₂, e2, q2, q3, q4, q5, q6⟩ := id hfe
    have e3 : s₂ = ({ (U.calling g mk a).setFrames s₂.frames with heap := s₂.heap, slotsUsed := s₂.slotsUsed } : State).setVm s₂.vm := by
      have : s₂ = ({ s₂ with vm := (U.calling g mk a).vm } : State).setVm s₂.vm := rfl
      rw [e2] at this
      exact this
    obtain ⟨c₂, i₂, len₂, hc₂, hd₂, hf₂⟩ := hend
    have hW' : U.WarmedH s₂.vm := hW₂
    have hcc : c₂ = c := by
      have h1 : s₂.code? g.method = U.code? g.method := by
        rw [State.code?_eq, State.code?_eq, hW'.alike.method?]
      exact Option.some.inj (hc₂.symm.trans (h1.trans h.code))
    subst hcc
    have hlen : len₂ = len := by rw [hdg] at hd₂; cases hd₂; rfl
    subst hlen
    have hs₂ : s₂ = (({ U with heap := s₂.heap, slotsUsed := s₂.slotsUsed } : State).setVm s₂.vm).setTop { g with pc := g.pc + len₂, stack := v.toList ++ g.stack } := by
      refine e3.trans ?_
      rw [hf₂, State.calling_eq h.top, State.setFrames_setFrames, State.setTop_of_frames _ hr', hr]
      rfl
    have hsame : U.sameButNew ({ U with heap := s₂.heap, slotsUsed := s₂.slotsUsed } : State) L mc ms := by
      refine ⟨?_, q2, q3, q4, q5, q6⟩
      obtain ⟨t, ht, -⟩ := State.frames_cons hr
      show ({ U with heap := s₂.heap, slotsUsed := s₂.slotsUsed } : State) = { U.setFrames U.frames with heap := s₂.heap, slotsUsed := s₂.slotsUsed }
      rw [State.setFrames_self ht]
    subst hg
    refine Or.inl ⟨v, ⟨(({ U with heap := s₂.heap, slotsUsed := s₂.slotsUsed } : State).setVm s₂.vm), Ls ++ L, c0 + mc, s0 + ms⟩,
      ⟨X.admits, X.cas, X.clock, X.frames, X.room, X.hears, X.method, X.code, (X.here.setHeapUsed s₂.heap s₂.slotsUsed).setVm hW'.alike, X.tail, State.WarmedH.trans X.warmed hW', X.limits, X.bytes, X.same.trans (hsame.setVm s.vm)⟩,
      ⟨g, mk, s₂, L, rfl, rfl, hqc, rfl, hL, rfl, rfl⟩, ?_⟩
    show Steps p.tables e below _ ((({ U with heap := s₂.heap, slotsUsed := s₂.slotsUsed } : State).setVm s₂.vm).setTop { g with pc := g.pc + len₂, stack := v.toList ++ g.stack })
    rw [← hs₂]
    exact hsteps
  · obtain ⟨e2, q2, q3, q4, q5, q6⟩ := id hsm
    have e3 : s₂ = ({ (U.calling g mk a).setFrames s₂.frames with heap := s₂.heap, slotsUsed := s₂.slotsUsed } : State).setVm s₂.vm := by
      have : s₂ = ({ s₂ with vm := (U.calling g mk a).vm } : State).setVm s₂.vm := rfl
      rw [e2] at this
      exact this
    have hf₂ : s₂.frames = .throwing q :: .java g :: U.frames.tail := hend
    have hW' : U.WarmedH s₂.vm := hW₂
    have hs₂ : s₂ = ((({ U with heap := s₂.heap, slotsUsed := s₂.slotsUsed } : State).setVm s₂.vm).setTop g).pushFrame (.throwing q) := by
      refine e3.trans ?_
      rw [hf₂, State.calling_eq h.top, State.setFrames_setFrames, State.pushFrame, State.frames_setTop _ hr', State.setTop_of_frames _ hr', State.setFrames_setFrames, hr]
      rfl
    have hsame : U.sameButNew ({ U with heap := s₂.heap, slotsUsed := s₂.slotsUsed } : State) L mc ms := by
      refine ⟨?_, q2, q3, q4, q5, q6⟩
      obtain ⟨t, ht, -⟩ := State.frames_cons hr
      show ({ U with heap := s₂.heap, slotsUsed := s₂.slotsUsed } : State) = { U.setFrames U.frames with heap := s₂.heap, slotsUsed := s₂.slotsUsed }
      rw [State.setFrames_self ht]
    subst hg
    refine Or.inr ⟨q, ⟨(({ U with heap := s₂.heap, slotsUsed := s₂.slotsUsed } : State).setVm s₂.vm), Ls ++ L, c0 + mc, s0 + ms⟩,
      ⟨X.admits, X.cas, X.clock, X.frames, X.room, X.hears, X.method, X.code, (X.here.setHeapUsed s₂.heap s₂.slotsUsed).setVm hW'.alike, X.tail, State.WarmedH.trans X.warmed hW', X.limits, X.bytes, X.same.trans (hsame.setVm s.vm)⟩,
      ⟨g, mk, s₂, L, E, ce, rfl, rfl, hx, hce, hcv, hcl, rfl, hL, rfl, rfl⟩, ?_⟩
    show Steps p.tables e below _ (((({ U with heap := s₂.heap, slotsUsed := s₂.slotsUsed } : State).setVm s₂.vm).setTop g).pushFrame (.throwing q))
    rw [← hs₂]
    exact hsteps
end Payer
section Calls
variable {p : Program} {l : Launch} {e : Env} {R : Room} {s : State} {m : MethodId} {args : Array Value} {below : List Frame} {meth : Method} {c : Code} {T : State} {locs : List Loc} {cells slots : Nat}
theorem vx_callV (X : Stand p l e R s m args below meth c T locs cells slots) (hexec : p.tables.exec = Jvm.exec) {own C : String} {index : Nat} {y : MethodName} {bytes : ByteArray} {maxL : Nat} {ret : Option FieldType}
    (hown : s.vm.findClass own = some m.cls) (hlink : (Cond.methodLink own index y).before args s = true) (hinst : (Cond.instanceMethod y).before args s = true) (hsel : (Cond.selects C y y).before args s = true)
    (hcode : (Cond.code y bytes maxL ret).before args s = true) (hy : y.cls ≠ "java/lang/invoke/MethodHandle" ∧ y.cls ≠ "java/lang/invoke/VarHandle")
    {W9 : Nat} {Pre : Pt → Array Value → Prop} {Post : Pt → Array Value → Option Value → Pt → Prop} {PostX : Pt → Array Value → Addr → Pt → Prop} (hK : vx_Back l R p e below s args y 3 W9 Pre Post PostX)
    {b : Addr} {cellB : Cell} (hcell : T.heap[b]? = some cellB) (hobj : cellB.vm.isStatics = false) (hcls : s.vm.findClass C = some cellB.cls)
    {g : JFrame} (hg : g.method = m) (hsize : g.locals.size = c.maxLocals) {argsL rest : List Value} (hlen : ∀ sig, parseMethodDescriptor y.desc = some sig → argsL.length = sig.parameters.length)
    (hstack : g.stack = argsL.reverse ++ .ref b :: rest) (hW : 2 * g.monitorRoom + (rest.map fun v => v.category).sum ≤ W9) (hdg : decode c.code g.pc = .ok (.invokevirtual index, 3))
    (hpre : ∀ vm₁, s.WarmedH vm₁ → Pre ⟨T.setVm vm₁, locs, cells, slots⟩ (Value.ref b :: argsL).toArray) :
    (∃ (v : Option Value) (vm₁ : Vm) (B : Pt), s.WarmedH vm₁ ∧ Stand p l e R s m args below meth c B.U B.locs B.cells B.slots ∧ Post ⟨T.setVm vm₁, locs, cells, slots⟩ (Value.ref b :: argsL).toArray v B ∧
      ∀ target, Steps p.tables e below (B.U.setTop { g with pc := g.pc + 3, stack := v.toList ++ rest }) target → Steps p.tables e below (T.setTop g) target) ∨
    (∃ (q : Addr) (vm₁ : Vm) (B : Pt), s.WarmedH vm₁ ∧ Stand p l e R s m args below meth c B.U B.locs B.cells B.slots ∧ PostX ⟨T.setVm vm₁, locs, cells, slots⟩ (Value.ref b :: argsL).toArray q B ∧
      Steps p.tables e below (T.setTop g) ((B.U.setTop { g with stack := rest }).pushFrame (.throwing q))) := by
  obtain ⟨mk, methM, hnamed, hmethM, hstM, habM⟩ := Cond.instanceMethod_spec hinst
  obtain ⟨methM', cM, hmethM', -, -, -, -, -, -, hsigM⟩ := Cond.code_spec hnamed hcode
  cases hmethM.symm.trans hmethM'
  obtain ⟨c2, r2, m2, q1, q2, q3, q4, kP, hkP, hkPi⟩ := Cond.selects_spec hsel
  cases hcls.symm.trans q1
  cases (State.methodFound?_of_named hnamed hy).symm.trans q2
  cases hnamed.symm.trans q3
  have hselP : selectMethod e.platform s.vm cellB.cls mk = .method mk := by rw [Launch.admits_selectMethod X.admits]; exact q4
  obtain ⟨vm₁, X₁, hstep₁⟩ := X.invokevirtual hexec hown hlink hnamed hmethM hstM hkP hkPi hy (a := b) (cell := cellB) hcell
    (fun z h => by rw [h] at hobj; cases hobj) hselP hmethM habM hkP hkPi (g := g) hg (argsL := argsL) (rest := rest) (hlen _ hsigM) hstack hdg
  rcases hK m meth c ⟨T.setVm vm₁, locs, cells, slots⟩ { g with stack := rest } (.invokevirtual index) mk (Value.ref b :: argsL).toArray X₁ hg hsize hdg hW (X₁.named hnamed) (hpre vm₁ X₁.warmed) with ⟨v, B, X', hpost, hsteps⟩ | ⟨q, B, X', hpost, hsteps⟩
  · exact Or.inl ⟨v, vm₁, B, X₁.warmed, X', hpost, fun target h => hstep₁ _ fun acts => by rw [doInvoke_state]; exact hsteps.trans h⟩
  · exact Or.inr ⟨q, vm₁, B, X₁.warmed, X', hpost, hstep₁ _ fun acts => by rw [doInvoke_state]; exact hsteps⟩
theorem vx_callS (X : Stand p l e R s m args below meth c T locs cells slots) (hexec : p.tables.exec = Jvm.exec) {own : String} {index : Nat} {y : MethodName} {bytes : ByteArray} {maxL : Nat} {ret : Option FieldType}
    (hown : s.vm.findClass own = some m.cls) (hlink : (Cond.methodLink own index y).before args s = true) (hstat : (Cond.static y).before args s = true) (hinit : (Cond.initialized y.cls).before args s = true)
    (hcode : (Cond.code y bytes maxL ret).before args s = true) (hy : y.cls ≠ "java/lang/invoke/MethodHandle" ∧ y.cls ≠ "java/lang/invoke/VarHandle")
    {W9 : Nat} {Pre : Pt → Array Value → Prop} {Post : Pt → Array Value → Option Value → Pt → Prop} {PostX : Pt → Array Value → Addr → Pt → Prop} (hK : vx_Back l R p e below s args y 3 W9 Pre Post PostX)
    {g : JFrame} (hg : g.method = m) (hsize : g.locals.size = c.maxLocals) {argsL rest : List Value} (hlen : ∀ sig, parseMethodDescriptor y.desc = some sig → argsL.length = sig.parameters.length)
    (hstack : g.stack = argsL.reverse ++ rest) (hW : 2 * g.monitorRoom + (rest.map fun v => v.category).sum ≤ W9) (hdg : decode c.code g.pc = .ok (.invokestatic index, 3))
    (hpre : ∀ vm₁, s.WarmedH vm₁ → Pre ⟨T.setVm vm₁, locs, cells, slots⟩ argsL.toArray) :
    (∃ (v : Option Value) (vm₁ : Vm) (B : Pt), s.WarmedH vm₁ ∧ Stand p l e R s m args below meth c B.U B.locs B.cells B.slots ∧ Post ⟨T.setVm vm₁, locs, cells, slots⟩ argsL.toArray v B ∧
      ∀ target, Steps p.tables e below (B.U.setTop { g with pc := g.pc + 3, stack := v.toList ++ rest }) target → Steps p.tables e below (T.setTop g) target) ∨
    (∃ (q : Addr) (vm₁ : Vm) (B : Pt), s.WarmedH vm₁ ∧ Stand p l e R s m args below meth c B.U B.locs B.cells B.slots ∧ PostX ⟨T.setVm vm₁, locs, cells, slots⟩ argsL.toArray q B ∧
      Steps p.tables e below (T.setTop g) ((B.U.setTop { g with stack := rest }).pushFrame (.throwing q))) := by
  obtain ⟨mk, hnamed⟩ := Cond.code_named hcode
  obtain ⟨methM, cM, hmethM, -, -, -, -, -, -, hsigM⟩ := Cond.code_spec hnamed hcode
  have hstatic : methM.isStatic = true := Cond.static_spec hnamed hmethM hstat
  obtain ⟨kP, hkP, -⟩ := className_of_methodNamed hnamed
  have hinitP : kP.init = .initialized := Cond.initialized_spec (findClass_of_methodNamed hnamed) hkP hinit
  obtain ⟨vm₁, X₁, hstep₁⟩ := X.invokestatic hexec hown hlink hnamed hmethM hstatic hkP hinitP hy (g := g) hg (argsL := argsL) (rest := rest) (hlen _ hsigM) hstack hdg
  rcases hK m meth c ⟨T.setVm vm₁, locs, cells, slots⟩ { g with stack := rest } (.invokestatic index) mk argsL.toArray X₁ hg hsize hdg hW (X₁.named hnamed) (hpre vm₁ X₁.warmed) with ⟨v, B, X', hpost, hsteps⟩ | ⟨q, B, X', hpost, hsteps⟩
  · exact Or.inl ⟨v, vm₁, B, X₁.warmed, X', hpost, fun target h => hstep₁ _ fun acts => by rw [doInvoke_state]; exact hsteps.trans h⟩
  · exact Or.inr ⟨q, vm₁, B, X₁.warmed, X', hpost, hstep₁ _ fun acts => by rw [doInvoke_state]; exact hsteps⟩
end Calls
theorem vx_cls {s : State} {T : State} {vm₁ : Vm} {E : String} {k : ClassId} (hW : s.WarmedH vm₁) (h : (T.setVm vm₁).vm.findClass E = some k) : s.vm.findClass E = some k := by
  have h1 : vm₁.findClass E = some k := h
  rw [hW.alike.findClass] at h1
  exact h1
/-- the method's frame g, with q thrown over it -/
def vx_W (p : Program) (l : Launch) (e : Env) (R : Room) (s : State) (m : MethodId) (args : Array Value) (below : List Frame) (meth : Method) (c : Code) (H : Heap) (locs : List Loc) (cells slots : Nat) (Q : State → Prop) (g : JFrame) (q : Addr) : Prop :=
  ∀ T : State, T.heap = H → Stand p l e R s m args below meth c T locs cells slots → ∃ t, Steps p.tables e below ((T.setTop g).pushFrame (.throwing q)) t ∧ Q t
def vx_Run (p : Program) (l : Launch) (e : Env) (R : Room) (s : State) (m : MethodId) (args : Array Value) (below : List Frame) (meth : Method) (c : Code) (H : Heap) (locs : List Loc) (cells slots mc ms : Nat) (g : JFrame) (rest : List Value) (Qa : State → Outcome → State → Prop) (XC : String → State → State → Prop) (free : Addr → Prop) : Prop :=
  ∀ T : State, T.heap = H → Stand p l e R s m args below meth c T locs cells slots →
    (∃ (v : Option Value) (st₀ t T' : State) (L : List Loc), st₀.heap = H ∧ Stand p l e R s m args below meth c T' (locs ++ L) (cells + mc) (slots + ms) ∧ (∀ q ∈ L, free q.base) ∧ T'.heap = t.heap ∧ T'.vm = t.vm ∧ Qa st₀ (.returned v) t ∧
      Goes p e below T g T' { g with pc := g.pc + 3, stack := v.toList ++ rest }) ∨
    (∃ (q : Addr) (st₀ t T' : State) (L : List Loc) (E : String) (ce : Cell), st₀.heap = H ∧ Stand p l e R s m args below meth c T' (locs ++ L) (cells + mc) (slots + ms) ∧ (∀ z ∈ L, free z.base) ∧ T'.heap = t.heap ∧ T'.vm = t.vm ∧ XC E st₀ t ∧ t.heap[q]? = some ce ∧ ce.vm = .none ∧ s.vm.findClass E = some ce.cls ∧
      Steps p.tables e below (T.setTop g) ((T'.setTop { g with stack := rest }).pushFrame (.throwing q)))
def vx_X {S : Type} (px : S → Prop) (B : String → S → State → Prop) (A : Nat → Prop) : String → State → State → Prop := fun E st t => ∃ u : S, px u ∧ B E u t ∧ va_F A st t
section Runs
variable {p : Program} {l : Launch} {e : Env} {R : Room} {s : State} {m : MethodId} {args : Array Value} {below : List Frame} {meth : Method} {c : Code} {H : Heap} {locs : List Loc} {cells slots : Nat}
variable {y : MethodName} {bytes cc : ByteArray} {maxL nL mc ms n index : Nat} {ret : Option FieldType} {ws : List Cond} {rm : Room} {Pc : Array Value → State → Prop} {Qc : Array Value → State → Outcome → State → Prop} {XC : String → State → State → Prop} {free : Addr → Prop} {Ts : List Cond} {own C : String} {b : Addr} {As rest : List Value} {g : JFrame}
theorem vx_callBack (cb : CallB R s args own index y bytes maxL ret ws rm mc ms n) (hM : vx_Met l y ws rm Pc Qc XC mc ms free) (hbl : FrameBlind Pc) : vx_Back l R p e below s args y 3 8 (PreOf R mc ms Pc) (PostOf Qc mc ms free) (vx_Post XC mc ms free) := by
  obtain ⟨hrc, hrs, hfr, hlo, hws, hcw, -, hini, -⟩ := cb
  exact vx_back (bytes := bytes) (maxL := maxL) (ret := ret) hM hbl hrc hrs hfr hlo hws hcw (fun a' U hW => word_at hW (Or.inl (by first | rfl | simp [Cond.onTables, Cond.keeps, Cond.steady])) hini)
theorem vx_runV (S : CallFix p m c cc nL s args Ts own) (hM : vx_Met l y ws rm Pc Qc XC mc ms free) (cw : CallW R s args own C index y bytes maxL ret ws rm mc ms n) (hp : PreV s H C b Pc As)
    (hg : g.method = m) (hn : As.length = n) (hsize : g.locals.size = nL) (hstack : g.stack = As.reverse ++ .ref b :: rest) (hW : 2 * g.monitorRoom + (rest.map fun v => v.category).sum ≤ 8) (hdg : decode cc g.pc = .ok (.invokevirtual index, 3)) (hf : cells + mc ≤ R.cells ∧ slots + ms ≤ R.slots) :
    vx_Run p l e R s m args below meth c H locs cells slots mc ms g rest (Qc (Value.ref b :: As).toArray) XC free := by
  have hK : vx_Back l R p e below s args y 3 8 (PreOf R mc ms Pc) (PostOf Qc mc ms free) (vx_Post XC mc ms free) := vx_callBack cw.1 hM hp.1
  obtain ⟨⟨-, -, -, -, -, -, hcode, -, hy, hlen, hl⟩, hin, hse⟩ := cw
  obtain ⟨hx, hb, hml, ho, -⟩ := S
  obtain ⟨-, ⟨cellB, hcB, hoB, hclB⟩, hPc⟩ := hp
  intro T hT X
  rcases vx_callV X hx (C := C) (bytes := bytes) (maxL := maxL) (ret := ret) ho hl hin hse hcode hy hK (by rw [hT]; exact hcB) hoB hclB hg (hsize.trans hml.symm) (argsL := As) (rest := rest) (fun sig h => hn.trans (hlen sig h)) hstack hW (by rw [hb]; exact hdg)
    (fun vm₁ hW₁ => ⟨hf.1, hf.2, hPc (T.setVm vm₁) hT hW₁⟩) with ⟨v, vm₁, ⟨U', l2, c2, s2⟩, hW₁, X', ⟨g', mk, t, L, e1, e2, hq, h1, hL, h2, h3⟩, st⟩ | ⟨q, vm₁, ⟨U', l2, c2, s2⟩, hW₁, X', ⟨g', mk, t, L, E, ce, e1, e2, hq, hce, hcv, hcl, h1, hL, h2, h3⟩, st⟩
  · dsimp only [Pt.U, Pt.locs, Pt.cells, Pt.slots] at X' e1 e2 h1 h2 h3 st
    subst h1; subst h2; subst h3
    exact Or.inl ⟨v, (T.setVm vm₁).calling g' mk (Value.ref b :: As).toArray, t, U', L, hT, X', hL, e1, e2, hq, st⟩
  · dsimp only [Pt.U, Pt.locs, Pt.cells, Pt.slots] at X' e1 e2 h1 h2 h3 st hcl
    subst h1; subst h2; subst h3
    exact Or.inr ⟨q, (T.setVm vm₁).calling g' mk (Value.ref b :: As).toArray, t, U', L, E, ce, hT, X', hL, e1, e2, hq, hce, hcv, vx_cls hW₁ hcl, st⟩
theorem vx_runS (S : CallFix p m c cc nL s args Ts own) (hM : vx_Met l y ws rm Pc Qc XC mc ms free) (cw : CallB R s args own index y bytes maxL ret ws rm mc ms n ∧ (Cond.static y).before args s = true) (hp : PreS s H Pc As)
    (hg : g.method = m) (hn : As.length = n) (hsize : g.locals.size = nL) (hstack : g.stack = As.reverse ++ rest) (hW : 2 * g.monitorRoom + (rest.map fun v => v.category).sum ≤ 8) (hdg : decode cc g.pc = .ok (.invokestatic index, 3)) (hf : cells + mc ≤ R.cells ∧ slots + ms ≤ R.slots) :
    vx_Run p l e R s m args below meth c H locs cells slots mc ms g rest (Qc As.toArray) XC free := by
  have hK : vx_Back l R p e below s args y 3 8 (PreOf R mc ms Pc) (PostOf Qc mc ms free) (vx_Post XC mc ms free) := vx_callBack cw.1 hM hp.1
  obtain ⟨⟨-, -, -, -, -, -, hcode, hini, hy, hlen, hl⟩, hstt⟩ := cw
  obtain ⟨hx, hb, hml, ho, -⟩ := S
  intro T hT X
  rcases vx_callS X hx (bytes := bytes) (maxL := maxL) (ret := ret) ho hl hstt hini hcode hy hK hg (hsize.trans hml.symm) (argsL := As) (rest := rest) (fun sig h => hn.trans (hlen sig h)) hstack hW (by rw [hb]; exact hdg)
    (fun vm₁ hW₁ => ⟨hf.1, hf.2, hp.2 (T.setVm vm₁) hT hW₁⟩) with ⟨v, vm₁, ⟨U', l2, c2, s2⟩, hW₁, X', ⟨g', mk, t, L, e1, e2, hq, h1, hL, h2, h3⟩, st⟩ | ⟨q, vm₁, ⟨U', l2, c2, s2⟩, hW₁, X', ⟨g', mk, t, L, E, ce, e1, e2, hq, hce, hcv, hcl, h1, hL, h2, h3⟩, st⟩
  · dsimp only [Pt.U, Pt.locs, Pt.cells, Pt.slots] at X' e1 e2 h1 h2 h3 st
    subst h1; subst h2; subst h3
    exact Or.inl ⟨v, (T.setVm vm₁).calling g' mk As.toArray, t, U', L, hT, X', hL, e1, e2, hq, st⟩
  · dsimp only [Pt.U, Pt.locs, Pt.cells, Pt.slots] at X' e1 e2 h1 h2 h3 st hcl
    subst h1; subst h2; subst h3
    exact Or.inr ⟨q, (T.setVm vm₁).calling g' mk As.toArray, t, U', L, E, ce, hT, X', hL, e1, e2, hq, hce, hcv, vx_cls hW₁ hcl, st⟩
end Runs
section Rows
variable {p : Program} {l : Launch} {e : Env} {R : Room} {s : State} {m : MethodId} {args : Array Value} {below : List Frame} {meth : Method} {c : Code} {H : Heap} {locs : List Loc} {cells slots : Nat} {Q : State → Prop}
variable {mc ms : Nat} {free : Addr → Prop} {A0 A1 : Nat → Prop} {H0 : Heap} {a : Array Value} {pc : Nat} {ls : Array Slot} {st0 rest : List Value}
theorem vx_keep {st₀ t T' : State} {L : List Loc} (h0 : st₀.heap = H) (e1 : T'.heap = t.heap) (hS : va_S A0 H0 H locs) (hA : ∀ q, q < H.size → A1 q → A0 q) (hf : ∀ q, free q → A0 q) (hL : ∀ q ∈ L, free q.base) (hF : va_F A1 st₀ t) :
    H.size ≤ T'.heap.size ∧ (∀ q : Nat, q < H.size → ¬ A1 q → T'.heap[q]? = H[q]?) ∧ va_S A0 H0 T'.heap (locs ++ L) := by
  obtain ⟨hz, hk⟩ := hF
  rw [h0] at hz hk
  exact ⟨by rw [e1]; exact hz, fun q h1 h2 => by rw [e1]; exact hk q h1 h2,
    ⟨Nat.le_trans hS.1 (by rw [e1]; exact hz), fun q h1 h2 => by rw [e1, hk q (Nat.lt_of_lt_of_le h1 hS.1) (fun z => h2 (hA q (Nat.lt_of_lt_of_le h1 hS.1) z))]; exact hS.2.1 q h1 h2, fun q hq => by
      rcases List.mem_append.mp hq with h | h
      · exact hS.2.2 q h
      · exact hf _ (hL q h)⟩⟩
theorem vx_calli {S SX : Type} {post : Int32 → S → Prop} {px : SX → Prop} {B : S → State → Prop} {BX : String → SX → State → Prop} {AX : Nat → Prop} (hr : vx_Run p l e R s m args below meth c H locs cells slots mc ms (F0 m pc ls st0) rest (va_Qi post B A1 a) (vx_X px BX AX) free) (hS : va_S A0 H0 H locs) (hA : ∀ q, q < H.size → A1 q → A0 q) (hf : ∀ q, free q → A0 q) (hAX : ∀ q, q < H.size → AX q → A0 q)
    (kx : ∀ (E : String) (ce : Cell) (q9 : Addr) (u : SX) (t : State) (H1 : Heap) (locs1 : List Loc), t.heap = H1 → s.vm.Alike t.vm → px u → BX E u t → H.size ≤ H1.size → (∀ q : Nat, q < H.size → ¬ AX q → H1[q]? = H[q]?) → va_S A0 H0 H1 locs1 → H1[q9]? = some ce → ce.vm = .none → s.vm.findClass E = some ce.cls → vx_W p l e R s m args below meth c H1 locs1 (cells + mc) (slots + ms) Q (F0 m pc ls rest) q9)
    (kk : ∀ (r : Int32) (u : S) (t : State) (H1 : Heap) (locs1 : List Loc), t.heap = H1 → s.vm.Alike t.vm → post r u → B u t → H.size ≤ H1.size → (∀ q : Nat, q < H.size → ¬ A1 q → H1[q]? = H[q]?) → va_S A0 H0 H1 locs1 → W p l e R s m args below meth c H1 locs1 (cells + mc) (slots + ms) Q (F0 m (pc + 3) ls (.int r :: rest))) : W p l e R s m args below meth c H locs cells slots Q (F0 m pc ls st0) := by
  intro T hT X
  rcases hr T hT X with ⟨v, st₀, t, T', L, h0, X', hL, e1, e2, ⟨⟨r, u, hv, hp, hb⟩, hF⟩, st⟩ | ⟨q, st₀, t, T', L, E, ce, h0, X', hL, e1, e2, ⟨u, hp, hb, hF⟩, hce, hcv, hcl, st⟩
  · cases hv
    obtain ⟨k1, k2, k3⟩ := vx_keep h0 e1 hS hA hf hL hF
    obtain ⟨t2, a1, b1⟩ := kk r u t T'.heap (locs ++ L) e1.symm (by rw [← e2]; exact X'.warmed.alike) hp hb k1 k2 k3 T' rfl X'
    exact ⟨t2, st t2 a1, b1⟩
  · obtain ⟨k1, k2, k3⟩ := vx_keep h0 e1 hS hAX hf hL hF
    obtain ⟨t2, a1, b1⟩ := kx E ce q u t T'.heap (locs ++ L) e1.symm (by rw [← e2]; exact X'.warmed.alike) hp hb k1 k2 k3 (by rw [e1]; exact hce) hcv hcl T' rfl X'
    exact ⟨t2, st.trans a1, b1⟩
theorem vx_calll {S SX : Type} {post : Int64 → S → Prop} {px : SX → Prop} {B : S → State → Prop} {BX : String → SX → State → Prop} {AX : Nat → Prop} (hr : vx_Run p l e R s m args below meth c H locs cells slots mc ms (F0 m pc ls st0) rest (va_Ql post B A1 a) (vx_X px BX AX) free) (hS : va_S A0 H0 H locs) (hA : ∀ q, q < H.size → A1 q → A0 q) (hf : ∀ q, free q → A0 q) (hAX : ∀ q, q < H.size → AX q → A0 q)
    (kx : ∀ (E : String) (ce : Cell) (q9 : Addr) (u : SX) (t : State) (H1 : Heap) (locs1 : List Loc), t.heap = H1 → s.vm.Alike t.vm → px u → BX E u t → H.size ≤ H1.size → (∀ q : Nat, q < H.size → ¬ AX q → H1[q]? = H[q]?) → va_S A0 H0 H1 locs1 → H1[q9]? = some ce → ce.vm = .none → s.vm.findClass E = some ce.cls → vx_W p l e R s m args below meth c H1 locs1 (cells + mc) (slots + ms) Q (F0 m pc ls rest) q9)
    (kk : ∀ (r : Int64) (u : S) (t : State) (H1 : Heap) (locs1 : List Loc), t.heap = H1 → s.vm.Alike t.vm → post r u → B u t → H.size ≤ H1.size → (∀ q : Nat, q < H.size → ¬ A1 q → H1[q]? = H[q]?) → va_S A0 H0 H1 locs1 → W p l e R s m args below meth c H1 locs1 (cells + mc) (slots + ms) Q (F0 m (pc + 3) ls (.long r :: rest))) : W p l e R s m args below meth c H locs cells slots Q (F0 m pc ls st0) := by
  intro T hT X
  rcases hr T hT X with ⟨v, st₀, t, T', L, h0, X', hL, e1, e2, ⟨⟨r, u, hv, hp, hb⟩, hF⟩, st⟩ | ⟨q, st₀, t, T', L, E, ce, h0, X', hL, e1, e2, ⟨u, hp, hb, hF⟩, hce, hcv, hcl, st⟩
  · cases hv
    obtain ⟨k1, k2, k3⟩ := vx_keep h0 e1 hS hA hf hL hF
    obtain ⟨t2, a1, b1⟩ := kk r u t T'.heap (locs ++ L) e1.symm (by rw [← e2]; exact X'.warmed.alike) hp hb k1 k2 k3 T' rfl X'
    exact ⟨t2, st t2 a1, b1⟩
  · obtain ⟨k1, k2, k3⟩ := vx_keep h0 e1 hS hAX hf hL hF
    obtain ⟨t2, a1, b1⟩ := kx E ce q u t T'.heap (locs ++ L) e1.symm (by rw [← e2]; exact X'.warmed.alike) hp hb k1 k2 k3 (by rw [e1]; exact hce) hcv hcl T' rfl X'
    exact ⟨t2, st.trans a1, b1⟩
theorem vx_callf {S SX : Type} {post : UInt32 → S → Prop} {px : SX → Prop} {B : S → State → Prop} {BX : String → SX → State → Prop} {AX : Nat → Prop} (hr : vx_Run p l e R s m args below meth c H locs cells slots mc ms (F0 m pc ls st0) rest (va_Qf post B A1 a) (vx_X px BX AX) free) (hS : va_S A0 H0 H locs) (hA : ∀ q, q < H.size → A1 q → A0 q) (hf : ∀ q, free q → A0 q) (hAX : ∀ q, q < H.size → AX q → A0 q)
    (kx : ∀ (E : String) (ce : Cell) (q9 : Addr) (u : SX) (t : State) (H1 : Heap) (locs1 : List Loc), t.heap = H1 → s.vm.Alike t.vm → px u → BX E u t → H.size ≤ H1.size → (∀ q : Nat, q < H.size → ¬ AX q → H1[q]? = H[q]?) → va_S A0 H0 H1 locs1 → H1[q9]? = some ce → ce.vm = .none → s.vm.findClass E = some ce.cls → vx_W p l e R s m args below meth c H1 locs1 (cells + mc) (slots + ms) Q (F0 m pc ls rest) q9)
    (kk : ∀ (r : UInt32) (u : S) (t : State) (H1 : Heap) (locs1 : List Loc), t.heap = H1 → s.vm.Alike t.vm → post r u → B u t → H.size ≤ H1.size → (∀ q : Nat, q < H.size → ¬ A1 q → H1[q]? = H[q]?) → va_S A0 H0 H1 locs1 → W p l e R s m args below meth c H1 locs1 (cells + mc) (slots + ms) Q (F0 m (pc + 3) ls (.float r :: rest))) : W p l e R s m args below meth c H locs cells slots Q (F0 m pc ls st0) := by
  intro T hT X
  rcases hr T hT X with ⟨v, st₀, t, T', L, h0, X', hL, e1, e2, ⟨⟨r, u, hv, hp, hb⟩, hF⟩, st⟩ | ⟨q, st₀, t, T', L, E, ce, h0, X', hL, e1, e2, ⟨u, hp, hb, hF⟩, hce, hcv, hcl, st⟩
  · cases hv
    obtain ⟨k1, k2, k3⟩ := vx_keep h0 e1 hS hA hf hL hF
    obtain ⟨t2, a1, b1⟩ := kk r u t T'.heap (locs ++ L) e1.symm (by rw [← e2]; exact X'.warmed.alike) hp hb k1 k2 k3 T' rfl X'
    exact ⟨t2, st t2 a1, b1⟩
  · obtain ⟨k1, k2, k3⟩ := vx_keep h0 e1 hS hAX hf hL hF
    obtain ⟨t2, a1, b1⟩ := kx E ce q u t T'.heap (locs ++ L) e1.symm (by rw [← e2]; exact X'.warmed.alike) hp hb k1 k2 k3 (by rw [e1]; exact hce) hcv hcl T' rfl X'
    exact ⟨t2, st.trans a1, b1⟩
theorem vx_calld {S SX : Type} {post : UInt64 → S → Prop} {px : SX → Prop} {B : S → State → Prop} {BX : String → SX → State → Prop} {AX : Nat → Prop} (hr : vx_Run p l e R s m args below meth c H locs cells slots mc ms (F0 m pc ls st0) rest (va_Qd post B A1 a) (vx_X px BX AX) free) (hS : va_S A0 H0 H locs) (hA : ∀ q, q < H.size → A1 q → A0 q) (hf : ∀ q, free q → A0 q) (hAX : ∀ q, q < H.size → AX q → A0 q)
    (kx : ∀ (E : String) (ce : Cell) (q9 : Addr) (u : SX) (t : State) (H1 : Heap) (locs1 : List Loc), t.heap = H1 → s.vm.Alike t.vm → px u → BX E u t → H.size ≤ H1.size → (∀ q : Nat, q < H.size → ¬ AX q → H1[q]? = H[q]?) → va_S A0 H0 H1 locs1 → H1[q9]? = some ce → ce.vm = .none → s.vm.findClass E = some ce.cls → vx_W p l e R s m args below meth c H1 locs1 (cells + mc) (slots + ms) Q (F0 m pc ls rest) q9)
    (kk : ∀ (r : UInt64) (u : S) (t : State) (H1 : Heap) (locs1 : List Loc), t.heap = H1 → s.vm.Alike t.vm → post r u → B u t → H.size ≤ H1.size → (∀ q : Nat, q < H.size → ¬ A1 q → H1[q]? = H[q]?) → va_S A0 H0 H1 locs1 → W p l e R s m args below meth c H1 locs1 (cells + mc) (slots + ms) Q (F0 m (pc + 3) ls (.double r :: rest))) : W p l e R s m args below meth c H locs cells slots Q (F0 m pc ls st0) := by
  intro T hT X
  rcases hr T hT X with ⟨v, st₀, t, T', L, h0, X', hL, e1, e2, ⟨⟨r, u, hv, hp, hb⟩, hF⟩, st⟩ | ⟨q, st₀, t, T', L, E, ce, h0, X', hL, e1, e2, ⟨u, hp, hb, hF⟩, hce, hcv, hcl, st⟩
  · cases hv
    obtain ⟨k1, k2, k3⟩ := vx_keep h0 e1 hS hA hf hL hF
    obtain ⟨t2, a1, b1⟩ := kk r u t T'.heap (locs ++ L) e1.symm (by rw [← e2]; exact X'.warmed.alike) hp hb k1 k2 k3 T' rfl X'
    exact ⟨t2, st t2 a1, b1⟩
  · obtain ⟨k1, k2, k3⟩ := vx_keep h0 e1 hS hAX hf hL hF
    obtain ⟨t2, a1, b1⟩ := kx E ce q u t T'.heap (locs ++ L) e1.symm (by rw [← e2]; exact X'.warmed.alike) hp hb k1 k2 k3 (by rw [e1]; exact hce) hcv hcl T' rfl X'
    exact ⟨t2, st.trans a1, b1⟩
theorem vx_callv {S SX : Type} {post : S → Prop} {px : SX → Prop} {B : S → State → Prop} {BX : String → SX → State → Prop} {AX : Nat → Prop} (hr : vx_Run p l e R s m args below meth c H locs cells slots mc ms (F0 m pc ls st0) rest (va_Qv post B A1 a) (vx_X px BX AX) free) (hS : va_S A0 H0 H locs) (hA : ∀ q, q < H.size → A1 q → A0 q) (hf : ∀ q, free q → A0 q) (hAX : ∀ q, q < H.size → AX q → A0 q)
    (kx : ∀ (E : String) (ce : Cell) (q9 : Addr) (u : SX) (t : State) (H1 : Heap) (locs1 : List Loc), t.heap = H1 → s.vm.Alike t.vm → px u → BX E u t → H.size ≤ H1.size → (∀ q : Nat, q < H.size → ¬ AX q → H1[q]? = H[q]?) → va_S A0 H0 H1 locs1 → H1[q9]? = some ce → ce.vm = .none → s.vm.findClass E = some ce.cls → vx_W p l e R s m args below meth c H1 locs1 (cells + mc) (slots + ms) Q (F0 m pc ls rest) q9)
    (kk : ∀ (u : S) (t : State) (H1 : Heap) (locs1 : List Loc), t.heap = H1 → s.vm.Alike t.vm → post u → B u t → H.size ≤ H1.size → (∀ q : Nat, q < H.size → ¬ A1 q → H1[q]? = H[q]?) → va_S A0 H0 H1 locs1 → W p l e R s m args below meth c H1 locs1 (cells + mc) (slots + ms) Q (F0 m (pc + 3) ls (rest))) : W p l e R s m args below meth c H locs cells slots Q (F0 m pc ls st0) := by
  intro T hT X
  rcases hr T hT X with ⟨v, st₀, t, T', L, h0, X', hL, e1, e2, ⟨⟨u, hv, hp, hb⟩, hF⟩, st⟩ | ⟨q, st₀, t, T', L, E, ce, h0, X', hL, e1, e2, ⟨u, hp, hb, hF⟩, hce, hcv, hcl, st⟩
  · cases hv
    obtain ⟨k1, k2, k3⟩ := vx_keep h0 e1 hS hA hf hL hF
    obtain ⟨t2, a1, b1⟩ := kk u t T'.heap (locs ++ L) e1.symm (by rw [← e2]; exact X'.warmed.alike) hp hb k1 k2 k3 T' rfl X'
    exact ⟨t2, st t2 a1, b1⟩
  · obtain ⟨k1, k2, k3⟩ := vx_keep h0 e1 hS hAX hf hL hF
    obtain ⟨t2, a1, b1⟩ := kx E ce q u t T'.heap (locs ++ L) e1.symm (by rw [← e2]; exact X'.warmed.alike) hp hb k1 k2 k3 (by rw [e1]; exact hce) hcv hcl T' rfl X'
    exact ⟨t2, st.trans a1, b1⟩
/-- caught by the row x of this method's table; the rows ahead don't take it -/
theorem vx_catch {own name : String} {E : String} {ce : Cell} {q : Addr} (hown : s.vm.findClass own = some m.cls) (pre : List ExceptionTableEntry) (x : ExceptionTableEntry) (suf : List ExceptionTableEntry) (hsplit : c.exceptionTable.toList = pre ++ x :: suf)
    (hpass : ∀ z ∈ pre, covers z pc = false ∨ (z.catchType ≠ 0 ∧ ∃ nm : String, (Cond.classLink own z.catchType nm).before args s = true ∧ va_Nc E nm s)) (hx : covers x pc = true) (h0 : x.catchType ≠ 0)
    (hlink : (Cond.classLink own x.catchType name).before args s = true) (hcast : (Cond.castable E name).before args s = true) (hcell : H[q]? = some ce) (hv : ce.vm = .none) (hcl : s.vm.findClass E = some ce.cls)
    (kk : W p l e R s m args below meth c H locs cells slots Q (F0 m x.handlerPc ls [.ref q])) : vx_W p l e R s m args below meth c H locs cells slots Q (F0 m pc ls rest) q := by
  intro T hT X
  have hpl : e.platform.magicAccessors = ({} : Platform).magicAccessors := by rw [X.admits.platform]
  obtain ⟨c3, c4, hc3, hc4, hasg⟩ := Cond.castable_spec hcast
  cases Option.some.inj (hc3.symm.trans hcl)
  obtain ⟨c5, hc5, hcl5⟩ := Cond.classLink_spec hown hlink e.platform hpl
  cases Option.some.inj (hc4.symm.trans hc5)
  obtain ⟨vm', X', st⟩ := X.thenCaughtThrough q (g := F0 m pc ls rest) rfl (Steps.refl _) (by rw [hT]; exact hcell) (by rw [hv]; rfl) (by obtain ⟨k9, h9, -⟩ := Vm.findClass_spec hcl; exact ⟨k9, h9⟩) pre x suf hsplit
    (fun z hz => by
      rcases hpass z hz with h | ⟨hz0, nm, hl1, hn1⟩
      · exact Or.inl h
      · obtain ⟨c6, hc6, hcl6⟩ := Cond.classLink_spec hown hl1 e.platform hpl
        obtain ⟨a8, b8, h1, h2, h3⟩ := hn1
        cases Option.some.inj (h1.symm.trans hcl)
        cases Option.some.inj (h2.symm.trans hc6)
        exact Or.inr ⟨hz0, _, hcl6, h3⟩) hx (Or.inr ⟨h0, c4, hcl5, hasg⟩)
  obtain ⟨t, a1, b1⟩ := kk (T.setVm vm') hT X'
  exact ⟨t, st.trans a1, b1⟩
end Rows
section Ends
variable {p : Program} {l : Launch} {e : Env} {R : Room} {s : State} {m : MethodId} {args : Array Value} {below : List Frame} {meth : Method} {c : Code} {H : Heap} {locs : List Loc} {cells slots : Nat} {Q : State → Prop}
variable {mc ms : Nat} {free : Addr → Prop} {A0 A1 : Nat → Prop} {H0 : Heap} {a : Array Value} {ls : Array Slot} {st0 rest : List Value}
variable {Qc : Array Value → State → Outcome → State → Prop} {XC : String → State → State → Prop}
/-- what a body that may throw owes at its end -/
def vx_MQ (below : List Frame) (Qc : Array Value → State → Outcome → State → Prop) (XC : String → State → State → Prop) (a : Array Value) (s : State) (mc ms : Nat) (free : Addr → Prop) : State → Prop := fun t =>
  ∃ o, t.status = .running ∧ Ended t below o ∧ vx_Q Qc XC mc ms free a s o t
theorem vx_ret {g : JFrame} {mc ms : Nat} (k : W p l e R s m args below meth c H locs cells slots (MQ below Qc args s mc ms free) g) : W p l e R s m args below meth c H locs cells slots (vx_MQ below Qc XC args s mc ms free) g := by
  intro T hT X
  obtain ⟨t, a1, o, b1, b2, b3, b4⟩ := k T hT X
  exact ⟨t, a1, o, b1, b2, Or.inl ⟨b3, b4⟩⟩
/-- not caught here: it goes on to the caller -/
theorem vx_widen {g : JFrame} {q : Addr} {k n : Nat} (h1 : cells ≤ k) (h2 : slots ≤ n) (kk : vx_W p l e R s m args below meth c H locs k n Q g q) : vx_W p l e R s m args below meth c H locs cells slots Q g q := fun T hT X => kk T hT (stand_widen X h1 h2)
theorem vx_out {pc : Nat} {E : String} {ce : Cell} {q : Addr} {mc ms : Nat} (hout : ∀ x ∈ c.exceptionTable.toList, covers x pc = false) (hlocks : meth.locks = false) (hcell : H[q]? = some ce) (hv : ce.vm = .none) (hcl : s.vm.findClass E = some ce.cls)
    (hx : ∀ t : State, t.heap = H → s.vm.Alike t.vm → XC E s t) (hf : ∀ z ∈ locs, free z.base) (hc : cells ≤ mc) (hs : slots ≤ ms) :
    vx_W p l e R s m args below meth c H locs cells slots (vx_MQ below Qc XC args s mc ms free) (F0 m pc ls rest) q := by
  intro T hT X
  obtain ⟨st1, hrun, hend, hW, hsm⟩ := X.leaveThrown q (g := F0 m pc ls rest) rfl rfl rfl hout hlocks
  have hcell9 : (T.setFrames (.throwing q :: below)).heap[q]? = some ce := by
    show T.heap[q]? = some ce
    rw [hT]; exact hcell
  exact ⟨_, st1, .threw q, hrun, hend, Or.inr ⟨q, rfl, E, ce, locs, hx _ hT hW.alike, hcell9, hv, hcl, hW, hsm.mono hc hs, hf⟩⟩
theorem vx_frame {U : State} {k n : Nat} (h : s.sameButNew ({ U with vm := s.vm } : State) locs k n) : s.heap.size ≤ U.heap.size ∧ ∀ q : Nat, q < s.heap.size → (∀ z ∈ locs, z.base ≠ q) → U.heap[q]? = s.heap[q]? := by
  obtain ⟨-, h2, -, -, -, h6⟩ := h
  refine ⟨h2, fun q hq hz => ?_⟩
  obtain ⟨c9, e1, e2, e3, e4⟩ := h6 q _ (Array.getElem?_eq_getElem hq)
  have hs : c9.slots = (s.heap[q]).slots := Array.ext_getElem? fun i => e4 i fun hm => hz _ hm rfl
  have h9 : c9 = s.heap[q] := by
    rw [hs] at e2
    exact e2
  have e5 : U.heap[q]? = some c9 := e1
  rw [e5, h9, Array.getElem?_eq_getElem hq]
/-- the words of a throw but the four that speak of the heap -/
def vx_no (w : Cond) : Bool := decide (w ≠ .isRef (.static Bundle.tN "UNASSIGNED_STACK" Bundle.steD)) && decide (w ≠ .isRef (.static Bundle.tN "SUPPRESSED_SENTINEL" Bundle.listD)) && decide (w ≠ .laysStatic Bundle.tN "UNASSIGNED_STACK" Bundle.steD) && decide (w ≠ .laysStatic Bundle.tN "SUPPRESSED_SENTINEL" Bundle.listD)
def vx_at0 (own : String) (ic : Nat) (X : String) (names : List String) : List Cond := (Bundle.ownAtoms0 own ic X names).filter vx_no
def vx_atS (own : String) (ic : Nat) (X : String) (names : List String) : List Cond := (Bundle.ownAtoms own ic X names).filter vx_no
/-- a word that the tables alone decide, or a good one -/
def vx_ot (w : Cond) : Bool := w.onTables || goodWord w
theorem vx_ot_at {args a' : Array Value} {s U : State} {w : Cond} (hW : s.WarmedH U.vm) (hvm : s.vm = U.vm) (hg : vx_ot w = true) (h : w.before args s = true) : w.before a' U = true := by
  simp only [vx_ot, Bool.or_eq_true] at hg
  rcases hg with hg | hg
  · exact va_tabs hg hvm h
  · exact word_at hW (good_of_word hg) h
/-- a list's words: the good ones out of the method's own list, the others by premises of their own -/
theorem vx_hat {args : Array Value} {s : State} {L B : List Cond} (h1 : ∀ w ∈ L.filter goodWord, w.before args s = true) (h2 : ∀ w ∈ L.filter (fun w => !goodWord w), w ∈ B) (h3 : ∀ w ∈ B, w.before args s = true) : ∀ w ∈ L, w.before args s = true := by
  intro w hw
  by_cases g : goodWord w = true
  · exact h1 w (List.mem_filter.mpr ⟨hw, g⟩)
  · refine h3 w (h2 w (List.mem_filter.mpr ⟨hw, ?_⟩))
    show (!goodWord w) = true
    cases hgw : goodWord w
    · rfl
    · exact absurd hgw g
theorem vx_c {args : Array Value} {s : State} {w : Cond} {B : List Cond} (h : w.before args s = true) (t : ∀ w ∈ B, w.before args s = true) : ∀ w' ∈ w :: B, w'.before args s = true := fun w' h' => (List.mem_cons.mp h').elim (fun e => by rw [e]; exact h) (t w')
theorem vx_n {args : Array Value} {s : State} : ∀ w ∈ ([] : List Cond), w.before args s = true := fun _ h => nomatch h
theorem vx_own {args : Array Value} {s : State} {L : List Cond} (h1 : ∀ w ∈ L.filter vx_no, w.before args s = true)
    (hU : (Cond.isRef (.static Bundle.tN "UNASSIGNED_STACK" Bundle.steD)).before args s = true) (hN : (Cond.isRef (.static Bundle.tN "SUPPRESSED_SENTINEL" Bundle.listD)).before args s = true)
    (lU : (Cond.laysStatic Bundle.tN "UNASSIGNED_STACK" Bundle.steD).before args s = true) (lN : (Cond.laysStatic Bundle.tN "SUPPRESSED_SENTINEL" Bundle.listD).before args s = true) : ∀ w ∈ L, w.before args s = true := by
  intro w hw
  by_cases e1 : w = .isRef (.static Bundle.tN "UNASSIGNED_STACK" Bundle.steD)
  · rw [e1]; exact hU
  · by_cases e2 : w = .isRef (.static Bundle.tN "SUPPRESSED_SENTINEL" Bundle.listD)
    · rw [e2]; exact hN
    · by_cases e3 : w = .laysStatic Bundle.tN "UNASSIGNED_STACK" Bundle.steD
      · rw [e3]; exact lU
      · by_cases e4 : w = .laysStatic Bundle.tN "SUPPRESSED_SENTINEL" Bundle.listD
        · rw [e4]; exact lN
        · exact h1 w (List.mem_filter.mpr ⟨hw, by unfold vx_no; rw [decide_eq_true e1, decide_eq_true e2, decide_eq_true e3, decide_eq_true e4]; rfl⟩)
/-- where a static field lies, its class's statics cell in H -/
def vx_L (C n d : String) (A : Nat → Prop) (U : State) (H : Heap) : Prop := ∃ (c : ClassId) (k : Class) (i : Nat) (f : Field) (a : Nat) (cell : Cell), U.vm.findClass C = some c ∧ U.fieldFound? C n d = some (c, k, i, f) ∧ f.isStatic = true ∧ k.statics = some a ∧ H[a]? = some cell ∧ cell.vm.isStatics = true ∧ cell.cls = c ∧ f.slot < cell.slots.size ∧ k.staticTypes[f.slot]? = some f.type ∧ ¬ A a
theorem vx_L.moved {C n d : String} {A : Nat → Prop} {u U : State} {H : Heap} (hvm : u.vm.Alike U.vm) (h : vx_L C n d A u H) : vx_L C n d A U H := by
  obtain ⟨c, k, i, f, a, cell, h1, h2, h3, h4, h5, h6, h7, h8, h9, h10⟩ := h
  obtain ⟨k', hi', he⟩ := State.fieldFound?_setVm hvm h2
  exact ⟨c, k', i, f, a, cell, by rw [hvm.findClass]; exact h1, hi', h3, by rw [he]; exact h4, h5, h6, h7, h8, by rw [he]; exact h9, h10⟩
theorem vx_L.kept {C n d : String} {A : Nat → Prop} {U : State} {H H1 : Heap} (h : vx_L C n d A U H) (hq : ∀ a : Nat, a < H.size → ¬ A a → H1[a]? = H[a]?) : vx_L C n d A U H1 := by
  obtain ⟨c, k, i, f, a, cell, h1, h2, h3, h4, h5, h6, h7, h8, h9, h10⟩ := h
  exact ⟨c, k, i, f, a, cell, h1, h2, h3, h4, by rw [hq a (Array.getElem?_eq_some_iff.mp h5).1 h10]; exact h5, h6, h7, h8, h9, h10⟩
theorem vx_L.narrow {C n d : String} {A B : Nat → Prop} {U : State} {H : Heap} (h : vx_L C n d A U H) (hAB : ∀ q, B q → A q) : vx_L C n d B U H := by
  obtain ⟨c, k, i, f, a, cell, h1, h2, h3, h4, h5, h6, h7, h8, h9, h10⟩ := h
  exact ⟨c, k, i, f, a, cell, h1, h2, h3, h4, h5, h6, h7, h8, h9, fun z => h10 (hAB _ z)⟩
theorem vx_L.word {C n d : String} {A : Nat → Prop} {s : State} {args : Array Value} (h : vx_L C n d A s s.heap) : (Cond.laysStatic C n d).before args s = true := by
  obtain ⟨c, k, i, f, a, cell, h1, h2, h3, h4, h5, h6, h7, h8, h9, -⟩ := h
  show (Cond.laysStatic C n d).holds args s none s [] = true
  exact Cond.laysStatic_of h1 h2 h3 h4 h5 h6 h7 h8 h9
/-- .. and what it holds: null or some reference -/
def vx_Zq (C n d : String) (A : Nat → Prop) (U : State) (H : Heap) : Prop := va_Zq C n d A U H ∧ vx_L C n d A U H
theorem vx_Zq.moved {C n d : String} {A : Nat → Prop} {u U : State} {H : Heap} (hvm : u.vm.Alike U.vm) (h : vx_Zq C n d A u H) : vx_Zq C n d A U H := ⟨va_Zq.moved hvm h.1, vx_L.moved hvm h.2⟩
theorem vx_Zq.kept {C n d : String} {A : Nat → Prop} {U : State} {H H1 : Heap} (h : vx_Zq C n d A U H) (hq : ∀ a : Nat, a < H.size → ¬ A a → H1[a]? = H[a]?) : vx_Zq C n d A U H1 := ⟨va_Zq.kept h.1 hq, vx_L.kept h.2 hq⟩
theorem vx_Zq.narrow {C n d : String} {A B : Nat → Prop} {U : State} {H : Heap} (h : vx_Zq C n d A U H) (hAB : ∀ q, B q → A q) : vx_Zq C n d B U H := ⟨va_Zq.narrow h.1 hAB, vx_L.narrow h.2 hAB⟩
theorem vx_Zqof {args : Array Value} {s : State} {C n d : String} {A : Nat → Prop} (hl : (Cond.laysStatic C n d).before args s = true) (hini : (Cond.initialized C).before args s = true) (h : (Cond.isRef (.static C n d)).before args s = true) (hA : ∀ a : Nat, a < s.heap.size → ¬ A a) : vx_Zq C n d A s s.heap := by
  refine ⟨va_Zqof hl hini h hA, ?_⟩
  obtain ⟨c, k, i, f, a, cell, h1, h2, h3, h4, h5, h6, h7, h8, h9⟩ := Cond.laysStatic_spec hl
  exact ⟨c, k, i, f, a, cell, h1, h2, h3, h4, h5, h6, h7, h8, h9, hA a (Array.getElem?_eq_some_iff.mp h5).1⟩
theorem vx_isRef {C n d : String} {v : Value} {A : Nat → Prop} {s : State} {args : Array Value} (h : va_Z C n d v A s s.heap) (hv : v.isRef = true) : (Cond.isRef (.static C n d)).before args s = true := by
  obtain ⟨cf, kf, fi, f, a, cell, h1, h2, h3, h4, h5, h6, h7, -⟩ := h
  have he : (Term.static C n d).eval args s none [] s = some v := by
    simp [Term.eval, State.fieldNamed?, h1, h2, h4, h5, h6, h7]
  simp only [Cond.before, Cond.holds, Cond.value, he]
  cases v <;> simp_all [Value.isRef]
theorem vx_isRefq {C n d : String} {A : Nat → Prop} {s : State} {args : Array Value} (h : va_Zq C n d A s s.heap) : (Cond.isRef (.static C n d)).before args s = true := by
  rcases h with h | ⟨t, h⟩
  · exact vx_isRef h rfl
  · exact vx_isRef h rfl
/-- the same frame, seen from here: as if the method were called anew in this heap -/
theorem vx_rebase {T : State} (X : Stand p l e R s m args below meth c T locs cells slots) {R' : Room} (hf : R'.frames ≤ R.frames) (hl : R'.locals ≤ R.locals) (hc : cells + R'.cells ≤ R.cells) (hs : slots + R'.slots ≤ R.slots) :
    Stand p l e R' ((T.setVm s.vm).setFrames (.invoking m args :: below)) m args below meth c T [] 0 0 := by
  have htop : (T.setVm s.vm).topJava?.isSome := X.here.top
  have hF : ((T.setVm s.vm).setFrames (.invoking m args :: below)).frames = .invoking m args :: below := State.frames_setFrames _ (State.cur_lt_of_top htop)
  obtain ⟨g₀, hg0⟩ := Option.isSome_iff_exists.mp htop
  obtain ⟨r, hr⟩ := State.topJava?_eq_some.mp hg0
  have hl9 : e.platform.stackLimits (T.setVm s.vm).me = e.platform.stackLimits s.me := X.limits
  have hb9 : (T.setVm s.vm).me.stackBytes = s.me.stackBytes := X.bytes
  refine ⟨X.admits, X.cas, X.clock, hF, ?_, X.hears, X.method, X.code, X.here, X.tail, X.warmed, ?_, ?_, ?_⟩
  · have h := X.room
    have hU : ((T.setVm s.vm).setFrames (.invoking m args :: below)).localsInUse = s.localsInUse := by
      rw [State.localsInUse_invoking hF (meth := meth) (c := c) X.method X.code, State.localsInUse_invoking X.frames X.method X.code]
    simp only [State.hasRoom, Bool.and_eq_true, decide_eq_true_eq] at h ⊢
    obtain ⟨⟨⟨⟨h1, h2, h3, h4, h5, h6⟩, h7⟩, h8⟩, h9⟩ := h
    rw [X.frames, List.length_cons] at h2 h3
    have q1 := X.heapSize
    have q2 := X.used
    simp only [hF, hU, List.length_cons, State.stackLimits_setFrames, State.stackBytes_setFrames, hl9, hb9]
    refine ⟨⟨⟨⟨by omega, by omega, by omega, by omega, by omega, h6⟩, ?_⟩, ?_⟩, X.book⟩
    · show T.heap.size + R'.cells ≤ e.platform.maxCells
      omega
    · show T.slotsUsed + R'.slots ≤ e.platform.maxSlots
      omega
  · rw [State.stackLimits_setFrames]; rfl
  · rw [State.stackBytes_setFrames]; rfl
  · refine ⟨?_, Nat.le_refl _, Nat.le_refl _, ?_, ?_, fun a c9 h9 => ⟨c9, h9, rfl, rfl, fun _ _ => rfl⟩⟩
    · obtain ⟨t, ht, -⟩ := State.frames_cons hr
      show T.setVm s.vm = { ((T.setVm s.vm).setFrames (.invoking m args :: below)).setFrames (T.setVm s.vm).frames with heap := T.heap, slotsUsed := T.slotsUsed }
      rw [State.setFrames_setFrames, State.setFrames_self ht]
      rfl
    · show T.slotsUsed = T.slotsUsed + ((T.heap.toList.drop T.heap.size).map (·.slots.size)).sum
      rw [List.drop_eq_nil_of_le (Nat.le_of_eq Array.length_toList)]
      rfl
    · show ((T.heap.toList.drop T.heap.size).map (·.slots.size)).sum ≤ 0
      rw [List.drop_eq_nil_of_le (Nat.le_of_eq Array.length_toList)]
      exact Nat.le_refl _
/-- 'throw new E()': new; dup; invokespecial; athrow -/
theorem vx_throw0 {cc : ByteArray} {pc : Nat} (hexec : p.tables.exec = Jvm.exec) (hb : c.code = cc) (hl : l.stackTraces = false) {own cls : String} {names : List String} {ik ic mc ms : Nat} {A : Nat → Prop}
    (hown : s.vm.findClass own = some m.cls) (hcls : Bundle.fit cls = true) (hnames : ∀ n ∈ names, Bundle.fit n = true)
    (hk : (Cond.classLink own ik cls).before args s = true) (hini : (Cond.initialized cls).before args s = true) (hat : ∀ w ∈ vx_at0 own ic cls names, w.before args s = true)
    (hgood : ∀ w ∈ Cond.classLink own ik cls :: Cond.initialized cls :: vx_at0 own ic cls names, vx_ot w = true)
    (hU : vx_Zq Bundle.tN "UNASSIGNED_STACK" Bundle.steD A s s.heap) (hN : vx_Zq Bundle.tN "SUPPRESSED_SENTINEL" Bundle.listD A s s.heap) (hS : va_S A s.heap H locs) (hsize : ls.size = c.maxLocals)
    (d0 : decode cc pc = .ok (.new ik, 3)) (d3 : decode cc (pc + 3) = .ok (.dup, 1)) (d4 : decode cc (pc + 4) = .ok (.invokespecial ic, 3)) (d7 : decode cc (pc + 7) = .ok (.athrow, 1))
    (hout : ∀ x ∈ c.exceptionTable.toList, covers x (pc + 7) = false)
    (hRframes : names.length + 3 < R.frames) (hRlocals : (rest.map fun v => v.category).sum + (13 * (names.length + 1) + 42) ≤ R.locals) (hRcells : cells + 1 ≤ R.cells) (hRslots : slots + 6 ≤ R.slots) (hlocks : meth.locks = false)
    (hx : ∀ t : State, s.vm.Alike t.vm → H.size ≤ t.heap.size → (∀ q : Nat, q < H.size → t.heap[q]? = H[q]?) → XC cls s t)
    (hf : ∀ z ∈ locs, free z.base) (hc : cells + 1 ≤ mc) (hs : slots + 6 ≤ ms) :
    W p l e R s m args below meth c H locs cells slots (vx_MQ below Qc XC args s mc ms free) (F0 m pc ls rest) := by
  intro T hT X
  have htr : e.platform.stackTraces = false := (show e.platform.stackTraces = l.stackTraces by rw [X.admits.platform]).trans hl
  have Y := vx_rebase X (R' := { frames := R.frames, locals := R.locals, cells := 1, slots := 6 }) (Nat.le_refl _) (Nat.le_refl _) hRcells hRslots
  obtain ⟨s', hA⟩ : ∃ z, z = (T.setVm s.vm).setFrames (.invoking m args :: below) := ⟨_, rfl⟩
  rw [← hA] at Y
  have hvm : s'.vm = s.vm := by rw [hA]; rfl
  have hhp : s'.heap = H := by rw [hA]; exact hT
  have hW0 : s.WarmedH s'.vm := by rw [hvm]; exact State.WarmedH.refl s
  have hat' : ∀ w ∈ vx_at0 own ic cls names, w.before args s' = true := fun w hw => vx_ot_at hW0 hvm.symm (hgood w (List.mem_cons_of_mem _ (List.mem_cons_of_mem _ hw))) (hat w hw)
  have hk' : (Cond.classLink own ik cls).before args s' = true := vx_ot_at hW0 hvm.symm (hgood _ List.mem_cons_self) hk
  have hini' : (Cond.initialized cls).before args s' = true := vx_ot_at hW0 hvm.symm (hgood _ (List.mem_cons_of_mem _ List.mem_cons_self)) hini
  have hU' : vx_Zq Bundle.tN "UNASSIGNED_STACK" Bundle.steD A s' s'.heap := by rw [hhp]; exact vx_Zq.moved hW0.alike (hU.kept hS.2.1)
  have hN' : vx_Zq Bundle.tN "SUPPRESSED_SENTINEL" Bundle.listD A s' s'.heap := by rw [hhp]; exact vx_Zq.moved hW0.alike (hN.kept hS.2.1)
  have h : ∀ w ∈ Bundle.ownAtoms0 own ic cls names, w.before args s' = true := vx_own hat' (vx_isRefq hU'.1) (vx_isRefq hN'.1) hU'.2.word hN'.2.word
  have hown' : s'.vm.findClass own = some m.cls := by rw [hvm]; exact hown
  have hins : (Cond.instantiable cls 6).before args s' = true := h _ (by simp [Bundle.ownAtoms0])
  obtain ⟨vm₁, cX, kX, hfX, hkX, -, -, X₁, st1⟩ := Y.newCold hexec (own := own) (C := cls) (index := ik) (n := 6) hown' hk' hins hini'
    (g := F0 m pc ls rest) rfl (by rw [hb]; exact d0) (Nat.le_refl _) (Nat.le_refl _)
  generalize hT1 : (T.setVm vm₁).pushCell { cls := cX, slots := kX.instanceTypes.map defaultValue, vm := .none } = T1 at X₁ st1
  have hcat : (Value.ref T.heap.size).category = 1 := rfl
  have hcellA : T1.heap[T.heap.size]? = some (freshCell cX kX) := by rw [← hT1]; exact State.heap_pushCell_size _ _
  have d3' : decode c.code (pc + 3) = .ok (.dup, 1) := by rw [hb]; exact d3
  obtain ⟨U, hsteps, hrun, hend, hW, hsame, ce, hce, hO⟩ := X₁.ctorThrow0 hexec htr (own := own) (cls := cls) (names := names) (ic := ic) hown' hcls hnames h (fun x hx => nomatch hx) hfX hkX hcellA (by rw [hhp, hT]; exact Nat.le_refl _)
    (g := { method := m, pc := pc + 4, locals := ls, stack := .ref T.heap.size :: .ref T.heap.size :: rest, locked := none }) rfl hsize rfl rfl (rest := rest) rfl
    (by rw [hb]; exact d4) (by rw [hb]; exact d7) hout hRframes (by simp only [List.map_cons, List.sum_cons, hcat]; omega) hlocks
  obtain ⟨f1, f2⟩ := vx_frame hsame
  rw [hhp] at f1 f2
  have hWs : s.WarmedH U.vm := State.WarmedH.trans hW0 hW
  have hcl : s.vm.findClass cls = some ce.cls := by
    have h9 := hO.cls
    rw [hvm] at h9
    exact h9
  have hall : s.sameButNew ({ U with vm := s.vm } : State) locs mc ms := by
    subst hA
    obtain ⟨e1, e2⟩ := hsame
    rw [State.setFrames_setFrames] at e1
    have h2 : (T.setVm s.vm).sameButNew ({ U with vm := s.vm } : State) [] (0 + 1) (0 + 6) := ⟨e1, e2⟩
    have h3 := X.same.trans h2
    rw [List.append_nil] at h3
    exact h3.mono hc hs
  refine ⟨U, ?_, .threw T.heap.size, hrun, hend, Or.inr ⟨T.heap.size, rfl, cls, ce, locs, hx U hWs.alike f1 (fun q hq => f2 q hq (fun z hz => nomatch hz)), hce, hO.vm, hcl, hWs, hall, hf⟩⟩
  refine st1 _ ?_
  show Steps p.tables e below (T1.setTop { method := m, pc := pc + 3, locals := ls, stack := .ref T.heap.size :: rest, locked := none }) _
  jvm_step X₁.here [X₁.here.top, hexec, d3', Value.category]
  exact hsteps
/-- 'throw new E("text")': new; dup; ldc; invokespecial; athrow -/
theorem vx_throwS {cc : ByteArray} {pc : Nat} (hexec : p.tables.exec = Jvm.exec) (hb : c.code = cc) (hl : l.stackTraces = false) {own cls text : String} {names : List String} {ik is ic mc ms sa : Nat} {A : Nat → Prop}
    (hown : s.vm.findClass own = some m.cls) (hcls : Bundle.fit cls = true) (hnames : ∀ n ∈ names, Bundle.fit n = true)
    (hk : (Cond.classLink own ik cls).before args s = true) (hini : (Cond.initialized cls).before args s = true) (hstr : vk_R own is text sa s) (hat : ∀ w ∈ vx_atS own ic cls names, w.before args s = true)
    (hgood : ∀ w ∈ Cond.classLink own ik cls :: Cond.initialized cls :: vx_atS own ic cls names, vx_ot w = true)
    (hU : vx_Zq Bundle.tN "UNASSIGNED_STACK" Bundle.steD A s s.heap) (hN : vx_Zq Bundle.tN "SUPPRESSED_SENTINEL" Bundle.listD A s s.heap) (hS : va_S A s.heap H locs) (hsize : ls.size = c.maxLocals)
    (d0 : decode cc pc = .ok (.new ik, 3)) (d3 : decode cc (pc + 3) = .ok (.dup, 1)) (d4 : decode cc (pc + 4) = .ok (.ldc is, 2)) (d6 : decode cc (pc + 6) = .ok (.invokespecial ic, 3)) (d9 : decode cc (pc + 9) = .ok (.athrow, 1))
    (hout : ∀ x ∈ c.exceptionTable.toList, covers x (pc + 9) = false)
    (hRframes : names.length + 3 < R.frames) (hRlocals : (rest.map fun v => v.category).sum + (13 * (names.length + 1) + 43) ≤ R.locals) (hRcells : cells + 1 ≤ R.cells) (hRslots : slots + 6 ≤ R.slots) (hlocks : meth.locks = false)
    (hx : ∀ t : State, s.vm.Alike t.vm → H.size ≤ t.heap.size → (∀ q : Nat, q < H.size → t.heap[q]? = H[q]?) → XC cls s t)
    (hf : ∀ z ∈ locs, free z.base) (hc : cells + 1 ≤ mc) (hs : slots + 6 ≤ ms) :
    W p l e R s m args below meth c H locs cells slots (vx_MQ below Qc XC args s mc ms free) (F0 m pc ls rest) := by
  intro T hT X
  have htr : e.platform.stackTraces = false := (show e.platform.stackTraces = l.stackTraces by rw [X.admits.platform]).trans hl
  have Y := vx_rebase X (R' := { frames := R.frames, locals := R.locals, cells := 1, slots := 6 }) (Nat.le_refl _) (Nat.le_refl _) hRcells hRslots
  obtain ⟨s', hA⟩ : ∃ z, z = (T.setVm s.vm).setFrames (.invoking m args :: below) := ⟨_, rfl⟩
  rw [← hA] at Y
  have hvm : s'.vm = s.vm := by rw [hA]; rfl
  have hhp : s'.heap = H := by rw [hA]; exact hT
  have hW0 : s.WarmedH s'.vm := by rw [hvm]; exact State.WarmedH.refl s
  have hat' : ∀ w ∈ vx_atS own ic cls names, w.before args s' = true := fun w hw => vx_ot_at hW0 hvm.symm (hgood w (List.mem_cons_of_mem _ (List.mem_cons_of_mem _ hw))) (hat w hw)
  have hk' : (Cond.classLink own ik cls).before args s' = true := vx_ot_at hW0 hvm.symm (hgood _ List.mem_cons_self) hk
  have hini' : (Cond.initialized cls).before args s' = true := vx_ot_at hW0 hvm.symm (hgood _ (List.mem_cons_of_mem _ List.mem_cons_self)) hini
  have hU' : vx_Zq Bundle.tN "UNASSIGNED_STACK" Bundle.steD A s' s'.heap := by rw [hhp]; exact vx_Zq.moved hW0.alike (hU.kept hS.2.1)
  have hN' : vx_Zq Bundle.tN "SUPPRESSED_SENTINEL" Bundle.listD A s' s'.heap := by rw [hhp]; exact vx_Zq.moved hW0.alike (hN.kept hS.2.1)
  have h : ∀ w ∈ Bundle.ownAtoms own ic cls names, w.before args s' = true := vx_own hat' (vx_isRefq hU'.1) (vx_isRefq hN'.1) hU'.2.word hN'.2.word
  have hown' : s'.vm.findClass own = some m.cls := by rw [hvm]; exact hown
  have hins : (Cond.instantiable cls 6).before args s' = true := h _ (by simp [Bundle.ownAtoms])
  obtain ⟨vm₁, cX, kX, hfX, hkX, -, -, X₁, st1⟩ := Y.newCold hexec (own := own) (C := cls) (index := ik) (n := 6) hown' hk' hins hini'
    (g := F0 m pc ls rest) rfl (by rw [hb]; exact d0) (Nat.le_refl _) (Nat.le_refl _)
  generalize hT1 : (T.setVm vm₁).pushCell { cls := cX, slots := kX.instanceTypes.map defaultValue, vm := .none } = T1 at X₁ st1
  have hcat : (Value.ref T.heap.size).category = 1 := rfl
  have hcellA : T1.heap[T.heap.size]? = some (freshCell cX kX) := by rw [← hT1]; exact State.heap_pushCell_size _ _
  have d3' : decode c.code (pc + 3) = .ok (.dup, 1) := by rw [hb]; exact d3
  have d4' : decode c.code (pc + 4) = .ok (.ldc is, 2) := by rw [hb]; exact d4
  have hstr' : vk_R own is text sa s' := vk_R.warm hW0 hstr
  obtain ⟨U, hsteps, hrun, hend, hW, hsame, ce, hce, hO⟩ := X₁.ctorThrowS hexec htr (own := own) (cls := cls) (names := names) (ic := ic) hown' hcls hnames h (fun x hx => nomatch hx) hfX hkX hcellA (by rw [hhp, hT]; exact Nat.le_refl _) (msg := .ref sa) rfl
    (g := { method := m, pc := pc + 6, locals := ls, stack := .ref sa :: .ref T.heap.size :: .ref T.heap.size :: rest, locked := none }) rfl hsize rfl rfl (rest := rest) rfl
    (by rw [hb]; exact d6) (by rw [hb]; exact d9) hout hRframes (by simp only [List.map_cons, List.sum_cons, hcat]; omega) hlocks
  obtain ⟨f1, f2⟩ := vx_frame hsame
  rw [hhp] at f1 f2
  have hWs : s.WarmedH U.vm := State.WarmedH.trans hW0 hW
  have hcl : s.vm.findClass cls = some ce.cls := by
    have h9 := hO.cls
    rw [hvm] at h9
    exact h9
  have hall : s.sameButNew ({ U with vm := s.vm } : State) locs mc ms := by
    subst hA
    obtain ⟨e1, e2⟩ := hsame
    rw [State.setFrames_setFrames] at e1
    have h2 : (T.setVm s.vm).sameButNew ({ U with vm := s.vm } : State) [] (0 + 1) (0 + 6) := ⟨e1, e2⟩
    have h3 := X.same.trans h2
    rw [List.append_nil] at h3
    exact h3.mono hc hs
  refine ⟨U, ?_, .threw T.heap.size, hrun, hend, Or.inr ⟨T.heap.size, rfl, cls, ce, locs, hx U hWs.alike f1 (fun q hq => f2 q hq (fun z hz => nomatch hz)), hce, hO.vm, hcl, hWs, hall, hf⟩⟩
  refine st1 _ ?_
  show Steps p.tables e below (T1.setTop { method := m, pc := pc + 3, locals := ls, stack := .ref T.heap.size :: rest, locked := none }) _
  jvm_step X₁.here [X₁.here.top, hexec, d3', Value.category]
  exact X₁.ldcString hexec (own := own) (text := text) (index := is) (a := sa) hown' hstr'.1 hstr'.2
    (g := { method := m, pc := pc + 4, locals := ls, stack := .ref T.heap.size :: .ref T.heap.size :: rest, locked := none }) rfl d4' _ hsteps
/-- 'throw new E("text")', the text by a wide index -/
theorem vx_throwSW {cc : ByteArray} {pc : Nat} (hexec : p.tables.exec = Jvm.exec) (hb : c.code = cc) (hl : l.stackTraces = false) {own cls text : String} {names : List String} {ik is ic mc ms sa : Nat} {A : Nat → Prop}
    (hown : s.vm.findClass own = some m.cls) (hcls : Bundle.fit cls = true) (hnames : ∀ n ∈ names, Bundle.fit n = true)
    (hk : (Cond.classLink own ik cls).before args s = true) (hini : (Cond.initialized cls).before args s = true) (hstr : vk_R own is text sa s) (hat : ∀ w ∈ vx_atS own ic cls names, w.before args s = true)
    (hgood : ∀ w ∈ Cond.classLink own ik cls :: Cond.initialized cls :: vx_atS own ic cls names, vx_ot w = true)
    (hU : vx_Zq Bundle.tN "UNASSIGNED_STACK" Bundle.steD A s s.heap) (hN : vx_Zq Bundle.tN "SUPPRESSED_SENTINEL" Bundle.listD A s s.heap) (hS : va_S A s.heap H locs) (hsize : ls.size = c.maxLocals)
    (d0 : decode cc pc = .ok (.new ik, 3)) (d3 : decode cc (pc + 3) = .ok (.dup, 1)) (d4 : decode cc (pc + 4) = .ok (.ldc_w is, 3)) (d7 : decode cc (pc + 7) = .ok (.invokespecial ic, 3)) (d10 : decode cc (pc + 10) = .ok (.athrow, 1))
    (hout : ∀ x ∈ c.exceptionTable.toList, covers x (pc + 10) = false)
    (hRframes : names.length + 3 < R.frames) (hRlocals : (rest.map fun v => v.category).sum + (13 * (names.length + 1) + 43) ≤ R.locals) (hRcells : cells + 1 ≤ R.cells) (hRslots : slots + 6 ≤ R.slots) (hlocks : meth.locks = false)
    (hx : ∀ t : State, s.vm.Alike t.vm → H.size ≤ t.heap.size → (∀ q : Nat, q < H.size → t.heap[q]? = H[q]?) → XC cls s t)
    (hf : ∀ z ∈ locs, free z.base) (hc : cells + 1 ≤ mc) (hs : slots + 6 ≤ ms) :
    W p l e R s m args below meth c H locs cells slots (vx_MQ below Qc XC args s mc ms free) (F0 m pc ls rest) := by
  intro T hT X
  have htr : e.platform.stackTraces = false := (show e.platform.stackTraces = l.stackTraces by rw [X.admits.platform]).trans hl
  have Y := vx_rebase X (R' := { frames := R.frames, locals := R.locals, cells := 1, slots := 6 }) (Nat.le_refl _) (Nat.le_refl _) hRcells hRslots
  obtain ⟨s', hA⟩ : ∃ z, z = (T.setVm s.vm).setFrames (.invoking m args :: below) := ⟨_, rfl⟩
  rw [← hA] at Y
  have hvm : s'.vm = s.vm := by rw [hA]; rfl
  have hhp : s'.heap = H := by rw [hA]; exact hT
  have hW0 : s.WarmedH s'.vm := by rw [hvm]; exact State.WarmedH.refl s
  have hat' : ∀ w ∈ vx_atS own ic cls names, w.before args s' = true := fun w hw => vx_ot_at hW0 hvm.symm (hgood w (List.mem_cons_of_mem _ (List.mem_cons_of_mem _ hw))) (hat w hw)
  have hk' : (Cond.classLink own ik cls).before args s' = true := vx_ot_at hW0 hvm.symm (hgood _ List.mem_cons_self) hk
  have hini' : (Cond.initialized cls).before args s' = true := vx_ot_at hW0 hvm.symm (hgood _ (List.mem_cons_of_mem _ List.mem_cons_self)) hini
  have hU' : vx_Zq Bundle.tN "UNASSIGNED_STACK" Bundle.steD A s' s'.heap := by rw [hhp]; exact vx_Zq.moved hW0.alike (hU.kept hS.2.1)
  have hN' : vx_Zq Bundle.tN "SUPPRESSED_SENTINEL" Bundle.listD A s' s'.heap := by rw [hhp]; exact vx_Zq.moved hW0.alike (hN.kept hS.2.1)
  have h : ∀ w ∈ Bundle.ownAtoms own ic cls names, w.before args s' = true := vx_own hat' (vx_isRefq hU'.1) (vx_isRefq hN'.1) hU'.2.word hN'.2.word
  have hown' : s'.vm.findClass own = some m.cls := by rw [hvm]; exact hown
  have hins : (Cond.instantiable cls 6).before args s' = true := h _ (by simp [Bundle.ownAtoms])
  obtain ⟨vm₁, cX, kX, hfX, hkX, -, -, X₁, st1⟩ := Y.newCold hexec (own := own) (C := cls) (index := ik) (n := 6) hown' hk' hins hini'
    (g := F0 m pc ls rest) rfl (by rw [hb]; exact d0) (Nat.le_refl _) (Nat.le_refl _)
  generalize hT1 : (T.setVm vm₁).pushCell { cls := cX, slots := kX.instanceTypes.map defaultValue, vm := .none } = T1 at X₁ st1
  have hcat : (Value.ref T.heap.size).category = 1 := rfl
  have hcellA : T1.heap[T.heap.size]? = some (freshCell cX kX) := by rw [← hT1]; exact State.heap_pushCell_size _ _
  have d3' : decode c.code (pc + 3) = .ok (.dup, 1) := by rw [hb]; exact d3
  have d4' : decode c.code (pc + 4) = .ok (.ldc_w is, 3) := by rw [hb]; exact d4
  have hstr' : vk_R own is text sa s' := vk_R.warm hW0 hstr
  obtain ⟨U, hsteps, hrun, hend, hW, hsame, ce, hce, hO⟩ := X₁.ctorThrowS hexec htr (own := own) (cls := cls) (names := names) (ic := ic) hown' hcls hnames h (fun x hx => nomatch hx) hfX hkX hcellA (by rw [hhp, hT]; exact Nat.le_refl _) (msg := .ref sa) rfl
    (g := { method := m, pc := pc + 7, locals := ls, stack := .ref sa :: .ref T.heap.size :: .ref T.heap.size :: rest, locked := none }) rfl hsize rfl rfl (rest := rest) rfl
    (by rw [hb]; exact d7) (by rw [hb]; exact d10) hout hRframes (by simp only [List.map_cons, List.sum_cons, hcat]; omega) hlocks
  obtain ⟨f1, f2⟩ := vx_frame hsame
  rw [hhp] at f1 f2
  have hWs : s.WarmedH U.vm := State.WarmedH.trans hW0 hW
  have hcl : s.vm.findClass cls = some ce.cls := by
    have h9 := hO.cls
    rw [hvm] at h9
    exact h9
  have hall : s.sameButNew ({ U with vm := s.vm } : State) locs mc ms := by
    subst hA
    obtain ⟨e1, e2⟩ := hsame
    rw [State.setFrames_setFrames] at e1
    have h2 : (T.setVm s.vm).sameButNew ({ U with vm := s.vm } : State) [] (0 + 1) (0 + 6) := ⟨e1, e2⟩
    have h3 := X.same.trans h2
    rw [List.append_nil] at h3
    exact h3.mono hc hs
  refine ⟨U, ?_, .threw T.heap.size, hrun, hend, Or.inr ⟨T.heap.size, rfl, cls, ce, locs, hx U hWs.alike f1 (fun q hq => f2 q hq (fun z hz => nomatch hz)), hce, hO.vm, hcl, hWs, hall, hf⟩⟩
  refine st1 _ ?_
  show Steps p.tables e below (T1.setTop { method := m, pc := pc + 3, locals := ls, stack := .ref T.heap.size :: rest, locked := none }) _
  jvm_step X₁.here [X₁.here.top, hexec, d3', Value.category]
  exact X₁.ldcStringW hexec (own := own) (text := text) (index := is) (a := sa) hown' hstr'.1 hstr'.2
    (g := { method := m, pc := pc + 4, locals := ls, stack := .ref T.heap.size :: .ref T.heap.size :: rest, locked := none }) rfl d4' _ hsteps
end Ends
section Bodies
variable {l : Launch}
theorem vx_ofW {y : MethodName} {ws ws' : List Cond} {rm : Room} {Pc : Array Value → State → Prop} {Qc : Array Value → State → Outcome → State → Prop} {XC : String → State → State → Prop} {mc ms : Nat} {free : Addr → Prop} {cc : ByteArray} {maxL : Nat} {ret : Option FieldType}
    (hy : plainName y.cls = true) (hw : ws = Cond.code y cc maxL ret :: ws')
    (body : ∀ p e s m args below meth c s₁, BodyLoose p l y (headSpec ws rm) cc maxL ret e s m args below meth c s₁ → c.maxLocals = maxL → (∀ x ∈ c.exceptionTable.toList, False) → Pc args s →
      W p l e (headSpec ws rm).room s m args below meth c s.heap [] 0 0 (vx_MQ below Qc XC args s mc ms free) (entryFrame m args maxL)) : vx_Met l y ws rm Pc Qc XC mc ms free := by
  refine MetFree.of_bodyS (code := cc) (maxLocals := maxL) (ret := ret) hy ?_ ?_
  · intro args s m h hn
    obtain ⟨meth, c, h1, h2, h3, h4, h5, h6, -, -⟩ := Cond.code_spec hn (atoms_spec (ws := ws) h _ (by rw [hw]; exact List.mem_cons_self))
    exact ⟨meth, c, h1, h2, h3, h4, h5, h6⟩
  · intro p e s m args below meth c s₁ B hml hP _
    have hh0 : s₁.heap = s.heap := by rw [B.state]; rfl
    have ht : ∀ x ∈ c.exceptionTable.toList, False := by
      obtain ⟨meth9, c9, h1, h2, -, -, -, -, h7, -⟩ := Cond.code_spec B.named (atoms_spec (ws := ws) B.pre _ (by rw [hw]; exact List.mem_cons_self))
      cases Option.some.inj (h1.symm.trans B.method)
      cases Option.some.inj (h2.symm.trans (Stand.of_body B).code)
      intro x hx
      rw [Array.isEmpty_iff.mp h7] at hx
      cases hx
    obtain ⟨t, a1, o, b1, b2, b3⟩ := body p e s m args below meth c s₁ B hml ht hP s₁ hh0 (Stand.of_body B)
    exact ⟨t, o, a1, b1, b2, b3⟩
/-- the table of a body with handlers -/
theorem vx_table {p : Program} {x y : MethodName} {S : Spec} {cc bytes : ByteArray} {maxL maxL' : Nat} {ret ret' : Option FieldType} {e : Env} {s s₁ : State} {m : MethodId} {args : Array Value} {below : List Frame} {meth : Method} {c : Code} {hh : List (Nat × Nat × Nat × Nat)}
    (B : BodyLoose p l y S cc maxL ret e s m args below meth c s₁) (h : (Cond.codeWith y bytes maxL' ret' hh).before args s = true) : c.exceptionTable.toList = tableOf hh := by
  obtain ⟨m9, meth9, c9, hn9, h1, h2, -, -, h6, -⟩ := Cond.codeWith_spec h
  cases Option.some.inj (hn9.symm.trans B.named)
  cases Option.some.inj (h1.symm.trans B.method)
  cases Option.some.inj (h2.symm.trans (Stand.of_body B).code)
  rw [← h6, table_eq]
end Bodies
end VXA
/-! ===== END ===== -/
/-! ===== BEGIN a static call of a method with an exception table ===== -/
section VXS
variable {p : Program} {l : Launch} {e : Env} {R : Room} {s : State} {m : MethodId} {args : Array Value} {below : List Frame} {meth : Method} {c : Code} {T : State} {H : Heap} {locs : List Loc} {cells slots : Nat}
abbrev vx_CSW (R : Room) (s : State) (args : Array Value) (own : String) (index : Nat) (y : MethodName) (bytes : ByteArray) (maxL : Nat) (ret : Option FieldType) (hh : List (Nat × Nat × Nat × Nat)) (ws : List Cond) (rm : Room) (mc ms n : Nat) : Prop :=
  (rm.cells = mc ∧ rm.slots = ms ∧ rm.frames + 1 ≤ R.frames ∧ 8 + (maxL + 11) + rm.locals ≤ R.locals ∧ (∀ w ∈ ws, ∀ (a' : Array Value) (U : State), s.WarmedH U.vm → w.before a' U = true) ∧ Cond.codeWith y bytes maxL ret hh ∈ ws) ∧
  (Cond.codeWith y bytes maxL ret hh).before args s = true ∧ (Cond.initialized y.cls).before args s = true ∧ (y.cls ≠ "java/lang/invoke/MethodHandle" ∧ y.cls ≠ "java/lang/invoke/VarHandle") ∧
  (∀ sig, parseMethodDescriptor y.desc = some sig → n = sig.parameters.length) ∧ (Cond.methodLink own index y).before args s = true ∧ (Cond.static y).before args s = true
theorem vx_cwSW {own : String} {index maxL mc ms : Nat} {y : MethodName} {bytes : ByteArray} {ret : Option FieldType} {hh : List (Nat × Nat × Nat × Nat)} {Ts ws ws' : List Cond} {rm : Room} (n : Nat) (ht : ∀ w ∈ Ts, w.before args s = true) (hT : GoodIn Ts (va_wsS own index y ws)) (hw : ws = Cond.codeWith y bytes maxL ret hh :: ws') (hrc : rm.cells = mc) (hrs : rm.slots = ms)
    (hd : y.cls ≠ "java/lang/invoke/MethodHandle" ∧ y.cls ≠ "java/lang/invoke/VarHandle" ∧ (parseMethodDescriptor y.desc).map (fun d => d.parameters.length) = some n) (hR : rm.frames + 1 ≤ R.frames ∧ 8 + (maxL + 11) + rm.locals ≤ R.locals) :
    vx_CSW R s args own index y bytes maxL ret hh ws rm mc ms n := by
  have ok : ∀ w ∈ va_wsS own index y ws, w.before args s = true := fun w h => ht w (hT w h).1
  have hG : GoodIn Ts ws := fun w h => hT w (by unfold va_wsS; exact List.mem_append_right _ h)
  have hc : Cond.codeWith y bytes maxL ret hh ∈ ws := by rw [hw]; exact List.mem_cons_self
  refine ⟨⟨hrc, hrs, hR.1, hR.2, pay_in ht hG, hc⟩, ht _ (hG _ hc).1, ok _ (by simp [va_wsS]), ⟨hd.1, hd.2.1⟩, fun sig h => ?_, ok _ (by simp [va_wsS]), ok _ (by simp [va_wsS])⟩
  have h2 := hd.2.2
  rw [h] at h2
  exact (Option.some.inj h2).symm
theorem vx_callSW (X : Stand p l e R s m args below meth c T locs cells slots) (hexec : p.tables.exec = Jvm.exec) {own : String} {index : Nat} {y : MethodName} {bytes : ByteArray} {maxL : Nat} {ret : Option FieldType} {hh : List (Nat × Nat × Nat × Nat)}
    (hown : s.vm.findClass own = some m.cls) (hlink : (Cond.methodLink own index y).before args s = true) (hstat : (Cond.static y).before args s = true) (hinit : (Cond.initialized y.cls).before args s = true)
    (hcode : (Cond.codeWith y bytes maxL ret hh).before args s = true) (hy : y.cls ≠ "java/lang/invoke/MethodHandle" ∧ y.cls ≠ "java/lang/invoke/VarHandle")
    {W9 : Nat} {Pre : Pt → Array Value → Prop} {Post : Pt → Array Value → Option Value → Pt → Prop} (hK : Back l R p e below s args y 3 W9 Pre Post)
    {g : JFrame} (hg : g.method = m) (hsize : g.locals.size = c.maxLocals) {argsL rest : List Value} (hlen : ∀ sig, parseMethodDescriptor y.desc = some sig → argsL.length = sig.parameters.length)
    (hstack : g.stack = argsL.reverse ++ rest) (hW : 2 * g.monitorRoom + (rest.map fun v => v.category).sum ≤ W9) (hdg : decode c.code g.pc = .ok (.invokestatic index, 3))
    (hpre : ∀ vm₁, s.WarmedH vm₁ → Pre ⟨T.setVm vm₁, locs, cells, slots⟩ argsL.toArray) :
    ∃ (v : Option Value) (vm₁ : Vm) (B : Pt), s.WarmedH vm₁ ∧ Stand p l e R s m args below meth c B.U B.locs B.cells B.slots ∧ Post ⟨T.setVm vm₁, locs, cells, slots⟩ argsL.toArray v B ∧
      ∀ target, Steps p.tables e below (B.U.setTop { g with pc := g.pc + 3, stack := v.toList ++ rest }) target → Steps p.tables e below (T.setTop g) target := by
  obtain ⟨mk, methM, cM, hnamed, hmethM, -, -, -, -, -, -, hsigM⟩ := Cond.codeWith_spec hcode
  have hstatic : methM.isStatic = true := Cond.static_spec hnamed hmethM hstat
  obtain ⟨kP, hkP, -⟩ := className_of_methodNamed hnamed
  have hinitP : kP.init = .initialized := Cond.initialized_spec (findClass_of_methodNamed hnamed) hkP hinit
  obtain ⟨vm₁, X₁, hstep₁⟩ := X.invokestatic hexec hown hlink hnamed hmethM hstatic hkP hinitP hy (g := g) hg (argsL := argsL) (rest := rest) (hlen _ hsigM) hstack hdg
  obtain ⟨v, B, X', hpost, hsteps⟩ := hK m meth c ⟨T.setVm vm₁, locs, cells, slots⟩ { g with stack := rest } (.invokestatic index) mk argsL.toArray X₁ hg hsize hdg hW (X₁.named hnamed) (hpre vm₁ X₁.warmed)
  exact ⟨v, vm₁, B, X₁.warmed, X', hpost, fun target h => hstep₁ _ fun acts => by rw [doInvoke_state]; exact hsteps.trans h⟩
theorem vx_runSW {y : MethodName} {bytes cc : ByteArray} {maxL nL mc ms n index : Nat} {ret : Option FieldType} {hh : List (Nat × Nat × Nat × Nat)} {ws : List Cond} {rm : Room} {Pc : Array Value → State → Prop} {Qc : Array Value → State → Outcome → State → Prop} {free : Addr → Prop} {Ts : List Cond} {own : String} {As rest : List Value} {g : JFrame}
    (S : CallFix p m c cc nL s args Ts own) (hM : Met l y ws rm Pc Qc mc ms free) (cw : vx_CSW R s args own index y bytes maxL ret hh ws rm mc ms n) (hp : PreS s H Pc As)
    (hg : g.method = m) (hn : As.length = n) (hsize : g.locals.size = nL) (hstack : g.stack = As.reverse ++ rest) (hW : 2 * g.monitorRoom + (rest.map fun v => v.category).sum ≤ 8) (hdg : decode cc g.pc = .ok (.invokestatic index, 3)) (hf : cells + mc ≤ R.cells ∧ slots + ms ≤ R.slots) :
    va_Run p l e R s m args below meth c H locs cells slots mc ms g rest (Qc As.toArray) (free) := by
  obtain ⟨⟨hrc, hrs, hfr, hlo, hws, hcw⟩, hcode, hini, hy, hlen, hl, hstt⟩ := cw
  have hK : Back l R p e below s args y 3 8 (PreOf R mc ms Pc) (PostOf Qc mc ms free) := va_backW (hh := hh) (bytes := bytes) (maxL := maxL) (ret := ret) hM hp.1 hrc hrs hfr hlo hws hcw (fun a' U hW => word_at hW (Or.inl (by first | rfl | simp [Cond.onTables, Cond.keeps, Cond.steady])) hini)
  obtain ⟨hx, hb, hml, ho, -⟩ := S
  intro T hT X
  obtain ⟨v, vm₁, ⟨U', l2, c2, s2⟩, hW₁, X', ⟨g', mk, t, L, e1, e2, hq, h1, hL, h2, h3⟩, st⟩ := vx_callSW X hx (hh := hh) (bytes := bytes) (maxL := maxL) (ret := ret) ho hl hstt hini hcode hy hK hg (hsize.trans hml.symm) (argsL := As) (rest := rest) (fun sig h => hn.trans (hlen sig h)) hstack hW (by rw [hb]; exact hdg)
    (fun vm₁ hW₁ => ⟨hf.1, hf.2, hp.2 (T.setVm vm₁) hT hW₁⟩)
  dsimp only [Pt.U, Pt.locs, Pt.cells, Pt.slots] at X' e1 e2 h1 h2 h3 st
  subst h1; subst h2; subst h3
  exact ⟨v, (T.setVm vm₁).calling g' mk As.toArray, t, U', L, hT, X', hL, e1, e2, hq, st⟩
/-- not caught here, past rows that name other classes: it goes on to the caller -/
theorem vx_outP {p : Program} {l : Launch} {e : Env} {R : Room} {s : State} {m : MethodId} {args : Array Value} {below : List Frame} {meth : Method} {c : Code} {H : Heap} {locs : List Loc} {cells slots : Nat} {free : Addr → Prop} {ls : Array Slot} {rest : List Value} {Qc : Array Value → State → Outcome → State → Prop} {XC : String → State → State → Prop}
    {pc : Nat} {own E : String} {ce : Cell} {q : Addr} {mc ms : Nat} (hown : s.vm.findClass own = some m.cls) (hlocks : meth.locks = false)
    (hpass : ∀ z ∈ c.exceptionTable.toList, covers z pc = false ∨ (z.catchType ≠ 0 ∧ ∃ nm : String, (Cond.classLink own z.catchType nm).before args s = true ∧ va_Nc E nm s)) (hcell : H[q]? = some ce) (hv : ce.vm = .none) (hcl : s.vm.findClass E = some ce.cls)
    (hx : ∀ t : State, t.heap = H → s.vm.Alike t.vm → XC E s t) (hf : ∀ z ∈ locs, free z.base) (hc : cells ≤ mc) (hs : slots ≤ ms) :
    vx_W p l e R s m args below meth c H locs cells slots (vx_MQ below Qc XC args s mc ms free) (F0 m pc ls rest) q := by
  intro T hT X
  have hpl : e.platform.magicAccessors = ({} : Platform).magicAccessors := by rw [X.admits.platform]
  obtain ⟨vm', hW', X', st⟩ := X.outThrough hlocks q (g := F0 m pc ls rest) rfl rfl rfl (cell := ce) (by rw [hT]; exact hcell) (by rw [hv]; rfl)
    (by obtain ⟨k9, h9, -⟩ := Vm.findClass_spec hcl; exact ⟨k9, h9⟩) (fun z hz => by
      rcases hpass z hz with h | ⟨hz0, nm, hl1, hn1⟩
      · exact Or.inl h
      · obtain ⟨c6, hc6, hcl6⟩ := Cond.classLink_spec hown hl1 e.platform hpl
        obtain ⟨a8, b8, h1, h2, h3⟩ := hn1
        cases Option.some.inj (h1.symm.trans hcl)
        cases Option.some.inj (h2.symm.trans hc6)
        exact Or.inr ⟨hz0, _, hcl6, h3⟩)
  obtain ⟨g₀, hfr⟩ := X'.frames_eq
  have hcell9 : ((T.setVm vm').setFrames (.throwing q :: below)).heap[q]? = some ce := by
    show T.heap[q]? = some ce
    rw [hT]; exact hcell
  have hend : Ended ((T.setVm vm').setFrames (.throwing q :: below)) below (.threw q) := State.frames_setFrames _ (State.cur_lt_of_frames hfr)
  refine ⟨(T.setVm vm').setFrames (.throwing q :: below), ?_, .threw q, X'.here.running, hend, Or.inr ⟨q, rfl, E, ce, locs, hx _ hT (X'.ends _).1.alike, hcell9, hv, hcl, (X'.ends _).1, (X'.ends _).2.mono hc hs, hf⟩⟩
  rw [X.pushThrowing_eq]
  exact st
/-- a thing of a world lies in the heap -/
theorem vx_lt {D : va_G} {cl : List vw_C} {ws : va_W} {H1 : Heap} (h : va_P D cl ws H1) {k : Nat} {q : Nat × va_E} (hk : ws[k]? = some q) : q.1 < H1.size := (h k q hk).lt
end VXS
/-! ===== END ===== -/
/-! ===== BEGIN methods with a table of their own: called by a name, returning or throwing ===== -/
section VXH
/-! vx_backW, vx_callVX, vx_callSX, vx_callVW, vx_runVW, vx_runVX, vx_runSX, vx_ofWH follow the same proofs as their sisters above (Free/Laws.lean, Shelf42/LK1.lean); vx_outP calls Shelf42/NT130.lean (outThrough). -/
section
variable {l : Launch} {R : Room} {p : Program} {e : Env} {below : List Frame} {s : State} {sargs : Array Value} {y : MethodName} {len W9 : Nat}
theorem vx_backW {ws : List Cond} {rm : Room} {Pc : Array Value → State → Prop} {Qc : Array Value → State → Outcome → State → Prop} {XC : String → State → State → Prop} {mc ms : Nat} {free : Addr → Prop} {bytes : ByteArray} {maxL : Nat} {ret : Option FieldType} {hh : List (Nat × Nat × Nat × Nat)}
    (hM : vx_Met l y ws rm Pc Qc XC mc ms free) (hblind : FrameBlind Pc) (hrc : rm.cells = mc) (hrs : rm.slots = ms)
    (hframes : rm.frames + 1 ≤ R.frames) (hlocals : W9 + (maxL + 11) + rm.locals ≤ R.locals)
    (hws : ∀ w ∈ ws, ∀ a' U, s.WarmedH U.vm → w.before a' U = true) (hcode : Cond.codeWith y bytes maxL ret hh ∈ ws) (hinit : ∀ a' U, s.WarmedH U.vm → (Cond.initialized y.cls).before a' U = true) :
    vx_Back l R p e below s sargs y len W9 (PreOf R mc ms Pc) (PostOf Qc mc ms free) (vx_Post XC mc ms free) := by
  intro m meth c A g ig mk a X hg hsize hdg hW hn hp
  have h1 : (headSpec ws rm).pre.before a A.U = true := atoms_intro fun w hw => hws w hw _ _ X.warmed
  have h2 : (Cond.codeWith y bytes maxL ret hh).before a A.U = true := hws _ hcode _ _ X.warmed
  have h3 : (Cond.initialized y.cls).before a A.U = true := hinit _ _ X.warmed
  have h4 : A.cells + (headSpec ws rm).room.cells ≤ R.cells := by rw [show (headSpec ws rm).room.cells = mc from hrc]; exact hp.1
  have h5 : A.slots + (headSpec ws rm).room.slots ≤ R.slots := by rw [show (headSpec ws rm).room.slots = ms from hrs]; exact hp.2.1
  have hPc : Pc a (A.U.calling g mk a) := hblind _ _ _ _ hp.2.2
  obtain ⟨U, Ls, c0, s0⟩ := A
  dsimp only [Pt.U, Pt.locs, Pt.cells, Pt.slots] at h1 h2 h3 h4 h5 X hn hPc ⊢
  obtain ⟨m9, methY, cY, hn9, hmY, hcY, -, hlY, -⟩ := Cond.codeWith_spec h2
  cases Option.some.inj (hn9.symm.trans hn)
  obtain ⟨kY, hkY, -⟩ := className_of_methodNamed hn
  have hinitY : kY.init = .initialized := Cond.initialized_spec (findClass_of_methodNamed hn) hkY h3
  have h : At U g.method c below := by rw [hg]; exact X.here
  have hlocals9 : W9 + (maxL + 11) + (headSpec ws rm).room.locals ≤ R.locals := hlocals
  have happ : (headSpec ws rm).appliesLoose y e.platform (U.calling g mk a) = true :=
    Spec.appliesLoose_calling (g := g) h hdg hn hkY hinitY
      (X.room_calling (g := g) (R' := (headSpec ws rm).room) hsize hmY hcY hframes (by rw [hlY]; omega) h4 h5) h1
  obtain ⟨mid, hmid⟩ := h.above
  have hfr : (U.setTop g).frames = (.java g :: mid) ++ below := by rw [State.frames_setTop' g h.top, hmid]; rfl
  obtain ⟨o, s₂, hsteps, -, hend, hq⟩ := Steps.callFree hM p X.admits X.cas X.clock (acts := []) hfr happ hPc trivial
  have hq' : vx_Q Qc XC mc ms free a (U.calling g mk a) o s₂ := hq
  rw [State.frames_setTop' g h.top] at hend
  obtain ⟨g₀, hg0⟩ := Option.isSome_iff_exists.mp h.top
  obtain ⟨r, hr⟩ := State.topJava?_eq_some.mp hg0
  have hr' : (({ U with heap := s₂.heap, slotsUsed := s₂.slotsUsed } : State).setVm s₂.vm).frames = .java g₀ :: r := hr
  rcases hq' with ⟨hqc, L, hfe, hL⟩ | ⟨q, rfl, E, ce, L, hx, hce, hcv, hcl, hW₂, hsm, hL⟩
  · obtain ⟨⟨v, rfl⟩, hW₂, e2, q2, q3, q4, q5, q6⟩ := id hfe
    have e3 : s₂ = ({ (U.calling g mk a).setFrames s₂.frames with heap := s₂.heap, slotsUsed := s₂.slotsUsed } : State).setVm s₂.vm := by
      have : s₂ = ({ s₂ with vm := (U.calling g mk a).vm } : State).setVm s₂.vm := rfl
      rw [e2] at this
      exact this
    obtain ⟨c₂, i₂, len₂, hc₂, hd₂, hf₂⟩ := hend
    have hW' : U.WarmedH s₂.vm := hW₂
    have hcc : c₂ = c := by
      have h1 : s₂.code? g.method = U.code? g.method := by
        rw [State.code?_eq, State.code?_eq, hW'.alike.method?]
      exact Option.some.inj (hc₂.symm.trans (h1.trans h.code))
    subst hcc
    have hlen : len₂ = len := by rw [hdg] at hd₂; cases hd₂; rfl
    subst hlen
    have hs₂ : s₂ = (({ U with heap := s₂.heap, slotsUsed := s₂.slotsUsed } : State).setVm s₂.vm).setTop { g with pc := g.pc + len₂, stack := v.toList ++ g.stack } := by
      refine e3.trans ?_
      rw [hf₂, State.calling_eq h.top, State.setFrames_setFrames, State.setTop_of_frames _ hr', hr]
      rfl
    have hsame : U.sameButNew ({ U with heap := s₂.heap, slotsUsed := s₂.slotsUsed } : State) L mc ms := by
      refine ⟨?_, q2, q3, q4, q5, q6⟩
      obtain ⟨t, ht, -⟩ := State.frames_cons hr
      show ({ U with heap := s₂.heap, slotsUsed := s₂.slotsUsed } : State) = { U.setFrames U.frames with heap := s₂.heap, slotsUsed := s₂.slotsUsed }
      rw [State.setFrames_self ht]
    subst hg
    refine Or.inl ⟨v, ⟨(({ U with heap := s₂.heap, slotsUsed := s₂.slotsUsed } : State).setVm s₂.vm), Ls ++ L, c0 + mc, s0 + ms⟩,
      ⟨X.admits, X.cas, X.clock, X.frames, X.room, X.hears, X.method, X.code, (X.here.setHeapUsed s₂.heap s₂.slotsUsed).setVm hW'.alike, X.tail, State.WarmedH.trans X.warmed hW', X.limits, X.bytes, X.same.trans (hsame.setVm s.vm)⟩,
      ⟨g, mk, s₂, L, rfl, rfl, hqc, rfl, hL, rfl, rfl⟩, ?_⟩
    show Steps p.tables e below _ ((({ U with heap := s₂.heap, slotsUsed := s₂.slotsUsed } : State).setVm s₂.vm).setTop { g with pc := g.pc + len₂, stack := v.toList ++ g.stack })
    rw [← hs₂]
    exact hsteps
  · obtain ⟨e2, q2, q3, q4, q5, q6⟩ := id hsm
    have e3 : s₂ = ({ (U.calling g mk a).setFrames s₂.frames with heap := s₂.heap, slotsUsed := s₂.slotsUsed } : State).setVm s₂.vm := by
      have : s₂ = ({ s₂ with vm := (U.calling g mk a).vm } : State).setVm s₂.vm := rfl
      rw [e2] at this
      exact this
    have hf₂ : s₂.frames = .throwing q :: .java g :: U.frames.tail := hend
    have hW' : U.WarmedH s₂.vm := hW₂
    have hs₂ : s₂ = ((({ U with heap := s₂.heap, slotsUsed := s₂.slotsUsed } : State).setVm s₂.vm).setTop g).pushFrame (.throwing q) := by
      refine e3.trans ?_
      rw [hf₂, State.calling_eq h.top, State.setFrames_setFrames, State.pushFrame, State.frames_setTop _ hr', State.setTop_of_frames _ hr', State.setFrames_setFrames, hr]
      rfl
    have hsame : U.sameButNew ({ U with heap := s₂.heap, slotsUsed := s₂.slotsUsed } : State) L mc ms := by
      refine ⟨?_, q2, q3, q4, q5, q6⟩
      obtain ⟨t, ht, -⟩ := State.frames_cons hr
      show ({ U with heap := s₂.heap, slotsUsed := s₂.slotsUsed } : State) = { U.setFrames U.frames with heap := s₂.heap, slotsUsed := s₂.slotsUsed }
      rw [State.setFrames_self ht]
    subst hg
    refine Or.inr ⟨q, ⟨(({ U with heap := s₂.heap, slotsUsed := s₂.slotsUsed } : State).setVm s₂.vm), Ls ++ L, c0 + mc, s0 + ms⟩,
      ⟨X.admits, X.cas, X.clock, X.frames, X.room, X.hears, X.method, X.code, (X.here.setHeapUsed s₂.heap s₂.slotsUsed).setVm hW'.alike, X.tail, State.WarmedH.trans X.warmed hW', X.limits, X.bytes, X.same.trans (hsame.setVm s.vm)⟩,
      ⟨g, mk, s₂, L, E, ce, rfl, rfl, hx, hce, hcv, hcl, rfl, hL, rfl, rfl⟩, ?_⟩
    show Steps p.tables e below _ (((({ U with heap := s₂.heap, slotsUsed := s₂.slotsUsed } : State).setVm s₂.vm).setTop g).pushFrame (.throwing q))
    rw [← hs₂]
    exact hsteps
end
variable {p : Program} {l : Launch} {e : Env} {R : Room} {s : State} {m : MethodId} {args : Array Value} {below : List Frame} {meth : Method} {c : Code} {T : State} {H : Heap} {locs : List Loc} {cells slots : Nat}
theorem vx_callVX (X : Stand p l e R s m args below meth c T locs cells slots) (hexec : p.tables.exec = Jvm.exec) {own C : String} {index : Nat} {y : MethodName} {bytes : ByteArray} {maxL : Nat} {ret : Option FieldType} {hh : List (Nat × Nat × Nat × Nat)}
    (hown : s.vm.findClass own = some m.cls) (hlink : (Cond.methodLink own index y).before args s = true) (hinst : (Cond.instanceMethod y).before args s = true) (hsel : (Cond.selects C y y).before args s = true)
    (hcode : (Cond.codeWith y bytes maxL ret hh).before args s = true) (hy : y.cls ≠ "java/lang/invoke/MethodHandle" ∧ y.cls ≠ "java/lang/invoke/VarHandle")
    {W9 : Nat} {Pre : Pt → Array Value → Prop} {Post : Pt → Array Value → Option Value → Pt → Prop} {PostX : Pt → Array Value → Addr → Pt → Prop} (hK : vx_Back l R p e below s args y 3 W9 Pre Post PostX)
    {b : Addr} {cellB : Cell} (hcell : T.heap[b]? = some cellB) (hobj : cellB.vm.isStatics = false) (hcls : s.vm.findClass C = some cellB.cls)
    {g : JFrame} (hg : g.method = m) (hsize : g.locals.size = c.maxLocals) {argsL rest : List Value} (hlen : ∀ sig, parseMethodDescriptor y.desc = some sig → argsL.length = sig.parameters.length)
    (hstack : g.stack = argsL.reverse ++ .ref b :: rest) (hW : 2 * g.monitorRoom + (rest.map fun v => v.category).sum ≤ W9) (hdg : decode c.code g.pc = .ok (.invokevirtual index, 3))
    (hpre : ∀ vm₁, s.WarmedH vm₁ → Pre ⟨T.setVm vm₁, locs, cells, slots⟩ (Value.ref b :: argsL).toArray) :
    (∃ (v : Option Value) (vm₁ : Vm) (B : Pt), s.WarmedH vm₁ ∧ Stand p l e R s m args below meth c B.U B.locs B.cells B.slots ∧ Post ⟨T.setVm vm₁, locs, cells, slots⟩ (Value.ref b :: argsL).toArray v B ∧
      ∀ target, Steps p.tables e below (B.U.setTop { g with pc := g.pc + 3, stack := v.toList ++ rest }) target → Steps p.tables e below (T.setTop g) target) ∨
    (∃ (q : Addr) (vm₁ : Vm) (B : Pt), s.WarmedH vm₁ ∧ Stand p l e R s m args below meth c B.U B.locs B.cells B.slots ∧ PostX ⟨T.setVm vm₁, locs, cells, slots⟩ (Value.ref b :: argsL).toArray q B ∧
      Steps p.tables e below (T.setTop g) ((B.U.setTop { g with stack := rest }).pushFrame (.throwing q))) := by
  obtain ⟨mk, methM, hnamed, hmethM, hstM, habM⟩ := Cond.instanceMethod_spec hinst
  obtain ⟨m8, methM', cM, hn8, hmethM', -, -, -, -, -, -, hsigM⟩ := Cond.codeWith_spec hcode
  cases Option.some.inj (hn8.symm.trans hnamed)
  cases hmethM.symm.trans hmethM'
  obtain ⟨c2, r2, m2, q1, q2, q3, q4, kP, hkP, hkPi⟩ := Cond.selects_spec hsel
  cases hcls.symm.trans q1
  cases (State.methodFound?_of_named hnamed hy).symm.trans q2
  cases hnamed.symm.trans q3
  have hselP : selectMethod e.platform s.vm cellB.cls mk = .method mk := by rw [Launch.admits_selectMethod X.admits]; exact q4
  obtain ⟨vm₁, X₁, hstep₁⟩ := X.invokevirtual hexec hown hlink hnamed hmethM hstM hkP hkPi hy (a := b) (cell := cellB) hcell
    (fun z h => by rw [h] at hobj; cases hobj) hselP hmethM habM hkP hkPi (g := g) hg (argsL := argsL) (rest := rest) (hlen _ hsigM) hstack hdg
  rcases hK m meth c ⟨T.setVm vm₁, locs, cells, slots⟩ { g with stack := rest } (.invokevirtual index) mk (Value.ref b :: argsL).toArray X₁ hg hsize hdg hW (X₁.named hnamed) (hpre vm₁ X₁.warmed) with ⟨v, B, X', hpost, hsteps⟩ | ⟨q, B, X', hpost, hsteps⟩
  · exact Or.inl ⟨v, vm₁, B, X₁.warmed, X', hpost, fun target h => hstep₁ _ fun acts => by rw [doInvoke_state]; exact hsteps.trans h⟩
  · exact Or.inr ⟨q, vm₁, B, X₁.warmed, X', hpost, hstep₁ _ fun acts => by rw [doInvoke_state]; exact hsteps⟩
theorem vx_callSX (X : Stand p l e R s m args below meth c T locs cells slots) (hexec : p.tables.exec = Jvm.exec) {own : String} {index : Nat} {y : MethodName} {bytes : ByteArray} {maxL : Nat} {ret : Option FieldType} {hh : List (Nat × Nat × Nat × Nat)}
    (hown : s.vm.findClass own = some m.cls) (hlink : (Cond.methodLink own index y).before args s = true) (hstat : (Cond.static y).before args s = true) (hinit : (Cond.initialized y.cls).before args s = true)
    (hcode : (Cond.codeWith y bytes maxL ret hh).before args s = true) (hy : y.cls ≠ "java/lang/invoke/MethodHandle" ∧ y.cls ≠ "java/lang/invoke/VarHandle")
    {W9 : Nat} {Pre : Pt → Array Value → Prop} {Post : Pt → Array Value → Option Value → Pt → Prop} {PostX : Pt → Array Value → Addr → Pt → Prop} (hK : vx_Back l R p e below s args y 3 W9 Pre Post PostX)
    {g : JFrame} (hg : g.method = m) (hsize : g.locals.size = c.maxLocals) {argsL rest : List Value} (hlen : ∀ sig, parseMethodDescriptor y.desc = some sig → argsL.length = sig.parameters.length)
    (hstack : g.stack = argsL.reverse ++ rest) (hW : 2 * g.monitorRoom + (rest.map fun v => v.category).sum ≤ W9) (hdg : decode c.code g.pc = .ok (.invokestatic index, 3))
    (hpre : ∀ vm₁, s.WarmedH vm₁ → Pre ⟨T.setVm vm₁, locs, cells, slots⟩ argsL.toArray) :
    (∃ (v : Option Value) (vm₁ : Vm) (B : Pt), s.WarmedH vm₁ ∧ Stand p l e R s m args below meth c B.U B.locs B.cells B.slots ∧ Post ⟨T.setVm vm₁, locs, cells, slots⟩ argsL.toArray v B ∧
      ∀ target, Steps p.tables e below (B.U.setTop { g with pc := g.pc + 3, stack := v.toList ++ rest }) target → Steps p.tables e below (T.setTop g) target) ∨
    (∃ (q : Addr) (vm₁ : Vm) (B : Pt), s.WarmedH vm₁ ∧ Stand p l e R s m args below meth c B.U B.locs B.cells B.slots ∧ PostX ⟨T.setVm vm₁, locs, cells, slots⟩ argsL.toArray q B ∧
      Steps p.tables e below (T.setTop g) ((B.U.setTop { g with stack := rest }).pushFrame (.throwing q))) := by
  obtain ⟨mk, methM, cM, hnamed, hmethM, -, -, -, -, -, -, hsigM⟩ := Cond.codeWith_spec hcode
  have hstatic : methM.isStatic = true := Cond.static_spec hnamed hmethM hstat
  obtain ⟨kP, hkP, -⟩ := className_of_methodNamed hnamed
  have hinitP : kP.init = .initialized := Cond.initialized_spec (findClass_of_methodNamed hnamed) hkP hinit
  obtain ⟨vm₁, X₁, hstep₁⟩ := X.invokestatic hexec hown hlink hnamed hmethM hstatic hkP hinitP hy (g := g) hg (argsL := argsL) (rest := rest) (hlen _ hsigM) hstack hdg
  rcases hK m meth c ⟨T.setVm vm₁, locs, cells, slots⟩ { g with stack := rest } (.invokestatic index) mk argsL.toArray X₁ hg hsize hdg hW (X₁.named hnamed) (hpre vm₁ X₁.warmed) with ⟨v, B, X', hpost, hsteps⟩ | ⟨q, B, X', hpost, hsteps⟩
  · exact Or.inl ⟨v, vm₁, B, X₁.warmed, X', hpost, fun target h => hstep₁ _ fun acts => by rw [doInvoke_state]; exact hsteps.trans h⟩
  · exact Or.inr ⟨q, vm₁, B, X₁.warmed, X', hpost, hstep₁ _ fun acts => by rw [doInvoke_state]; exact hsteps⟩
theorem vx_callVW (X : Stand p l e R s m args below meth c T locs cells slots) (hexec : p.tables.exec = Jvm.exec) {own C : String} {index : Nat} {y : MethodName} {bytes : ByteArray} {maxL : Nat} {ret : Option FieldType} {hh : List (Nat × Nat × Nat × Nat)}
    (hown : s.vm.findClass own = some m.cls) (hlink : (Cond.methodLink own index y).before args s = true) (hinst : (Cond.instanceMethod y).before args s = true) (hsel : (Cond.selects C y y).before args s = true)
    (hcode : (Cond.codeWith y bytes maxL ret hh).before args s = true) (hy : y.cls ≠ "java/lang/invoke/MethodHandle" ∧ y.cls ≠ "java/lang/invoke/VarHandle")
    {W9 : Nat} {Pre : Pt → Array Value → Prop} {Post : Pt → Array Value → Option Value → Pt → Prop} (hK : Back l R p e below s args y 3 W9 Pre Post)
    {b : Addr} {cellB : Cell} (hcell : T.heap[b]? = some cellB) (hobj : cellB.vm.isStatics = false) (hcls : s.vm.findClass C = some cellB.cls)
    {g : JFrame} (hg : g.method = m) (hsize : g.locals.size = c.maxLocals) {argsL rest : List Value} (hlen : ∀ sig, parseMethodDescriptor y.desc = some sig → argsL.length = sig.parameters.length)
    (hstack : g.stack = argsL.reverse ++ .ref b :: rest) (hW : 2 * g.monitorRoom + (rest.map fun v => v.category).sum ≤ W9) (hdg : decode c.code g.pc = .ok (.invokevirtual index, 3))
    (hpre : ∀ vm₁, s.WarmedH vm₁ → Pre ⟨T.setVm vm₁, locs, cells, slots⟩ (Value.ref b :: argsL).toArray) :
    ∃ (v : Option Value) (vm₁ : Vm) (B : Pt), s.WarmedH vm₁ ∧ Stand p l e R s m args below meth c B.U B.locs B.cells B.slots ∧ Post ⟨T.setVm vm₁, locs, cells, slots⟩ (Value.ref b :: argsL).toArray v B ∧
      ∀ target, Steps p.tables e below (B.U.setTop { g with pc := g.pc + 3, stack := v.toList ++ rest }) target → Steps p.tables e below (T.setTop g) target := by
  obtain ⟨mk, methM, hnamed, hmethM, hstM, habM⟩ := Cond.instanceMethod_spec hinst
  obtain ⟨m8, methM', cM, hn8, hmethM', -, -, -, -, -, -, hsigM⟩ := Cond.codeWith_spec hcode
  cases Option.some.inj (hn8.symm.trans hnamed)
  cases hmethM.symm.trans hmethM'
  obtain ⟨c2, r2, m2, q1, q2, q3, q4, kP, hkP, hkPi⟩ := Cond.selects_spec hsel
  cases hcls.symm.trans q1
  cases (State.methodFound?_of_named hnamed hy).symm.trans q2
  cases hnamed.symm.trans q3
  have hselP : selectMethod e.platform s.vm cellB.cls mk = .method mk := by rw [Launch.admits_selectMethod X.admits]; exact q4
  obtain ⟨vm₁, X₁, hstep₁⟩ := X.invokevirtual hexec hown hlink hnamed hmethM hstM hkP hkPi hy (a := b) (cell := cellB) hcell
    (fun z h => by rw [h] at hobj; cases hobj) hselP hmethM habM hkP hkPi (g := g) hg (argsL := argsL) (rest := rest) (hlen _ hsigM) hstack hdg
  obtain ⟨v, B, X', hpost, hsteps⟩ := hK m meth c ⟨T.setVm vm₁, locs, cells, slots⟩ { g with stack := rest } (.invokevirtual index) mk (Value.ref b :: argsL).toArray X₁ hg hsize hdg hW (X₁.named hnamed) (hpre vm₁ X₁.warmed)
  exact ⟨v, vm₁, B, X₁.warmed, X', hpost, fun target h => hstep₁ _ fun acts => by rw [doInvoke_state]; exact hsteps.trans h⟩
abbrev vx_CVW (R : Room) (s : State) (args : Array Value) (own C : String) (index : Nat) (y : MethodName) (bytes : ByteArray) (maxL : Nat) (ret : Option FieldType) (hh : List (Nat × Nat × Nat × Nat)) (ws : List Cond) (rm : Room) (mc ms n : Nat) : Prop :=
  (rm.cells = mc ∧ rm.slots = ms ∧ rm.frames + 1 ≤ R.frames ∧ 8 + (maxL + 11) + rm.locals ≤ R.locals ∧ (∀ w ∈ ws, ∀ (a' : Array Value) (U : State), s.WarmedH U.vm → w.before a' U = true) ∧ Cond.codeWith y bytes maxL ret hh ∈ ws) ∧
  (Cond.codeWith y bytes maxL ret hh).before args s = true ∧ (Cond.initialized y.cls).before args s = true ∧ (y.cls ≠ "java/lang/invoke/MethodHandle" ∧ y.cls ≠ "java/lang/invoke/VarHandle") ∧
  (∀ sig, parseMethodDescriptor y.desc = some sig → n = sig.parameters.length) ∧ (Cond.methodLink own index y).before args s = true ∧ (Cond.instanceMethod y).before args s = true ∧ (Cond.selects C y y).before args s = true
theorem vx_cwVW {own C : String} {index maxL mc ms : Nat} {y : MethodName} {bytes : ByteArray} {ret : Option FieldType} {hh : List (Nat × Nat × Nat × Nat)} {Ts ws ws' : List Cond} {rm : Room} (n : Nat) (ht : ∀ w ∈ Ts, w.before args s = true) (hT : GoodIn Ts (wsV own index C y ws)) (hw : ws = Cond.codeWith y bytes maxL ret hh :: ws') (hrc : rm.cells = mc) (hrs : rm.slots = ms)
    (hd : y.cls = C ∧ y.cls ≠ "java/lang/invoke/MethodHandle" ∧ y.cls ≠ "java/lang/invoke/VarHandle" ∧ (parseMethodDescriptor y.desc).map (fun d => d.parameters.length) = some n) (hR : rm.frames + 1 ≤ R.frames ∧ 8 + (maxL + 11) + rm.locals ≤ R.locals) :
    vx_CVW R s args own C index y bytes maxL ret hh ws rm mc ms n := by
  obtain ⟨hC, hd⟩ := hd
  subst hC
  have ok : ∀ w ∈ wsV own index y.cls y ws, w.before args s = true := fun w h => ht w (hT w h).1
  have hG : GoodIn Ts ws := fun w h => hT w (by unfold wsV; exact List.mem_append_right _ h)
  have hc : Cond.codeWith y bytes maxL ret hh ∈ ws := by rw [hw]; exact List.mem_cons_self
  refine ⟨⟨hrc, hrs, hR.1, hR.2, pay_in ht hG, hc⟩, ht _ (hG _ hc).1, ok _ (by simp [wsV]), ⟨hd.1, hd.2.1⟩, fun sig h => ?_, ok _ (by simp [wsV]), ok _ (by simp [wsV]), ok _ (by simp [wsV])⟩
  have h2 := hd.2.2
  rw [h] at h2
  exact (Option.some.inj h2).symm
theorem vx_runVW {y : MethodName} {bytes cc : ByteArray} {maxL nL mc ms n index : Nat} {ret : Option FieldType} {hh : List (Nat × Nat × Nat × Nat)} {ws : List Cond} {rm : Room} {Pc : Array Value → State → Prop} {Qc : Array Value → State → Outcome → State → Prop} {free : Addr → Prop} {Ts : List Cond} {own C : String} {b : Addr} {As rest : List Value} {g : JFrame}
    (S : CallFix p m c cc nL s args Ts own) (hM : Met l y ws rm Pc Qc mc ms free) (cw : vx_CVW R s args own C index y bytes maxL ret hh ws rm mc ms n) (hp : PreV s H C b Pc As)
    (hg : g.method = m) (hn : As.length = n) (hsize : g.locals.size = nL) (hstack : g.stack = As.reverse ++ .ref b :: rest) (hW : 2 * g.monitorRoom + (rest.map fun v => v.category).sum ≤ 8) (hdg : decode cc g.pc = .ok (.invokevirtual index, 3)) (hf : cells + mc ≤ R.cells ∧ slots + ms ≤ R.slots) :
    va_Run p l e R s m args below meth c H locs cells slots mc ms g rest (Qc (Value.ref b :: As).toArray) free := by
  obtain ⟨⟨hrc, hrs, hfr, hlo, hws, hcw⟩, hcode, hini, hy, hlen, hl, hin, hse⟩ := cw
  have hK : Back l R p e below s args y 3 8 (PreOf R mc ms Pc) (PostOf Qc mc ms free) := va_backW (hh := hh) (bytes := bytes) (maxL := maxL) (ret := ret) hM hp.1 hrc hrs hfr hlo hws hcw (fun a' U hW => word_at hW (Or.inl (by first | rfl | simp [Cond.onTables, Cond.keeps, Cond.steady])) hini)
  obtain ⟨hx, hb, hml, ho, -⟩ := S
  obtain ⟨-, ⟨cellB, hcB, hoB, hclB⟩, hPc⟩ := hp
  intro T hT X
  obtain ⟨v, vm₁, ⟨U', l2, c2, s2⟩, hW₁, X', ⟨g', mk, t, L, e1, e2, hq, h1, hL, h2, h3⟩, st⟩ := vx_callVW X hx (C := C) (hh := hh) (bytes := bytes) (maxL := maxL) (ret := ret) ho hl hin hse hcode hy hK (by rw [hT]; exact hcB) hoB hclB hg (hsize.trans hml.symm) (argsL := As) (rest := rest) (fun sig h => hn.trans (hlen sig h)) hstack hW (by rw [hb]; exact hdg)
    (fun vm₁ hW₁ => ⟨hf.1, hf.2, hPc (T.setVm vm₁) hT hW₁⟩)
  dsimp only [Pt.U, Pt.locs, Pt.cells, Pt.slots] at X' e1 e2 h1 h2 h3 st
  subst h1; subst h2; subst h3
  exact ⟨v, (T.setVm vm₁).calling g' mk (Value.ref b :: As).toArray, t, U', L, hT, X', hL, e1, e2, hq, st⟩
section
variable {y : MethodName} {bytes cc : ByteArray} {maxL nL mc ms n index : Nat} {ret : Option FieldType} {ws : List Cond} {rm : Room} {Pc : Array Value → State → Prop} {Qc : Array Value → State → Outcome → State → Prop} {XC : String → State → State → Prop} {free : Addr → Prop} {Ts : List Cond} {own C : String} {b : Addr} {As rest : List Value} {g : JFrame}
theorem vx_runVX {hh : List (Nat × Nat × Nat × Nat)} (S : CallFix p m c cc nL s args Ts own) (hM : vx_Met l y ws rm Pc Qc XC mc ms free) (cw : vx_CVW R s args own C index y bytes maxL ret hh ws rm mc ms n) (hp : PreV s H C b Pc As)
    (hg : g.method = m) (hn : As.length = n) (hsize : g.locals.size = nL) (hstack : g.stack = As.reverse ++ .ref b :: rest) (hW : 2 * g.monitorRoom + (rest.map fun v => v.category).sum ≤ 8) (hdg : decode cc g.pc = .ok (.invokevirtual index, 3)) (hf : cells + mc ≤ R.cells ∧ slots + ms ≤ R.slots) :
    vx_Run p l e R s m args below meth c H locs cells slots mc ms g rest (Qc (Value.ref b :: As).toArray) XC free := by
  obtain ⟨⟨hrc, hrs, hfr, hlo, hws, hcw⟩, hcode, hini, hy, hlen, hl, hin, hse⟩ := cw
  have hK : vx_Back l R p e below s args y 3 8 (PreOf R mc ms Pc) (PostOf Qc mc ms free) (vx_Post XC mc ms free) := vx_backW (hh := hh) (bytes := bytes) (maxL := maxL) (ret := ret) hM hp.1 hrc hrs hfr hlo hws hcw (fun a' U hW => word_at hW (Or.inl (by first | rfl | simp [Cond.onTables, Cond.keeps, Cond.steady])) hini)
  obtain ⟨hx, hb, hml, ho, -⟩ := S
  obtain ⟨-, ⟨cellB, hcB, hoB, hclB⟩, hPc⟩ := hp
  intro T hT X
  rcases vx_callVX X hx (C := C) (hh := hh) (bytes := bytes) (maxL := maxL) (ret := ret) ho hl hin hse hcode hy hK (by rw [hT]; exact hcB) hoB hclB hg (hsize.trans hml.symm) (argsL := As) (rest := rest) (fun sig h => hn.trans (hlen sig h)) hstack hW (by rw [hb]; exact hdg)
    (fun vm₁ hW₁ => ⟨hf.1, hf.2, hPc (T.setVm vm₁) hT hW₁⟩) with ⟨v, vm₁, ⟨U', l2, c2, s2⟩, hW₁, X', ⟨g', mk, t, L, e1, e2, hq, h1, hL, h2, h3⟩, st⟩ | ⟨q, vm₁, ⟨U', l2, c2, s2⟩, hW₁, X', ⟨g', mk, t, L, E, ce, e1, e2, hq, hce, hcv, hcl, h1, hL, h2, h3⟩, st⟩
  · dsimp only [Pt.U, Pt.locs, Pt.cells, Pt.slots] at X' e1 e2 h1 h2 h3 st
    subst h1; subst h2; subst h3
    exact Or.inl ⟨v, (T.setVm vm₁).calling g' mk (Value.ref b :: As).toArray, t, U', L, hT, X', hL, e1, e2, hq, st⟩
  · dsimp only [Pt.U, Pt.locs, Pt.cells, Pt.slots] at X' e1 e2 h1 h2 h3 st hcl
    subst h1; subst h2; subst h3
    exact Or.inr ⟨q, (T.setVm vm₁).calling g' mk (Value.ref b :: As).toArray, t, U', L, E, ce, hT, X', hL, e1, e2, hq, hce, hcv, vx_cls hW₁ hcl, st⟩
theorem vx_runSX {hh : List (Nat × Nat × Nat × Nat)} (S : CallFix p m c cc nL s args Ts own) (hM : vx_Met l y ws rm Pc Qc XC mc ms free) (cw : vx_CSW R s args own index y bytes maxL ret hh ws rm mc ms n) (hp : PreS s H Pc As)
    (hg : g.method = m) (hn : As.length = n) (hsize : g.locals.size = nL) (hstack : g.stack = As.reverse ++ rest) (hW : 2 * g.monitorRoom + (rest.map fun v => v.category).sum ≤ 8) (hdg : decode cc g.pc = .ok (.invokestatic index, 3)) (hf : cells + mc ≤ R.cells ∧ slots + ms ≤ R.slots) :
    vx_Run p l e R s m args below meth c H locs cells slots mc ms g rest (Qc As.toArray) XC free := by
  obtain ⟨⟨hrc, hrs, hfr, hlo, hws, hcw⟩, hcode, hini, hy, hlen, hl, hstt⟩ := cw
  have hK : vx_Back l R p e below s args y 3 8 (PreOf R mc ms Pc) (PostOf Qc mc ms free) (vx_Post XC mc ms free) := vx_backW (hh := hh) (bytes := bytes) (maxL := maxL) (ret := ret) hM hp.1 hrc hrs hfr hlo hws hcw (fun a' U hW => word_at hW (Or.inl (by first | rfl | simp [Cond.onTables, Cond.keeps, Cond.steady])) hini)
  obtain ⟨hx, hb, hml, ho, -⟩ := S
  intro T hT X
  rcases vx_callSX X hx (hh := hh) (bytes := bytes) (maxL := maxL) (ret := ret) ho hl hstt hini hcode hy hK hg (hsize.trans hml.symm) (argsL := As) (rest := rest) (fun sig h => hn.trans (hlen sig h)) hstack hW (by rw [hb]; exact hdg)
    (fun vm₁ hW₁ => ⟨hf.1, hf.2, hp.2 (T.setVm vm₁) hT hW₁⟩) with ⟨v, vm₁, ⟨U', l2, c2, s2⟩, hW₁, X', ⟨g', mk, t, L, e1, e2, hq, h1, hL, h2, h3⟩, st⟩ | ⟨q, vm₁, ⟨U', l2, c2, s2⟩, hW₁, X', ⟨g', mk, t, L, E, ce, e1, e2, hq, hce, hcv, hcl, h1, hL, h2, h3⟩, st⟩
  · dsimp only [Pt.U, Pt.locs, Pt.cells, Pt.slots] at X' e1 e2 h1 h2 h3 st
    subst h1; subst h2; subst h3
    exact Or.inl ⟨v, (T.setVm vm₁).calling g' mk As.toArray, t, U', L, hT, X', hL, e1, e2, hq, st⟩
  · dsimp only [Pt.U, Pt.locs, Pt.cells, Pt.slots] at X' e1 e2 h1 h2 h3 st hcl
    subst h1; subst h2; subst h3
    exact Or.inr ⟨q, (T.setVm vm₁).calling g' mk As.toArray, t, U', L, E, ce, hT, X', hL, e1, e2, hq, hce, hcv, vx_cls hW₁ hcl, st⟩
end
end VXH
theorem vx_ofWH {l : Launch} {y : MethodName} {ws ws' : List Cond} {rm : Room} {Pc : Array Value → State → Prop} {Qc : Array Value → State → Outcome → State → Prop} {XC : String → State → State → Prop} {mc ms : Nat} {free : Addr → Prop} {cc : ByteArray} {maxL : Nat} {ret : Option FieldType} {hh : List (Nat × Nat × Nat × Nat)}
    (hy : plainName y.cls = true) (hw : ws = Cond.codeWith y cc maxL ret hh :: ws')
    (body : ∀ p e s m args below meth c s₁, BodyLoose p l y (headSpec ws rm) cc maxL ret e s m args below meth c s₁ → c.maxLocals = maxL → Pc args s →
      W p l e (headSpec ws rm).room s m args below meth c s.heap [] 0 0 (vx_MQ below Qc XC args s mc ms free) (entryFrame m args maxL)) : vx_Met l y ws rm Pc Qc XC mc ms free := by
  refine MetFree.of_bodyS (code := cc) (maxLocals := maxL) (ret := ret) hy ?_ ?_
  · intro args s m h hn
    obtain ⟨m9, meth, c, hn9, h1, h2, h3, h4, -, h5, h6, -⟩ := Cond.codeWith_spec (atoms_spec (ws := ws) h _ (by rw [hw]; exact List.mem_cons_self))
    cases hn.symm.trans hn9
    exact ⟨meth, c, h1, h2, h3, h4, h5, h6⟩
  · intro p e s m args below meth c s₁ B hml hP _
    have hh0 : s₁.heap = s.heap := by rw [B.state]; rfl
    obtain ⟨t, a1, o, b1, b2, b3⟩ := body p e s m args below meth c s₁ B hml hP s₁ hh0 (Stand.of_body B)
    exact ⟨t, o, a1, b1, b2, b3⟩
/-! ===== END ===== -/
end
section
/-! ===== BEGIN printed: names, fields, word lists, decode rows ===== -/
def RX0 : String := "MarbleRamps$Machine"
def TX0 : u_T := fun k => match k with
  | 0 => ("MarbleRamps$Machine", "parts", "[I", true)
  | 1 => ("MarbleRamps$Machine", "periods", "[I", true)
  | 2 => ("MarbleRamps$Machine", "states", "[I", true)
  | 3 => ("MarbleRamps$Machine", "bins", "[I", true)
  | 4 => ("MarbleRamps$Machine", "hopperColumns", "[I", true)
  | 5 => ("MarbleRamps$Machine", "hopperMarbles", "[I", true)
  | 6 => ("MarbleRamps$Machine", "columnCount", "I", false)
  | 7 => ("MarbleRamps$Machine", "rowCount", "I", false)
  | _ => ("MarbleRamps$Machine", "lostCount", "I", false)
def tyX0 : Nat → FieldType := fun k => match k with
  | 0 => .array .int
  | 1 => .array .int
  | 2 => .array .int
  | 3 => .array .int
  | 4 => .array .int
  | 5 => .array .int
  | 6 => .int
  | 7 => .int
  | _ => .int
abbrev wsX00 : List Cond := u_ws RX0 TX0 9
theorem nmX0 : ∀ a, a < 9 → ∀ b, b < 9 → a ≠ b → (TX0 a).2.1 ≠ (TX0 b).2.1 := by decide +kernel
theorem tyX0_ok : ∀ k, k < 9 → parseFieldDescriptor (TX0 k).2.2.1 = some (tyX0 k) := by decide +kernel
abbrev cX0_init : ByteArray := prog_2_method_1_code
def yX0_init : MethodName := ⟨RX0, "<init>", "()V"⟩
abbrev cX0_layBoard : ByteArray := prog_2_method_2_code
def yX0_layBoard : MethodName := ⟨RX0, "layBoard", "(II)V"⟩
abbrev cX0_becomeLike : ByteArray := prog_2_method_3_code
def yX0_becomeLike : MethodName := ⟨RX0, "becomeLike", "(LMarbleRamps$Machine;)V"⟩
abbrev cX0_hasRow : ByteArray := prog_2_method_4_code
def yX0_hasRow : MethodName := ⟨RX0, "hasRow", "(I)Z"⟩
abbrev cX0_hasColumn : ByteArray := prog_2_method_5_code
def yX0_hasColumn : MethodName := ⟨RX0, "hasColumn", "(I)Z"⟩
abbrev cX0_placeOf : ByteArray := prog_2_method_6_code
def yX0_placeOf : MethodName := ⟨RX0, "placeOf", "(II)I"⟩
abbrev cX0_partIn : ByteArray := prog_2_method_7_code
def yX0_partIn : MethodName := ⟨RX0, "partIn", "(I)I"⟩
abbrev cX0_isRightToggle : ByteArray := prog_2_method_8_code
def yX0_isRightToggle : MethodName := ⟨RX0, "isRightToggle", "(I)Z"⟩
abbrev cX0_countedIn : ByteArray := prog_2_method_9_code
def yX0_countedIn : MethodName := ⟨RX0, "countedIn", "(I)I"⟩
abbrev cX0_replacePart : ByteArray := prog_2_method_10_code
def yX0_replacePart : MethodName := ⟨RX0, "replacePart", "(IIII)I"⟩
abbrev cX0_turnOver : ByteArray := prog_2_method_11_code
def yX0_turnOver : MethodName := ⟨RX0, "turnOver", "(I)V"⟩
abbrev cX0_countToggles : ByteArray := prog_2_method_12_code
def yX0_countToggles : MethodName := ⟨RX0, "countToggles", "()I"⟩
abbrev cX0_numberToldBy : ByteArray := prog_2_method_13_code
def yX0_numberToldBy : MethodName := ⟨RX0, "numberToldBy", "(I)I"⟩
abbrev cX0_togglesUnlike : ByteArray := prog_2_method_14_code
def yX0_togglesUnlike : MethodName := ⟨RX0, "togglesUnlike", "(LMarbleRamps$Machine;)I"⟩
abbrev cX0_hasStatesOf : ByteArray := prog_2_method_15_code
def yX0_hasStatesOf : MethodName := ⟨RX0, "hasStatesOf", "(LMarbleRamps$Machine;)Z"⟩
abbrev cX0_letFall : ByteArray := prog_2_method_16_code
def yX0_letFall : MethodName := ⟨RX0, "letFall", "(I)I"⟩
abbrev cX0_fallTo : ByteArray := prog_2_method_17_code
def yX0_fallTo : MethodName := ⟨RX0, "fallTo", "(II)I"⟩
abbrev cX0_wayOut : ByteArray := prog_2_method_18_code
def yX0_wayOut : MethodName := ⟨RX0, "wayOut", "(II)I"⟩
abbrev cX0_marblesInBins : ByteArray := prog_2_method_19_code
def yX0_marblesInBins : MethodName := ⟨RX0, "marblesInBins", "()I"⟩
abbrev cX0_clearBins : ByteArray := prog_2_method_20_code
def yX0_clearBins : MethodName := ⟨RX0, "clearBins", "()V"⟩
abbrev cX0_fillHopper : ByteArray := prog_2_method_21_code
def yX0_fillHopper : MethodName := ⟨RX0, "fillHopper", "(III)I"⟩
abbrev cX0_runFrom : ByteArray := prog_2_method_22_code
def yX0_runFrom : MethodName := ⟨RX0, "runFrom", "(II)I"⟩
abbrev cX0_hopperBehind : ByteArray := prog_2_method_23_code
def yX0_hopperBehind : MethodName := ⟨RX0, "hopperBehind", "(I)I"⟩
def RX1 : String := "MarbleRamps"
def TX1 : u_T := fun k => match k with
  | 0 => ("MarbleRamps", "now", "LMarbleRamps$Machine;", true)
  | _ => ("MarbleRamps", "trial", "LMarbleRamps$Machine;", true)
def tyX1 : Nat → FieldType := fun k => match k with
  | 0 => .object "MarbleRamps$Machine"
  | _ => .object "MarbleRamps$Machine"
abbrev wsX10 : List Cond := u_ws RX1 TX1 2
theorem nmX1 : ∀ a, a < 2 → ∀ b, b < 2 → a ≠ b → (TX1 a).2.1 ≠ (TX1 b).2.1 := by decide +kernel
theorem tyX1_ok : ∀ k, k < 2 → parseFieldDescriptor (TX1 k).2.2.1 = some (tyX1 k) := by decide +kernel
abbrev cX1_init : ByteArray := prog_1_method_1_code
def yX1_init : MethodName := ⟨RX1, "<init>", "()V"⟩
abbrev cX1_lay : ByteArray := prog_1_method_2_code
def yX1_lay : MethodName := ⟨RX1, "lay", "(II)I"⟩
abbrev cX1_put : ByteArray := prog_1_method_3_code
def yX1_put : MethodName := ⟨RX1, "put", "(III)I"⟩
abbrev cX1_putCounter : ByteArray := prog_1_method_4_code
def yX1_putCounter : MethodName := ⟨RX1, "putCounter", "(III)I"⟩
abbrev cX1_turn : ByteArray := prog_1_method_5_code
def yX1_turn : MethodName := ⟨RX1, "turn", "(II)Z"⟩
abbrev cX1_setHopper : ByteArray := prog_1_method_6_code
def yX1_setHopper : MethodName := ⟨RX1, "setHopper", "(III)I"⟩
abbrev cX1_drop : ByteArray := prog_1_method_7_code
def yX1_drop : MethodName := ⟨RX1, "drop", "(I)I"⟩
abbrev cX1_run : ByteArray := prog_1_method_8_code
def yX1_run : MethodName := ⟨RX1, "run", "(II)I"⟩
abbrev cX1_emptyBins : ByteArray := prog_1_method_9_code
def yX1_emptyBins : MethodName := ⟨RX1, "emptyBins", "()I"⟩
abbrev cX1_columns : ByteArray := prog_1_method_10_code
def yX1_columns : MethodName := ⟨RX1, "columns", "()I"⟩
abbrev cX1_rows : ByteArray := prog_1_method_11_code
def yX1_rows : MethodName := ⟨RX1, "rows", "()I"⟩
abbrev cX1_partAt : ByteArray := prog_1_method_12_code
def yX1_partAt : MethodName := ⟨RX1, "partAt", "(II)I"⟩
abbrev cX1_leadsRight : ByteArray := prog_1_method_13_code
def yX1_leadsRight : MethodName := ⟨RX1, "leadsRight", "(II)Z"⟩
abbrev cX1_countAt : ByteArray := prog_1_method_14_code
def yX1_countAt : MethodName := ⟨RX1, "countAt", "(II)I"⟩
abbrev cX1_binOf : ByteArray := prog_1_method_15_code
def yX1_binOf : MethodName := ⟨RX1, "binOf", "(I)I"⟩
abbrev cX1_lost : ByteArray := prog_1_method_16_code
def yX1_lost : MethodName := ⟨RX1, "lost", "()I"⟩
abbrev cX1_marblesIn : ByteArray := prog_1_method_17_code
def yX1_marblesIn : MethodName := ⟨RX1, "marblesIn", "(I)I"⟩
abbrev cX1_columnOf : ByteArray := prog_1_method_18_code
def yX1_columnOf : MethodName := ⟨RX1, "columnOf", "(I)I"⟩
abbrev cX1_toggles : ByteArray := prog_1_method_19_code
def yX1_toggles : MethodName := ⟨RX1, "toggles", "()I"⟩
abbrev cX1_numberIn : ByteArray := prog_1_method_20_code
def yX1_numberIn : MethodName := ⟨RX1, "numberIn", "(I)I"⟩
abbrev cX1_wouldLand : ByteArray := prog_1_method_21_code
def yX1_wouldLand : MethodName := ⟨RX1, "wouldLand", "(I)I"⟩
abbrev cX1_wouldBeIn : ByteArray := prog_1_method_22_code
def yX1_wouldBeIn : MethodName := ⟨RX1, "wouldBeIn", "(II)I"⟩
abbrev cX1_wouldTurn : ByteArray := prog_1_method_23_code
def yX1_wouldTurn : MethodName := ⟨RX1, "wouldTurn", "(I)I"⟩
abbrev cX1_lastLands : ByteArray := prog_1_method_24_code
def yX1_lastLands : MethodName := ⟨RX1, "lastLands", "(II)I"⟩
abbrev cX1_asBeforeIn : ByteArray := prog_1_method_25_code
def yX1_asBeforeIn : MethodName := ⟨RX1, "asBeforeIn", "(I)I"⟩
abbrev cX1_wouldRun : ByteArray := prog_1_method_26_code
def yX1_wouldRun : MethodName := ⟨RX1, "wouldRun", "(I)I"⟩
abbrev cX1_bestColumn : ByteArray := prog_1_method_27_code
def yX1_bestColumn : MethodName := ⟨RX1, "bestColumn", "()I"⟩
abbrev cX1_meanInBins : ByteArray := prog_1_method_28_code
def yX1_meanInBins : MethodName := ⟨RX1, "meanInBins", "()D"⟩
abbrev cX1_digest : ByteArray := prog_1_method_29_code
def yX1_digest : MethodName := ⟨RX1, "digest", "()J"⟩
abbrev cX1_needPlace : ByteArray := prog_1_method_30_code
def yX1_needPlace : MethodName := ⟨RX1, "needPlace", "(II)V"⟩
abbrev cX1_needRow : ByteArray := prog_1_method_31_code
def yX1_needRow : MethodName := ⟨RX1, "needRow", "(I)V"⟩
abbrev cX1_needColumn : ByteArray := prog_1_method_32_code
def yX1_needColumn : MethodName := ⟨RX1, "needColumn", "(I)V"⟩
abbrev cX1_needHopper : ByteArray := prog_1_method_33_code
def yX1_needHopper : MethodName := ⟨RX1, "needHopper", "(I)V"⟩
abbrev cX1_needWithin : ByteArray := prog_1_method_34_code
def yX1_needWithin : MethodName := ⟨RX1, "needWithin", "(III)V"⟩
abbrev cX1_cell : ByteArray := prog_1_method_35_code
def yX1_cell : MethodName := ⟨RX1, "cell", "([II)I"⟩
abbrev cX1_setCell : ByteArray := prog_1_method_36_code
def yX1_setCell : MethodName := ⟨RX1, "setCell", "([III)V"⟩
abbrev cX1_copyCells : ByteArray := prog_1_method_37_code
def yX1_copyCells : MethodName := ⟨RX1, "copyCells", "([I[I)V"⟩
def RX2 : String := "MarbleRampsModel"
def TX2 : u_T := fun k => match k with
  | 0 => ("MarbleRampsModel", "thrown", "I", false)
  | 1 => ("MarbleRampsModel", "columns", "I", false)
  | 2 => ("MarbleRampsModel", "rows", "I", false)
  | 3 => ("MarbleRampsModel", "part", "[I", true)
  | 4 => ("MarbleRampsModel", "period", "[I", true)
  | 5 => ("MarbleRampsModel", "above", "[I", true)
  | 6 => ("MarbleRampsModel", "now", "[I", true)
  | 7 => ("MarbleRampsModel", "kept", "[I", true)
  | 8 => ("MarbleRampsModel", "turned", "I", false)
  | _ => ("MarbleRampsModel", "way", "[I", true)
def tyX2 : Nat → FieldType := fun k => match k with
  | 0 => .int
  | 1 => .int
  | 2 => .int
  | 3 => .array .int
  | 4 => .array .int
  | 5 => .array .int
  | 6 => .array .int
  | 7 => .array .int
  | 8 => .int
  | _ => .array .int
abbrev wsX20 : List Cond := u_ws RX2 TX2 10
theorem nmX2 : ∀ a, a < 10 → ∀ b, b < 10 → a ≠ b → (TX2 a).2.1 ≠ (TX2 b).2.1 := by decide +kernel
theorem tyX2_ok : ∀ k, k < 10 → parseFieldDescriptor (TX2 k).2.2.1 = some (tyX2 k) := by decide +kernel
abbrev cX2_init : ByteArray := prog_4_method_1_code
def yX2_init : MethodName := ⟨RX2, "<init>", "()V"⟩
abbrev cX2_thrown : ByteArray := prog_4_method_2_code
def yX2_thrown : MethodName := ⟨RX2, "thrown", "()I"⟩
abbrev cX2_no : ByteArray := prog_4_method_3_code
def yX2_no : MethodName := ⟨RX2, "no", "(I)I"⟩
abbrev cX2_isNot : ByteArray := prog_4_method_4_code
def yX2_isNot : MethodName := ⟨RX2, "isNot", "(I)Z"⟩
abbrev cX2_ok : ByteArray := prog_4_method_5_code
def yX2_ok : MethodName := ⟨RX2, "ok", "(I)I"⟩
abbrev cX2_isFrom : ByteArray := prog_4_method_6_code
def yX2_isFrom : MethodName := ⟨RX2, "isFrom", "(III)Z"⟩
abbrev cX2_isColumn : ByteArray := prog_4_method_7_code
def yX2_isColumn : MethodName := ⟨RX2, "isColumn", "(I)Z"⟩
abbrev cX2_isRow : ByteArray := prog_4_method_8_code
def yX2_isRow : MethodName := ⟨RX2, "isRow", "(I)Z"⟩
abbrev cX2_isPlace : ByteArray := prog_4_method_9_code
def yX2_isPlace : MethodName := ⟨RX2, "isPlace", "(II)Z"⟩
abbrev cX2_keep : ByteArray := prog_4_method_10_code
def yX2_keep : MethodName := ⟨RX2, "keep", "()V"⟩
abbrev cX2_bringBack : ByteArray := prog_4_method_11_code
def yX2_bringBack : MethodName := ⟨RX2, "bringBack", "()V"⟩
abbrev cX2_goes : ByteArray := prog_4_method_12_code
def yX2_goes : MethodName := ⟨RX2, "goes", "(II)I"⟩
abbrev cX2_fall : ByteArray := prog_4_method_13_code
def yX2_fall : MethodName := ⟨RX2, "fall", "(I)I"⟩
abbrev cX2_runFrom : ByteArray := prog_4_method_14_code
def yX2_runFrom : MethodName := ⟨RX2, "runFrom", "(II)I"⟩
abbrev cX2_lay : ByteArray := prog_4_method_15_code
def yX2_lay : MethodName := ⟨RX2, "lay", "(II)I"⟩
abbrev cX2_placed : ByteArray := prog_4_method_16_code
def yX2_placed : MethodName := ⟨RX2, "placed", "(III)I"⟩
abbrev cX2_put : ByteArray := prog_4_method_17_code
def yX2_put : MethodName := ⟨RX2, "put", "(III)I"⟩
abbrev cX2_putCounter : ByteArray := prog_4_method_18_code
def yX2_putCounter : MethodName := ⟨RX2, "putCounter", "(III)I"⟩
abbrev cX2_turn : ByteArray := prog_4_method_19_code
def yX2_turn : MethodName := ⟨RX2, "turn", "(II)Z"⟩
abbrev cX2_setHopper : ByteArray := prog_4_method_20_code
def yX2_setHopper : MethodName := ⟨RX2, "setHopper", "(III)I"⟩
abbrev cX2_drop : ByteArray := prog_4_method_21_code
def yX2_drop : MethodName := ⟨RX2, "drop", "(I)I"⟩
abbrev cX2_run : ByteArray := prog_4_method_22_code
def yX2_run : MethodName := ⟨RX2, "run", "(II)I"⟩
abbrev cX2_inBins : ByteArray := prog_4_method_23_code
def yX2_inBins : MethodName := ⟨RX2, "inBins", "()I"⟩
abbrev cX2_emptyBins : ByteArray := prog_4_method_24_code
def yX2_emptyBins : MethodName := ⟨RX2, "emptyBins", "()I"⟩
abbrev cX2_columns : ByteArray := prog_4_method_25_code
def yX2_columns : MethodName := ⟨RX2, "columns", "()I"⟩
abbrev cX2_rows : ByteArray := prog_4_method_26_code
def yX2_rows : MethodName := ⟨RX2, "rows", "()I"⟩
abbrev cX2_partAt : ByteArray := prog_4_method_27_code
def yX2_partAt : MethodName := ⟨RX2, "partAt", "(II)I"⟩
abbrev cX2_isRight : ByteArray := prog_4_method_28_code
def yX2_isRight : MethodName := ⟨RX2, "isRight", "(II)Z"⟩
abbrev cX2_leadsRight : ByteArray := prog_4_method_29_code
def yX2_leadsRight : MethodName := ⟨RX2, "leadsRight", "(II)Z"⟩
abbrev cX2_counted : ByteArray := prog_4_method_30_code
def yX2_counted : MethodName := ⟨RX2, "counted", "(II)I"⟩
abbrev cX2_countAt : ByteArray := prog_4_method_31_code
def yX2_countAt : MethodName := ⟨RX2, "countAt", "(II)I"⟩
abbrev cX2_binOf : ByteArray := prog_4_method_32_code
def yX2_binOf : MethodName := ⟨RX2, "binOf", "(I)I"⟩
abbrev cX2_lost : ByteArray := prog_4_method_33_code
def yX2_lost : MethodName := ⟨RX2, "lost", "()I"⟩
abbrev cX2_marblesIn : ByteArray := prog_4_method_34_code
def yX2_marblesIn : MethodName := ⟨RX2, "marblesIn", "(I)I"⟩
abbrev cX2_columnOf : ByteArray := prog_4_method_35_code
def yX2_columnOf : MethodName := ⟨RX2, "columnOf", "(I)I"⟩
abbrev cX2_togglesNow : ByteArray := prog_4_method_36_code
def yX2_togglesNow : MethodName := ⟨RX2, "togglesNow", "()I"⟩
abbrev cX2_toggles : ByteArray := prog_4_method_37_code
def yX2_toggles : MethodName := ⟨RX2, "toggles", "()I"⟩
abbrev cX2_number : ByteArray := prog_4_method_38_code
def yX2_number : MethodName := ⟨RX2, "number", "(I)I"⟩
abbrev cX2_numberIn : ByteArray := prog_4_method_39_code
def yX2_numberIn : MethodName := ⟨RX2, "numberIn", "(I)I"⟩
abbrev cX2_look : ByteArray := prog_4_method_40_code
def yX2_look : MethodName := ⟨RX2, "look", "(II)I"⟩
abbrev cX2_wouldLand : ByteArray := prog_4_method_41_code
def yX2_wouldLand : MethodName := ⟨RX2, "wouldLand", "(I)I"⟩
abbrev cX2_wouldBeIn : ByteArray := prog_4_method_42_code
def yX2_wouldBeIn : MethodName := ⟨RX2, "wouldBeIn", "(II)I"⟩
abbrev cX2_turnedBy : ByteArray := prog_4_method_43_code
def yX2_turnedBy : MethodName := ⟨RX2, "turnedBy", "(I)I"⟩
abbrev cX2_wouldTurn : ByteArray := prog_4_method_44_code
def yX2_wouldTurn : MethodName := ⟨RX2, "wouldTurn", "(I)I"⟩
abbrev cX2_lastLands : ByteArray := prog_4_method_45_code
def yX2_lastLands : MethodName := ⟨RX2, "lastLands", "(II)I"⟩
abbrev cX2_isAsKept : ByteArray := prog_4_method_46_code
def yX2_isAsKept : MethodName := ⟨RX2, "isAsKept", "()Z"⟩
abbrev cX2_asBefore : ByteArray := prog_4_method_47_code
def yX2_asBefore : MethodName := ⟨RX2, "asBefore", "(I)I"⟩
abbrev cX2_asBeforeIn : ByteArray := prog_4_method_48_code
def yX2_asBeforeIn : MethodName := ⟨RX2, "asBeforeIn", "(I)I"⟩
abbrev cX2_runs : ByteArray := prog_4_method_49_code
def yX2_runs : MethodName := ⟨RX2, "runs", "(I)I"⟩
abbrev cX2_wouldRun : ByteArray := prog_4_method_50_code
def yX2_wouldRun : MethodName := ⟨RX2, "wouldRun", "(I)I"⟩
abbrev cX2_best : ByteArray := prog_4_method_51_code
def yX2_best : MethodName := ⟨RX2, "best", "()I"⟩
abbrev cX2_bestColumn : ByteArray := prog_4_method_52_code
def yX2_bestColumn : MethodName := ⟨RX2, "bestColumn", "()I"⟩
abbrev cX2_meanInBins : ByteArray := prog_4_method_53_code
def yX2_meanInBins : MethodName := ⟨RX2, "meanInBins", "()D"⟩
abbrev cX2_digest : ByteArray := prog_4_method_54_code
def yX2_digest : MethodName := ⟨RX2, "digest", "()J"⟩
def RJx145de : String := "java/io/Serializable"
def TJx145de : u_T := fun k => match k with
  | _ => ("", "", "", false)
def tyJx145de : Nat → FieldType := fun k => match k with
  | _ => .int
abbrev wsJx145de0 : List Cond := u_ws RJx145de TJx145de 0
theorem nmJx145de : ∀ a, a < 0 → ∀ b, b < 0 → a ≠ b → (TJx145de a).2.1 ≠ (TJx145de b).2.1 := by decide +kernel
theorem tyJx145de_ok : ∀ k, k < 0 → parseFieldDescriptor (TJx145de k).2.2.1 = some (tyJx145de k) := by decide +kernel
def RJ6 : String := "java/lang/Integer"
def TJ6 : u_T := fun k => match k with
  | _ => ("", "", "", false)
def tyJ6 : Nat → FieldType := fun k => match k with
  | _ => .int
abbrev wsJ60 : List Cond := u_ws RJ6 TJ6 0
theorem nmJ6 : ∀ a, a < 0 → ∀ b, b < 0 → a ≠ b → (TJ6 a).2.1 ≠ (TJ6 b).2.1 := by decide +kernel
theorem tyJ6_ok : ∀ k, k < 0 → parseFieldDescriptor (TJ6 k).2.2.1 = some (tyJ6 k) := by decide +kernel
abbrev cJ6_signum_0f7a4 : ByteArray := prog_9_method_56_code
def yJ6_signum_0f7a4 : MethodName := ⟨RJ6, "signum", "(I)I"⟩
def RJ0 : String := "java/lang/String"
def TJ0 : u_T := fun k => match k with
  | _ => ("", "", "", false)
def tyJ0 : Nat → FieldType := fun k => match k with
  | _ => .int
abbrev wsJ00 : List Cond := u_ws RJ0 TJ0 0
theorem nmJ0 : ∀ a, a < 0 → ∀ b, b < 0 → a ≠ b → (TJ0 a).2.1 ≠ (TJ0 b).2.1 := by decide +kernel
theorem tyJ0_ok : ∀ k, k < 0 → parseFieldDescriptor (TJ0 k).2.2.1 = some (tyJ0 k) := by decide +kernel
def RJ10 : String := "java/lang/System"
def TJ10 : u_T := fun k => match k with
  | _ => ("", "", "", false)
def tyJ10 : Nat → FieldType := fun k => match k with
  | _ => .int
abbrev wsJ100 : List Cond := u_ws RJ10 TJ10 0
theorem nmJ10 : ∀ a, a < 0 → ∀ b, b < 0 → a ≠ b → (TJ10 a).2.1 ≠ (TJ10 b).2.1 := by decide +kernel
theorem tyJ10_ok : ∀ k, k < 0 → parseFieldDescriptor (TJ10 k).2.2.1 = some (tyJ10 k) := by decide +kernel
def RJ7 : String := "java/util/Arrays"
def TJ7 : u_T := fun k => match k with
  | _ => ("", "", "", false)
def tyJ7 : Nat → FieldType := fun k => match k with
  | _ => .int
abbrev wsJ70 : List Cond := u_ws RJ7 TJ7 0
theorem nmJ7 : ∀ a, a < 0 → ∀ b, b < 0 → a ≠ b → (TJ7 a).2.1 ≠ (TJ7 b).2.1 := by decide +kernel
theorem tyJ7_ok : ∀ k, k < 0 → parseFieldDescriptor (TJ7 k).2.2.1 = some (tyJ7 k) := by decide +kernel
abbrev cJ7_fill_53178 : ByteArray := prog_14_method_103_code
def yJ7_fill_53178 : MethodName := ⟨RJ7, "fill", "([II)V"⟩
def RL : String := "MarbleRampsLaw"
abbrev cL_lay : ByteArray := method_3_code
def yL_lay : MethodName := ⟨RL, "lay", "(LMarbleRamps;II[J)I"⟩
abbrev cL_put : ByteArray := method_4_code
def yL_put : MethodName := ⟨RL, "put", "(LMarbleRamps;III[J)I"⟩
abbrev cL_putCounter : ByteArray := method_5_code
def yL_putCounter : MethodName := ⟨RL, "putCounter", "(LMarbleRamps;III[J)I"⟩
abbrev cL_turn : ByteArray := method_6_code
def yL_turn : MethodName := ⟨RL, "turn", "(LMarbleRamps;II[J)I"⟩
abbrev cL_setHopper : ByteArray := method_7_code
def yL_setHopper : MethodName := ⟨RL, "setHopper", "(LMarbleRamps;III[J)I"⟩
abbrev cL_drop : ByteArray := method_8_code
def yL_drop : MethodName := ⟨RL, "drop", "(LMarbleRamps;I[J)I"⟩
abbrev cL_run : ByteArray := method_9_code
def yL_run : MethodName := ⟨RL, "run", "(LMarbleRamps;II[J)I"⟩
abbrev cL_partAt : ByteArray := method_10_code
def yL_partAt : MethodName := ⟨RL, "partAt", "(LMarbleRamps;II[J)I"⟩
abbrev cL_leadsRight : ByteArray := method_11_code
def yL_leadsRight : MethodName := ⟨RL, "leadsRight", "(LMarbleRamps;II[J)I"⟩
abbrev cL_countAt : ByteArray := method_12_code
def yL_countAt : MethodName := ⟨RL, "countAt", "(LMarbleRamps;II[J)I"⟩
abbrev cL_binOf : ByteArray := method_13_code
def yL_binOf : MethodName := ⟨RL, "binOf", "(LMarbleRamps;I[J)I"⟩
abbrev cL_marblesIn : ByteArray := method_14_code
def yL_marblesIn : MethodName := ⟨RL, "marblesIn", "(LMarbleRamps;I[J)I"⟩
abbrev cL_columnOf : ByteArray := method_15_code
def yL_columnOf : MethodName := ⟨RL, "columnOf", "(LMarbleRamps;I[J)I"⟩
abbrev cL_numberIn : ByteArray := method_16_code
def yL_numberIn : MethodName := ⟨RL, "numberIn", "(LMarbleRamps;I[J)I"⟩
abbrev cL_wouldLand : ByteArray := method_17_code
def yL_wouldLand : MethodName := ⟨RL, "wouldLand", "(LMarbleRamps;I[J)I"⟩
abbrev cL_wouldBeIn : ByteArray := method_18_code
def yL_wouldBeIn : MethodName := ⟨RL, "wouldBeIn", "(LMarbleRamps;II[J)I"⟩
abbrev cL_wouldTurn : ByteArray := method_19_code
def yL_wouldTurn : MethodName := ⟨RL, "wouldTurn", "(LMarbleRamps;I[J)I"⟩
abbrev cL_lastLands : ByteArray := method_20_code
def yL_lastLands : MethodName := ⟨RL, "lastLands", "(LMarbleRamps;II[J)I"⟩
abbrev cL_asBeforeIn : ByteArray := method_21_code
def yL_asBeforeIn : MethodName := ⟨RL, "asBeforeIn", "(LMarbleRamps;I[J)I"⟩
abbrev cL_wouldRun : ByteArray := method_22_code
def yL_wouldRun : MethodName := ⟨RL, "wouldRun", "(LMarbleRamps;I[J)I"⟩
abbrev cL_law : ByteArray := code
def yL_law : MethodName := ⟨RL, "law", "([I)Z"⟩
def wsJ7_fill_53178 : List Cond := .code yJ7_fill_53178 cJ7_fill_53178 4 none :: ([])
def wsX0_clearBins : List Cond := .code yX0_clearBins cX0_clearBins 1 none :: ([.fieldLink RX0 21 "MarbleRamps$Machine" "bins" "[I", .methodLink RX0 44 yJ7_fill_53178, .static yJ7_fill_53178, .initialized RJ7, .code yJ7_fill_53178 cJ7_fill_53178 4 none] ++ wsX00)
def wsX1_setCell : List Cond := .code yX1_setCell cX1_setCell 3 none :: ([])
def wsX0_layBoard : List Cond := .code yX0_layBoard cX0_layBoard 3 none :: ([.fieldLink RX0 34 "MarbleRamps$Machine" "columnCount" "I", .fieldLink RX0 38 "MarbleRamps$Machine" "rowCount" "I", .fieldLink RX0 41 "MarbleRamps$Machine" "lostCount" "I", .fieldLink RX0 9 "MarbleRamps$Machine" "parts" "[I", .fieldLink RX0 15 "MarbleRamps$Machine" "periods" "[I", .fieldLink RX0 18 "MarbleRamps$Machine" "states" "[I", .fieldLink RX0 24 "MarbleRamps$Machine" "hopperColumns" "[I", .methodLink RX0 44 yJ7_fill_53178, .static yJ7_fill_53178, .initialized RJ7, .code yJ7_fill_53178 cJ7_fill_53178 4 none, .methodLink RX0 50 yX0_clearBins, .instanceMethod yX0_clearBins, .selects RX0 yX0_clearBins yX0_clearBins, .initialized RX0, .code yX0_clearBins cX0_clearBins 1 none, .fieldLink RX0 21 "MarbleRamps$Machine" "bins" "[I", .static yX1_setCell, .initialized RX1, .code yX1_setCell cX1_setCell 3 none] ++ wsX00)
def wsX0_init_r1 : List Cond := [Cond.methodLink RX0 3 objectInit, Cond.instanceMethod objectInit, Cond.code objectInit ⟨#[0xb1]⟩ 1 none, Cond.arrayClass .int, Cond.fieldLink RX0 9 "MarbleRamps$Machine" "parts" "[I", Cond.fieldLink RX0 15 "MarbleRamps$Machine" "periods" "[I", Cond.fieldLink RX0 18 "MarbleRamps$Machine" "states" "[I", Cond.fieldLink RX0 21 "MarbleRamps$Machine" "bins" "[I", Cond.fieldLink RX0 24 "MarbleRamps$Machine" "hopperColumns" "[I", Cond.fieldLink RX0 27 "MarbleRamps$Machine" "hopperMarbles" "[I", Cond.methodLink RX0 30 yX0_layBoard, Cond.instanceMethod yX0_layBoard, Cond.selects RX0 yX0_layBoard yX0_layBoard, Cond.initialized RX0, Cond.code yX0_layBoard cX0_layBoard 3 none, Cond.fieldLink RX0 34 "MarbleRamps$Machine" "columnCount" "I", Cond.fieldLink RX0 38 "MarbleRamps$Machine" "rowCount" "I", Cond.fieldLink RX0 41 "MarbleRamps$Machine" "lostCount" "I", Cond.methodLink RX0 44 yJ7_fill_53178, Cond.static yJ7_fill_53178, Cond.initialized RJ7, Cond.code yJ7_fill_53178 cJ7_fill_53178 4 none, Cond.methodLink RX0 50 yX0_clearBins, Cond.instanceMethod yX0_clearBins]
def wsX0_init_r2 : List Cond := [Cond.selects RX0 yX0_clearBins yX0_clearBins, Cond.code yX0_clearBins cX0_clearBins 1 none, Cond.static yX1_setCell, Cond.initialized RX1, Cond.code yX1_setCell cX1_setCell 3 none]
def wsX0_init : List Cond := .code yX0_init cX0_init 1 none :: ((wsX0_init_r1 ++ wsX0_init_r2) ++ wsX00)
def wsX1_copyCells : List Cond := .code yX1_copyCells cX1_copyCells 3 none :: ([.methodLink RX1 204 yX1_setCell, .static yX1_setCell, .initialized RX1, .code yX1_setCell cX1_setCell 3 none])
def wsX0_becomeLike : List Cond := .code yX0_becomeLike cX0_becomeLike 2 none :: ([.fieldLink RX0 34 "MarbleRamps$Machine" "columnCount" "I", .fieldLink RX0 38 "MarbleRamps$Machine" "rowCount" "I", .fieldLink RX0 41 "MarbleRamps$Machine" "lostCount" "I", .fieldLink RX0 9 "MarbleRamps$Machine" "parts" "[I", .fieldLink RX0 15 "MarbleRamps$Machine" "periods" "[I", .fieldLink RX0 18 "MarbleRamps$Machine" "states" "[I", .fieldLink RX0 21 "MarbleRamps$Machine" "bins" "[I", .fieldLink RX0 24 "MarbleRamps$Machine" "hopperColumns" "[I", .fieldLink RX0 27 "MarbleRamps$Machine" "hopperMarbles" "[I", .static yX1_copyCells, .initialized RX1, .code yX1_copyCells cX1_copyCells 3 none, .methodLink RX1 204 yX1_setCell, .static yX1_setCell, .code yX1_setCell cX1_setCell 3 none] ++ wsX00)
def wsX0_hasRow : List Cond := .code yX0_hasRow cX0_hasRow 2 (some .boolean) :: ([.fieldLink RX0 38 "MarbleRamps$Machine" "rowCount" "I"] ++ wsX00)
def wsX0_hasColumn : List Cond := .code yX0_hasColumn cX0_hasColumn 2 (some .boolean) :: ([.fieldLink RX0 34 "MarbleRamps$Machine" "columnCount" "I"] ++ wsX00)
def wsX0_placeOf : List Cond := .code yX0_placeOf cX0_placeOf 3 (some .int) :: ([.fieldLink RX0 34 "MarbleRamps$Machine" "columnCount" "I"] ++ wsX00)
def wsX1_cell : List Cond := .code yX1_cell cX1_cell 2 (some .int) :: ([])
def wsX0_partIn : List Cond := .code yX0_partIn cX0_partIn 2 (some .int) :: ([.fieldLink RX0 9 "MarbleRamps$Machine" "parts" "[I", .static yX1_cell, .initialized RX1, .code yX1_cell cX1_cell 2 (some .int)] ++ wsX00)
def wsX0_isRightToggle : List Cond := .code yX0_isRightToggle cX0_isRightToggle 2 (some .boolean) :: ([.fieldLink RX0 18 "MarbleRamps$Machine" "states" "[I", .methodLink RX0 65 yX0_partIn, .instanceMethod yX0_partIn, .selects RX0 yX0_partIn yX0_partIn, .initialized RX0, .code yX0_partIn cX0_partIn 2 (some .int), .fieldLink RX0 9 "MarbleRamps$Machine" "parts" "[I", .static yX1_cell, .initialized RX1, .code yX1_cell cX1_cell 2 (some .int)] ++ wsX00)
def wsX0_countedIn : List Cond := .code yX0_countedIn cX0_countedIn 2 (some .int) :: ([.fieldLink RX0 18 "MarbleRamps$Machine" "states" "[I", .methodLink RX0 65 yX0_partIn, .instanceMethod yX0_partIn, .selects RX0 yX0_partIn yX0_partIn, .initialized RX0, .code yX0_partIn cX0_partIn 2 (some .int), .fieldLink RX0 9 "MarbleRamps$Machine" "parts" "[I", .static yX1_cell, .initialized RX1, .code yX1_cell cX1_cell 2 (some .int)] ++ wsX00)
def wsX0_replacePart : List Cond := .code yX0_replacePart cX0_replacePart 7 (some .int) :: ([.fieldLink RX0 9 "MarbleRamps$Machine" "parts" "[I", .fieldLink RX0 15 "MarbleRamps$Machine" "periods" "[I", .fieldLink RX0 18 "MarbleRamps$Machine" "states" "[I", .methodLink RX0 69 yX0_placeOf, .instanceMethod yX0_placeOf, .selects RX0 yX0_placeOf yX0_placeOf, .initialized RX0, .code yX0_placeOf cX0_placeOf 3 (some .int), .fieldLink RX0 34 "MarbleRamps$Machine" "columnCount" "I", .methodLink RX0 65 yX0_partIn, .instanceMethod yX0_partIn, .selects RX0 yX0_partIn yX0_partIn, .code yX0_partIn cX0_partIn 2 (some .int), .static yX1_cell, .initialized RX1, .code yX1_cell cX1_cell 2 (some .int), .static yX1_setCell, .code yX1_setCell cX1_setCell 3 none] ++ wsX00)
def wsX0_turnOver : List Cond := .code yX0_turnOver cX0_turnOver 2 none :: ([.fieldLink RX0 18 "MarbleRamps$Machine" "states" "[I", .methodLink RX0 73 yX0_isRightToggle, .instanceMethod yX0_isRightToggle, .selects RX0 yX0_isRightToggle yX0_isRightToggle, .initialized RX0, .code yX0_isRightToggle cX0_isRightToggle 2 (some .boolean), .methodLink RX0 65 yX0_partIn, .instanceMethod yX0_partIn, .selects RX0 yX0_partIn yX0_partIn, .code yX0_partIn cX0_partIn 2 (some .int), .fieldLink RX0 9 "MarbleRamps$Machine" "parts" "[I", .static yX1_cell, .initialized RX1, .code yX1_cell cX1_cell 2 (some .int), .static yX1_setCell, .code yX1_setCell cX1_setCell 3 none] ++ wsX00)
def wsX0_countToggles : List Cond := .code yX0_countToggles cX0_countToggles 6 (some .int) :: ([.fieldLink RX0 9 "MarbleRamps$Machine" "parts" "[I"] ++ wsX00)
def wsX0_numberToldBy : List Cond := .code yX0_numberToldBy cX0_numberToldBy 6 (some .int) :: ([.fieldLink RX0 34 "MarbleRamps$Machine" "columnCount" "I", .methodLink RX0 69 yX0_placeOf, .instanceMethod yX0_placeOf, .selects RX0 yX0_placeOf yX0_placeOf, .initialized RX0, .code yX0_placeOf cX0_placeOf 3 (some .int), .methodLink RX0 65 yX0_partIn, .instanceMethod yX0_partIn, .selects RX0 yX0_partIn yX0_partIn, .code yX0_partIn cX0_partIn 2 (some .int), .fieldLink RX0 9 "MarbleRamps$Machine" "parts" "[I", .static yX1_cell, .initialized RX1, .code yX1_cell cX1_cell 2 (some .int), .methodLink RX0 73 yX0_isRightToggle, .instanceMethod yX0_isRightToggle, .selects RX0 yX0_isRightToggle yX0_isRightToggle, .code yX0_isRightToggle cX0_isRightToggle 2 (some .boolean), .fieldLink RX0 18 "MarbleRamps$Machine" "states" "[I"] ++ wsX00)
def wsX0_togglesUnlike : List Cond := .code yX0_togglesUnlike cX0_togglesUnlike 4 (some .int) :: ([.fieldLink RX0 9 "MarbleRamps$Machine" "parts" "[I", .methodLink RX0 73 yX0_isRightToggle, .instanceMethod yX0_isRightToggle, .selects RX0 yX0_isRightToggle yX0_isRightToggle, .initialized RX0, .code yX0_isRightToggle cX0_isRightToggle 2 (some .boolean), .fieldLink RX0 18 "MarbleRamps$Machine" "states" "[I", .methodLink RX0 65 yX0_partIn, .instanceMethod yX0_partIn, .selects RX0 yX0_partIn yX0_partIn, .code yX0_partIn cX0_partIn 2 (some .int), .static yX1_cell, .initialized RX1, .code yX1_cell cX1_cell 2 (some .int)] ++ wsX00)
def wsX0_hasStatesOf : List Cond := .code yX0_hasStatesOf cX0_hasStatesOf 3 (some .boolean) :: ([.fieldLink RX0 18 "MarbleRamps$Machine" "states" "[I", .static yX1_cell, .initialized RX1, .code yX1_cell cX1_cell 2 (some .int)] ++ wsX00)
def wsX0_wayOut : List Cond := .code yX0_wayOut cX0_wayOut 5 (some .int) :: ([.fieldLink RX0 9 "MarbleRamps$Machine" "parts" "[I", .fieldLink RX0 18 "MarbleRamps$Machine" "states" "[I", .fieldLink RX0 15 "MarbleRamps$Machine" "periods" "[I", .static yX1_cell, .initialized RX1, .code yX1_cell cX1_cell 2 (some .int), .static yX1_setCell, .code yX1_setCell cX1_setCell 3 none] ++ wsX00)
def wsX0_fallTo : List Cond := .code yX0_fallTo cX0_fallTo 6 (some .int) :: ([.methodLink RX0 69 yX0_placeOf, .instanceMethod yX0_placeOf, .selects RX0 yX0_placeOf yX0_placeOf, .initialized RX0, .code yX0_placeOf cX0_placeOf 3 (some .int), .fieldLink RX0 34 "MarbleRamps$Machine" "columnCount" "I", .methodLink RX0 80 yX0_wayOut, .instanceMethod yX0_wayOut, .selects RX0 yX0_wayOut yX0_wayOut, .code yX0_wayOut cX0_wayOut 5 (some .int), .fieldLink RX0 9 "MarbleRamps$Machine" "parts" "[I", .fieldLink RX0 18 "MarbleRamps$Machine" "states" "[I", .fieldLink RX0 15 "MarbleRamps$Machine" "periods" "[I", .static yX1_cell, .initialized RX1, .code yX1_cell cX1_cell 2 (some .int), .static yX1_setCell, .code yX1_setCell cX1_setCell 3 none, .methodLink RX0 83 yX0_hasColumn, .instanceMethod yX0_hasColumn, .selects RX0 yX0_hasColumn yX0_hasColumn, .code yX0_hasColumn cX0_hasColumn 2 (some .boolean)] ++ wsX00)
def wsX0_letFall_r1 : List Cond := [Cond.fieldLink RX0 38 "MarbleRamps$Machine" "rowCount" "I", Cond.fieldLink RX0 41 "MarbleRamps$Machine" "lostCount" "I", Cond.fieldLink RX0 21 "MarbleRamps$Machine" "bins" "[I", Cond.methodLink RX0 77 yX0_fallTo, Cond.instanceMethod yX0_fallTo, Cond.selects RX0 yX0_fallTo yX0_fallTo, Cond.initialized RX0, Cond.code yX0_fallTo cX0_fallTo 6 (some .int), Cond.methodLink RX0 69 yX0_placeOf, Cond.instanceMethod yX0_placeOf, Cond.selects RX0 yX0_placeOf yX0_placeOf, Cond.code yX0_placeOf cX0_placeOf 3 (some .int), Cond.fieldLink RX0 34 "MarbleRamps$Machine" "columnCount" "I", Cond.methodLink RX0 80 yX0_wayOut, Cond.instanceMethod yX0_wayOut, Cond.selects RX0 yX0_wayOut yX0_wayOut, Cond.code yX0_wayOut cX0_wayOut 5 (some .int), Cond.fieldLink RX0 9 "MarbleRamps$Machine" "parts" "[I", Cond.fieldLink RX0 18 "MarbleRamps$Machine" "states" "[I", Cond.fieldLink RX0 15 "MarbleRamps$Machine" "periods" "[I", Cond.static yX1_cell, Cond.initialized RX1, Cond.code yX1_cell cX1_cell 2 (some .int), Cond.static yX1_setCell]
def wsX0_letFall_r2 : List Cond := [Cond.code yX1_setCell cX1_setCell 3 none, Cond.methodLink RX0 83 yX0_hasColumn, Cond.instanceMethod yX0_hasColumn, Cond.selects RX0 yX0_hasColumn yX0_hasColumn, Cond.code yX0_hasColumn cX0_hasColumn 2 (some .boolean)]
def wsX0_letFall : List Cond := .code yX0_letFall cX0_letFall 3 (some .int) :: ((wsX0_letFall_r1 ++ wsX0_letFall_r2) ++ wsX00)
def wsX0_marblesInBins : List Cond := .code yX0_marblesInBins cX0_marblesInBins 6 (some .int) :: ([.fieldLink RX0 21 "MarbleRamps$Machine" "bins" "[I"] ++ wsX00)
def wsX0_fillHopper : List Cond := .code yX0_fillHopper cX0_fillHopper 5 (some .int) :: ([.fieldLink RX0 27 "MarbleRamps$Machine" "hopperMarbles" "[I", .fieldLink RX0 24 "MarbleRamps$Machine" "hopperColumns" "[I", .static yX1_cell, .initialized RX1, .code yX1_cell cX1_cell 2 (some .int), .static yX1_setCell, .code yX1_setCell cX1_setCell 3 none] ++ wsX00)
def wsX0_hopperBehind : List Cond := .code yX0_hopperBehind cX0_hopperBehind 3 (some .int) :: ([.fieldLink RX0 34 "MarbleRamps$Machine" "columnCount" "I"] ++ wsX00)
def wsX0_runFrom_r1 : List Cond := [Cond.fieldLink RX0 27 "MarbleRamps$Machine" "hopperMarbles" "[I", Cond.fieldLink RX0 24 "MarbleRamps$Machine" "hopperColumns" "[I", Cond.static yX1_cell, Cond.initialized RX1, Cond.code yX1_cell cX1_cell 2 (some .int), Cond.static yX1_setCell, Cond.code yX1_setCell cX1_setCell 3 none, Cond.methodLink RX0 86 yX0_letFall, Cond.instanceMethod yX0_letFall, Cond.selects RX0 yX0_letFall yX0_letFall, Cond.initialized RX0, Cond.code yX0_letFall cX0_letFall 3 (some .int), Cond.fieldLink RX0 38 "MarbleRamps$Machine" "rowCount" "I", Cond.fieldLink RX0 41 "MarbleRamps$Machine" "lostCount" "I", Cond.fieldLink RX0 21 "MarbleRamps$Machine" "bins" "[I", Cond.methodLink RX0 77 yX0_fallTo, Cond.instanceMethod yX0_fallTo, Cond.selects RX0 yX0_fallTo yX0_fallTo, Cond.code yX0_fallTo cX0_fallTo 6 (some .int), Cond.methodLink RX0 69 yX0_placeOf, Cond.instanceMethod yX0_placeOf, Cond.selects RX0 yX0_placeOf yX0_placeOf, Cond.code yX0_placeOf cX0_placeOf 3 (some .int), Cond.fieldLink RX0 34 "MarbleRamps$Machine" "columnCount" "I"]
def wsX0_runFrom_r2 : List Cond := [Cond.methodLink RX0 80 yX0_wayOut, Cond.instanceMethod yX0_wayOut, Cond.selects RX0 yX0_wayOut yX0_wayOut, Cond.code yX0_wayOut cX0_wayOut 5 (some .int), Cond.fieldLink RX0 9 "MarbleRamps$Machine" "parts" "[I", Cond.fieldLink RX0 18 "MarbleRamps$Machine" "states" "[I", Cond.fieldLink RX0 15 "MarbleRamps$Machine" "periods" "[I", Cond.methodLink RX0 83 yX0_hasColumn, Cond.instanceMethod yX0_hasColumn, Cond.selects RX0 yX0_hasColumn yX0_hasColumn, Cond.code yX0_hasColumn cX0_hasColumn 2 (some .boolean), Cond.methodLink RX0 89 yX0_hopperBehind, Cond.instanceMethod yX0_hopperBehind, Cond.selects RX0 yX0_hopperBehind yX0_hopperBehind, Cond.code yX0_hopperBehind cX0_hopperBehind 3 (some .int)]
def wsX0_runFrom : List Cond := .code yX0_runFrom cX0_runFrom 5 (some .int) :: ((wsX0_runFrom_r1 ++ wsX0_runFrom_r2) ++ wsX00)
def wsX1_init_r1 : List Cond := [Cond.methodLink RX1 1 objectInit, Cond.instanceMethod objectInit, Cond.code objectInit ⟨#[0xb1]⟩ 1 none, Cond.classLink RX1 7 RX0, Cond.instantiable RX0 9, Cond.initialized RX0, Cond.fieldLink RX1 10 "MarbleRamps" "now" "LMarbleRamps$Machine;", Cond.fieldLink RX1 16 "MarbleRamps" "trial" "LMarbleRamps$Machine;", Cond.methodLink RX1 9 yX0_init, Cond.instanceMethod yX0_init, Cond.code yX0_init cX0_init 1 none, Cond.methodLink RX0 3 objectInit, Cond.arrayClass .int, Cond.fieldLink RX0 9 "MarbleRamps$Machine" "parts" "[I", Cond.fieldLink RX0 15 "MarbleRamps$Machine" "periods" "[I", Cond.fieldLink RX0 18 "MarbleRamps$Machine" "states" "[I", Cond.fieldLink RX0 21 "MarbleRamps$Machine" "bins" "[I", Cond.fieldLink RX0 24 "MarbleRamps$Machine" "hopperColumns" "[I", Cond.fieldLink RX0 27 "MarbleRamps$Machine" "hopperMarbles" "[I", Cond.methodLink RX0 30 yX0_layBoard, Cond.instanceMethod yX0_layBoard, Cond.selects RX0 yX0_layBoard yX0_layBoard, Cond.code yX0_layBoard cX0_layBoard 3 none, Cond.fieldLink RX0 34 "MarbleRamps$Machine" "columnCount" "I"]
def wsX1_init_r2 : List Cond := [Cond.fieldLink RX0 38 "MarbleRamps$Machine" "rowCount" "I", Cond.fieldLink RX0 41 "MarbleRamps$Machine" "lostCount" "I", Cond.methodLink RX0 44 yJ7_fill_53178, Cond.static yJ7_fill_53178, Cond.initialized RJ7, Cond.code yJ7_fill_53178 cJ7_fill_53178 4 none, Cond.methodLink RX0 50 yX0_clearBins, Cond.instanceMethod yX0_clearBins, Cond.selects RX0 yX0_clearBins yX0_clearBins, Cond.code yX0_clearBins cX0_clearBins 1 none, Cond.static yX1_setCell, Cond.initialized RX1, Cond.code yX1_setCell cX1_setCell 3 none]
def wsX1_init : List Cond := .code yX1_init cX1_init 1 none :: ((wsX1_init_r1 ++ wsX1_init_r2) ++ wsX00 ++ wsX10)
def wsX1_needWithin : List Cond := .code yX1_needWithin cX1_needWithin 3 none :: ([.classLink RX1 199 "java/lang/IllegalArgumentException", .initialized "java/lang/IllegalArgumentException"] ++ (vx_atS RX1 203 "java/lang/IllegalArgumentException" ["java/lang/RuntimeException", "java/lang/Exception"]).filter goodWord)
def wsX1_lay_r1 : List Cond := [Cond.fieldLink RX1 10 "MarbleRamps" "now" "LMarbleRamps$Machine;", Cond.methodLink RX1 19 yX1_needWithin, Cond.static yX1_needWithin, Cond.initialized RX1, Cond.code yX1_needWithin cX1_needWithin 3 none, Cond.classLink RX1 199 "java/lang/IllegalArgumentException", Cond.initialized "java/lang/IllegalArgumentException", Cond.methodLink RX1 23 yX0_layBoard, Cond.instanceMethod yX0_layBoard, Cond.selects RX0 yX0_layBoard yX0_layBoard, Cond.initialized RX0, Cond.code yX0_layBoard cX0_layBoard 3 none, Cond.fieldLink RX0 34 "MarbleRamps$Machine" "columnCount" "I", Cond.fieldLink RX0 38 "MarbleRamps$Machine" "rowCount" "I", Cond.fieldLink RX0 41 "MarbleRamps$Machine" "lostCount" "I", Cond.fieldLink RX0 9 "MarbleRamps$Machine" "parts" "[I", Cond.fieldLink RX0 15 "MarbleRamps$Machine" "periods" "[I", Cond.fieldLink RX0 18 "MarbleRamps$Machine" "states" "[I", Cond.fieldLink RX0 24 "MarbleRamps$Machine" "hopperColumns" "[I", Cond.methodLink RX0 44 yJ7_fill_53178, Cond.static yJ7_fill_53178, Cond.initialized RJ7, Cond.code yJ7_fill_53178 cJ7_fill_53178 4 none, Cond.methodLink RX0 50 yX0_clearBins]
def wsX1_lay_r2 : List Cond := [Cond.instanceMethod yX0_clearBins, Cond.selects RX0 yX0_clearBins yX0_clearBins, Cond.code yX0_clearBins cX0_clearBins 1 none, Cond.fieldLink RX0 21 "MarbleRamps$Machine" "bins" "[I", Cond.static yX1_setCell, Cond.code yX1_setCell cX1_setCell 3 none]
def wsX1_lay : List Cond := .code yX1_lay cX1_lay 3 (some .int) :: ((wsX1_lay_r1 ++ wsX1_lay_r2) ++ wsX10 ++ wsX00 ++ (vx_atS RX1 203 "java/lang/IllegalArgumentException" ["java/lang/RuntimeException", "java/lang/Exception"]).filter goodWord)
def wsX1_needRow : List Cond := .code yX1_needRow cX1_needRow 2 none :: ([.classLink RX1 187 "java/lang/IndexOutOfBoundsException", .initialized "java/lang/IndexOutOfBoundsException", .fieldLink RX1 10 "MarbleRamps" "now" "LMarbleRamps$Machine;", .methodLink RX1 184 yX0_hasRow, .instanceMethod yX0_hasRow, .selects RX0 yX0_hasRow yX0_hasRow, .initialized RX0, .code yX0_hasRow cX0_hasRow 2 (some .boolean), .fieldLink RX0 38 "MarbleRamps$Machine" "rowCount" "I"] ++ wsX10 ++ wsX00 ++ (vx_atS RX1 191 "java/lang/IndexOutOfBoundsException" ["java/lang/RuntimeException", "java/lang/Exception"]).filter goodWord)
def wsX1_needColumn : List Cond := .code yX1_needColumn cX1_needColumn 2 none :: ([.classLink RX1 187 "java/lang/IndexOutOfBoundsException", .initialized "java/lang/IndexOutOfBoundsException", .fieldLink RX1 10 "MarbleRamps" "now" "LMarbleRamps$Machine;", .methodLink RX1 192 yX0_hasColumn, .instanceMethod yX0_hasColumn, .selects RX0 yX0_hasColumn yX0_hasColumn, .initialized RX0, .code yX0_hasColumn cX0_hasColumn 2 (some .boolean), .fieldLink RX0 34 "MarbleRamps$Machine" "columnCount" "I"] ++ wsX10 ++ wsX00 ++ (vx_atS RX1 191 "java/lang/IndexOutOfBoundsException" ["java/lang/RuntimeException", "java/lang/Exception"]).filter goodWord)
def wsX1_needPlace : List Cond := .code yX1_needPlace cX1_needPlace 3 none :: ([.methodLink RX1 110 yX1_needRow, .instanceMethod yX1_needRow, .selects RX1 yX1_needRow yX1_needRow, .initialized RX1, .code yX1_needRow cX1_needRow 2 none, .classLink RX1 187 "java/lang/IndexOutOfBoundsException", .initialized "java/lang/IndexOutOfBoundsException", .fieldLink RX1 10 "MarbleRamps" "now" "LMarbleRamps$Machine;", .methodLink RX1 184 yX0_hasRow, .instanceMethod yX0_hasRow, .selects RX0 yX0_hasRow yX0_hasRow, .initialized RX0, .code yX0_hasRow cX0_hasRow 2 (some .boolean), .fieldLink RX0 38 "MarbleRamps$Machine" "rowCount" "I", .methodLink RX1 60 yX1_needColumn, .instanceMethod yX1_needColumn, .selects RX1 yX1_needColumn yX1_needColumn, .code yX1_needColumn cX1_needColumn 2 none, .methodLink RX1 192 yX0_hasColumn, .instanceMethod yX0_hasColumn, .selects RX0 yX0_hasColumn yX0_hasColumn, .code yX0_hasColumn cX0_hasColumn 2 (some .boolean), .fieldLink RX0 34 "MarbleRamps$Machine" "columnCount" "I"] ++ wsX10 ++ wsX00 ++ (vx_atS RX1 191 "java/lang/IndexOutOfBoundsException" ["java/lang/RuntimeException", "java/lang/Exception"]).filter goodWord)
def wsX1_put_r1 : List Cond := [Cond.fieldLink RX1 10 "MarbleRamps" "now" "LMarbleRamps$Machine;", Cond.methodLink RX1 27 yX1_needPlace, Cond.instanceMethod yX1_needPlace, Cond.selects RX1 yX1_needPlace yX1_needPlace, Cond.initialized RX1, Cond.code yX1_needPlace cX1_needPlace 3 none, Cond.methodLink RX1 110 yX1_needRow, Cond.instanceMethod yX1_needRow, Cond.selects RX1 yX1_needRow yX1_needRow, Cond.code yX1_needRow cX1_needRow 2 none, Cond.classLink RX1 187 "java/lang/IndexOutOfBoundsException", Cond.initialized "java/lang/IndexOutOfBoundsException", Cond.methodLink RX1 184 yX0_hasRow, Cond.instanceMethod yX0_hasRow, Cond.selects RX0 yX0_hasRow yX0_hasRow, Cond.initialized RX0, Cond.code yX0_hasRow cX0_hasRow 2 (some .boolean), Cond.fieldLink RX0 38 "MarbleRamps$Machine" "rowCount" "I", Cond.methodLink RX1 60 yX1_needColumn, Cond.instanceMethod yX1_needColumn, Cond.selects RX1 yX1_needColumn yX1_needColumn, Cond.code yX1_needColumn cX1_needColumn 2 none, Cond.methodLink RX1 192 yX0_hasColumn, Cond.instanceMethod yX0_hasColumn]
def wsX1_put_r2 : List Cond := [Cond.selects RX0 yX0_hasColumn yX0_hasColumn, Cond.code yX0_hasColumn cX0_hasColumn 2 (some .boolean), Cond.fieldLink RX0 34 "MarbleRamps$Machine" "columnCount" "I", Cond.methodLink RX1 19 yX1_needWithin, Cond.static yX1_needWithin, Cond.code yX1_needWithin cX1_needWithin 3 none, Cond.classLink RX1 199 "java/lang/IllegalArgumentException", Cond.initialized "java/lang/IllegalArgumentException", Cond.methodLink RX1 30 yX0_replacePart, Cond.instanceMethod yX0_replacePart, Cond.selects RX0 yX0_replacePart yX0_replacePart, Cond.code yX0_replacePart cX0_replacePart 7 (some .int), Cond.fieldLink RX0 9 "MarbleRamps$Machine" "parts" "[I", Cond.fieldLink RX0 15 "MarbleRamps$Machine" "periods" "[I", Cond.fieldLink RX0 18 "MarbleRamps$Machine" "states" "[I", Cond.methodLink RX0 69 yX0_placeOf, Cond.instanceMethod yX0_placeOf, Cond.selects RX0 yX0_placeOf yX0_placeOf, Cond.code yX0_placeOf cX0_placeOf 3 (some .int), Cond.methodLink RX0 65 yX0_partIn, Cond.instanceMethod yX0_partIn, Cond.selects RX0 yX0_partIn yX0_partIn, Cond.code yX0_partIn cX0_partIn 2 (some .int), Cond.static yX1_cell]
def wsX1_put_r3 : List Cond := [Cond.code yX1_cell cX1_cell 2 (some .int), Cond.static yX1_setCell, Cond.code yX1_setCell cX1_setCell 3 none]
def wsX1_put : List Cond := .code yX1_put cX1_put 4 (some .int) :: ((wsX1_put_r1 ++ (wsX1_put_r2 ++ wsX1_put_r3)) ++ wsX10 ++ wsX00 ++ (vx_atS RX1 191 "java/lang/IndexOutOfBoundsException" ["java/lang/RuntimeException", "java/lang/Exception"]).filter goodWord ++ (vx_atS RX1 203 "java/lang/IllegalArgumentException" ["java/lang/RuntimeException", "java/lang/Exception"]).filter goodWord)
def wsX1_putCounter_r1 : List Cond := [Cond.fieldLink RX1 10 "MarbleRamps" "now" "LMarbleRamps$Machine;", Cond.methodLink RX1 27 yX1_needPlace, Cond.instanceMethod yX1_needPlace, Cond.selects RX1 yX1_needPlace yX1_needPlace, Cond.initialized RX1, Cond.code yX1_needPlace cX1_needPlace 3 none, Cond.methodLink RX1 110 yX1_needRow, Cond.instanceMethod yX1_needRow, Cond.selects RX1 yX1_needRow yX1_needRow, Cond.code yX1_needRow cX1_needRow 2 none, Cond.classLink RX1 187 "java/lang/IndexOutOfBoundsException", Cond.initialized "java/lang/IndexOutOfBoundsException", Cond.methodLink RX1 184 yX0_hasRow, Cond.instanceMethod yX0_hasRow, Cond.selects RX0 yX0_hasRow yX0_hasRow, Cond.initialized RX0, Cond.code yX0_hasRow cX0_hasRow 2 (some .boolean), Cond.fieldLink RX0 38 "MarbleRamps$Machine" "rowCount" "I", Cond.methodLink RX1 60 yX1_needColumn, Cond.instanceMethod yX1_needColumn, Cond.selects RX1 yX1_needColumn yX1_needColumn, Cond.code yX1_needColumn cX1_needColumn 2 none, Cond.methodLink RX1 192 yX0_hasColumn, Cond.instanceMethod yX0_hasColumn]
def wsX1_putCounter_r2 : List Cond := [Cond.selects RX0 yX0_hasColumn yX0_hasColumn, Cond.code yX0_hasColumn cX0_hasColumn 2 (some .boolean), Cond.fieldLink RX0 34 "MarbleRamps$Machine" "columnCount" "I", Cond.methodLink RX1 19 yX1_needWithin, Cond.static yX1_needWithin, Cond.code yX1_needWithin cX1_needWithin 3 none, Cond.classLink RX1 199 "java/lang/IllegalArgumentException", Cond.initialized "java/lang/IllegalArgumentException", Cond.methodLink RX1 30 yX0_replacePart, Cond.instanceMethod yX0_replacePart, Cond.selects RX0 yX0_replacePart yX0_replacePart, Cond.code yX0_replacePart cX0_replacePart 7 (some .int), Cond.fieldLink RX0 9 "MarbleRamps$Machine" "parts" "[I", Cond.fieldLink RX0 15 "MarbleRamps$Machine" "periods" "[I", Cond.fieldLink RX0 18 "MarbleRamps$Machine" "states" "[I", Cond.methodLink RX0 69 yX0_placeOf, Cond.instanceMethod yX0_placeOf, Cond.selects RX0 yX0_placeOf yX0_placeOf, Cond.code yX0_placeOf cX0_placeOf 3 (some .int), Cond.methodLink RX0 65 yX0_partIn, Cond.instanceMethod yX0_partIn, Cond.selects RX0 yX0_partIn yX0_partIn, Cond.code yX0_partIn cX0_partIn 2 (some .int), Cond.static yX1_cell]
def wsX1_putCounter_r3 : List Cond := [Cond.code yX1_cell cX1_cell 2 (some .int), Cond.static yX1_setCell, Cond.code yX1_setCell cX1_setCell 3 none]
def wsX1_putCounter : List Cond := .code yX1_putCounter cX1_putCounter 4 (some .int) :: ((wsX1_putCounter_r1 ++ (wsX1_putCounter_r2 ++ wsX1_putCounter_r3)) ++ wsX10 ++ wsX00 ++ (vx_atS RX1 191 "java/lang/IndexOutOfBoundsException" ["java/lang/RuntimeException", "java/lang/Exception"]).filter goodWord ++ (vx_atS RX1 203 "java/lang/IllegalArgumentException" ["java/lang/RuntimeException", "java/lang/Exception"]).filter goodWord)
def wsX1_turn_r1 : List Cond := [Cond.classLink RX1 42 "java/lang/IllegalStateException", Cond.initialized "java/lang/IllegalStateException", Cond.fieldLink RX1 10 "MarbleRamps" "now" "LMarbleRamps$Machine;", Cond.methodLink RX1 27 yX1_needPlace, Cond.instanceMethod yX1_needPlace, Cond.selects RX1 yX1_needPlace yX1_needPlace, Cond.initialized RX1, Cond.code yX1_needPlace cX1_needPlace 3 none, Cond.methodLink RX1 110 yX1_needRow, Cond.instanceMethod yX1_needRow, Cond.selects RX1 yX1_needRow yX1_needRow, Cond.code yX1_needRow cX1_needRow 2 none, Cond.classLink RX1 187 "java/lang/IndexOutOfBoundsException", Cond.initialized "java/lang/IndexOutOfBoundsException", Cond.methodLink RX1 184 yX0_hasRow, Cond.instanceMethod yX0_hasRow, Cond.selects RX0 yX0_hasRow yX0_hasRow, Cond.initialized RX0, Cond.code yX0_hasRow cX0_hasRow 2 (some .boolean), Cond.fieldLink RX0 38 "MarbleRamps$Machine" "rowCount" "I", Cond.methodLink RX1 60 yX1_needColumn, Cond.instanceMethod yX1_needColumn, Cond.selects RX1 yX1_needColumn yX1_needColumn, Cond.code yX1_needColumn cX1_needColumn 2 none]
def wsX1_turn_r2 : List Cond := [Cond.methodLink RX1 192 yX0_hasColumn, Cond.instanceMethod yX0_hasColumn, Cond.selects RX0 yX0_hasColumn yX0_hasColumn, Cond.code yX0_hasColumn cX0_hasColumn 2 (some .boolean), Cond.fieldLink RX0 34 "MarbleRamps$Machine" "columnCount" "I", Cond.methodLink RX1 34 yX0_placeOf, Cond.instanceMethod yX0_placeOf, Cond.selects RX0 yX0_placeOf yX0_placeOf, Cond.code yX0_placeOf cX0_placeOf 3 (some .int), Cond.methodLink RX1 38 yX0_partIn, Cond.instanceMethod yX0_partIn, Cond.selects RX0 yX0_partIn yX0_partIn, Cond.code yX0_partIn cX0_partIn 2 (some .int), Cond.fieldLink RX0 9 "MarbleRamps$Machine" "parts" "[I", Cond.static yX1_cell, Cond.code yX1_cell cX1_cell 2 (some .int), Cond.methodLink RX1 49 yX0_turnOver, Cond.instanceMethod yX0_turnOver, Cond.selects RX0 yX0_turnOver yX0_turnOver, Cond.code yX0_turnOver cX0_turnOver 2 none, Cond.fieldLink RX0 18 "MarbleRamps$Machine" "states" "[I", Cond.methodLink RX0 73 yX0_isRightToggle, Cond.instanceMethod yX0_isRightToggle, Cond.selects RX0 yX0_isRightToggle yX0_isRightToggle]
def wsX1_turn_r3 : List Cond := [Cond.code yX0_isRightToggle cX0_isRightToggle 2 (some .boolean), Cond.methodLink RX0 65 yX0_partIn, Cond.static yX1_setCell, Cond.code yX1_setCell cX1_setCell 3 none, Cond.methodLink RX1 53 yX0_isRightToggle]
def wsX1_turn : List Cond := .code yX1_turn cX1_turn 4 (some .boolean) :: ((wsX1_turn_r1 ++ (wsX1_turn_r2 ++ wsX1_turn_r3)) ++ wsX10 ++ wsX00 ++ (vx_atS RX1 46 "java/lang/IllegalStateException" ["java/lang/RuntimeException", "java/lang/Exception"]).filter goodWord ++ (vx_atS RX1 191 "java/lang/IndexOutOfBoundsException" ["java/lang/RuntimeException", "java/lang/Exception"]).filter goodWord)
def wsX1_needHopper : List Cond := .code yX1_needHopper cX1_needHopper 1 none :: ([.classLink RX1 187 "java/lang/IndexOutOfBoundsException", .initialized "java/lang/IndexOutOfBoundsException"] ++ (vx_atS RX1 191 "java/lang/IndexOutOfBoundsException" ["java/lang/RuntimeException", "java/lang/Exception"]).filter goodWord)
def wsX1_setHopper_r1 : List Cond := [Cond.fieldLink RX1 10 "MarbleRamps" "now" "LMarbleRamps$Machine;", Cond.methodLink RX1 57 yX1_needHopper, Cond.static yX1_needHopper, Cond.initialized RX1, Cond.code yX1_needHopper cX1_needHopper 1 none, Cond.classLink RX1 187 "java/lang/IndexOutOfBoundsException", Cond.initialized "java/lang/IndexOutOfBoundsException", Cond.methodLink RX1 60 yX1_needColumn, Cond.instanceMethod yX1_needColumn, Cond.selects RX1 yX1_needColumn yX1_needColumn, Cond.code yX1_needColumn cX1_needColumn 2 none, Cond.methodLink RX1 192 yX0_hasColumn, Cond.instanceMethod yX0_hasColumn, Cond.selects RX0 yX0_hasColumn yX0_hasColumn, Cond.initialized RX0, Cond.code yX0_hasColumn cX0_hasColumn 2 (some .boolean), Cond.fieldLink RX0 34 "MarbleRamps$Machine" "columnCount" "I", Cond.methodLink RX1 19 yX1_needWithin, Cond.static yX1_needWithin, Cond.code yX1_needWithin cX1_needWithin 3 none, Cond.classLink RX1 199 "java/lang/IllegalArgumentException", Cond.initialized "java/lang/IllegalArgumentException", Cond.methodLink RX1 63 yX0_fillHopper, Cond.instanceMethod yX0_fillHopper]
def wsX1_setHopper_r2 : List Cond := [Cond.selects RX0 yX0_fillHopper yX0_fillHopper, Cond.code yX0_fillHopper cX0_fillHopper 5 (some .int), Cond.fieldLink RX0 27 "MarbleRamps$Machine" "hopperMarbles" "[I", Cond.fieldLink RX0 24 "MarbleRamps$Machine" "hopperColumns" "[I", Cond.static yX1_cell, Cond.code yX1_cell cX1_cell 2 (some .int), Cond.static yX1_setCell, Cond.code yX1_setCell cX1_setCell 3 none]
def wsX1_setHopper : List Cond := .code yX1_setHopper cX1_setHopper 4 (some .int) :: ((wsX1_setHopper_r1 ++ wsX1_setHopper_r2) ++ wsX10 ++ wsX00 ++ (vx_atS RX1 191 "java/lang/IndexOutOfBoundsException" ["java/lang/RuntimeException", "java/lang/Exception"]).filter goodWord ++ (vx_atS RX1 203 "java/lang/IllegalArgumentException" ["java/lang/RuntimeException", "java/lang/Exception"]).filter goodWord)
def wsX1_drop_r1 : List Cond := [Cond.fieldLink RX1 10 "MarbleRamps" "now" "LMarbleRamps$Machine;", Cond.methodLink RX1 60 yX1_needColumn, Cond.instanceMethod yX1_needColumn, Cond.selects RX1 yX1_needColumn yX1_needColumn, Cond.initialized RX1, Cond.code yX1_needColumn cX1_needColumn 2 none, Cond.classLink RX1 187 "java/lang/IndexOutOfBoundsException", Cond.initialized "java/lang/IndexOutOfBoundsException", Cond.methodLink RX1 192 yX0_hasColumn, Cond.instanceMethod yX0_hasColumn, Cond.selects RX0 yX0_hasColumn yX0_hasColumn, Cond.initialized RX0, Cond.code yX0_hasColumn cX0_hasColumn 2 (some .boolean), Cond.fieldLink RX0 34 "MarbleRamps$Machine" "columnCount" "I", Cond.methodLink RX1 67 yX0_letFall, Cond.instanceMethod yX0_letFall, Cond.selects RX0 yX0_letFall yX0_letFall, Cond.code yX0_letFall cX0_letFall 3 (some .int), Cond.fieldLink RX0 38 "MarbleRamps$Machine" "rowCount" "I", Cond.fieldLink RX0 41 "MarbleRamps$Machine" "lostCount" "I", Cond.fieldLink RX0 21 "MarbleRamps$Machine" "bins" "[I", Cond.methodLink RX0 77 yX0_fallTo, Cond.instanceMethod yX0_fallTo, Cond.selects RX0 yX0_fallTo yX0_fallTo]
def wsX1_drop_r2 : List Cond := [Cond.code yX0_fallTo cX0_fallTo 6 (some .int), Cond.methodLink RX0 69 yX0_placeOf, Cond.instanceMethod yX0_placeOf, Cond.selects RX0 yX0_placeOf yX0_placeOf, Cond.code yX0_placeOf cX0_placeOf 3 (some .int), Cond.methodLink RX0 80 yX0_wayOut, Cond.instanceMethod yX0_wayOut, Cond.selects RX0 yX0_wayOut yX0_wayOut, Cond.code yX0_wayOut cX0_wayOut 5 (some .int), Cond.fieldLink RX0 9 "MarbleRamps$Machine" "parts" "[I", Cond.fieldLink RX0 18 "MarbleRamps$Machine" "states" "[I", Cond.fieldLink RX0 15 "MarbleRamps$Machine" "periods" "[I", Cond.static yX1_cell, Cond.code yX1_cell cX1_cell 2 (some .int), Cond.static yX1_setCell, Cond.code yX1_setCell cX1_setCell 3 none, Cond.methodLink RX0 83 yX0_hasColumn]
def wsX1_drop : List Cond := .code yX1_drop cX1_drop 2 (some .int) :: ((wsX1_drop_r1 ++ wsX1_drop_r2) ++ wsX10 ++ wsX00 ++ (vx_atS RX1 191 "java/lang/IndexOutOfBoundsException" ["java/lang/RuntimeException", "java/lang/Exception"]).filter goodWord)
def wsX1_run_r1 : List Cond := [Cond.fieldLink RX1 10 "MarbleRamps" "now" "LMarbleRamps$Machine;", Cond.methodLink RX1 57 yX1_needHopper, Cond.static yX1_needHopper, Cond.initialized RX1, Cond.code yX1_needHopper cX1_needHopper 1 none, Cond.classLink RX1 187 "java/lang/IndexOutOfBoundsException", Cond.initialized "java/lang/IndexOutOfBoundsException", Cond.methodLink RX1 19 yX1_needWithin, Cond.static yX1_needWithin, Cond.code yX1_needWithin cX1_needWithin 3 none, Cond.classLink RX1 199 "java/lang/IllegalArgumentException", Cond.initialized "java/lang/IllegalArgumentException", Cond.methodLink RX1 70 yX0_runFrom, Cond.instanceMethod yX0_runFrom, Cond.selects RX0 yX0_runFrom yX0_runFrom, Cond.initialized RX0, Cond.code yX0_runFrom cX0_runFrom 5 (some .int), Cond.fieldLink RX0 27 "MarbleRamps$Machine" "hopperMarbles" "[I", Cond.fieldLink RX0 24 "MarbleRamps$Machine" "hopperColumns" "[I", Cond.static yX1_cell, Cond.code yX1_cell cX1_cell 2 (some .int), Cond.static yX1_setCell, Cond.code yX1_setCell cX1_setCell 3 none, Cond.methodLink RX0 86 yX0_letFall]
def wsX1_run_r2 : List Cond := [Cond.instanceMethod yX0_letFall, Cond.selects RX0 yX0_letFall yX0_letFall, Cond.code yX0_letFall cX0_letFall 3 (some .int), Cond.fieldLink RX0 38 "MarbleRamps$Machine" "rowCount" "I", Cond.fieldLink RX0 41 "MarbleRamps$Machine" "lostCount" "I", Cond.fieldLink RX0 21 "MarbleRamps$Machine" "bins" "[I", Cond.methodLink RX0 77 yX0_fallTo, Cond.instanceMethod yX0_fallTo, Cond.selects RX0 yX0_fallTo yX0_fallTo, Cond.code yX0_fallTo cX0_fallTo 6 (some .int), Cond.methodLink RX0 69 yX0_placeOf, Cond.instanceMethod yX0_placeOf, Cond.selects RX0 yX0_placeOf yX0_placeOf, Cond.code yX0_placeOf cX0_placeOf 3 (some .int), Cond.fieldLink RX0 34 "MarbleRamps$Machine" "columnCount" "I", Cond.methodLink RX0 80 yX0_wayOut, Cond.instanceMethod yX0_wayOut, Cond.selects RX0 yX0_wayOut yX0_wayOut, Cond.code yX0_wayOut cX0_wayOut 5 (some .int), Cond.fieldLink RX0 9 "MarbleRamps$Machine" "parts" "[I", Cond.fieldLink RX0 18 "MarbleRamps$Machine" "states" "[I", Cond.fieldLink RX0 15 "MarbleRamps$Machine" "periods" "[I", Cond.methodLink RX0 83 yX0_hasColumn, Cond.instanceMethod yX0_hasColumn]
def wsX1_run_r3 : List Cond := [Cond.selects RX0 yX0_hasColumn yX0_hasColumn, Cond.code yX0_hasColumn cX0_hasColumn 2 (some .boolean), Cond.methodLink RX0 89 yX0_hopperBehind, Cond.instanceMethod yX0_hopperBehind, Cond.selects RX0 yX0_hopperBehind yX0_hopperBehind, Cond.code yX0_hopperBehind cX0_hopperBehind 3 (some .int)]
def wsX1_run : List Cond := .code yX1_run cX1_run 3 (some .int) :: ((wsX1_run_r1 ++ (wsX1_run_r2 ++ wsX1_run_r3)) ++ wsX10 ++ wsX00 ++ (vx_atS RX1 191 "java/lang/IndexOutOfBoundsException" ["java/lang/RuntimeException", "java/lang/Exception"]).filter goodWord ++ (vx_atS RX1 203 "java/lang/IllegalArgumentException" ["java/lang/RuntimeException", "java/lang/Exception"]).filter goodWord)
def wsX1_emptyBins : List Cond := .code yX1_emptyBins cX1_emptyBins 2 (some .int) :: ([.fieldLink RX1 10 "MarbleRamps" "now" "LMarbleRamps$Machine;", .methodLink RX1 73 yX0_marblesInBins, .instanceMethod yX0_marblesInBins, .selects RX0 yX0_marblesInBins yX0_marblesInBins, .initialized RX0, .code yX0_marblesInBins cX0_marblesInBins 6 (some .int), .fieldLink RX0 21 "MarbleRamps$Machine" "bins" "[I", .methodLink RX1 77 yX0_clearBins, .instanceMethod yX0_clearBins, .selects RX0 yX0_clearBins yX0_clearBins, .code yX0_clearBins cX0_clearBins 1 none, .methodLink RX0 44 yJ7_fill_53178, .static yJ7_fill_53178, .initialized RJ7, .code yJ7_fill_53178 cJ7_fill_53178 4 none] ++ wsX10 ++ wsX00)
def wsX1_columns : List Cond := .code yX1_columns cX1_columns 1 (some .int) :: ([.fieldLink RX1 10 "MarbleRamps" "now" "LMarbleRamps$Machine;", .fieldLink RX1 80 "MarbleRamps$Machine" "columnCount" "I"] ++ wsX10 ++ wsX00)
def wsX1_rows : List Cond := .code yX1_rows cX1_rows 1 (some .int) :: ([.fieldLink RX1 10 "MarbleRamps" "now" "LMarbleRamps$Machine;", .fieldLink RX1 84 "MarbleRamps$Machine" "rowCount" "I"] ++ wsX10 ++ wsX00)
def wsX1_partAt_r1 : List Cond := [Cond.fieldLink RX1 10 "MarbleRamps" "now" "LMarbleRamps$Machine;", Cond.methodLink RX1 27 yX1_needPlace, Cond.instanceMethod yX1_needPlace, Cond.selects RX1 yX1_needPlace yX1_needPlace, Cond.initialized RX1, Cond.code yX1_needPlace cX1_needPlace 3 none, Cond.methodLink RX1 110 yX1_needRow, Cond.instanceMethod yX1_needRow, Cond.selects RX1 yX1_needRow yX1_needRow, Cond.code yX1_needRow cX1_needRow 2 none, Cond.classLink RX1 187 "java/lang/IndexOutOfBoundsException", Cond.initialized "java/lang/IndexOutOfBoundsException", Cond.methodLink RX1 184 yX0_hasRow, Cond.instanceMethod yX0_hasRow, Cond.selects RX0 yX0_hasRow yX0_hasRow, Cond.initialized RX0, Cond.code yX0_hasRow cX0_hasRow 2 (some .boolean), Cond.fieldLink RX0 38 "MarbleRamps$Machine" "rowCount" "I", Cond.methodLink RX1 60 yX1_needColumn, Cond.instanceMethod yX1_needColumn, Cond.selects RX1 yX1_needColumn yX1_needColumn, Cond.code yX1_needColumn cX1_needColumn 2 none, Cond.methodLink RX1 192 yX0_hasColumn, Cond.instanceMethod yX0_hasColumn]
def wsX1_partAt_r2 : List Cond := [Cond.selects RX0 yX0_hasColumn yX0_hasColumn, Cond.code yX0_hasColumn cX0_hasColumn 2 (some .boolean), Cond.fieldLink RX0 34 "MarbleRamps$Machine" "columnCount" "I", Cond.methodLink RX1 34 yX0_placeOf, Cond.instanceMethod yX0_placeOf, Cond.selects RX0 yX0_placeOf yX0_placeOf, Cond.code yX0_placeOf cX0_placeOf 3 (some .int), Cond.methodLink RX1 38 yX0_partIn, Cond.instanceMethod yX0_partIn, Cond.selects RX0 yX0_partIn yX0_partIn, Cond.code yX0_partIn cX0_partIn 2 (some .int), Cond.fieldLink RX0 9 "MarbleRamps$Machine" "parts" "[I", Cond.static yX1_cell, Cond.code yX1_cell cX1_cell 2 (some .int)]
def wsX1_partAt : List Cond := .code yX1_partAt cX1_partAt 3 (some .int) :: ((wsX1_partAt_r1 ++ wsX1_partAt_r2) ++ wsX10 ++ wsX00 ++ (vx_atS RX1 191 "java/lang/IndexOutOfBoundsException" ["java/lang/RuntimeException", "java/lang/Exception"]).filter goodWord)
def wsX1_leadsRight_r1 : List Cond := [Cond.fieldLink RX1 10 "MarbleRamps" "now" "LMarbleRamps$Machine;", Cond.methodLink RX1 27 yX1_needPlace, Cond.instanceMethod yX1_needPlace, Cond.selects RX1 yX1_needPlace yX1_needPlace, Cond.initialized RX1, Cond.code yX1_needPlace cX1_needPlace 3 none, Cond.methodLink RX1 110 yX1_needRow, Cond.instanceMethod yX1_needRow, Cond.selects RX1 yX1_needRow yX1_needRow, Cond.code yX1_needRow cX1_needRow 2 none, Cond.classLink RX1 187 "java/lang/IndexOutOfBoundsException", Cond.initialized "java/lang/IndexOutOfBoundsException", Cond.methodLink RX1 184 yX0_hasRow, Cond.instanceMethod yX0_hasRow, Cond.selects RX0 yX0_hasRow yX0_hasRow, Cond.initialized RX0, Cond.code yX0_hasRow cX0_hasRow 2 (some .boolean), Cond.fieldLink RX0 38 "MarbleRamps$Machine" "rowCount" "I", Cond.methodLink RX1 60 yX1_needColumn, Cond.instanceMethod yX1_needColumn, Cond.selects RX1 yX1_needColumn yX1_needColumn, Cond.code yX1_needColumn cX1_needColumn 2 none, Cond.methodLink RX1 192 yX0_hasColumn, Cond.instanceMethod yX0_hasColumn]
def wsX1_leadsRight_r2 : List Cond := [Cond.selects RX0 yX0_hasColumn yX0_hasColumn, Cond.code yX0_hasColumn cX0_hasColumn 2 (some .boolean), Cond.fieldLink RX0 34 "MarbleRamps$Machine" "columnCount" "I", Cond.methodLink RX1 34 yX0_placeOf, Cond.instanceMethod yX0_placeOf, Cond.selects RX0 yX0_placeOf yX0_placeOf, Cond.code yX0_placeOf cX0_placeOf 3 (some .int), Cond.methodLink RX1 53 yX0_isRightToggle, Cond.instanceMethod yX0_isRightToggle, Cond.selects RX0 yX0_isRightToggle yX0_isRightToggle, Cond.code yX0_isRightToggle cX0_isRightToggle 2 (some .boolean), Cond.fieldLink RX0 18 "MarbleRamps$Machine" "states" "[I", Cond.methodLink RX0 65 yX0_partIn, Cond.instanceMethod yX0_partIn, Cond.selects RX0 yX0_partIn yX0_partIn, Cond.code yX0_partIn cX0_partIn 2 (some .int), Cond.fieldLink RX0 9 "MarbleRamps$Machine" "parts" "[I", Cond.static yX1_cell, Cond.code yX1_cell cX1_cell 2 (some .int)]
def wsX1_leadsRight : List Cond := .code yX1_leadsRight cX1_leadsRight 3 (some .boolean) :: ((wsX1_leadsRight_r1 ++ wsX1_leadsRight_r2) ++ wsX10 ++ wsX00 ++ (vx_atS RX1 191 "java/lang/IndexOutOfBoundsException" ["java/lang/RuntimeException", "java/lang/Exception"]).filter goodWord)
def wsX1_countAt_r1 : List Cond := [Cond.fieldLink RX1 10 "MarbleRamps" "now" "LMarbleRamps$Machine;", Cond.methodLink RX1 27 yX1_needPlace, Cond.instanceMethod yX1_needPlace, Cond.selects RX1 yX1_needPlace yX1_needPlace, Cond.initialized RX1, Cond.code yX1_needPlace cX1_needPlace 3 none, Cond.methodLink RX1 110 yX1_needRow, Cond.instanceMethod yX1_needRow, Cond.selects RX1 yX1_needRow yX1_needRow, Cond.code yX1_needRow cX1_needRow 2 none, Cond.classLink RX1 187 "java/lang/IndexOutOfBoundsException", Cond.initialized "java/lang/IndexOutOfBoundsException", Cond.methodLink RX1 184 yX0_hasRow, Cond.instanceMethod yX0_hasRow, Cond.selects RX0 yX0_hasRow yX0_hasRow, Cond.initialized RX0, Cond.code yX0_hasRow cX0_hasRow 2 (some .boolean), Cond.fieldLink RX0 38 "MarbleRamps$Machine" "rowCount" "I", Cond.methodLink RX1 60 yX1_needColumn, Cond.instanceMethod yX1_needColumn, Cond.selects RX1 yX1_needColumn yX1_needColumn, Cond.code yX1_needColumn cX1_needColumn 2 none, Cond.methodLink RX1 192 yX0_hasColumn, Cond.instanceMethod yX0_hasColumn]
def wsX1_countAt_r2 : List Cond := [Cond.selects RX0 yX0_hasColumn yX0_hasColumn, Cond.code yX0_hasColumn cX0_hasColumn 2 (some .boolean), Cond.fieldLink RX0 34 "MarbleRamps$Machine" "columnCount" "I", Cond.methodLink RX1 34 yX0_placeOf, Cond.instanceMethod yX0_placeOf, Cond.selects RX0 yX0_placeOf yX0_placeOf, Cond.code yX0_placeOf cX0_placeOf 3 (some .int), Cond.methodLink RX1 87 yX0_countedIn, Cond.instanceMethod yX0_countedIn, Cond.selects RX0 yX0_countedIn yX0_countedIn, Cond.code yX0_countedIn cX0_countedIn 2 (some .int), Cond.fieldLink RX0 18 "MarbleRamps$Machine" "states" "[I", Cond.methodLink RX0 65 yX0_partIn, Cond.instanceMethod yX0_partIn, Cond.selects RX0 yX0_partIn yX0_partIn, Cond.code yX0_partIn cX0_partIn 2 (some .int), Cond.fieldLink RX0 9 "MarbleRamps$Machine" "parts" "[I", Cond.static yX1_cell, Cond.code yX1_cell cX1_cell 2 (some .int)]
def wsX1_countAt : List Cond := .code yX1_countAt cX1_countAt 3 (some .int) :: ((wsX1_countAt_r1 ++ wsX1_countAt_r2) ++ wsX10 ++ wsX00 ++ (vx_atS RX1 191 "java/lang/IndexOutOfBoundsException" ["java/lang/RuntimeException", "java/lang/Exception"]).filter goodWord)
def wsX1_binOf : List Cond := .code yX1_binOf cX1_binOf 2 (some .int) :: ([.fieldLink RX1 10 "MarbleRamps" "now" "LMarbleRamps$Machine;", .fieldLink RX1 90 "MarbleRamps$Machine" "bins" "[I", .methodLink RX1 60 yX1_needColumn, .instanceMethod yX1_needColumn, .selects RX1 yX1_needColumn yX1_needColumn, .initialized RX1, .code yX1_needColumn cX1_needColumn 2 none, .classLink RX1 187 "java/lang/IndexOutOfBoundsException", .initialized "java/lang/IndexOutOfBoundsException", .methodLink RX1 192 yX0_hasColumn, .instanceMethod yX0_hasColumn, .selects RX0 yX0_hasColumn yX0_hasColumn, .initialized RX0, .code yX0_hasColumn cX0_hasColumn 2 (some .boolean), .fieldLink RX0 34 "MarbleRamps$Machine" "columnCount" "I", .methodLink RX1 94 yX1_cell, .static yX1_cell, .code yX1_cell cX1_cell 2 (some .int)] ++ wsX10 ++ wsX00 ++ (vx_atS RX1 191 "java/lang/IndexOutOfBoundsException" ["java/lang/RuntimeException", "java/lang/Exception"]).filter goodWord)
def wsX1_lost : List Cond := .code yX1_lost cX1_lost 1 (some .int) :: ([.fieldLink RX1 10 "MarbleRamps" "now" "LMarbleRamps$Machine;", .fieldLink RX1 98 "MarbleRamps$Machine" "lostCount" "I"] ++ wsX10 ++ wsX00)
def wsX1_marblesIn : List Cond := .code yX1_marblesIn cX1_marblesIn 2 (some .int) :: ([.fieldLink RX1 10 "MarbleRamps" "now" "LMarbleRamps$Machine;", .fieldLink RX1 101 "MarbleRamps$Machine" "hopperMarbles" "[I", .methodLink RX1 57 yX1_needHopper, .static yX1_needHopper, .initialized RX1, .code yX1_needHopper cX1_needHopper 1 none, .classLink RX1 187 "java/lang/IndexOutOfBoundsException", .initialized "java/lang/IndexOutOfBoundsException", .methodLink RX1 94 yX1_cell, .static yX1_cell, .code yX1_cell cX1_cell 2 (some .int)] ++ wsX10 ++ wsX00 ++ (vx_atS RX1 191 "java/lang/IndexOutOfBoundsException" ["java/lang/RuntimeException", "java/lang/Exception"]).filter goodWord)
def wsX1_columnOf : List Cond := .code yX1_columnOf cX1_columnOf 2 (some .int) :: ([.fieldLink RX1 10 "MarbleRamps" "now" "LMarbleRamps$Machine;", .fieldLink RX1 104 "MarbleRamps$Machine" "hopperColumns" "[I", .methodLink RX1 57 yX1_needHopper, .static yX1_needHopper, .initialized RX1, .code yX1_needHopper cX1_needHopper 1 none, .classLink RX1 187 "java/lang/IndexOutOfBoundsException", .initialized "java/lang/IndexOutOfBoundsException", .methodLink RX1 94 yX1_cell, .static yX1_cell, .code yX1_cell cX1_cell 2 (some .int)] ++ wsX10 ++ wsX00 ++ (vx_atS RX1 191 "java/lang/IndexOutOfBoundsException" ["java/lang/RuntimeException", "java/lang/Exception"]).filter goodWord)
def wsX1_toggles : List Cond := .code yX1_toggles cX1_toggles 1 (some .int) :: ([.fieldLink RX1 10 "MarbleRamps" "now" "LMarbleRamps$Machine;", .methodLink RX1 107 yX0_countToggles, .instanceMethod yX0_countToggles, .selects RX0 yX0_countToggles yX0_countToggles, .initialized RX0, .code yX0_countToggles cX0_countToggles 6 (some .int), .fieldLink RX0 9 "MarbleRamps$Machine" "parts" "[I"] ++ wsX10 ++ wsX00)
def wsX1_numberIn_r1 : List Cond := [Cond.fieldLink RX1 10 "MarbleRamps" "now" "LMarbleRamps$Machine;", Cond.methodLink RX1 110 yX1_needRow, Cond.instanceMethod yX1_needRow, Cond.selects RX1 yX1_needRow yX1_needRow, Cond.initialized RX1, Cond.code yX1_needRow cX1_needRow 2 none, Cond.classLink RX1 187 "java/lang/IndexOutOfBoundsException", Cond.initialized "java/lang/IndexOutOfBoundsException", Cond.methodLink RX1 184 yX0_hasRow, Cond.instanceMethod yX0_hasRow, Cond.selects RX0 yX0_hasRow yX0_hasRow, Cond.initialized RX0, Cond.code yX0_hasRow cX0_hasRow 2 (some .boolean), Cond.fieldLink RX0 38 "MarbleRamps$Machine" "rowCount" "I", Cond.methodLink RX1 113 yX0_numberToldBy, Cond.instanceMethod yX0_numberToldBy, Cond.selects RX0 yX0_numberToldBy yX0_numberToldBy, Cond.code yX0_numberToldBy cX0_numberToldBy 6 (some .int), Cond.fieldLink RX0 34 "MarbleRamps$Machine" "columnCount" "I", Cond.methodLink RX0 69 yX0_placeOf, Cond.instanceMethod yX0_placeOf, Cond.selects RX0 yX0_placeOf yX0_placeOf, Cond.code yX0_placeOf cX0_placeOf 3 (some .int), Cond.methodLink RX0 65 yX0_partIn]
def wsX1_numberIn_r2 : List Cond := [Cond.instanceMethod yX0_partIn, Cond.selects RX0 yX0_partIn yX0_partIn, Cond.code yX0_partIn cX0_partIn 2 (some .int), Cond.fieldLink RX0 9 "MarbleRamps$Machine" "parts" "[I", Cond.static yX1_cell, Cond.code yX1_cell cX1_cell 2 (some .int), Cond.methodLink RX0 73 yX0_isRightToggle, Cond.instanceMethod yX0_isRightToggle, Cond.selects RX0 yX0_isRightToggle yX0_isRightToggle, Cond.code yX0_isRightToggle cX0_isRightToggle 2 (some .boolean), Cond.fieldLink RX0 18 "MarbleRamps$Machine" "states" "[I"]
def wsX1_numberIn : List Cond := .code yX1_numberIn cX1_numberIn 2 (some .int) :: ((wsX1_numberIn_r1 ++ wsX1_numberIn_r2) ++ wsX10 ++ wsX00 ++ (vx_atS RX1 191 "java/lang/IndexOutOfBoundsException" ["java/lang/RuntimeException", "java/lang/Exception"]).filter goodWord)
def wsX1_wouldLand_r1 : List Cond := [Cond.fieldLink RX1 16 "MarbleRamps" "trial" "LMarbleRamps$Machine;", Cond.fieldLink RX1 10 "MarbleRamps" "now" "LMarbleRamps$Machine;", Cond.methodLink RX1 60 yX1_needColumn, Cond.instanceMethod yX1_needColumn, Cond.selects RX1 yX1_needColumn yX1_needColumn, Cond.initialized RX1, Cond.code yX1_needColumn cX1_needColumn 2 none, Cond.classLink RX1 187 "java/lang/IndexOutOfBoundsException", Cond.initialized "java/lang/IndexOutOfBoundsException", Cond.methodLink RX1 192 yX0_hasColumn, Cond.instanceMethod yX0_hasColumn, Cond.selects RX0 yX0_hasColumn yX0_hasColumn, Cond.initialized RX0, Cond.code yX0_hasColumn cX0_hasColumn 2 (some .boolean), Cond.fieldLink RX0 34 "MarbleRamps$Machine" "columnCount" "I", Cond.methodLink RX1 116 yX0_becomeLike, Cond.instanceMethod yX0_becomeLike, Cond.selects RX0 yX0_becomeLike yX0_becomeLike, Cond.code yX0_becomeLike cX0_becomeLike 2 none, Cond.fieldLink RX0 38 "MarbleRamps$Machine" "rowCount" "I", Cond.fieldLink RX0 41 "MarbleRamps$Machine" "lostCount" "I", Cond.fieldLink RX0 9 "MarbleRamps$Machine" "parts" "[I", Cond.fieldLink RX0 15 "MarbleRamps$Machine" "periods" "[I", Cond.fieldLink RX0 18 "MarbleRamps$Machine" "states" "[I"]
def wsX1_wouldLand_r2 : List Cond := [Cond.fieldLink RX0 21 "MarbleRamps$Machine" "bins" "[I", Cond.fieldLink RX0 24 "MarbleRamps$Machine" "hopperColumns" "[I", Cond.fieldLink RX0 27 "MarbleRamps$Machine" "hopperMarbles" "[I", Cond.static yX1_copyCells, Cond.code yX1_copyCells cX1_copyCells 3 none, Cond.methodLink RX1 204 yX1_setCell, Cond.static yX1_setCell, Cond.code yX1_setCell cX1_setCell 3 none, Cond.methodLink RX1 67 yX0_letFall, Cond.instanceMethod yX0_letFall, Cond.selects RX0 yX0_letFall yX0_letFall, Cond.code yX0_letFall cX0_letFall 3 (some .int), Cond.methodLink RX0 77 yX0_fallTo, Cond.instanceMethod yX0_fallTo, Cond.selects RX0 yX0_fallTo yX0_fallTo, Cond.code yX0_fallTo cX0_fallTo 6 (some .int), Cond.methodLink RX0 69 yX0_placeOf, Cond.instanceMethod yX0_placeOf, Cond.selects RX0 yX0_placeOf yX0_placeOf, Cond.code yX0_placeOf cX0_placeOf 3 (some .int), Cond.methodLink RX0 80 yX0_wayOut, Cond.instanceMethod yX0_wayOut, Cond.selects RX0 yX0_wayOut yX0_wayOut, Cond.code yX0_wayOut cX0_wayOut 5 (some .int)]
def wsX1_wouldLand_r3 : List Cond := [Cond.static yX1_cell, Cond.code yX1_cell cX1_cell 2 (some .int), Cond.methodLink RX0 83 yX0_hasColumn]
def wsX1_wouldLand : List Cond := .code yX1_wouldLand cX1_wouldLand 2 (some .int) :: ((wsX1_wouldLand_r1 ++ (wsX1_wouldLand_r2 ++ wsX1_wouldLand_r3)) ++ wsX10 ++ wsX00 ++ (vx_atS RX1 191 "java/lang/IndexOutOfBoundsException" ["java/lang/RuntimeException", "java/lang/Exception"]).filter goodWord)
def wsX1_wouldBeIn_r1 : List Cond := [Cond.fieldLink RX1 16 "MarbleRamps" "trial" "LMarbleRamps$Machine;", Cond.fieldLink RX1 10 "MarbleRamps" "now" "LMarbleRamps$Machine;", Cond.methodLink RX1 60 yX1_needColumn, Cond.instanceMethod yX1_needColumn, Cond.selects RX1 yX1_needColumn yX1_needColumn, Cond.initialized RX1, Cond.code yX1_needColumn cX1_needColumn 2 none, Cond.classLink RX1 187 "java/lang/IndexOutOfBoundsException", Cond.initialized "java/lang/IndexOutOfBoundsException", Cond.methodLink RX1 192 yX0_hasColumn, Cond.instanceMethod yX0_hasColumn, Cond.selects RX0 yX0_hasColumn yX0_hasColumn, Cond.initialized RX0, Cond.code yX0_hasColumn cX0_hasColumn 2 (some .boolean), Cond.fieldLink RX0 34 "MarbleRamps$Machine" "columnCount" "I", Cond.methodLink RX1 110 yX1_needRow, Cond.instanceMethod yX1_needRow, Cond.selects RX1 yX1_needRow yX1_needRow, Cond.code yX1_needRow cX1_needRow 2 none, Cond.methodLink RX1 184 yX0_hasRow, Cond.instanceMethod yX0_hasRow, Cond.selects RX0 yX0_hasRow yX0_hasRow, Cond.code yX0_hasRow cX0_hasRow 2 (some .boolean), Cond.fieldLink RX0 38 "MarbleRamps$Machine" "rowCount" "I"]
def wsX1_wouldBeIn_r2 : List Cond := [Cond.methodLink RX1 116 yX0_becomeLike, Cond.instanceMethod yX0_becomeLike, Cond.selects RX0 yX0_becomeLike yX0_becomeLike, Cond.code yX0_becomeLike cX0_becomeLike 2 none, Cond.fieldLink RX0 41 "MarbleRamps$Machine" "lostCount" "I", Cond.fieldLink RX0 9 "MarbleRamps$Machine" "parts" "[I", Cond.fieldLink RX0 15 "MarbleRamps$Machine" "periods" "[I", Cond.fieldLink RX0 18 "MarbleRamps$Machine" "states" "[I", Cond.fieldLink RX0 21 "MarbleRamps$Machine" "bins" "[I", Cond.fieldLink RX0 24 "MarbleRamps$Machine" "hopperColumns" "[I", Cond.fieldLink RX0 27 "MarbleRamps$Machine" "hopperMarbles" "[I", Cond.static yX1_copyCells, Cond.code yX1_copyCells cX1_copyCells 3 none, Cond.methodLink RX1 204 yX1_setCell, Cond.static yX1_setCell, Cond.code yX1_setCell cX1_setCell 3 none, Cond.methodLink RX1 120 yX0_fallTo, Cond.instanceMethod yX0_fallTo, Cond.selects RX0 yX0_fallTo yX0_fallTo, Cond.code yX0_fallTo cX0_fallTo 6 (some .int), Cond.methodLink RX0 69 yX0_placeOf, Cond.instanceMethod yX0_placeOf, Cond.selects RX0 yX0_placeOf yX0_placeOf, Cond.code yX0_placeOf cX0_placeOf 3 (some .int)]
def wsX1_wouldBeIn_r3 : List Cond := [Cond.methodLink RX0 80 yX0_wayOut, Cond.instanceMethod yX0_wayOut, Cond.selects RX0 yX0_wayOut yX0_wayOut, Cond.code yX0_wayOut cX0_wayOut 5 (some .int), Cond.static yX1_cell, Cond.code yX1_cell cX1_cell 2 (some .int), Cond.methodLink RX0 83 yX0_hasColumn]
def wsX1_wouldBeIn : List Cond := .code yX1_wouldBeIn cX1_wouldBeIn 3 (some .int) :: ((wsX1_wouldBeIn_r1 ++ (wsX1_wouldBeIn_r2 ++ wsX1_wouldBeIn_r3)) ++ wsX10 ++ wsX00 ++ (vx_atS RX1 191 "java/lang/IndexOutOfBoundsException" ["java/lang/RuntimeException", "java/lang/Exception"]).filter goodWord)
def wsX1_wouldTurn_r1 : List Cond := [Cond.fieldLink RX1 16 "MarbleRamps" "trial" "LMarbleRamps$Machine;", Cond.fieldLink RX1 10 "MarbleRamps" "now" "LMarbleRamps$Machine;", Cond.methodLink RX1 60 yX1_needColumn, Cond.instanceMethod yX1_needColumn, Cond.selects RX1 yX1_needColumn yX1_needColumn, Cond.initialized RX1, Cond.code yX1_needColumn cX1_needColumn 2 none, Cond.classLink RX1 187 "java/lang/IndexOutOfBoundsException", Cond.initialized "java/lang/IndexOutOfBoundsException", Cond.methodLink RX1 192 yX0_hasColumn, Cond.instanceMethod yX0_hasColumn, Cond.selects RX0 yX0_hasColumn yX0_hasColumn, Cond.initialized RX0, Cond.code yX0_hasColumn cX0_hasColumn 2 (some .boolean), Cond.fieldLink RX0 34 "MarbleRamps$Machine" "columnCount" "I", Cond.methodLink RX1 116 yX0_becomeLike, Cond.instanceMethod yX0_becomeLike, Cond.selects RX0 yX0_becomeLike yX0_becomeLike, Cond.code yX0_becomeLike cX0_becomeLike 2 none, Cond.fieldLink RX0 38 "MarbleRamps$Machine" "rowCount" "I", Cond.fieldLink RX0 41 "MarbleRamps$Machine" "lostCount" "I", Cond.fieldLink RX0 9 "MarbleRamps$Machine" "parts" "[I", Cond.fieldLink RX0 15 "MarbleRamps$Machine" "periods" "[I", Cond.fieldLink RX0 18 "MarbleRamps$Machine" "states" "[I"]
def wsX1_wouldTurn_r2 : List Cond := [Cond.fieldLink RX0 21 "MarbleRamps$Machine" "bins" "[I", Cond.fieldLink RX0 24 "MarbleRamps$Machine" "hopperColumns" "[I", Cond.fieldLink RX0 27 "MarbleRamps$Machine" "hopperMarbles" "[I", Cond.static yX1_copyCells, Cond.code yX1_copyCells cX1_copyCells 3 none, Cond.methodLink RX1 204 yX1_setCell, Cond.static yX1_setCell, Cond.code yX1_setCell cX1_setCell 3 none, Cond.methodLink RX1 67 yX0_letFall, Cond.instanceMethod yX0_letFall, Cond.selects RX0 yX0_letFall yX0_letFall, Cond.code yX0_letFall cX0_letFall 3 (some .int), Cond.methodLink RX0 77 yX0_fallTo, Cond.instanceMethod yX0_fallTo, Cond.selects RX0 yX0_fallTo yX0_fallTo, Cond.code yX0_fallTo cX0_fallTo 6 (some .int), Cond.methodLink RX0 69 yX0_placeOf, Cond.instanceMethod yX0_placeOf, Cond.selects RX0 yX0_placeOf yX0_placeOf, Cond.code yX0_placeOf cX0_placeOf 3 (some .int), Cond.methodLink RX0 80 yX0_wayOut, Cond.instanceMethod yX0_wayOut, Cond.selects RX0 yX0_wayOut yX0_wayOut, Cond.code yX0_wayOut cX0_wayOut 5 (some .int)]
def wsX1_wouldTurn_r3 : List Cond := [Cond.static yX1_cell, Cond.code yX1_cell cX1_cell 2 (some .int), Cond.methodLink RX0 83 yX0_hasColumn, Cond.methodLink RX1 123 yX0_togglesUnlike, Cond.instanceMethod yX0_togglesUnlike, Cond.selects RX0 yX0_togglesUnlike yX0_togglesUnlike, Cond.code yX0_togglesUnlike cX0_togglesUnlike 4 (some .int), Cond.methodLink RX0 73 yX0_isRightToggle, Cond.instanceMethod yX0_isRightToggle, Cond.selects RX0 yX0_isRightToggle yX0_isRightToggle, Cond.code yX0_isRightToggle cX0_isRightToggle 2 (some .boolean), Cond.methodLink RX0 65 yX0_partIn, Cond.instanceMethod yX0_partIn, Cond.selects RX0 yX0_partIn yX0_partIn, Cond.code yX0_partIn cX0_partIn 2 (some .int)]
def wsX1_wouldTurn : List Cond := .code yX1_wouldTurn cX1_wouldTurn 2 (some .int) :: ((wsX1_wouldTurn_r1 ++ (wsX1_wouldTurn_r2 ++ wsX1_wouldTurn_r3)) ++ wsX10 ++ wsX00 ++ (vx_atS RX1 191 "java/lang/IndexOutOfBoundsException" ["java/lang/RuntimeException", "java/lang/Exception"]).filter goodWord)
def wsX1_lastLands_r1 : List Cond := [Cond.fieldLink RX1 16 "MarbleRamps" "trial" "LMarbleRamps$Machine;", Cond.fieldLink RX1 10 "MarbleRamps" "now" "LMarbleRamps$Machine;", Cond.methodLink RX1 60 yX1_needColumn, Cond.instanceMethod yX1_needColumn, Cond.selects RX1 yX1_needColumn yX1_needColumn, Cond.initialized RX1, Cond.code yX1_needColumn cX1_needColumn 2 none, Cond.classLink RX1 187 "java/lang/IndexOutOfBoundsException", Cond.initialized "java/lang/IndexOutOfBoundsException", Cond.methodLink RX1 192 yX0_hasColumn, Cond.instanceMethod yX0_hasColumn, Cond.selects RX0 yX0_hasColumn yX0_hasColumn, Cond.initialized RX0, Cond.code yX0_hasColumn cX0_hasColumn 2 (some .boolean), Cond.fieldLink RX0 34 "MarbleRamps$Machine" "columnCount" "I", Cond.methodLink RX1 19 yX1_needWithin, Cond.static yX1_needWithin, Cond.code yX1_needWithin cX1_needWithin 3 none, Cond.classLink RX1 199 "java/lang/IllegalArgumentException", Cond.initialized "java/lang/IllegalArgumentException", Cond.methodLink RX1 116 yX0_becomeLike, Cond.instanceMethod yX0_becomeLike, Cond.selects RX0 yX0_becomeLike yX0_becomeLike, Cond.code yX0_becomeLike cX0_becomeLike 2 none]
def wsX1_lastLands_r2 : List Cond := [Cond.fieldLink RX0 38 "MarbleRamps$Machine" "rowCount" "I", Cond.fieldLink RX0 41 "MarbleRamps$Machine" "lostCount" "I", Cond.fieldLink RX0 9 "MarbleRamps$Machine" "parts" "[I", Cond.fieldLink RX0 15 "MarbleRamps$Machine" "periods" "[I", Cond.fieldLink RX0 18 "MarbleRamps$Machine" "states" "[I", Cond.fieldLink RX0 21 "MarbleRamps$Machine" "bins" "[I", Cond.fieldLink RX0 24 "MarbleRamps$Machine" "hopperColumns" "[I", Cond.fieldLink RX0 27 "MarbleRamps$Machine" "hopperMarbles" "[I", Cond.static yX1_copyCells, Cond.code yX1_copyCells cX1_copyCells 3 none, Cond.methodLink RX1 204 yX1_setCell, Cond.static yX1_setCell, Cond.code yX1_setCell cX1_setCell 3 none, Cond.methodLink RX1 67 yX0_letFall, Cond.instanceMethod yX0_letFall, Cond.selects RX0 yX0_letFall yX0_letFall, Cond.code yX0_letFall cX0_letFall 3 (some .int), Cond.methodLink RX0 77 yX0_fallTo, Cond.instanceMethod yX0_fallTo, Cond.selects RX0 yX0_fallTo yX0_fallTo, Cond.code yX0_fallTo cX0_fallTo 6 (some .int), Cond.methodLink RX0 69 yX0_placeOf, Cond.instanceMethod yX0_placeOf, Cond.selects RX0 yX0_placeOf yX0_placeOf]
def wsX1_lastLands_r3 : List Cond := [Cond.code yX0_placeOf cX0_placeOf 3 (some .int), Cond.methodLink RX0 80 yX0_wayOut, Cond.instanceMethod yX0_wayOut, Cond.selects RX0 yX0_wayOut yX0_wayOut, Cond.code yX0_wayOut cX0_wayOut 5 (some .int), Cond.static yX1_cell, Cond.code yX1_cell cX1_cell 2 (some .int), Cond.methodLink RX0 83 yX0_hasColumn]
def wsX1_lastLands : List Cond := .code yX1_lastLands cX1_lastLands 5 (some .int) :: ((wsX1_lastLands_r1 ++ (wsX1_lastLands_r2 ++ wsX1_lastLands_r3)) ++ wsX10 ++ wsX00 ++ (vx_atS RX1 191 "java/lang/IndexOutOfBoundsException" ["java/lang/RuntimeException", "java/lang/Exception"]).filter goodWord ++ (vx_atS RX1 203 "java/lang/IllegalArgumentException" ["java/lang/RuntimeException", "java/lang/Exception"]).filter goodWord)
def wsX1_asBeforeIn_r1 : List Cond := [Cond.fieldLink RX1 16 "MarbleRamps" "trial" "LMarbleRamps$Machine;", Cond.fieldLink RX1 10 "MarbleRamps" "now" "LMarbleRamps$Machine;", Cond.methodLink RX1 60 yX1_needColumn, Cond.instanceMethod yX1_needColumn, Cond.selects RX1 yX1_needColumn yX1_needColumn, Cond.initialized RX1, Cond.code yX1_needColumn cX1_needColumn 2 none, Cond.classLink RX1 187 "java/lang/IndexOutOfBoundsException", Cond.initialized "java/lang/IndexOutOfBoundsException", Cond.methodLink RX1 192 yX0_hasColumn, Cond.instanceMethod yX0_hasColumn, Cond.selects RX0 yX0_hasColumn yX0_hasColumn, Cond.initialized RX0, Cond.code yX0_hasColumn cX0_hasColumn 2 (some .boolean), Cond.fieldLink RX0 34 "MarbleRamps$Machine" "columnCount" "I", Cond.methodLink RX1 116 yX0_becomeLike, Cond.instanceMethod yX0_becomeLike, Cond.selects RX0 yX0_becomeLike yX0_becomeLike, Cond.code yX0_becomeLike cX0_becomeLike 2 none, Cond.fieldLink RX0 38 "MarbleRamps$Machine" "rowCount" "I", Cond.fieldLink RX0 41 "MarbleRamps$Machine" "lostCount" "I", Cond.fieldLink RX0 9 "MarbleRamps$Machine" "parts" "[I", Cond.fieldLink RX0 15 "MarbleRamps$Machine" "periods" "[I", Cond.fieldLink RX0 18 "MarbleRamps$Machine" "states" "[I"]
def wsX1_asBeforeIn_r2 : List Cond := [Cond.fieldLink RX0 21 "MarbleRamps$Machine" "bins" "[I", Cond.fieldLink RX0 24 "MarbleRamps$Machine" "hopperColumns" "[I", Cond.fieldLink RX0 27 "MarbleRamps$Machine" "hopperMarbles" "[I", Cond.static yX1_copyCells, Cond.code yX1_copyCells cX1_copyCells 3 none, Cond.methodLink RX1 204 yX1_setCell, Cond.static yX1_setCell, Cond.code yX1_setCell cX1_setCell 3 none, Cond.methodLink RX1 67 yX0_letFall, Cond.instanceMethod yX0_letFall, Cond.selects RX0 yX0_letFall yX0_letFall, Cond.code yX0_letFall cX0_letFall 3 (some .int), Cond.methodLink RX0 77 yX0_fallTo, Cond.instanceMethod yX0_fallTo, Cond.selects RX0 yX0_fallTo yX0_fallTo, Cond.code yX0_fallTo cX0_fallTo 6 (some .int), Cond.methodLink RX0 69 yX0_placeOf, Cond.instanceMethod yX0_placeOf, Cond.selects RX0 yX0_placeOf yX0_placeOf, Cond.code yX0_placeOf cX0_placeOf 3 (some .int), Cond.methodLink RX0 80 yX0_wayOut, Cond.instanceMethod yX0_wayOut, Cond.selects RX0 yX0_wayOut yX0_wayOut, Cond.code yX0_wayOut cX0_wayOut 5 (some .int)]
def wsX1_asBeforeIn_r3 : List Cond := [Cond.static yX1_cell, Cond.code yX1_cell cX1_cell 2 (some .int), Cond.methodLink RX0 83 yX0_hasColumn, Cond.methodLink RX1 127 yX0_hasStatesOf, Cond.instanceMethod yX0_hasStatesOf, Cond.selects RX0 yX0_hasStatesOf yX0_hasStatesOf, Cond.code yX0_hasStatesOf cX0_hasStatesOf 3 (some .boolean)]
def wsX1_asBeforeIn : List Cond := .code yX1_asBeforeIn cX1_asBeforeIn 3 (some .int) :: ((wsX1_asBeforeIn_r1 ++ (wsX1_asBeforeIn_r2 ++ wsX1_asBeforeIn_r3)) ++ wsX10 ++ wsX00 ++ (vx_atS RX1 191 "java/lang/IndexOutOfBoundsException" ["java/lang/RuntimeException", "java/lang/Exception"]).filter goodWord)
def wsX1_wouldRun_r1 : List Cond := [Cond.fieldLink RX1 16 "MarbleRamps" "trial" "LMarbleRamps$Machine;", Cond.fieldLink RX1 10 "MarbleRamps" "now" "LMarbleRamps$Machine;", Cond.methodLink RX1 57 yX1_needHopper, Cond.static yX1_needHopper, Cond.initialized RX1, Cond.code yX1_needHopper cX1_needHopper 1 none, Cond.classLink RX1 187 "java/lang/IndexOutOfBoundsException", Cond.initialized "java/lang/IndexOutOfBoundsException", Cond.methodLink RX1 116 yX0_becomeLike, Cond.instanceMethod yX0_becomeLike, Cond.selects RX0 yX0_becomeLike yX0_becomeLike, Cond.initialized RX0, Cond.code yX0_becomeLike cX0_becomeLike 2 none, Cond.fieldLink RX0 34 "MarbleRamps$Machine" "columnCount" "I", Cond.fieldLink RX0 38 "MarbleRamps$Machine" "rowCount" "I", Cond.fieldLink RX0 41 "MarbleRamps$Machine" "lostCount" "I", Cond.fieldLink RX0 9 "MarbleRamps$Machine" "parts" "[I", Cond.fieldLink RX0 15 "MarbleRamps$Machine" "periods" "[I", Cond.fieldLink RX0 18 "MarbleRamps$Machine" "states" "[I", Cond.fieldLink RX0 21 "MarbleRamps$Machine" "bins" "[I", Cond.fieldLink RX0 24 "MarbleRamps$Machine" "hopperColumns" "[I", Cond.fieldLink RX0 27 "MarbleRamps$Machine" "hopperMarbles" "[I", Cond.static yX1_copyCells, Cond.code yX1_copyCells cX1_copyCells 3 none]
def wsX1_wouldRun_r2 : List Cond := [Cond.methodLink RX1 204 yX1_setCell, Cond.static yX1_setCell, Cond.code yX1_setCell cX1_setCell 3 none, Cond.methodLink RX1 70 yX0_runFrom, Cond.instanceMethod yX0_runFrom, Cond.selects RX0 yX0_runFrom yX0_runFrom, Cond.code yX0_runFrom cX0_runFrom 5 (some .int), Cond.static yX1_cell, Cond.code yX1_cell cX1_cell 2 (some .int), Cond.methodLink RX0 86 yX0_letFall, Cond.instanceMethod yX0_letFall, Cond.selects RX0 yX0_letFall yX0_letFall, Cond.code yX0_letFall cX0_letFall 3 (some .int), Cond.methodLink RX0 77 yX0_fallTo, Cond.instanceMethod yX0_fallTo, Cond.selects RX0 yX0_fallTo yX0_fallTo, Cond.code yX0_fallTo cX0_fallTo 6 (some .int), Cond.methodLink RX0 69 yX0_placeOf, Cond.instanceMethod yX0_placeOf, Cond.selects RX0 yX0_placeOf yX0_placeOf, Cond.code yX0_placeOf cX0_placeOf 3 (some .int), Cond.methodLink RX0 80 yX0_wayOut, Cond.instanceMethod yX0_wayOut, Cond.selects RX0 yX0_wayOut yX0_wayOut]
def wsX1_wouldRun_r3 : List Cond := [Cond.code yX0_wayOut cX0_wayOut 5 (some .int), Cond.methodLink RX0 83 yX0_hasColumn, Cond.instanceMethod yX0_hasColumn, Cond.selects RX0 yX0_hasColumn yX0_hasColumn, Cond.code yX0_hasColumn cX0_hasColumn 2 (some .boolean), Cond.methodLink RX0 89 yX0_hopperBehind, Cond.instanceMethod yX0_hopperBehind, Cond.selects RX0 yX0_hopperBehind yX0_hopperBehind, Cond.code yX0_hopperBehind cX0_hopperBehind 3 (some .int)]
def wsX1_wouldRun : List Cond := .code yX1_wouldRun cX1_wouldRun 2 (some .int) :: ((wsX1_wouldRun_r1 ++ (wsX1_wouldRun_r2 ++ wsX1_wouldRun_r3)) ++ wsX10 ++ wsX00 ++ (vx_atS RX1 191 "java/lang/IndexOutOfBoundsException" ["java/lang/RuntimeException", "java/lang/Exception"]).filter goodWord)
def wsX1_bestColumn_r1 : List Cond := [Cond.methodLink RX1 131 yX1_columns, Cond.instanceMethod yX1_columns, Cond.selects RX1 yX1_columns yX1_columns, Cond.initialized RX1, Cond.code yX1_columns cX1_columns 1 (some .int), Cond.fieldLink RX1 10 "MarbleRamps" "now" "LMarbleRamps$Machine;", Cond.fieldLink RX1 80 "MarbleRamps$Machine" "columnCount" "I", Cond.methodLink RX1 134 yX1_wouldTurn, Cond.instanceMethod yX1_wouldTurn, Cond.selects RX1 yX1_wouldTurn yX1_wouldTurn, Cond.code yX1_wouldTurn cX1_wouldTurn 2 (some .int), Cond.fieldLink RX1 16 "MarbleRamps" "trial" "LMarbleRamps$Machine;", Cond.methodLink RX1 60 yX1_needColumn, Cond.instanceMethod yX1_needColumn, Cond.selects RX1 yX1_needColumn yX1_needColumn, Cond.code yX1_needColumn cX1_needColumn 2 none, Cond.classLink RX1 187 "java/lang/IndexOutOfBoundsException", Cond.initialized "java/lang/IndexOutOfBoundsException", Cond.methodLink RX1 192 yX0_hasColumn, Cond.instanceMethod yX0_hasColumn, Cond.selects RX0 yX0_hasColumn yX0_hasColumn, Cond.initialized RX0, Cond.code yX0_hasColumn cX0_hasColumn 2 (some .boolean), Cond.fieldLink RX0 34 "MarbleRamps$Machine" "columnCount" "I"]
def wsX1_bestColumn_r2 : List Cond := [Cond.methodLink RX1 116 yX0_becomeLike, Cond.instanceMethod yX0_becomeLike, Cond.selects RX0 yX0_becomeLike yX0_becomeLike, Cond.code yX0_becomeLike cX0_becomeLike 2 none, Cond.fieldLink RX0 38 "MarbleRamps$Machine" "rowCount" "I", Cond.fieldLink RX0 41 "MarbleRamps$Machine" "lostCount" "I", Cond.fieldLink RX0 9 "MarbleRamps$Machine" "parts" "[I", Cond.fieldLink RX0 15 "MarbleRamps$Machine" "periods" "[I", Cond.fieldLink RX0 18 "MarbleRamps$Machine" "states" "[I", Cond.fieldLink RX0 21 "MarbleRamps$Machine" "bins" "[I", Cond.fieldLink RX0 24 "MarbleRamps$Machine" "hopperColumns" "[I", Cond.fieldLink RX0 27 "MarbleRamps$Machine" "hopperMarbles" "[I", Cond.static yX1_copyCells, Cond.code yX1_copyCells cX1_copyCells 3 none, Cond.methodLink RX1 204 yX1_setCell, Cond.static yX1_setCell, Cond.code yX1_setCell cX1_setCell 3 none, Cond.methodLink RX1 67 yX0_letFall, Cond.instanceMethod yX0_letFall, Cond.selects RX0 yX0_letFall yX0_letFall, Cond.code yX0_letFall cX0_letFall 3 (some .int), Cond.methodLink RX0 77 yX0_fallTo, Cond.instanceMethod yX0_fallTo, Cond.selects RX0 yX0_fallTo yX0_fallTo]
def wsX1_bestColumn_r3 : List Cond := [Cond.code yX0_fallTo cX0_fallTo 6 (some .int), Cond.methodLink RX0 69 yX0_placeOf, Cond.instanceMethod yX0_placeOf, Cond.selects RX0 yX0_placeOf yX0_placeOf, Cond.code yX0_placeOf cX0_placeOf 3 (some .int), Cond.methodLink RX0 80 yX0_wayOut, Cond.instanceMethod yX0_wayOut, Cond.selects RX0 yX0_wayOut yX0_wayOut, Cond.code yX0_wayOut cX0_wayOut 5 (some .int), Cond.static yX1_cell, Cond.code yX1_cell cX1_cell 2 (some .int), Cond.methodLink RX0 83 yX0_hasColumn, Cond.methodLink RX1 123 yX0_togglesUnlike, Cond.instanceMethod yX0_togglesUnlike, Cond.selects RX0 yX0_togglesUnlike yX0_togglesUnlike, Cond.code yX0_togglesUnlike cX0_togglesUnlike 4 (some .int), Cond.methodLink RX0 73 yX0_isRightToggle, Cond.instanceMethod yX0_isRightToggle, Cond.selects RX0 yX0_isRightToggle yX0_isRightToggle, Cond.code yX0_isRightToggle cX0_isRightToggle 2 (some .boolean), Cond.methodLink RX0 65 yX0_partIn, Cond.instanceMethod yX0_partIn, Cond.selects RX0 yX0_partIn yX0_partIn, Cond.code yX0_partIn cX0_partIn 2 (some .int)]
def wsX1_bestColumn : List Cond := .code yX1_bestColumn cX1_bestColumn 5 (some .int) :: ((wsX1_bestColumn_r1 ++ (wsX1_bestColumn_r2 ++ wsX1_bestColumn_r3)) ++ wsX10 ++ wsX00 ++ (vx_atS RX1 191 "java/lang/IndexOutOfBoundsException" ["java/lang/RuntimeException", "java/lang/Exception"]).filter goodWord)
def wsX1_meanInBins : List Cond := .code yX1_meanInBins cX1_meanInBins 2 (some .double) :: ([.fieldLink RX1 10 "MarbleRamps" "now" "LMarbleRamps$Machine;", .methodLink RX1 131 yX1_columns, .instanceMethod yX1_columns, .selects RX1 yX1_columns yX1_columns, .initialized RX1, .code yX1_columns cX1_columns 1 (some .int), .fieldLink RX1 80 "MarbleRamps$Machine" "columnCount" "I", .methodLink RX1 73 yX0_marblesInBins, .instanceMethod yX0_marblesInBins, .selects RX0 yX0_marblesInBins yX0_marblesInBins, .initialized RX0, .code yX0_marblesInBins cX0_marblesInBins 6 (some .int), .fieldLink RX0 21 "MarbleRamps$Machine" "bins" "[I"] ++ wsX10 ++ wsX00)
def wsX1_digest_r1 : List Cond := [Cond.constantLong RX1 137 (2239), Cond.constantLong RX1 139 (31), Cond.methodLink RX1 131 yX1_columns, Cond.instanceMethod yX1_columns, Cond.selects RX1 yX1_columns yX1_columns, Cond.initialized RX1, Cond.code yX1_columns cX1_columns 1 (some .int), Cond.fieldLink RX1 10 "MarbleRamps" "now" "LMarbleRamps$Machine;", Cond.fieldLink RX1 80 "MarbleRamps$Machine" "columnCount" "I", Cond.methodLink RX1 141 yX1_rows, Cond.instanceMethod yX1_rows, Cond.selects RX1 yX1_rows yX1_rows, Cond.code yX1_rows cX1_rows 1 (some .int), Cond.fieldLink RX1 84 "MarbleRamps$Machine" "rowCount" "I", Cond.methodLink RX1 144 yX1_lost, Cond.instanceMethod yX1_lost, Cond.selects RX1 yX1_lost yX1_lost, Cond.code yX1_lost cX1_lost 1 (some .int), Cond.fieldLink RX1 98 "MarbleRamps$Machine" "lostCount" "I", Cond.methodLink RX1 147 yX1_toggles, Cond.instanceMethod yX1_toggles, Cond.selects RX1 yX1_toggles yX1_toggles, Cond.code yX1_toggles cX1_toggles 1 (some .int), Cond.methodLink RX1 107 yX0_countToggles]
def wsX1_digest_r2 : List Cond := [Cond.instanceMethod yX0_countToggles, Cond.selects RX0 yX0_countToggles yX0_countToggles, Cond.initialized RX0, Cond.code yX0_countToggles cX0_countToggles 6 (some .int), Cond.fieldLink RX0 9 "MarbleRamps$Machine" "parts" "[I", Cond.methodLink RX1 150 yX1_bestColumn, Cond.instanceMethod yX1_bestColumn, Cond.selects RX1 yX1_bestColumn yX1_bestColumn, Cond.code yX1_bestColumn cX1_bestColumn 5 (some .int), Cond.methodLink RX1 134 yX1_wouldTurn, Cond.instanceMethod yX1_wouldTurn, Cond.selects RX1 yX1_wouldTurn yX1_wouldTurn, Cond.code yX1_wouldTurn cX1_wouldTurn 2 (some .int), Cond.fieldLink RX1 16 "MarbleRamps" "trial" "LMarbleRamps$Machine;", Cond.methodLink RX1 60 yX1_needColumn, Cond.instanceMethod yX1_needColumn, Cond.selects RX1 yX1_needColumn yX1_needColumn, Cond.code yX1_needColumn cX1_needColumn 2 none, Cond.classLink RX1 187 "java/lang/IndexOutOfBoundsException", Cond.initialized "java/lang/IndexOutOfBoundsException", Cond.methodLink RX1 192 yX0_hasColumn, Cond.instanceMethod yX0_hasColumn, Cond.selects RX0 yX0_hasColumn yX0_hasColumn, Cond.code yX0_hasColumn cX0_hasColumn 2 (some .boolean)]
def wsX1_digest_r3 : List Cond := [Cond.fieldLink RX0 34 "MarbleRamps$Machine" "columnCount" "I", Cond.methodLink RX1 116 yX0_becomeLike, Cond.instanceMethod yX0_becomeLike, Cond.selects RX0 yX0_becomeLike yX0_becomeLike, Cond.code yX0_becomeLike cX0_becomeLike 2 none, Cond.fieldLink RX0 38 "MarbleRamps$Machine" "rowCount" "I", Cond.fieldLink RX0 41 "MarbleRamps$Machine" "lostCount" "I", Cond.fieldLink RX0 15 "MarbleRamps$Machine" "periods" "[I", Cond.fieldLink RX0 18 "MarbleRamps$Machine" "states" "[I", Cond.fieldLink RX0 21 "MarbleRamps$Machine" "bins" "[I", Cond.fieldLink RX0 24 "MarbleRamps$Machine" "hopperColumns" "[I", Cond.fieldLink RX0 27 "MarbleRamps$Machine" "hopperMarbles" "[I", Cond.static yX1_copyCells, Cond.code yX1_copyCells cX1_copyCells 3 none, Cond.methodLink RX1 204 yX1_setCell, Cond.static yX1_setCell, Cond.code yX1_setCell cX1_setCell 3 none, Cond.methodLink RX1 67 yX0_letFall, Cond.instanceMethod yX0_letFall, Cond.selects RX0 yX0_letFall yX0_letFall, Cond.code yX0_letFall cX0_letFall 3 (some .int), Cond.methodLink RX0 77 yX0_fallTo, Cond.instanceMethod yX0_fallTo, Cond.selects RX0 yX0_fallTo yX0_fallTo]
def wsX1_digest_r4 : List Cond := [Cond.code yX0_fallTo cX0_fallTo 6 (some .int), Cond.methodLink RX0 69 yX0_placeOf, Cond.instanceMethod yX0_placeOf, Cond.selects RX0 yX0_placeOf yX0_placeOf, Cond.code yX0_placeOf cX0_placeOf 3 (some .int), Cond.methodLink RX0 80 yX0_wayOut, Cond.instanceMethod yX0_wayOut, Cond.selects RX0 yX0_wayOut yX0_wayOut, Cond.code yX0_wayOut cX0_wayOut 5 (some .int), Cond.static yX1_cell, Cond.code yX1_cell cX1_cell 2 (some .int), Cond.methodLink RX0 83 yX0_hasColumn, Cond.methodLink RX1 123 yX0_togglesUnlike, Cond.instanceMethod yX0_togglesUnlike, Cond.selects RX0 yX0_togglesUnlike yX0_togglesUnlike, Cond.code yX0_togglesUnlike cX0_togglesUnlike 4 (some .int), Cond.methodLink RX0 73 yX0_isRightToggle, Cond.instanceMethod yX0_isRightToggle, Cond.selects RX0 yX0_isRightToggle yX0_isRightToggle, Cond.code yX0_isRightToggle cX0_isRightToggle 2 (some .boolean), Cond.methodLink RX0 65 yX0_partIn, Cond.instanceMethod yX0_partIn, Cond.selects RX0 yX0_partIn yX0_partIn, Cond.code yX0_partIn cX0_partIn 2 (some .int)]
def wsX1_digest_r5 : List Cond := [Cond.methodLink RX1 153 yX1_marblesIn, Cond.instanceMethod yX1_marblesIn, Cond.selects RX1 yX1_marblesIn yX1_marblesIn, Cond.code yX1_marblesIn cX1_marblesIn 2 (some .int), Cond.fieldLink RX1 101 "MarbleRamps$Machine" "hopperMarbles" "[I", Cond.methodLink RX1 57 yX1_needHopper, Cond.static yX1_needHopper, Cond.code yX1_needHopper cX1_needHopper 1 none, Cond.methodLink RX1 94 yX1_cell, Cond.methodLink RX1 156 yX1_columnOf, Cond.instanceMethod yX1_columnOf, Cond.selects RX1 yX1_columnOf yX1_columnOf, Cond.code yX1_columnOf cX1_columnOf 2 (some .int), Cond.fieldLink RX1 104 "MarbleRamps$Machine" "hopperColumns" "[I", Cond.methodLink RX1 159 yX1_wouldRun, Cond.instanceMethod yX1_wouldRun, Cond.selects RX1 yX1_wouldRun yX1_wouldRun, Cond.code yX1_wouldRun cX1_wouldRun 2 (some .int), Cond.methodLink RX1 70 yX0_runFrom, Cond.instanceMethod yX0_runFrom, Cond.selects RX0 yX0_runFrom yX0_runFrom, Cond.code yX0_runFrom cX0_runFrom 5 (some .int), Cond.methodLink RX0 86 yX0_letFall, Cond.methodLink RX0 89 yX0_hopperBehind]
def wsX1_digest_r6 : List Cond := [Cond.instanceMethod yX0_hopperBehind, Cond.selects RX0 yX0_hopperBehind yX0_hopperBehind, Cond.code yX0_hopperBehind cX0_hopperBehind 3 (some .int), Cond.methodLink RX1 162 yX1_numberIn, Cond.instanceMethod yX1_numberIn, Cond.selects RX1 yX1_numberIn yX1_numberIn, Cond.code yX1_numberIn cX1_numberIn 2 (some .int), Cond.methodLink RX1 110 yX1_needRow, Cond.instanceMethod yX1_needRow, Cond.selects RX1 yX1_needRow yX1_needRow, Cond.code yX1_needRow cX1_needRow 2 none, Cond.methodLink RX1 184 yX0_hasRow, Cond.instanceMethod yX0_hasRow, Cond.selects RX0 yX0_hasRow yX0_hasRow, Cond.code yX0_hasRow cX0_hasRow 2 (some .boolean), Cond.methodLink RX1 113 yX0_numberToldBy, Cond.instanceMethod yX0_numberToldBy, Cond.selects RX0 yX0_numberToldBy yX0_numberToldBy, Cond.code yX0_numberToldBy cX0_numberToldBy 6 (some .int), Cond.methodLink RX1 165 yX1_partAt, Cond.instanceMethod yX1_partAt, Cond.selects RX1 yX1_partAt yX1_partAt, Cond.code yX1_partAt cX1_partAt 3 (some .int), Cond.methodLink RX1 27 yX1_needPlace]
def wsX1_digest_r7 : List Cond := [Cond.instanceMethod yX1_needPlace, Cond.selects RX1 yX1_needPlace yX1_needPlace, Cond.code yX1_needPlace cX1_needPlace 3 none, Cond.methodLink RX1 34 yX0_placeOf, Cond.methodLink RX1 38 yX0_partIn, Cond.methodLink RX1 168 yX1_leadsRight, Cond.instanceMethod yX1_leadsRight, Cond.selects RX1 yX1_leadsRight yX1_leadsRight, Cond.code yX1_leadsRight cX1_leadsRight 3 (some .boolean), Cond.methodLink RX1 53 yX0_isRightToggle, Cond.methodLink RX1 172 yX1_countAt, Cond.instanceMethod yX1_countAt, Cond.selects RX1 yX1_countAt yX1_countAt, Cond.code yX1_countAt cX1_countAt 3 (some .int), Cond.methodLink RX1 87 yX0_countedIn, Cond.instanceMethod yX0_countedIn, Cond.selects RX0 yX0_countedIn yX0_countedIn, Cond.code yX0_countedIn cX0_countedIn 2 (some .int), Cond.methodLink RX1 175 yX1_binOf, Cond.instanceMethod yX1_binOf, Cond.selects RX1 yX1_binOf yX1_binOf, Cond.code yX1_binOf cX1_binOf 2 (some .int), Cond.fieldLink RX1 90 "MarbleRamps$Machine" "bins" "[I", Cond.methodLink RX1 178 yX1_wouldLand]
def wsX1_digest_r8 : List Cond := [Cond.instanceMethod yX1_wouldLand, Cond.selects RX1 yX1_wouldLand yX1_wouldLand, Cond.code yX1_wouldLand cX1_wouldLand 2 (some .int), Cond.methodLink RX1 181 yX1_asBeforeIn, Cond.instanceMethod yX1_asBeforeIn, Cond.selects RX1 yX1_asBeforeIn yX1_asBeforeIn, Cond.code yX1_asBeforeIn cX1_asBeforeIn 3 (some .int), Cond.methodLink RX1 127 yX0_hasStatesOf, Cond.instanceMethod yX0_hasStatesOf, Cond.selects RX0 yX0_hasStatesOf yX0_hasStatesOf, Cond.code yX0_hasStatesOf cX0_hasStatesOf 3 (some .boolean)]
def wsX1_digest : List Cond := .code yX1_digest cX1_digest 5 (some .long) :: ((wsX1_digest_r1 ++ (wsX1_digest_r2 ++ (wsX1_digest_r3 ++ (wsX1_digest_r4 ++ (wsX1_digest_r5 ++ (wsX1_digest_r6 ++ (wsX1_digest_r7 ++ wsX1_digest_r8))))))) ++ wsX10 ++ wsX00 ++ (vx_atS RX1 191 "java/lang/IndexOutOfBoundsException" ["java/lang/RuntimeException", "java/lang/Exception"]).filter goodWord)
def wsX2_init : List Cond := .code yX2_init cX2_init 1 none :: ([.methodLink RX2 3 objectInit, .instanceMethod objectInit, .code objectInit ⟨#[0xb1]⟩ 1 none, .fieldLink RX2 9 "MarbleRampsModel" "columns" "I", .fieldLink RX2 13 "MarbleRampsModel" "rows" "I", .arrayClass .int, .fieldLink RX2 16 "MarbleRampsModel" "part" "[I", .fieldLink RX2 20 "MarbleRampsModel" "period" "[I", .fieldLink RX2 23 "MarbleRampsModel" "above" "[I", .fieldLink RX2 26 "MarbleRampsModel" "now" "[I", .fieldLink RX2 29 "MarbleRampsModel" "kept" "[I", .fieldLink RX2 32 "MarbleRampsModel" "way" "[I"] ++ wsX20)
def wsX2_thrown : List Cond := .code yX2_thrown cX2_thrown 1 (some .int) :: ([.fieldLink RX2 35 "MarbleRampsModel" "thrown" "I"] ++ wsX20)
def wsX2_no : List Cond := .code yX2_no cX2_no 2 (some .int) :: ([.fieldLink RX2 35 "MarbleRampsModel" "thrown" "I"] ++ wsX20)
def wsX2_isNot : List Cond := .code yX2_isNot cX2_isNot 2 (some .boolean) :: ([.fieldLink RX2 35 "MarbleRampsModel" "thrown" "I"] ++ wsX20)
def wsX2_ok : List Cond := .code yX2_ok cX2_ok 2 (some .int) :: ([.fieldLink RX2 35 "MarbleRampsModel" "thrown" "I"] ++ wsX20)
def wsX2_isFrom : List Cond := .code yX2_isFrom cX2_isFrom 3 (some .boolean) :: ([])
def wsX2_isColumn : List Cond := .code yX2_isColumn cX2_isColumn 2 (some .boolean) :: ([.fieldLink RX2 9 "MarbleRampsModel" "columns" "I", .methodLink RX2 38 yX2_isFrom, .static yX2_isFrom, .initialized RX2, .code yX2_isFrom cX2_isFrom 3 (some .boolean)] ++ wsX20)
def wsX2_isRow : List Cond := .code yX2_isRow cX2_isRow 2 (some .boolean) :: ([.fieldLink RX2 13 "MarbleRampsModel" "rows" "I", .methodLink RX2 38 yX2_isFrom, .static yX2_isFrom, .initialized RX2, .code yX2_isFrom cX2_isFrom 3 (some .boolean)] ++ wsX20)
def wsX2_isPlace : List Cond := .code yX2_isPlace cX2_isPlace 3 (some .boolean) :: ([.methodLink RX2 42 yX2_isRow, .instanceMethod yX2_isRow, .selects RX2 yX2_isRow yX2_isRow, .initialized RX2, .code yX2_isRow cX2_isRow 2 (some .boolean), .fieldLink RX2 13 "MarbleRampsModel" "rows" "I", .methodLink RX2 38 yX2_isFrom, .static yX2_isFrom, .code yX2_isFrom cX2_isFrom 3 (some .boolean), .methodLink RX2 46 yX2_isColumn, .instanceMethod yX2_isColumn, .selects RX2 yX2_isColumn yX2_isColumn, .code yX2_isColumn cX2_isColumn 2 (some .boolean), .fieldLink RX2 9 "MarbleRampsModel" "columns" "I"] ++ wsX20)
def wsX2_keep : List Cond := .code yX2_keep cX2_keep 1 none :: ([.fieldLink RX2 26 "MarbleRampsModel" "now" "[I", .fieldLink RX2 29 "MarbleRampsModel" "kept" "[I", .methodLink RX2 49 arraycopyName, .native arraycopyName, .static arraycopyName, .initialized "java/lang/System"] ++ wsX20)
def wsX2_bringBack : List Cond := .code yX2_bringBack cX2_bringBack 1 none :: ([.fieldLink RX2 29 "MarbleRampsModel" "kept" "[I", .fieldLink RX2 26 "MarbleRampsModel" "now" "[I", .methodLink RX2 49 arraycopyName, .native arraycopyName, .static arraycopyName, .initialized "java/lang/System"] ++ wsX20)
def wsX2_goes : List Cond := .code yX2_goes cX2_goes 4 (some .int) :: ([.fieldLink RX2 26 "MarbleRampsModel" "now" "[I", .fieldLink RX2 16 "MarbleRampsModel" "part" "[I", .fieldLink RX2 55 "MarbleRampsModel" "turned" "I", .fieldLink RX2 20 "MarbleRampsModel" "period" "[I"] ++ wsX20)
def wsX2_fall : List Cond := .code yX2_fall cX2_fall 5 (some .int) :: ([.fieldLink RX2 55 "MarbleRampsModel" "turned" "I", .fieldLink RX2 32 "MarbleRampsModel" "way" "[I", .fieldLink RX2 13 "MarbleRampsModel" "rows" "I", .fieldLink RX2 26 "MarbleRampsModel" "now" "[I", .methodLink RX2 58 yX2_goes, .instanceMethod yX2_goes, .selects RX2 yX2_goes yX2_goes, .initialized RX2, .code yX2_goes cX2_goes 4 (some .int), .fieldLink RX2 16 "MarbleRampsModel" "part" "[I", .fieldLink RX2 20 "MarbleRampsModel" "period" "[I", .methodLink RX2 46 yX2_isColumn, .instanceMethod yX2_isColumn, .selects RX2 yX2_isColumn yX2_isColumn, .code yX2_isColumn cX2_isColumn 2 (some .boolean), .fieldLink RX2 9 "MarbleRampsModel" "columns" "I", .methodLink RX2 38 yX2_isFrom, .static yX2_isFrom, .code yX2_isFrom cX2_isFrom 3 (some .boolean)] ++ wsX20)
def wsJ6_signum_0f7a4 : List Cond := .code yJ6_signum_0f7a4 cJ6_signum_0f7a4 1 (some .int) :: ([])
def wsX2_runFrom_r1 : List Cond := [Cond.fieldLink RX2 26 "MarbleRampsModel" "now" "[I", Cond.fieldLink RX2 23 "MarbleRampsModel" "above" "[I", Cond.fieldLink RX2 9 "MarbleRampsModel" "columns" "I", Cond.methodLink RX2 62 yX2_fall, Cond.instanceMethod yX2_fall, Cond.selects RX2 yX2_fall yX2_fall, Cond.initialized RX2, Cond.code yX2_fall cX2_fall 5 (some .int), Cond.fieldLink RX2 55 "MarbleRampsModel" "turned" "I", Cond.fieldLink RX2 32 "MarbleRampsModel" "way" "[I", Cond.fieldLink RX2 13 "MarbleRampsModel" "rows" "I", Cond.methodLink RX2 58 yX2_goes, Cond.instanceMethod yX2_goes, Cond.selects RX2 yX2_goes yX2_goes, Cond.code yX2_goes cX2_goes 4 (some .int), Cond.fieldLink RX2 16 "MarbleRampsModel" "part" "[I", Cond.fieldLink RX2 20 "MarbleRampsModel" "period" "[I", Cond.methodLink RX2 46 yX2_isColumn, Cond.instanceMethod yX2_isColumn, Cond.selects RX2 yX2_isColumn yX2_isColumn, Cond.code yX2_isColumn cX2_isColumn 2 (some .boolean), Cond.methodLink RX2 38 yX2_isFrom, Cond.static yX2_isFrom, Cond.code yX2_isFrom cX2_isFrom 3 (some .boolean)]
def wsX2_runFrom_r2 : List Cond := [Cond.methodLink RX2 66 yJ6_signum_0f7a4, Cond.static yJ6_signum_0f7a4, Cond.initialized RJ6, Cond.code yJ6_signum_0f7a4 cJ6_signum_0f7a4 1 (some .int)]
def wsX2_runFrom : List Cond := .code yX2_runFrom cX2_runFrom 7 (some .int) :: ((wsX2_runFrom_r1 ++ wsX2_runFrom_r2) ++ wsX20)
def wsX2_lay : List Cond := .code yX2_lay cX2_lay 4 (some .int) :: ([.fieldLink RX2 35 "MarbleRampsModel" "thrown" "I", .fieldLink RX2 9 "MarbleRampsModel" "columns" "I", .fieldLink RX2 13 "MarbleRampsModel" "rows" "I", .fieldLink RX2 16 "MarbleRampsModel" "part" "[I", .fieldLink RX2 26 "MarbleRampsModel" "now" "[I", .fieldLink RX2 23 "MarbleRampsModel" "above" "[I", .methodLink RX2 38 yX2_isFrom, .static yX2_isFrom, .initialized RX2, .code yX2_isFrom cX2_isFrom 3 (some .boolean), .methodLink RX2 71 yX2_no, .instanceMethod yX2_no, .selects RX2 yX2_no yX2_no, .code yX2_no cX2_no 2 (some .int)] ++ wsX20)
def wsX2_placed : List Cond := .code yX2_placed cX2_placed 6 (some .int) :: ([.fieldLink RX2 16 "MarbleRampsModel" "part" "[I", .fieldLink RX2 26 "MarbleRampsModel" "now" "[I"] ++ wsX20)
def wsX2_put_r1 : List Cond := [Cond.fieldLink RX2 35 "MarbleRampsModel" "thrown" "I", Cond.methodLink RX2 74 yX2_isPlace, Cond.instanceMethod yX2_isPlace, Cond.selects RX2 yX2_isPlace yX2_isPlace, Cond.initialized RX2, Cond.code yX2_isPlace cX2_isPlace 3 (some .boolean), Cond.methodLink RX2 42 yX2_isRow, Cond.instanceMethod yX2_isRow, Cond.selects RX2 yX2_isRow yX2_isRow, Cond.code yX2_isRow cX2_isRow 2 (some .boolean), Cond.fieldLink RX2 13 "MarbleRampsModel" "rows" "I", Cond.methodLink RX2 38 yX2_isFrom, Cond.static yX2_isFrom, Cond.code yX2_isFrom cX2_isFrom 3 (some .boolean), Cond.methodLink RX2 46 yX2_isColumn, Cond.instanceMethod yX2_isColumn, Cond.selects RX2 yX2_isColumn yX2_isColumn, Cond.code yX2_isColumn cX2_isColumn 2 (some .boolean), Cond.fieldLink RX2 9 "MarbleRampsModel" "columns" "I", Cond.methodLink RX2 71 yX2_no, Cond.instanceMethod yX2_no, Cond.selects RX2 yX2_no yX2_no, Cond.code yX2_no cX2_no 2 (some .int), Cond.methodLink RX2 78 yX2_placed]
def wsX2_put_r2 : List Cond := [Cond.instanceMethod yX2_placed, Cond.selects RX2 yX2_placed yX2_placed, Cond.code yX2_placed cX2_placed 6 (some .int), Cond.fieldLink RX2 16 "MarbleRampsModel" "part" "[I", Cond.fieldLink RX2 26 "MarbleRampsModel" "now" "[I"]
def wsX2_put : List Cond := .code yX2_put cX2_put 4 (some .int) :: ((wsX2_put_r1 ++ wsX2_put_r2) ++ wsX20)
def wsX2_putCounter_r1 : List Cond := [Cond.fieldLink RX2 35 "MarbleRampsModel" "thrown" "I", Cond.fieldLink RX2 20 "MarbleRampsModel" "period" "[I", Cond.methodLink RX2 74 yX2_isPlace, Cond.instanceMethod yX2_isPlace, Cond.selects RX2 yX2_isPlace yX2_isPlace, Cond.initialized RX2, Cond.code yX2_isPlace cX2_isPlace 3 (some .boolean), Cond.methodLink RX2 42 yX2_isRow, Cond.instanceMethod yX2_isRow, Cond.selects RX2 yX2_isRow yX2_isRow, Cond.code yX2_isRow cX2_isRow 2 (some .boolean), Cond.fieldLink RX2 13 "MarbleRampsModel" "rows" "I", Cond.methodLink RX2 38 yX2_isFrom, Cond.static yX2_isFrom, Cond.code yX2_isFrom cX2_isFrom 3 (some .boolean), Cond.methodLink RX2 46 yX2_isColumn, Cond.instanceMethod yX2_isColumn, Cond.selects RX2 yX2_isColumn yX2_isColumn, Cond.code yX2_isColumn cX2_isColumn 2 (some .boolean), Cond.fieldLink RX2 9 "MarbleRampsModel" "columns" "I", Cond.methodLink RX2 71 yX2_no, Cond.instanceMethod yX2_no, Cond.selects RX2 yX2_no yX2_no, Cond.code yX2_no cX2_no 2 (some .int)]
def wsX2_putCounter_r2 : List Cond := [Cond.methodLink RX2 78 yX2_placed, Cond.instanceMethod yX2_placed, Cond.selects RX2 yX2_placed yX2_placed, Cond.code yX2_placed cX2_placed 6 (some .int), Cond.fieldLink RX2 16 "MarbleRampsModel" "part" "[I", Cond.fieldLink RX2 26 "MarbleRampsModel" "now" "[I"]
def wsX2_putCounter : List Cond := .code yX2_putCounter cX2_putCounter 4 (some .int) :: ((wsX2_putCounter_r1 ++ wsX2_putCounter_r2) ++ wsX20)
def wsX2_turn_r1 : List Cond := [Cond.fieldLink RX2 35 "MarbleRampsModel" "thrown" "I", Cond.fieldLink RX2 16 "MarbleRampsModel" "part" "[I", Cond.fieldLink RX2 26 "MarbleRampsModel" "now" "[I", Cond.methodLink RX2 74 yX2_isPlace, Cond.instanceMethod yX2_isPlace, Cond.selects RX2 yX2_isPlace yX2_isPlace, Cond.initialized RX2, Cond.code yX2_isPlace cX2_isPlace 3 (some .boolean), Cond.methodLink RX2 42 yX2_isRow, Cond.instanceMethod yX2_isRow, Cond.selects RX2 yX2_isRow yX2_isRow, Cond.code yX2_isRow cX2_isRow 2 (some .boolean), Cond.fieldLink RX2 13 "MarbleRampsModel" "rows" "I", Cond.methodLink RX2 38 yX2_isFrom, Cond.static yX2_isFrom, Cond.code yX2_isFrom cX2_isFrom 3 (some .boolean), Cond.methodLink RX2 46 yX2_isColumn, Cond.instanceMethod yX2_isColumn, Cond.selects RX2 yX2_isColumn yX2_isColumn, Cond.code yX2_isColumn cX2_isColumn 2 (some .boolean), Cond.fieldLink RX2 9 "MarbleRampsModel" "columns" "I", Cond.methodLink RX2 82 yX2_isNot, Cond.instanceMethod yX2_isNot, Cond.selects RX2 yX2_isNot yX2_isNot]
def wsX2_turn_r2 : List Cond := [Cond.code yX2_isNot cX2_isNot 2 (some .boolean)]
def wsX2_turn : List Cond := .code yX2_turn cX2_turn 4 (some .boolean) :: ((wsX2_turn_r1 ++ wsX2_turn_r2) ++ wsX20)
def wsX2_setHopper : List Cond := .code yX2_setHopper cX2_setHopper 5 (some .int) :: ([.fieldLink RX2 35 "MarbleRampsModel" "thrown" "I", .fieldLink RX2 26 "MarbleRampsModel" "now" "[I", .fieldLink RX2 23 "MarbleRampsModel" "above" "[I", .methodLink RX2 38 yX2_isFrom, .static yX2_isFrom, .initialized RX2, .code yX2_isFrom cX2_isFrom 3 (some .boolean), .methodLink RX2 46 yX2_isColumn, .instanceMethod yX2_isColumn, .selects RX2 yX2_isColumn yX2_isColumn, .code yX2_isColumn cX2_isColumn 2 (some .boolean), .fieldLink RX2 9 "MarbleRampsModel" "columns" "I", .methodLink RX2 71 yX2_no, .instanceMethod yX2_no, .selects RX2 yX2_no yX2_no, .code yX2_no cX2_no 2 (some .int)] ++ wsX20)
def wsX2_drop_r1 : List Cond := [Cond.fieldLink RX2 35 "MarbleRampsModel" "thrown" "I", Cond.methodLink RX2 46 yX2_isColumn, Cond.instanceMethod yX2_isColumn, Cond.selects RX2 yX2_isColumn yX2_isColumn, Cond.initialized RX2, Cond.code yX2_isColumn cX2_isColumn 2 (some .boolean), Cond.fieldLink RX2 9 "MarbleRampsModel" "columns" "I", Cond.methodLink RX2 38 yX2_isFrom, Cond.static yX2_isFrom, Cond.code yX2_isFrom cX2_isFrom 3 (some .boolean), Cond.methodLink RX2 62 yX2_fall, Cond.instanceMethod yX2_fall, Cond.selects RX2 yX2_fall yX2_fall, Cond.code yX2_fall cX2_fall 5 (some .int), Cond.fieldLink RX2 55 "MarbleRampsModel" "turned" "I", Cond.fieldLink RX2 32 "MarbleRampsModel" "way" "[I", Cond.fieldLink RX2 13 "MarbleRampsModel" "rows" "I", Cond.fieldLink RX2 26 "MarbleRampsModel" "now" "[I", Cond.methodLink RX2 58 yX2_goes, Cond.instanceMethod yX2_goes, Cond.selects RX2 yX2_goes yX2_goes, Cond.code yX2_goes cX2_goes 4 (some .int), Cond.fieldLink RX2 16 "MarbleRampsModel" "part" "[I", Cond.fieldLink RX2 20 "MarbleRampsModel" "period" "[I"]
def wsX2_drop_r2 : List Cond := [Cond.methodLink RX2 71 yX2_no, Cond.instanceMethod yX2_no, Cond.selects RX2 yX2_no yX2_no, Cond.code yX2_no cX2_no 2 (some .int)]
def wsX2_drop : List Cond := .code yX2_drop cX2_drop 2 (some .int) :: ((wsX2_drop_r1 ++ wsX2_drop_r2) ++ wsX20)
def wsX2_run_r1 : List Cond := [Cond.fieldLink RX2 35 "MarbleRampsModel" "thrown" "I", Cond.methodLink RX2 38 yX2_isFrom, Cond.static yX2_isFrom, Cond.initialized RX2, Cond.code yX2_isFrom cX2_isFrom 3 (some .boolean), Cond.methodLink RX2 71 yX2_no, Cond.instanceMethod yX2_no, Cond.selects RX2 yX2_no yX2_no, Cond.code yX2_no cX2_no 2 (some .int), Cond.methodLink RX2 85 yX2_runFrom, Cond.instanceMethod yX2_runFrom, Cond.selects RX2 yX2_runFrom yX2_runFrom, Cond.code yX2_runFrom cX2_runFrom 7 (some .int), Cond.fieldLink RX2 26 "MarbleRampsModel" "now" "[I", Cond.fieldLink RX2 23 "MarbleRampsModel" "above" "[I", Cond.fieldLink RX2 9 "MarbleRampsModel" "columns" "I", Cond.methodLink RX2 62 yX2_fall, Cond.instanceMethod yX2_fall, Cond.selects RX2 yX2_fall yX2_fall, Cond.code yX2_fall cX2_fall 5 (some .int), Cond.fieldLink RX2 55 "MarbleRampsModel" "turned" "I", Cond.fieldLink RX2 32 "MarbleRampsModel" "way" "[I", Cond.fieldLink RX2 13 "MarbleRampsModel" "rows" "I", Cond.methodLink RX2 58 yX2_goes]
def wsX2_run_r2 : List Cond := [Cond.instanceMethod yX2_goes, Cond.selects RX2 yX2_goes yX2_goes, Cond.code yX2_goes cX2_goes 4 (some .int), Cond.fieldLink RX2 16 "MarbleRampsModel" "part" "[I", Cond.fieldLink RX2 20 "MarbleRampsModel" "period" "[I", Cond.methodLink RX2 46 yX2_isColumn, Cond.instanceMethod yX2_isColumn, Cond.selects RX2 yX2_isColumn yX2_isColumn, Cond.code yX2_isColumn cX2_isColumn 2 (some .boolean), Cond.methodLink RX2 66 yJ6_signum_0f7a4, Cond.static yJ6_signum_0f7a4, Cond.initialized RJ6, Cond.code yJ6_signum_0f7a4 cJ6_signum_0f7a4 1 (some .int)]
def wsX2_run : List Cond := .code yX2_run cX2_run 3 (some .int) :: ((wsX2_run_r1 ++ wsX2_run_r2) ++ wsX20)
def wsX2_inBins : List Cond := .code yX2_inBins cX2_inBins 3 (some .int) :: ([.fieldLink RX2 9 "MarbleRampsModel" "columns" "I", .fieldLink RX2 26 "MarbleRampsModel" "now" "[I"] ++ wsX20)
def wsX2_emptyBins : List Cond := .code yX2_emptyBins cX2_emptyBins 3 (some .int) :: ([.fieldLink RX2 9 "MarbleRampsModel" "columns" "I", .fieldLink RX2 26 "MarbleRampsModel" "now" "[I", .methodLink RX2 88 yX2_inBins, .instanceMethod yX2_inBins, .selects RX2 yX2_inBins yX2_inBins, .initialized RX2, .code yX2_inBins cX2_inBins 3 (some .int), .methodLink RX2 92 yX2_ok, .instanceMethod yX2_ok, .selects RX2 yX2_ok yX2_ok, .code yX2_ok cX2_ok 2 (some .int), .fieldLink RX2 35 "MarbleRampsModel" "thrown" "I"] ++ wsX20)
def wsX2_columns : List Cond := .code yX2_columns cX2_columns 1 (some .int) :: ([.fieldLink RX2 9 "MarbleRampsModel" "columns" "I", .methodLink RX2 92 yX2_ok, .instanceMethod yX2_ok, .selects RX2 yX2_ok yX2_ok, .initialized RX2, .code yX2_ok cX2_ok 2 (some .int), .fieldLink RX2 35 "MarbleRampsModel" "thrown" "I"] ++ wsX20)
def wsX2_rows : List Cond := .code yX2_rows cX2_rows 1 (some .int) :: ([.fieldLink RX2 13 "MarbleRampsModel" "rows" "I", .methodLink RX2 92 yX2_ok, .instanceMethod yX2_ok, .selects RX2 yX2_ok yX2_ok, .initialized RX2, .code yX2_ok cX2_ok 2 (some .int), .fieldLink RX2 35 "MarbleRampsModel" "thrown" "I"] ++ wsX20)
def wsX2_partAt : List Cond := .code yX2_partAt cX2_partAt 3 (some .int) :: ([.fieldLink RX2 35 "MarbleRampsModel" "thrown" "I", .fieldLink RX2 16 "MarbleRampsModel" "part" "[I", .methodLink RX2 74 yX2_isPlace, .instanceMethod yX2_isPlace, .selects RX2 yX2_isPlace yX2_isPlace, .initialized RX2, .code yX2_isPlace cX2_isPlace 3 (some .boolean), .methodLink RX2 42 yX2_isRow, .instanceMethod yX2_isRow, .selects RX2 yX2_isRow yX2_isRow, .code yX2_isRow cX2_isRow 2 (some .boolean), .fieldLink RX2 13 "MarbleRampsModel" "rows" "I", .methodLink RX2 38 yX2_isFrom, .static yX2_isFrom, .code yX2_isFrom cX2_isFrom 3 (some .boolean), .methodLink RX2 46 yX2_isColumn, .instanceMethod yX2_isColumn, .selects RX2 yX2_isColumn yX2_isColumn, .code yX2_isColumn cX2_isColumn 2 (some .boolean), .fieldLink RX2 9 "MarbleRampsModel" "columns" "I", .methodLink RX2 71 yX2_no, .instanceMethod yX2_no, .selects RX2 yX2_no yX2_no, .code yX2_no cX2_no 2 (some .int)] ++ wsX20)
def wsX2_isRight : List Cond := .code yX2_isRight cX2_isRight 3 (some .boolean) :: ([.fieldLink RX2 16 "MarbleRampsModel" "part" "[I", .fieldLink RX2 26 "MarbleRampsModel" "now" "[I"] ++ wsX20)
def wsX2_leadsRight_r1 : List Cond := [Cond.fieldLink RX2 35 "MarbleRampsModel" "thrown" "I", Cond.methodLink RX2 74 yX2_isPlace, Cond.instanceMethod yX2_isPlace, Cond.selects RX2 yX2_isPlace yX2_isPlace, Cond.initialized RX2, Cond.code yX2_isPlace cX2_isPlace 3 (some .boolean), Cond.methodLink RX2 42 yX2_isRow, Cond.instanceMethod yX2_isRow, Cond.selects RX2 yX2_isRow yX2_isRow, Cond.code yX2_isRow cX2_isRow 2 (some .boolean), Cond.fieldLink RX2 13 "MarbleRampsModel" "rows" "I", Cond.methodLink RX2 38 yX2_isFrom, Cond.static yX2_isFrom, Cond.code yX2_isFrom cX2_isFrom 3 (some .boolean), Cond.methodLink RX2 46 yX2_isColumn, Cond.instanceMethod yX2_isColumn, Cond.selects RX2 yX2_isColumn yX2_isColumn, Cond.code yX2_isColumn cX2_isColumn 2 (some .boolean), Cond.fieldLink RX2 9 "MarbleRampsModel" "columns" "I", Cond.methodLink RX2 95 yX2_isRight, Cond.instanceMethod yX2_isRight, Cond.selects RX2 yX2_isRight yX2_isRight, Cond.code yX2_isRight cX2_isRight 3 (some .boolean), Cond.fieldLink RX2 16 "MarbleRampsModel" "part" "[I"]
def wsX2_leadsRight_r2 : List Cond := [Cond.fieldLink RX2 26 "MarbleRampsModel" "now" "[I", Cond.methodLink RX2 82 yX2_isNot, Cond.instanceMethod yX2_isNot, Cond.selects RX2 yX2_isNot yX2_isNot, Cond.code yX2_isNot cX2_isNot 2 (some .boolean)]
def wsX2_leadsRight : List Cond := .code yX2_leadsRight cX2_leadsRight 3 (some .boolean) :: ((wsX2_leadsRight_r1 ++ wsX2_leadsRight_r2) ++ wsX20)
def wsX2_counted : List Cond := .code yX2_counted cX2_counted 3 (some .int) :: ([.fieldLink RX2 16 "MarbleRampsModel" "part" "[I", .fieldLink RX2 26 "MarbleRampsModel" "now" "[I"] ++ wsX20)
def wsX2_countAt_r1 : List Cond := [Cond.fieldLink RX2 35 "MarbleRampsModel" "thrown" "I", Cond.methodLink RX2 74 yX2_isPlace, Cond.instanceMethod yX2_isPlace, Cond.selects RX2 yX2_isPlace yX2_isPlace, Cond.initialized RX2, Cond.code yX2_isPlace cX2_isPlace 3 (some .boolean), Cond.methodLink RX2 42 yX2_isRow, Cond.instanceMethod yX2_isRow, Cond.selects RX2 yX2_isRow yX2_isRow, Cond.code yX2_isRow cX2_isRow 2 (some .boolean), Cond.fieldLink RX2 13 "MarbleRampsModel" "rows" "I", Cond.methodLink RX2 38 yX2_isFrom, Cond.static yX2_isFrom, Cond.code yX2_isFrom cX2_isFrom 3 (some .boolean), Cond.methodLink RX2 46 yX2_isColumn, Cond.instanceMethod yX2_isColumn, Cond.selects RX2 yX2_isColumn yX2_isColumn, Cond.code yX2_isColumn cX2_isColumn 2 (some .boolean), Cond.fieldLink RX2 9 "MarbleRampsModel" "columns" "I", Cond.methodLink RX2 98 yX2_counted, Cond.instanceMethod yX2_counted, Cond.selects RX2 yX2_counted yX2_counted, Cond.code yX2_counted cX2_counted 3 (some .int), Cond.fieldLink RX2 16 "MarbleRampsModel" "part" "[I"]
def wsX2_countAt_r2 : List Cond := [Cond.fieldLink RX2 26 "MarbleRampsModel" "now" "[I", Cond.methodLink RX2 71 yX2_no, Cond.instanceMethod yX2_no, Cond.selects RX2 yX2_no yX2_no, Cond.code yX2_no cX2_no 2 (some .int)]
def wsX2_countAt : List Cond := .code yX2_countAt cX2_countAt 3 (some .int) :: ((wsX2_countAt_r1 ++ wsX2_countAt_r2) ++ wsX20)
def wsX2_binOf : List Cond := .code yX2_binOf cX2_binOf 2 (some .int) :: ([.fieldLink RX2 35 "MarbleRampsModel" "thrown" "I", .fieldLink RX2 26 "MarbleRampsModel" "now" "[I", .methodLink RX2 46 yX2_isColumn, .instanceMethod yX2_isColumn, .selects RX2 yX2_isColumn yX2_isColumn, .initialized RX2, .code yX2_isColumn cX2_isColumn 2 (some .boolean), .fieldLink RX2 9 "MarbleRampsModel" "columns" "I", .methodLink RX2 38 yX2_isFrom, .static yX2_isFrom, .code yX2_isFrom cX2_isFrom 3 (some .boolean), .methodLink RX2 71 yX2_no, .instanceMethod yX2_no, .selects RX2 yX2_no yX2_no, .code yX2_no cX2_no 2 (some .int)] ++ wsX20)
def wsX2_lost : List Cond := .code yX2_lost cX2_lost 1 (some .int) :: ([.fieldLink RX2 26 "MarbleRampsModel" "now" "[I", .methodLink RX2 92 yX2_ok, .instanceMethod yX2_ok, .selects RX2 yX2_ok yX2_ok, .initialized RX2, .code yX2_ok cX2_ok 2 (some .int), .fieldLink RX2 35 "MarbleRampsModel" "thrown" "I"] ++ wsX20)
def wsX2_marblesIn : List Cond := .code yX2_marblesIn cX2_marblesIn 2 (some .int) :: ([.fieldLink RX2 35 "MarbleRampsModel" "thrown" "I", .fieldLink RX2 26 "MarbleRampsModel" "now" "[I", .methodLink RX2 38 yX2_isFrom, .static yX2_isFrom, .initialized RX2, .code yX2_isFrom cX2_isFrom 3 (some .boolean), .methodLink RX2 71 yX2_no, .instanceMethod yX2_no, .selects RX2 yX2_no yX2_no, .code yX2_no cX2_no 2 (some .int)] ++ wsX20)
def wsX2_columnOf : List Cond := .code yX2_columnOf cX2_columnOf 2 (some .int) :: ([.fieldLink RX2 35 "MarbleRampsModel" "thrown" "I", .fieldLink RX2 23 "MarbleRampsModel" "above" "[I", .methodLink RX2 38 yX2_isFrom, .static yX2_isFrom, .initialized RX2, .code yX2_isFrom cX2_isFrom 3 (some .boolean), .methodLink RX2 71 yX2_no, .instanceMethod yX2_no, .selects RX2 yX2_no yX2_no, .code yX2_no cX2_no 2 (some .int)] ++ wsX20)
def wsX2_togglesNow : List Cond := .code yX2_togglesNow cX2_togglesNow 3 (some .int) :: ([.fieldLink RX2 16 "MarbleRampsModel" "part" "[I"] ++ wsX20)
def wsX2_toggles : List Cond := .code yX2_toggles cX2_toggles 1 (some .int) :: ([.methodLink RX2 101 yX2_togglesNow, .instanceMethod yX2_togglesNow, .selects RX2 yX2_togglesNow yX2_togglesNow, .initialized RX2, .code yX2_togglesNow cX2_togglesNow 3 (some .int), .fieldLink RX2 16 "MarbleRampsModel" "part" "[I", .methodLink RX2 92 yX2_ok, .instanceMethod yX2_ok, .selects RX2 yX2_ok yX2_ok, .code yX2_ok cX2_ok 2 (some .int), .fieldLink RX2 35 "MarbleRampsModel" "thrown" "I"] ++ wsX20)
def wsX2_number : List Cond := .code yX2_number cX2_number 5 (some .int) :: ([.fieldLink RX2 9 "MarbleRampsModel" "columns" "I", .fieldLink RX2 16 "MarbleRampsModel" "part" "[I", .methodLink RX2 95 yX2_isRight, .instanceMethod yX2_isRight, .selects RX2 yX2_isRight yX2_isRight, .initialized RX2, .code yX2_isRight cX2_isRight 3 (some .boolean), .fieldLink RX2 26 "MarbleRampsModel" "now" "[I"] ++ wsX20)
def wsX2_numberIn_r1 : List Cond := [Cond.fieldLink RX2 35 "MarbleRampsModel" "thrown" "I", Cond.methodLink RX2 42 yX2_isRow, Cond.instanceMethod yX2_isRow, Cond.selects RX2 yX2_isRow yX2_isRow, Cond.initialized RX2, Cond.code yX2_isRow cX2_isRow 2 (some .boolean), Cond.fieldLink RX2 13 "MarbleRampsModel" "rows" "I", Cond.methodLink RX2 38 yX2_isFrom, Cond.static yX2_isFrom, Cond.code yX2_isFrom cX2_isFrom 3 (some .boolean), Cond.methodLink RX2 104 yX2_number, Cond.instanceMethod yX2_number, Cond.selects RX2 yX2_number yX2_number, Cond.code yX2_number cX2_number 5 (some .int), Cond.fieldLink RX2 9 "MarbleRampsModel" "columns" "I", Cond.fieldLink RX2 16 "MarbleRampsModel" "part" "[I", Cond.methodLink RX2 95 yX2_isRight, Cond.instanceMethod yX2_isRight, Cond.selects RX2 yX2_isRight yX2_isRight, Cond.code yX2_isRight cX2_isRight 3 (some .boolean), Cond.fieldLink RX2 26 "MarbleRampsModel" "now" "[I", Cond.methodLink RX2 71 yX2_no, Cond.instanceMethod yX2_no, Cond.selects RX2 yX2_no yX2_no]
def wsX2_numberIn_r2 : List Cond := [Cond.code yX2_no cX2_no 2 (some .int)]
def wsX2_numberIn : List Cond := .code yX2_numberIn cX2_numberIn 2 (some .int) :: ((wsX2_numberIn_r1 ++ wsX2_numberIn_r2) ++ wsX20)
def wsX2_look_r1 : List Cond := [Cond.methodLink RX2 107 yX2_keep, Cond.instanceMethod yX2_keep, Cond.selects RX2 yX2_keep yX2_keep, Cond.initialized RX2, Cond.code yX2_keep cX2_keep 1 none, Cond.fieldLink RX2 26 "MarbleRampsModel" "now" "[I", Cond.fieldLink RX2 29 "MarbleRampsModel" "kept" "[I", Cond.methodLink RX2 49 arraycopyName, Cond.native arraycopyName, Cond.static arraycopyName, Cond.initialized "java/lang/System", Cond.methodLink RX2 62 yX2_fall, Cond.instanceMethod yX2_fall, Cond.selects RX2 yX2_fall yX2_fall, Cond.code yX2_fall cX2_fall 5 (some .int), Cond.fieldLink RX2 55 "MarbleRampsModel" "turned" "I", Cond.fieldLink RX2 32 "MarbleRampsModel" "way" "[I", Cond.fieldLink RX2 13 "MarbleRampsModel" "rows" "I", Cond.methodLink RX2 58 yX2_goes, Cond.instanceMethod yX2_goes, Cond.selects RX2 yX2_goes yX2_goes, Cond.code yX2_goes cX2_goes 4 (some .int), Cond.fieldLink RX2 16 "MarbleRampsModel" "part" "[I", Cond.fieldLink RX2 20 "MarbleRampsModel" "period" "[I"]
def wsX2_look_r2 : List Cond := [Cond.methodLink RX2 46 yX2_isColumn, Cond.instanceMethod yX2_isColumn, Cond.selects RX2 yX2_isColumn yX2_isColumn, Cond.code yX2_isColumn cX2_isColumn 2 (some .boolean), Cond.fieldLink RX2 9 "MarbleRampsModel" "columns" "I", Cond.methodLink RX2 38 yX2_isFrom, Cond.static yX2_isFrom, Cond.code yX2_isFrom cX2_isFrom 3 (some .boolean), Cond.methodLink RX2 110 yX2_bringBack, Cond.instanceMethod yX2_bringBack, Cond.selects RX2 yX2_bringBack yX2_bringBack, Cond.code yX2_bringBack cX2_bringBack 1 none]
def wsX2_look : List Cond := .code yX2_look cX2_look 5 (some .int) :: ((wsX2_look_r1 ++ wsX2_look_r2) ++ wsX20)
def wsX2_wouldLand_r1 : List Cond := [Cond.fieldLink RX2 35 "MarbleRampsModel" "thrown" "I", Cond.methodLink RX2 46 yX2_isColumn, Cond.instanceMethod yX2_isColumn, Cond.selects RX2 yX2_isColumn yX2_isColumn, Cond.initialized RX2, Cond.code yX2_isColumn cX2_isColumn 2 (some .boolean), Cond.fieldLink RX2 9 "MarbleRampsModel" "columns" "I", Cond.methodLink RX2 38 yX2_isFrom, Cond.static yX2_isFrom, Cond.code yX2_isFrom cX2_isFrom 3 (some .boolean), Cond.methodLink RX2 113 yX2_look, Cond.instanceMethod yX2_look, Cond.selects RX2 yX2_look yX2_look, Cond.code yX2_look cX2_look 5 (some .int), Cond.methodLink RX2 107 yX2_keep, Cond.instanceMethod yX2_keep, Cond.selects RX2 yX2_keep yX2_keep, Cond.code yX2_keep cX2_keep 1 none, Cond.fieldLink RX2 26 "MarbleRampsModel" "now" "[I", Cond.fieldLink RX2 29 "MarbleRampsModel" "kept" "[I", Cond.methodLink RX2 49 arraycopyName, Cond.native arraycopyName, Cond.static arraycopyName, Cond.initialized "java/lang/System"]
def wsX2_wouldLand_r2 : List Cond := [Cond.methodLink RX2 62 yX2_fall, Cond.instanceMethod yX2_fall, Cond.selects RX2 yX2_fall yX2_fall, Cond.code yX2_fall cX2_fall 5 (some .int), Cond.fieldLink RX2 55 "MarbleRampsModel" "turned" "I", Cond.fieldLink RX2 32 "MarbleRampsModel" "way" "[I", Cond.fieldLink RX2 13 "MarbleRampsModel" "rows" "I", Cond.methodLink RX2 58 yX2_goes, Cond.instanceMethod yX2_goes, Cond.selects RX2 yX2_goes yX2_goes, Cond.code yX2_goes cX2_goes 4 (some .int), Cond.fieldLink RX2 16 "MarbleRampsModel" "part" "[I", Cond.fieldLink RX2 20 "MarbleRampsModel" "period" "[I", Cond.methodLink RX2 110 yX2_bringBack, Cond.instanceMethod yX2_bringBack, Cond.selects RX2 yX2_bringBack yX2_bringBack, Cond.code yX2_bringBack cX2_bringBack 1 none, Cond.methodLink RX2 71 yX2_no, Cond.instanceMethod yX2_no, Cond.selects RX2 yX2_no yX2_no, Cond.code yX2_no cX2_no 2 (some .int)]
def wsX2_wouldLand : List Cond := .code yX2_wouldLand cX2_wouldLand 2 (some .int) :: ((wsX2_wouldLand_r1 ++ wsX2_wouldLand_r2) ++ wsX20)
def wsX2_wouldBeIn_r1 : List Cond := [Cond.fieldLink RX2 35 "MarbleRampsModel" "thrown" "I", Cond.fieldLink RX2 32 "MarbleRampsModel" "way" "[I", Cond.methodLink RX2 46 yX2_isColumn, Cond.instanceMethod yX2_isColumn, Cond.selects RX2 yX2_isColumn yX2_isColumn, Cond.initialized RX2, Cond.code yX2_isColumn cX2_isColumn 2 (some .boolean), Cond.fieldLink RX2 9 "MarbleRampsModel" "columns" "I", Cond.methodLink RX2 38 yX2_isFrom, Cond.static yX2_isFrom, Cond.code yX2_isFrom cX2_isFrom 3 (some .boolean), Cond.methodLink RX2 42 yX2_isRow, Cond.instanceMethod yX2_isRow, Cond.selects RX2 yX2_isRow yX2_isRow, Cond.code yX2_isRow cX2_isRow 2 (some .boolean), Cond.fieldLink RX2 13 "MarbleRampsModel" "rows" "I", Cond.methodLink RX2 71 yX2_no, Cond.instanceMethod yX2_no, Cond.selects RX2 yX2_no yX2_no, Cond.code yX2_no cX2_no 2 (some .int), Cond.methodLink RX2 113 yX2_look, Cond.instanceMethod yX2_look, Cond.selects RX2 yX2_look yX2_look, Cond.code yX2_look cX2_look 5 (some .int)]
def wsX2_wouldBeIn_r2 : List Cond := [Cond.methodLink RX2 107 yX2_keep, Cond.instanceMethod yX2_keep, Cond.selects RX2 yX2_keep yX2_keep, Cond.code yX2_keep cX2_keep 1 none, Cond.fieldLink RX2 26 "MarbleRampsModel" "now" "[I", Cond.fieldLink RX2 29 "MarbleRampsModel" "kept" "[I", Cond.methodLink RX2 49 arraycopyName, Cond.native arraycopyName, Cond.static arraycopyName, Cond.initialized "java/lang/System", Cond.methodLink RX2 62 yX2_fall, Cond.instanceMethod yX2_fall, Cond.selects RX2 yX2_fall yX2_fall, Cond.code yX2_fall cX2_fall 5 (some .int), Cond.fieldLink RX2 55 "MarbleRampsModel" "turned" "I", Cond.methodLink RX2 58 yX2_goes, Cond.instanceMethod yX2_goes, Cond.selects RX2 yX2_goes yX2_goes, Cond.code yX2_goes cX2_goes 4 (some .int), Cond.fieldLink RX2 16 "MarbleRampsModel" "part" "[I", Cond.fieldLink RX2 20 "MarbleRampsModel" "period" "[I", Cond.methodLink RX2 110 yX2_bringBack, Cond.instanceMethod yX2_bringBack, Cond.selects RX2 yX2_bringBack yX2_bringBack]
def wsX2_wouldBeIn_r3 : List Cond := [Cond.code yX2_bringBack cX2_bringBack 1 none]
def wsX2_wouldBeIn : List Cond := .code yX2_wouldBeIn cX2_wouldBeIn 3 (some .int) :: ((wsX2_wouldBeIn_r1 ++ (wsX2_wouldBeIn_r2 ++ wsX2_wouldBeIn_r3)) ++ wsX20)
def wsX2_turnedBy_r1 : List Cond := [Cond.fieldLink RX2 55 "MarbleRampsModel" "turned" "I", Cond.methodLink RX2 113 yX2_look, Cond.instanceMethod yX2_look, Cond.selects RX2 yX2_look yX2_look, Cond.initialized RX2, Cond.code yX2_look cX2_look 5 (some .int), Cond.methodLink RX2 107 yX2_keep, Cond.instanceMethod yX2_keep, Cond.selects RX2 yX2_keep yX2_keep, Cond.code yX2_keep cX2_keep 1 none, Cond.fieldLink RX2 26 "MarbleRampsModel" "now" "[I", Cond.fieldLink RX2 29 "MarbleRampsModel" "kept" "[I", Cond.methodLink RX2 49 arraycopyName, Cond.native arraycopyName, Cond.static arraycopyName, Cond.initialized "java/lang/System", Cond.methodLink RX2 62 yX2_fall, Cond.instanceMethod yX2_fall, Cond.selects RX2 yX2_fall yX2_fall, Cond.code yX2_fall cX2_fall 5 (some .int), Cond.fieldLink RX2 32 "MarbleRampsModel" "way" "[I", Cond.fieldLink RX2 13 "MarbleRampsModel" "rows" "I", Cond.methodLink RX2 58 yX2_goes, Cond.instanceMethod yX2_goes]
def wsX2_turnedBy_r2 : List Cond := [Cond.selects RX2 yX2_goes yX2_goes, Cond.code yX2_goes cX2_goes 4 (some .int), Cond.fieldLink RX2 16 "MarbleRampsModel" "part" "[I", Cond.fieldLink RX2 20 "MarbleRampsModel" "period" "[I", Cond.methodLink RX2 46 yX2_isColumn, Cond.instanceMethod yX2_isColumn, Cond.selects RX2 yX2_isColumn yX2_isColumn, Cond.code yX2_isColumn cX2_isColumn 2 (some .boolean), Cond.fieldLink RX2 9 "MarbleRampsModel" "columns" "I", Cond.methodLink RX2 38 yX2_isFrom, Cond.static yX2_isFrom, Cond.code yX2_isFrom cX2_isFrom 3 (some .boolean), Cond.methodLink RX2 110 yX2_bringBack, Cond.instanceMethod yX2_bringBack, Cond.selects RX2 yX2_bringBack yX2_bringBack, Cond.code yX2_bringBack cX2_bringBack 1 none]
def wsX2_turnedBy : List Cond := .code yX2_turnedBy cX2_turnedBy 2 (some .int) :: ((wsX2_turnedBy_r1 ++ wsX2_turnedBy_r2) ++ wsX20)
def wsX2_wouldTurn_r1 : List Cond := [Cond.fieldLink RX2 35 "MarbleRampsModel" "thrown" "I", Cond.methodLink RX2 46 yX2_isColumn, Cond.instanceMethod yX2_isColumn, Cond.selects RX2 yX2_isColumn yX2_isColumn, Cond.initialized RX2, Cond.code yX2_isColumn cX2_isColumn 2 (some .boolean), Cond.fieldLink RX2 9 "MarbleRampsModel" "columns" "I", Cond.methodLink RX2 38 yX2_isFrom, Cond.static yX2_isFrom, Cond.code yX2_isFrom cX2_isFrom 3 (some .boolean), Cond.methodLink RX2 116 yX2_turnedBy, Cond.instanceMethod yX2_turnedBy, Cond.selects RX2 yX2_turnedBy yX2_turnedBy, Cond.code yX2_turnedBy cX2_turnedBy 2 (some .int), Cond.fieldLink RX2 55 "MarbleRampsModel" "turned" "I", Cond.methodLink RX2 113 yX2_look, Cond.instanceMethod yX2_look, Cond.selects RX2 yX2_look yX2_look, Cond.code yX2_look cX2_look 5 (some .int), Cond.methodLink RX2 107 yX2_keep, Cond.instanceMethod yX2_keep, Cond.selects RX2 yX2_keep yX2_keep, Cond.code yX2_keep cX2_keep 1 none, Cond.fieldLink RX2 26 "MarbleRampsModel" "now" "[I"]
def wsX2_wouldTurn_r2 : List Cond := [Cond.fieldLink RX2 29 "MarbleRampsModel" "kept" "[I", Cond.methodLink RX2 49 arraycopyName, Cond.native arraycopyName, Cond.static arraycopyName, Cond.initialized "java/lang/System", Cond.methodLink RX2 62 yX2_fall, Cond.instanceMethod yX2_fall, Cond.selects RX2 yX2_fall yX2_fall, Cond.code yX2_fall cX2_fall 5 (some .int), Cond.fieldLink RX2 32 "MarbleRampsModel" "way" "[I", Cond.fieldLink RX2 13 "MarbleRampsModel" "rows" "I", Cond.methodLink RX2 58 yX2_goes, Cond.instanceMethod yX2_goes, Cond.selects RX2 yX2_goes yX2_goes, Cond.code yX2_goes cX2_goes 4 (some .int), Cond.fieldLink RX2 16 "MarbleRampsModel" "part" "[I", Cond.fieldLink RX2 20 "MarbleRampsModel" "period" "[I", Cond.methodLink RX2 110 yX2_bringBack, Cond.instanceMethod yX2_bringBack, Cond.selects RX2 yX2_bringBack yX2_bringBack, Cond.code yX2_bringBack cX2_bringBack 1 none, Cond.methodLink RX2 71 yX2_no, Cond.instanceMethod yX2_no, Cond.selects RX2 yX2_no yX2_no]
def wsX2_wouldTurn_r3 : List Cond := [Cond.code yX2_no cX2_no 2 (some .int)]
def wsX2_wouldTurn : List Cond := .code yX2_wouldTurn cX2_wouldTurn 2 (some .int) :: ((wsX2_wouldTurn_r1 ++ (wsX2_wouldTurn_r2 ++ wsX2_wouldTurn_r3)) ++ wsX20)
def wsX2_lastLands_r1 : List Cond := [Cond.fieldLink RX2 35 "MarbleRampsModel" "thrown" "I", Cond.methodLink RX2 46 yX2_isColumn, Cond.instanceMethod yX2_isColumn, Cond.selects RX2 yX2_isColumn yX2_isColumn, Cond.initialized RX2, Cond.code yX2_isColumn cX2_isColumn 2 (some .boolean), Cond.fieldLink RX2 9 "MarbleRampsModel" "columns" "I", Cond.methodLink RX2 38 yX2_isFrom, Cond.static yX2_isFrom, Cond.code yX2_isFrom cX2_isFrom 3 (some .boolean), Cond.methodLink RX2 71 yX2_no, Cond.instanceMethod yX2_no, Cond.selects RX2 yX2_no yX2_no, Cond.code yX2_no cX2_no 2 (some .int), Cond.methodLink RX2 113 yX2_look, Cond.instanceMethod yX2_look, Cond.selects RX2 yX2_look yX2_look, Cond.code yX2_look cX2_look 5 (some .int), Cond.methodLink RX2 107 yX2_keep, Cond.instanceMethod yX2_keep, Cond.selects RX2 yX2_keep yX2_keep, Cond.code yX2_keep cX2_keep 1 none, Cond.fieldLink RX2 26 "MarbleRampsModel" "now" "[I", Cond.fieldLink RX2 29 "MarbleRampsModel" "kept" "[I"]
def wsX2_lastLands_r2 : List Cond := [Cond.methodLink RX2 49 arraycopyName, Cond.native arraycopyName, Cond.static arraycopyName, Cond.initialized "java/lang/System", Cond.methodLink RX2 62 yX2_fall, Cond.instanceMethod yX2_fall, Cond.selects RX2 yX2_fall yX2_fall, Cond.code yX2_fall cX2_fall 5 (some .int), Cond.fieldLink RX2 55 "MarbleRampsModel" "turned" "I", Cond.fieldLink RX2 32 "MarbleRampsModel" "way" "[I", Cond.fieldLink RX2 13 "MarbleRampsModel" "rows" "I", Cond.methodLink RX2 58 yX2_goes, Cond.instanceMethod yX2_goes, Cond.selects RX2 yX2_goes yX2_goes, Cond.code yX2_goes cX2_goes 4 (some .int), Cond.fieldLink RX2 16 "MarbleRampsModel" "part" "[I", Cond.fieldLink RX2 20 "MarbleRampsModel" "period" "[I", Cond.methodLink RX2 110 yX2_bringBack, Cond.instanceMethod yX2_bringBack, Cond.selects RX2 yX2_bringBack yX2_bringBack, Cond.code yX2_bringBack cX2_bringBack 1 none]
def wsX2_lastLands : List Cond := .code yX2_lastLands cX2_lastLands 3 (some .int) :: ((wsX2_lastLands_r1 ++ wsX2_lastLands_r2) ++ wsX20)
def wsX2_isAsKept : List Cond := .code yX2_isAsKept cX2_isAsKept 2 (some .boolean) :: ([.fieldLink RX2 26 "MarbleRampsModel" "now" "[I", .fieldLink RX2 29 "MarbleRampsModel" "kept" "[I"] ++ wsX20)
def wsX2_asBefore_r1 : List Cond := [Cond.methodLink RX2 107 yX2_keep, Cond.instanceMethod yX2_keep, Cond.selects RX2 yX2_keep yX2_keep, Cond.initialized RX2, Cond.code yX2_keep cX2_keep 1 none, Cond.fieldLink RX2 26 "MarbleRampsModel" "now" "[I", Cond.fieldLink RX2 29 "MarbleRampsModel" "kept" "[I", Cond.methodLink RX2 49 arraycopyName, Cond.native arraycopyName, Cond.static arraycopyName, Cond.initialized "java/lang/System", Cond.methodLink RX2 62 yX2_fall, Cond.instanceMethod yX2_fall, Cond.selects RX2 yX2_fall yX2_fall, Cond.code yX2_fall cX2_fall 5 (some .int), Cond.fieldLink RX2 55 "MarbleRampsModel" "turned" "I", Cond.fieldLink RX2 32 "MarbleRampsModel" "way" "[I", Cond.fieldLink RX2 13 "MarbleRampsModel" "rows" "I", Cond.methodLink RX2 58 yX2_goes, Cond.instanceMethod yX2_goes, Cond.selects RX2 yX2_goes yX2_goes, Cond.code yX2_goes cX2_goes 4 (some .int), Cond.fieldLink RX2 16 "MarbleRampsModel" "part" "[I", Cond.fieldLink RX2 20 "MarbleRampsModel" "period" "[I"]
def wsX2_asBefore_r2 : List Cond := [Cond.methodLink RX2 46 yX2_isColumn, Cond.instanceMethod yX2_isColumn, Cond.selects RX2 yX2_isColumn yX2_isColumn, Cond.code yX2_isColumn cX2_isColumn 2 (some .boolean), Cond.fieldLink RX2 9 "MarbleRampsModel" "columns" "I", Cond.methodLink RX2 38 yX2_isFrom, Cond.static yX2_isFrom, Cond.code yX2_isFrom cX2_isFrom 3 (some .boolean), Cond.methodLink RX2 119 yX2_isAsKept, Cond.instanceMethod yX2_isAsKept, Cond.selects RX2 yX2_isAsKept yX2_isAsKept, Cond.code yX2_isAsKept cX2_isAsKept 2 (some .boolean), Cond.methodLink RX2 110 yX2_bringBack, Cond.instanceMethod yX2_bringBack, Cond.selects RX2 yX2_bringBack yX2_bringBack, Cond.code yX2_bringBack cX2_bringBack 1 none]
def wsX2_asBefore : List Cond := .code yX2_asBefore cX2_asBefore 4 (some .int) :: ((wsX2_asBefore_r1 ++ wsX2_asBefore_r2) ++ wsX20)
def wsX2_asBeforeIn_r1 : List Cond := [Cond.fieldLink RX2 35 "MarbleRampsModel" "thrown" "I", Cond.methodLink RX2 46 yX2_isColumn, Cond.instanceMethod yX2_isColumn, Cond.selects RX2 yX2_isColumn yX2_isColumn, Cond.initialized RX2, Cond.code yX2_isColumn cX2_isColumn 2 (some .boolean), Cond.fieldLink RX2 9 "MarbleRampsModel" "columns" "I", Cond.methodLink RX2 38 yX2_isFrom, Cond.static yX2_isFrom, Cond.code yX2_isFrom cX2_isFrom 3 (some .boolean), Cond.methodLink RX2 123 yX2_asBefore, Cond.instanceMethod yX2_asBefore, Cond.selects RX2 yX2_asBefore yX2_asBefore, Cond.code yX2_asBefore cX2_asBefore 4 (some .int), Cond.methodLink RX2 107 yX2_keep, Cond.instanceMethod yX2_keep, Cond.selects RX2 yX2_keep yX2_keep, Cond.code yX2_keep cX2_keep 1 none, Cond.fieldLink RX2 26 "MarbleRampsModel" "now" "[I", Cond.fieldLink RX2 29 "MarbleRampsModel" "kept" "[I", Cond.methodLink RX2 49 arraycopyName, Cond.native arraycopyName, Cond.static arraycopyName, Cond.initialized "java/lang/System"]
def wsX2_asBeforeIn_r2 : List Cond := [Cond.methodLink RX2 62 yX2_fall, Cond.instanceMethod yX2_fall, Cond.selects RX2 yX2_fall yX2_fall, Cond.code yX2_fall cX2_fall 5 (some .int), Cond.fieldLink RX2 55 "MarbleRampsModel" "turned" "I", Cond.fieldLink RX2 32 "MarbleRampsModel" "way" "[I", Cond.fieldLink RX2 13 "MarbleRampsModel" "rows" "I", Cond.methodLink RX2 58 yX2_goes, Cond.instanceMethod yX2_goes, Cond.selects RX2 yX2_goes yX2_goes, Cond.code yX2_goes cX2_goes 4 (some .int), Cond.fieldLink RX2 16 "MarbleRampsModel" "part" "[I", Cond.fieldLink RX2 20 "MarbleRampsModel" "period" "[I", Cond.methodLink RX2 119 yX2_isAsKept, Cond.instanceMethod yX2_isAsKept, Cond.selects RX2 yX2_isAsKept yX2_isAsKept, Cond.code yX2_isAsKept cX2_isAsKept 2 (some .boolean), Cond.methodLink RX2 110 yX2_bringBack, Cond.instanceMethod yX2_bringBack, Cond.selects RX2 yX2_bringBack yX2_bringBack, Cond.code yX2_bringBack cX2_bringBack 1 none, Cond.methodLink RX2 71 yX2_no, Cond.instanceMethod yX2_no, Cond.selects RX2 yX2_no yX2_no]
def wsX2_asBeforeIn_r3 : List Cond := [Cond.code yX2_no cX2_no 2 (some .int)]
def wsX2_asBeforeIn : List Cond := .code yX2_asBeforeIn cX2_asBeforeIn 2 (some .int) :: ((wsX2_asBeforeIn_r1 ++ (wsX2_asBeforeIn_r2 ++ wsX2_asBeforeIn_r3)) ++ wsX20)
def wsX2_runs_r1 : List Cond := [Cond.methodLink RX2 107 yX2_keep, Cond.instanceMethod yX2_keep, Cond.selects RX2 yX2_keep yX2_keep, Cond.initialized RX2, Cond.code yX2_keep cX2_keep 1 none, Cond.fieldLink RX2 26 "MarbleRampsModel" "now" "[I", Cond.fieldLink RX2 29 "MarbleRampsModel" "kept" "[I", Cond.methodLink RX2 49 arraycopyName, Cond.native arraycopyName, Cond.static arraycopyName, Cond.initialized "java/lang/System", Cond.methodLink RX2 85 yX2_runFrom, Cond.instanceMethod yX2_runFrom, Cond.selects RX2 yX2_runFrom yX2_runFrom, Cond.code yX2_runFrom cX2_runFrom 7 (some .int), Cond.fieldLink RX2 23 "MarbleRampsModel" "above" "[I", Cond.fieldLink RX2 9 "MarbleRampsModel" "columns" "I", Cond.methodLink RX2 62 yX2_fall, Cond.instanceMethod yX2_fall, Cond.selects RX2 yX2_fall yX2_fall, Cond.code yX2_fall cX2_fall 5 (some .int), Cond.fieldLink RX2 55 "MarbleRampsModel" "turned" "I", Cond.fieldLink RX2 32 "MarbleRampsModel" "way" "[I", Cond.fieldLink RX2 13 "MarbleRampsModel" "rows" "I"]
def wsX2_runs_r2 : List Cond := [Cond.methodLink RX2 58 yX2_goes, Cond.instanceMethod yX2_goes, Cond.selects RX2 yX2_goes yX2_goes, Cond.code yX2_goes cX2_goes 4 (some .int), Cond.fieldLink RX2 16 "MarbleRampsModel" "part" "[I", Cond.fieldLink RX2 20 "MarbleRampsModel" "period" "[I", Cond.methodLink RX2 46 yX2_isColumn, Cond.instanceMethod yX2_isColumn, Cond.selects RX2 yX2_isColumn yX2_isColumn, Cond.code yX2_isColumn cX2_isColumn 2 (some .boolean), Cond.methodLink RX2 38 yX2_isFrom, Cond.static yX2_isFrom, Cond.code yX2_isFrom cX2_isFrom 3 (some .boolean), Cond.methodLink RX2 66 yJ6_signum_0f7a4, Cond.static yJ6_signum_0f7a4, Cond.initialized RJ6, Cond.code yJ6_signum_0f7a4 cJ6_signum_0f7a4 1 (some .int), Cond.methodLink RX2 110 yX2_bringBack, Cond.instanceMethod yX2_bringBack, Cond.selects RX2 yX2_bringBack yX2_bringBack, Cond.code yX2_bringBack cX2_bringBack 1 none]
def wsX2_runs : List Cond := .code yX2_runs cX2_runs 3 (some .int) :: ((wsX2_runs_r1 ++ wsX2_runs_r2) ++ wsX20)
def wsX2_wouldRun_r1 : List Cond := [Cond.fieldLink RX2 35 "MarbleRampsModel" "thrown" "I", Cond.methodLink RX2 38 yX2_isFrom, Cond.static yX2_isFrom, Cond.initialized RX2, Cond.code yX2_isFrom cX2_isFrom 3 (some .boolean), Cond.methodLink RX2 126 yX2_runs, Cond.instanceMethod yX2_runs, Cond.selects RX2 yX2_runs yX2_runs, Cond.code yX2_runs cX2_runs 3 (some .int), Cond.methodLink RX2 107 yX2_keep, Cond.instanceMethod yX2_keep, Cond.selects RX2 yX2_keep yX2_keep, Cond.code yX2_keep cX2_keep 1 none, Cond.fieldLink RX2 26 "MarbleRampsModel" "now" "[I", Cond.fieldLink RX2 29 "MarbleRampsModel" "kept" "[I", Cond.methodLink RX2 49 arraycopyName, Cond.native arraycopyName, Cond.static arraycopyName, Cond.initialized "java/lang/System", Cond.methodLink RX2 85 yX2_runFrom, Cond.instanceMethod yX2_runFrom, Cond.selects RX2 yX2_runFrom yX2_runFrom, Cond.code yX2_runFrom cX2_runFrom 7 (some .int), Cond.fieldLink RX2 23 "MarbleRampsModel" "above" "[I"]
def wsX2_wouldRun_r2 : List Cond := [Cond.fieldLink RX2 9 "MarbleRampsModel" "columns" "I", Cond.methodLink RX2 62 yX2_fall, Cond.instanceMethod yX2_fall, Cond.selects RX2 yX2_fall yX2_fall, Cond.code yX2_fall cX2_fall 5 (some .int), Cond.fieldLink RX2 55 "MarbleRampsModel" "turned" "I", Cond.fieldLink RX2 32 "MarbleRampsModel" "way" "[I", Cond.fieldLink RX2 13 "MarbleRampsModel" "rows" "I", Cond.methodLink RX2 58 yX2_goes, Cond.instanceMethod yX2_goes, Cond.selects RX2 yX2_goes yX2_goes, Cond.code yX2_goes cX2_goes 4 (some .int), Cond.fieldLink RX2 16 "MarbleRampsModel" "part" "[I", Cond.fieldLink RX2 20 "MarbleRampsModel" "period" "[I", Cond.methodLink RX2 46 yX2_isColumn, Cond.instanceMethod yX2_isColumn, Cond.selects RX2 yX2_isColumn yX2_isColumn, Cond.code yX2_isColumn cX2_isColumn 2 (some .boolean), Cond.methodLink RX2 66 yJ6_signum_0f7a4, Cond.static yJ6_signum_0f7a4, Cond.initialized RJ6, Cond.code yJ6_signum_0f7a4 cJ6_signum_0f7a4 1 (some .int), Cond.methodLink RX2 110 yX2_bringBack, Cond.instanceMethod yX2_bringBack]
def wsX2_wouldRun_r3 : List Cond := [Cond.selects RX2 yX2_bringBack yX2_bringBack, Cond.code yX2_bringBack cX2_bringBack 1 none, Cond.methodLink RX2 71 yX2_no, Cond.instanceMethod yX2_no, Cond.selects RX2 yX2_no yX2_no, Cond.code yX2_no cX2_no 2 (some .int)]
def wsX2_wouldRun : List Cond := .code yX2_wouldRun cX2_wouldRun 2 (some .int) :: ((wsX2_wouldRun_r1 ++ (wsX2_wouldRun_r2 ++ wsX2_wouldRun_r3)) ++ wsX20)
def wsX2_best_r1 : List Cond := [Cond.fieldLink RX2 9 "MarbleRampsModel" "columns" "I", Cond.methodLink RX2 116 yX2_turnedBy, Cond.instanceMethod yX2_turnedBy, Cond.selects RX2 yX2_turnedBy yX2_turnedBy, Cond.initialized RX2, Cond.code yX2_turnedBy cX2_turnedBy 2 (some .int), Cond.fieldLink RX2 55 "MarbleRampsModel" "turned" "I", Cond.methodLink RX2 113 yX2_look, Cond.instanceMethod yX2_look, Cond.selects RX2 yX2_look yX2_look, Cond.code yX2_look cX2_look 5 (some .int), Cond.methodLink RX2 107 yX2_keep, Cond.instanceMethod yX2_keep, Cond.selects RX2 yX2_keep yX2_keep, Cond.code yX2_keep cX2_keep 1 none, Cond.fieldLink RX2 26 "MarbleRampsModel" "now" "[I", Cond.fieldLink RX2 29 "MarbleRampsModel" "kept" "[I", Cond.methodLink RX2 49 arraycopyName, Cond.native arraycopyName, Cond.static arraycopyName, Cond.initialized "java/lang/System", Cond.methodLink RX2 62 yX2_fall, Cond.instanceMethod yX2_fall, Cond.selects RX2 yX2_fall yX2_fall]
def wsX2_best_r2 : List Cond := [Cond.code yX2_fall cX2_fall 5 (some .int), Cond.fieldLink RX2 32 "MarbleRampsModel" "way" "[I", Cond.fieldLink RX2 13 "MarbleRampsModel" "rows" "I", Cond.methodLink RX2 58 yX2_goes, Cond.instanceMethod yX2_goes, Cond.selects RX2 yX2_goes yX2_goes, Cond.code yX2_goes cX2_goes 4 (some .int), Cond.fieldLink RX2 16 "MarbleRampsModel" "part" "[I", Cond.fieldLink RX2 20 "MarbleRampsModel" "period" "[I", Cond.methodLink RX2 46 yX2_isColumn, Cond.instanceMethod yX2_isColumn, Cond.selects RX2 yX2_isColumn yX2_isColumn, Cond.code yX2_isColumn cX2_isColumn 2 (some .boolean), Cond.methodLink RX2 38 yX2_isFrom, Cond.static yX2_isFrom, Cond.code yX2_isFrom cX2_isFrom 3 (some .boolean), Cond.methodLink RX2 110 yX2_bringBack, Cond.instanceMethod yX2_bringBack, Cond.selects RX2 yX2_bringBack yX2_bringBack, Cond.code yX2_bringBack cX2_bringBack 1 none]
def wsX2_best : List Cond := .code yX2_best cX2_best 5 (some .int) :: ((wsX2_best_r1 ++ wsX2_best_r2) ++ wsX20)
def wsX2_bestColumn_r1 : List Cond := [Cond.methodLink RX2 129 yX2_best, Cond.instanceMethod yX2_best, Cond.selects RX2 yX2_best yX2_best, Cond.initialized RX2, Cond.code yX2_best cX2_best 5 (some .int), Cond.fieldLink RX2 9 "MarbleRampsModel" "columns" "I", Cond.methodLink RX2 116 yX2_turnedBy, Cond.instanceMethod yX2_turnedBy, Cond.selects RX2 yX2_turnedBy yX2_turnedBy, Cond.code yX2_turnedBy cX2_turnedBy 2 (some .int), Cond.fieldLink RX2 55 "MarbleRampsModel" "turned" "I", Cond.methodLink RX2 113 yX2_look, Cond.instanceMethod yX2_look, Cond.selects RX2 yX2_look yX2_look, Cond.code yX2_look cX2_look 5 (some .int), Cond.methodLink RX2 107 yX2_keep, Cond.instanceMethod yX2_keep, Cond.selects RX2 yX2_keep yX2_keep, Cond.code yX2_keep cX2_keep 1 none, Cond.fieldLink RX2 26 "MarbleRampsModel" "now" "[I", Cond.fieldLink RX2 29 "MarbleRampsModel" "kept" "[I", Cond.methodLink RX2 49 arraycopyName, Cond.native arraycopyName, Cond.static arraycopyName]
def wsX2_bestColumn_r2 : List Cond := [Cond.initialized "java/lang/System", Cond.methodLink RX2 62 yX2_fall, Cond.instanceMethod yX2_fall, Cond.selects RX2 yX2_fall yX2_fall, Cond.code yX2_fall cX2_fall 5 (some .int), Cond.fieldLink RX2 32 "MarbleRampsModel" "way" "[I", Cond.fieldLink RX2 13 "MarbleRampsModel" "rows" "I", Cond.methodLink RX2 58 yX2_goes, Cond.instanceMethod yX2_goes, Cond.selects RX2 yX2_goes yX2_goes, Cond.code yX2_goes cX2_goes 4 (some .int), Cond.fieldLink RX2 16 "MarbleRampsModel" "part" "[I", Cond.fieldLink RX2 20 "MarbleRampsModel" "period" "[I", Cond.methodLink RX2 46 yX2_isColumn, Cond.instanceMethod yX2_isColumn, Cond.selects RX2 yX2_isColumn yX2_isColumn, Cond.code yX2_isColumn cX2_isColumn 2 (some .boolean), Cond.methodLink RX2 38 yX2_isFrom, Cond.static yX2_isFrom, Cond.code yX2_isFrom cX2_isFrom 3 (some .boolean), Cond.methodLink RX2 110 yX2_bringBack, Cond.instanceMethod yX2_bringBack, Cond.selects RX2 yX2_bringBack yX2_bringBack, Cond.code yX2_bringBack cX2_bringBack 1 none]
def wsX2_bestColumn_r3 : List Cond := [Cond.methodLink RX2 92 yX2_ok, Cond.instanceMethod yX2_ok, Cond.selects RX2 yX2_ok yX2_ok, Cond.code yX2_ok cX2_ok 2 (some .int), Cond.fieldLink RX2 35 "MarbleRampsModel" "thrown" "I"]
def wsX2_bestColumn : List Cond := .code yX2_bestColumn cX2_bestColumn 1 (some .int) :: ((wsX2_bestColumn_r1 ++ (wsX2_bestColumn_r2 ++ wsX2_bestColumn_r3)) ++ wsX20)
def wsX2_meanInBins : List Cond := .code yX2_meanInBins cX2_meanInBins 1 (some .double) :: ([.fieldLink RX2 35 "MarbleRampsModel" "thrown" "I", .fieldLink RX2 9 "MarbleRampsModel" "columns" "I", .methodLink RX2 88 yX2_inBins, .instanceMethod yX2_inBins, .selects RX2 yX2_inBins yX2_inBins, .initialized RX2, .code yX2_inBins cX2_inBins 3 (some .int), .fieldLink RX2 26 "MarbleRampsModel" "now" "[I"] ++ wsX20)
def wsX2_digest_r1 : List Cond := [Cond.fieldLink RX2 35 "MarbleRampsModel" "thrown" "I", Cond.arrayClass .int, Cond.fieldLink RX2 9 "MarbleRampsModel" "columns" "I", Cond.fieldLink RX2 13 "MarbleRampsModel" "rows" "I", Cond.fieldLink RX2 26 "MarbleRampsModel" "now" "[I", Cond.constantLong RX2 132 (2239), Cond.constantLong RX2 134 (31), Cond.fieldLink RX2 23 "MarbleRampsModel" "above" "[I", Cond.fieldLink RX2 16 "MarbleRampsModel" "part" "[I", Cond.methodLink RX2 101 yX2_togglesNow, Cond.instanceMethod yX2_togglesNow, Cond.selects RX2 yX2_togglesNow yX2_togglesNow, Cond.initialized RX2, Cond.code yX2_togglesNow cX2_togglesNow 3 (some .int), Cond.methodLink RX2 129 yX2_best, Cond.instanceMethod yX2_best, Cond.selects RX2 yX2_best yX2_best, Cond.code yX2_best cX2_best 5 (some .int), Cond.methodLink RX2 116 yX2_turnedBy, Cond.instanceMethod yX2_turnedBy, Cond.selects RX2 yX2_turnedBy yX2_turnedBy, Cond.code yX2_turnedBy cX2_turnedBy 2 (some .int), Cond.fieldLink RX2 55 "MarbleRampsModel" "turned" "I", Cond.methodLink RX2 113 yX2_look]
def wsX2_digest_r2 : List Cond := [Cond.instanceMethod yX2_look, Cond.selects RX2 yX2_look yX2_look, Cond.code yX2_look cX2_look 5 (some .int), Cond.methodLink RX2 107 yX2_keep, Cond.instanceMethod yX2_keep, Cond.selects RX2 yX2_keep yX2_keep, Cond.code yX2_keep cX2_keep 1 none, Cond.fieldLink RX2 29 "MarbleRampsModel" "kept" "[I", Cond.methodLink RX2 49 arraycopyName, Cond.native arraycopyName, Cond.static arraycopyName, Cond.initialized "java/lang/System", Cond.methodLink RX2 62 yX2_fall, Cond.instanceMethod yX2_fall, Cond.selects RX2 yX2_fall yX2_fall, Cond.code yX2_fall cX2_fall 5 (some .int), Cond.fieldLink RX2 32 "MarbleRampsModel" "way" "[I", Cond.methodLink RX2 58 yX2_goes, Cond.instanceMethod yX2_goes, Cond.selects RX2 yX2_goes yX2_goes, Cond.code yX2_goes cX2_goes 4 (some .int), Cond.fieldLink RX2 20 "MarbleRampsModel" "period" "[I", Cond.methodLink RX2 46 yX2_isColumn, Cond.instanceMethod yX2_isColumn]
def wsX2_digest_r3 : List Cond := [Cond.selects RX2 yX2_isColumn yX2_isColumn, Cond.code yX2_isColumn cX2_isColumn 2 (some .boolean), Cond.methodLink RX2 38 yX2_isFrom, Cond.static yX2_isFrom, Cond.code yX2_isFrom cX2_isFrom 3 (some .boolean), Cond.methodLink RX2 110 yX2_bringBack, Cond.instanceMethod yX2_bringBack, Cond.selects RX2 yX2_bringBack yX2_bringBack, Cond.code yX2_bringBack cX2_bringBack 1 none, Cond.methodLink RX2 126 yX2_runs, Cond.instanceMethod yX2_runs, Cond.selects RX2 yX2_runs yX2_runs, Cond.code yX2_runs cX2_runs 3 (some .int), Cond.methodLink RX2 85 yX2_runFrom, Cond.instanceMethod yX2_runFrom, Cond.selects RX2 yX2_runFrom yX2_runFrom, Cond.code yX2_runFrom cX2_runFrom 7 (some .int), Cond.methodLink RX2 66 yJ6_signum_0f7a4, Cond.static yJ6_signum_0f7a4, Cond.initialized RJ6, Cond.code yJ6_signum_0f7a4 cJ6_signum_0f7a4 1 (some .int), Cond.methodLink RX2 104 yX2_number, Cond.instanceMethod yX2_number, Cond.selects RX2 yX2_number yX2_number]
def wsX2_digest_r4 : List Cond := [Cond.code yX2_number cX2_number 5 (some .int), Cond.methodLink RX2 95 yX2_isRight, Cond.instanceMethod yX2_isRight, Cond.selects RX2 yX2_isRight yX2_isRight, Cond.code yX2_isRight cX2_isRight 3 (some .boolean), Cond.methodLink RX2 98 yX2_counted, Cond.instanceMethod yX2_counted, Cond.selects RX2 yX2_counted yX2_counted, Cond.code yX2_counted cX2_counted 3 (some .int), Cond.methodLink RX2 123 yX2_asBefore, Cond.instanceMethod yX2_asBefore, Cond.selects RX2 yX2_asBefore yX2_asBefore, Cond.code yX2_asBefore cX2_asBefore 4 (some .int), Cond.methodLink RX2 119 yX2_isAsKept, Cond.instanceMethod yX2_isAsKept, Cond.selects RX2 yX2_isAsKept yX2_isAsKept, Cond.code yX2_isAsKept cX2_isAsKept 2 (some .boolean)]
def wsX2_digest : List Cond := .code yX2_digest cX2_digest 10 (some .long) :: ((wsX2_digest_r1 ++ (wsX2_digest_r2 ++ (wsX2_digest_r3 ++ wsX2_digest_r4))) ++ wsX20)
def wsL_lay_r1 : List Cond := [Cond.classLink RL 13 "java/lang/IllegalArgumentException", Cond.methodLink RL 7 yX1_lay, Cond.instanceMethod yX1_lay, Cond.selects RX1 yX1_lay yX1_lay, Cond.initialized RX1, Cond.code yX1_lay cX1_lay 3 (some .int), Cond.fieldLink RX1 10 "MarbleRamps" "now" "LMarbleRamps$Machine;", Cond.methodLink RX1 19 yX1_needWithin, Cond.static yX1_needWithin, Cond.code yX1_needWithin cX1_needWithin 3 none, Cond.classLink RX1 199 "java/lang/IllegalArgumentException", Cond.initialized "java/lang/IllegalArgumentException", Cond.methodLink RX1 23 yX0_layBoard, Cond.instanceMethod yX0_layBoard, Cond.selects RX0 yX0_layBoard yX0_layBoard, Cond.initialized RX0, Cond.code yX0_layBoard cX0_layBoard 3 none, Cond.fieldLink RX0 34 "MarbleRamps$Machine" "columnCount" "I", Cond.fieldLink RX0 38 "MarbleRamps$Machine" "rowCount" "I", Cond.fieldLink RX0 41 "MarbleRamps$Machine" "lostCount" "I", Cond.fieldLink RX0 9 "MarbleRamps$Machine" "parts" "[I", Cond.fieldLink RX0 15 "MarbleRamps$Machine" "periods" "[I", Cond.fieldLink RX0 18 "MarbleRamps$Machine" "states" "[I", Cond.fieldLink RX0 24 "MarbleRamps$Machine" "hopperColumns" "[I"]
def wsL_lay_r2 : List Cond := [Cond.methodLink RX0 44 yJ7_fill_53178, Cond.static yJ7_fill_53178, Cond.initialized RJ7, Cond.code yJ7_fill_53178 cJ7_fill_53178 4 none, Cond.methodLink RX0 50 yX0_clearBins, Cond.instanceMethod yX0_clearBins, Cond.selects RX0 yX0_clearBins yX0_clearBins, Cond.code yX0_clearBins cX0_clearBins 1 none, Cond.fieldLink RX0 21 "MarbleRamps$Machine" "bins" "[I", Cond.static yX1_setCell, Cond.code yX1_setCell cX1_setCell 3 none]
def wsL_lay : List Cond := .codeWith yL_lay cL_lay 5 (some .int) [(0, 10, 13, 13)] :: ((wsL_lay_r1 ++ wsL_lay_r2) ++ wsX10 ++ wsX00 ++ (vx_atS RX1 203 "java/lang/IllegalArgumentException" ["java/lang/RuntimeException", "java/lang/Exception"]).filter goodWord)
def wsL_put_r1 : List Cond := [Cond.classLink RL 19 "java/lang/IndexOutOfBoundsException", Cond.classLink RL 13 "java/lang/IllegalArgumentException", Cond.methodLink RL 15 yX1_put, Cond.instanceMethod yX1_put, Cond.selects RX1 yX1_put yX1_put, Cond.initialized RX1, Cond.code yX1_put cX1_put 4 (some .int), Cond.fieldLink RX1 10 "MarbleRamps" "now" "LMarbleRamps$Machine;", Cond.methodLink RX1 27 yX1_needPlace, Cond.instanceMethod yX1_needPlace, Cond.selects RX1 yX1_needPlace yX1_needPlace, Cond.code yX1_needPlace cX1_needPlace 3 none, Cond.methodLink RX1 110 yX1_needRow, Cond.instanceMethod yX1_needRow, Cond.selects RX1 yX1_needRow yX1_needRow, Cond.code yX1_needRow cX1_needRow 2 none, Cond.classLink RX1 187 "java/lang/IndexOutOfBoundsException", Cond.initialized "java/lang/IndexOutOfBoundsException", Cond.methodLink RX1 184 yX0_hasRow, Cond.instanceMethod yX0_hasRow, Cond.selects RX0 yX0_hasRow yX0_hasRow, Cond.initialized RX0, Cond.code yX0_hasRow cX0_hasRow 2 (some .boolean), Cond.fieldLink RX0 38 "MarbleRamps$Machine" "rowCount" "I"]
def wsL_put_r2 : List Cond := [Cond.methodLink RX1 60 yX1_needColumn, Cond.instanceMethod yX1_needColumn, Cond.selects RX1 yX1_needColumn yX1_needColumn, Cond.code yX1_needColumn cX1_needColumn 2 none, Cond.methodLink RX1 192 yX0_hasColumn, Cond.instanceMethod yX0_hasColumn, Cond.selects RX0 yX0_hasColumn yX0_hasColumn, Cond.code yX0_hasColumn cX0_hasColumn 2 (some .boolean), Cond.fieldLink RX0 34 "MarbleRamps$Machine" "columnCount" "I", Cond.methodLink RX1 19 yX1_needWithin, Cond.static yX1_needWithin, Cond.code yX1_needWithin cX1_needWithin 3 none, Cond.classLink RX1 199 "java/lang/IllegalArgumentException", Cond.initialized "java/lang/IllegalArgumentException", Cond.methodLink RX1 30 yX0_replacePart, Cond.instanceMethod yX0_replacePart, Cond.selects RX0 yX0_replacePart yX0_replacePart, Cond.code yX0_replacePart cX0_replacePart 7 (some .int), Cond.fieldLink RX0 9 "MarbleRamps$Machine" "parts" "[I", Cond.fieldLink RX0 15 "MarbleRamps$Machine" "periods" "[I", Cond.fieldLink RX0 18 "MarbleRamps$Machine" "states" "[I", Cond.methodLink RX0 69 yX0_placeOf, Cond.instanceMethod yX0_placeOf, Cond.selects RX0 yX0_placeOf yX0_placeOf]
def wsL_put_r3 : List Cond := [Cond.code yX0_placeOf cX0_placeOf 3 (some .int), Cond.methodLink RX0 65 yX0_partIn, Cond.instanceMethod yX0_partIn, Cond.selects RX0 yX0_partIn yX0_partIn, Cond.code yX0_partIn cX0_partIn 2 (some .int), Cond.static yX1_cell, Cond.code yX1_cell cX1_cell 2 (some .int), Cond.static yX1_setCell, Cond.code yX1_setCell cX1_setCell 3 none]
def wsL_put : List Cond := .codeWith yL_put cL_put 6 (some .int) [(0, 12, 15, 19), (0, 12, 19, 13)] :: ((wsL_put_r1 ++ (wsL_put_r2 ++ wsL_put_r3)) ++ wsX10 ++ wsX00 ++ (vx_atS RX1 191 "java/lang/IndexOutOfBoundsException" ["java/lang/RuntimeException", "java/lang/Exception"]).filter goodWord ++ (vx_atS RX1 203 "java/lang/IllegalArgumentException" ["java/lang/RuntimeException", "java/lang/Exception"]).filter goodWord)
def wsL_putCounter_r1 : List Cond := [Cond.classLink RL 19 "java/lang/IndexOutOfBoundsException", Cond.classLink RL 13 "java/lang/IllegalArgumentException", Cond.methodLink RL 21 yX1_putCounter, Cond.instanceMethod yX1_putCounter, Cond.selects RX1 yX1_putCounter yX1_putCounter, Cond.initialized RX1, Cond.code yX1_putCounter cX1_putCounter 4 (some .int), Cond.fieldLink RX1 10 "MarbleRamps" "now" "LMarbleRamps$Machine;", Cond.methodLink RX1 27 yX1_needPlace, Cond.instanceMethod yX1_needPlace, Cond.selects RX1 yX1_needPlace yX1_needPlace, Cond.code yX1_needPlace cX1_needPlace 3 none, Cond.methodLink RX1 110 yX1_needRow, Cond.instanceMethod yX1_needRow, Cond.selects RX1 yX1_needRow yX1_needRow, Cond.code yX1_needRow cX1_needRow 2 none, Cond.classLink RX1 187 "java/lang/IndexOutOfBoundsException", Cond.initialized "java/lang/IndexOutOfBoundsException", Cond.methodLink RX1 184 yX0_hasRow, Cond.instanceMethod yX0_hasRow, Cond.selects RX0 yX0_hasRow yX0_hasRow, Cond.initialized RX0, Cond.code yX0_hasRow cX0_hasRow 2 (some .boolean), Cond.fieldLink RX0 38 "MarbleRamps$Machine" "rowCount" "I"]
def wsL_putCounter_r2 : List Cond := [Cond.methodLink RX1 60 yX1_needColumn, Cond.instanceMethod yX1_needColumn, Cond.selects RX1 yX1_needColumn yX1_needColumn, Cond.code yX1_needColumn cX1_needColumn 2 none, Cond.methodLink RX1 192 yX0_hasColumn, Cond.instanceMethod yX0_hasColumn, Cond.selects RX0 yX0_hasColumn yX0_hasColumn, Cond.code yX0_hasColumn cX0_hasColumn 2 (some .boolean), Cond.fieldLink RX0 34 "MarbleRamps$Machine" "columnCount" "I", Cond.methodLink RX1 19 yX1_needWithin, Cond.static yX1_needWithin, Cond.code yX1_needWithin cX1_needWithin 3 none, Cond.classLink RX1 199 "java/lang/IllegalArgumentException", Cond.initialized "java/lang/IllegalArgumentException", Cond.methodLink RX1 30 yX0_replacePart, Cond.instanceMethod yX0_replacePart, Cond.selects RX0 yX0_replacePart yX0_replacePart, Cond.code yX0_replacePart cX0_replacePart 7 (some .int), Cond.fieldLink RX0 9 "MarbleRamps$Machine" "parts" "[I", Cond.fieldLink RX0 15 "MarbleRamps$Machine" "periods" "[I", Cond.fieldLink RX0 18 "MarbleRamps$Machine" "states" "[I", Cond.methodLink RX0 69 yX0_placeOf, Cond.instanceMethod yX0_placeOf, Cond.selects RX0 yX0_placeOf yX0_placeOf]
def wsL_putCounter_r3 : List Cond := [Cond.code yX0_placeOf cX0_placeOf 3 (some .int), Cond.methodLink RX0 65 yX0_partIn, Cond.instanceMethod yX0_partIn, Cond.selects RX0 yX0_partIn yX0_partIn, Cond.code yX0_partIn cX0_partIn 2 (some .int), Cond.static yX1_cell, Cond.code yX1_cell cX1_cell 2 (some .int), Cond.static yX1_setCell, Cond.code yX1_setCell cX1_setCell 3 none]
def wsL_putCounter : List Cond := .codeWith yL_putCounter cL_putCounter 6 (some .int) [(0, 12, 15, 19), (0, 12, 19, 13)] :: ((wsL_putCounter_r1 ++ (wsL_putCounter_r2 ++ wsL_putCounter_r3)) ++ wsX10 ++ wsX00 ++ (vx_atS RX1 191 "java/lang/IndexOutOfBoundsException" ["java/lang/RuntimeException", "java/lang/Exception"]).filter goodWord ++ (vx_atS RX1 203 "java/lang/IllegalArgumentException" ["java/lang/RuntimeException", "java/lang/Exception"]).filter goodWord)
def wsL_turn_r1 : List Cond := [Cond.classLink RL 19 "java/lang/IndexOutOfBoundsException", Cond.classLink RL 28 "java/lang/IllegalStateException", Cond.methodLink RL 24 yX1_turn, Cond.instanceMethod yX1_turn, Cond.selects RX1 yX1_turn yX1_turn, Cond.initialized RX1, Cond.code yX1_turn cX1_turn 4 (some .boolean), Cond.classLink RX1 42 "java/lang/IllegalStateException", Cond.initialized "java/lang/IllegalStateException", Cond.fieldLink RX1 10 "MarbleRamps" "now" "LMarbleRamps$Machine;", Cond.methodLink RX1 27 yX1_needPlace, Cond.instanceMethod yX1_needPlace, Cond.selects RX1 yX1_needPlace yX1_needPlace, Cond.code yX1_needPlace cX1_needPlace 3 none, Cond.methodLink RX1 110 yX1_needRow, Cond.instanceMethod yX1_needRow, Cond.selects RX1 yX1_needRow yX1_needRow, Cond.code yX1_needRow cX1_needRow 2 none, Cond.classLink RX1 187 "java/lang/IndexOutOfBoundsException", Cond.initialized "java/lang/IndexOutOfBoundsException", Cond.methodLink RX1 184 yX0_hasRow, Cond.instanceMethod yX0_hasRow, Cond.selects RX0 yX0_hasRow yX0_hasRow, Cond.initialized RX0]
def wsL_turn_r2 : List Cond := [Cond.code yX0_hasRow cX0_hasRow 2 (some .boolean), Cond.fieldLink RX0 38 "MarbleRamps$Machine" "rowCount" "I", Cond.methodLink RX1 60 yX1_needColumn, Cond.instanceMethod yX1_needColumn, Cond.selects RX1 yX1_needColumn yX1_needColumn, Cond.code yX1_needColumn cX1_needColumn 2 none, Cond.methodLink RX1 192 yX0_hasColumn, Cond.instanceMethod yX0_hasColumn, Cond.selects RX0 yX0_hasColumn yX0_hasColumn, Cond.code yX0_hasColumn cX0_hasColumn 2 (some .boolean), Cond.fieldLink RX0 34 "MarbleRamps$Machine" "columnCount" "I", Cond.methodLink RX1 34 yX0_placeOf, Cond.instanceMethod yX0_placeOf, Cond.selects RX0 yX0_placeOf yX0_placeOf, Cond.code yX0_placeOf cX0_placeOf 3 (some .int), Cond.methodLink RX1 38 yX0_partIn, Cond.instanceMethod yX0_partIn, Cond.selects RX0 yX0_partIn yX0_partIn, Cond.code yX0_partIn cX0_partIn 2 (some .int), Cond.fieldLink RX0 9 "MarbleRamps$Machine" "parts" "[I", Cond.static yX1_cell, Cond.code yX1_cell cX1_cell 2 (some .int), Cond.methodLink RX1 49 yX0_turnOver, Cond.instanceMethod yX0_turnOver]
def wsL_turn_r3 : List Cond := [Cond.selects RX0 yX0_turnOver yX0_turnOver, Cond.code yX0_turnOver cX0_turnOver 2 none, Cond.fieldLink RX0 18 "MarbleRamps$Machine" "states" "[I", Cond.methodLink RX0 73 yX0_isRightToggle, Cond.instanceMethod yX0_isRightToggle, Cond.selects RX0 yX0_isRightToggle yX0_isRightToggle, Cond.code yX0_isRightToggle cX0_isRightToggle 2 (some .boolean), Cond.methodLink RX0 65 yX0_partIn, Cond.static yX1_setCell, Cond.code yX1_setCell cX1_setCell 3 none, Cond.methodLink RX1 53 yX0_isRightToggle]
def wsL_turn : List Cond := .codeWith yL_turn cL_turn 5 (some .int) [(0, 17, 20, 19), (0, 17, 24, 28)] :: ((wsL_turn_r1 ++ (wsL_turn_r2 ++ wsL_turn_r3)) ++ wsX10 ++ wsX00 ++ (vx_atS RX1 46 "java/lang/IllegalStateException" ["java/lang/RuntimeException", "java/lang/Exception"]).filter goodWord ++ (vx_atS RX1 191 "java/lang/IndexOutOfBoundsException" ["java/lang/RuntimeException", "java/lang/Exception"]).filter goodWord)
def wsL_setHopper_r1 : List Cond := [Cond.classLink RL 19 "java/lang/IndexOutOfBoundsException", Cond.classLink RL 13 "java/lang/IllegalArgumentException", Cond.methodLink RL 30 yX1_setHopper, Cond.instanceMethod yX1_setHopper, Cond.selects RX1 yX1_setHopper yX1_setHopper, Cond.initialized RX1, Cond.code yX1_setHopper cX1_setHopper 4 (some .int), Cond.fieldLink RX1 10 "MarbleRamps" "now" "LMarbleRamps$Machine;", Cond.methodLink RX1 57 yX1_needHopper, Cond.static yX1_needHopper, Cond.code yX1_needHopper cX1_needHopper 1 none, Cond.classLink RX1 187 "java/lang/IndexOutOfBoundsException", Cond.initialized "java/lang/IndexOutOfBoundsException", Cond.methodLink RX1 60 yX1_needColumn, Cond.instanceMethod yX1_needColumn, Cond.selects RX1 yX1_needColumn yX1_needColumn, Cond.code yX1_needColumn cX1_needColumn 2 none, Cond.methodLink RX1 192 yX0_hasColumn, Cond.instanceMethod yX0_hasColumn, Cond.selects RX0 yX0_hasColumn yX0_hasColumn, Cond.initialized RX0, Cond.code yX0_hasColumn cX0_hasColumn 2 (some .boolean), Cond.fieldLink RX0 34 "MarbleRamps$Machine" "columnCount" "I", Cond.methodLink RX1 19 yX1_needWithin]
def wsL_setHopper_r2 : List Cond := [Cond.static yX1_needWithin, Cond.code yX1_needWithin cX1_needWithin 3 none, Cond.classLink RX1 199 "java/lang/IllegalArgumentException", Cond.initialized "java/lang/IllegalArgumentException", Cond.methodLink RX1 63 yX0_fillHopper, Cond.instanceMethod yX0_fillHopper, Cond.selects RX0 yX0_fillHopper yX0_fillHopper, Cond.code yX0_fillHopper cX0_fillHopper 5 (some .int), Cond.fieldLink RX0 27 "MarbleRamps$Machine" "hopperMarbles" "[I", Cond.fieldLink RX0 24 "MarbleRamps$Machine" "hopperColumns" "[I", Cond.static yX1_cell, Cond.code yX1_cell cX1_cell 2 (some .int), Cond.static yX1_setCell, Cond.code yX1_setCell cX1_setCell 3 none]
def wsL_setHopper : List Cond := .codeWith yL_setHopper cL_setHopper 6 (some .int) [(0, 12, 15, 19), (0, 12, 19, 13)] :: ((wsL_setHopper_r1 ++ wsL_setHopper_r2) ++ wsX10 ++ wsX00 ++ (vx_atS RX1 191 "java/lang/IndexOutOfBoundsException" ["java/lang/RuntimeException", "java/lang/Exception"]).filter goodWord ++ (vx_atS RX1 203 "java/lang/IllegalArgumentException" ["java/lang/RuntimeException", "java/lang/Exception"]).filter goodWord)
def wsL_drop_r1 : List Cond := [Cond.classLink RL 19 "java/lang/IndexOutOfBoundsException", Cond.methodLink RL 33 yX1_drop, Cond.instanceMethod yX1_drop, Cond.selects RX1 yX1_drop yX1_drop, Cond.initialized RX1, Cond.code yX1_drop cX1_drop 2 (some .int), Cond.fieldLink RX1 10 "MarbleRamps" "now" "LMarbleRamps$Machine;", Cond.methodLink RX1 60 yX1_needColumn, Cond.instanceMethod yX1_needColumn, Cond.selects RX1 yX1_needColumn yX1_needColumn, Cond.code yX1_needColumn cX1_needColumn 2 none, Cond.classLink RX1 187 "java/lang/IndexOutOfBoundsException", Cond.initialized "java/lang/IndexOutOfBoundsException", Cond.methodLink RX1 192 yX0_hasColumn, Cond.instanceMethod yX0_hasColumn, Cond.selects RX0 yX0_hasColumn yX0_hasColumn, Cond.initialized RX0, Cond.code yX0_hasColumn cX0_hasColumn 2 (some .boolean), Cond.fieldLink RX0 34 "MarbleRamps$Machine" "columnCount" "I", Cond.methodLink RX1 67 yX0_letFall, Cond.instanceMethod yX0_letFall, Cond.selects RX0 yX0_letFall yX0_letFall, Cond.code yX0_letFall cX0_letFall 3 (some .int), Cond.fieldLink RX0 38 "MarbleRamps$Machine" "rowCount" "I"]
def wsL_drop_r2 : List Cond := [Cond.fieldLink RX0 41 "MarbleRamps$Machine" "lostCount" "I", Cond.fieldLink RX0 21 "MarbleRamps$Machine" "bins" "[I", Cond.methodLink RX0 77 yX0_fallTo, Cond.instanceMethod yX0_fallTo, Cond.selects RX0 yX0_fallTo yX0_fallTo, Cond.code yX0_fallTo cX0_fallTo 6 (some .int), Cond.methodLink RX0 69 yX0_placeOf, Cond.instanceMethod yX0_placeOf, Cond.selects RX0 yX0_placeOf yX0_placeOf, Cond.code yX0_placeOf cX0_placeOf 3 (some .int), Cond.methodLink RX0 80 yX0_wayOut, Cond.instanceMethod yX0_wayOut, Cond.selects RX0 yX0_wayOut yX0_wayOut, Cond.code yX0_wayOut cX0_wayOut 5 (some .int), Cond.fieldLink RX0 9 "MarbleRamps$Machine" "parts" "[I", Cond.fieldLink RX0 18 "MarbleRamps$Machine" "states" "[I", Cond.fieldLink RX0 15 "MarbleRamps$Machine" "periods" "[I", Cond.static yX1_cell, Cond.code yX1_cell cX1_cell 2 (some .int), Cond.static yX1_setCell, Cond.code yX1_setCell cX1_setCell 3 none, Cond.methodLink RX0 83 yX0_hasColumn]
def wsL_drop : List Cond := .codeWith yL_drop cL_drop 4 (some .int) [(0, 9, 12, 19)] :: ((wsL_drop_r1 ++ wsL_drop_r2) ++ wsX10 ++ wsX00 ++ (vx_atS RX1 191 "java/lang/IndexOutOfBoundsException" ["java/lang/RuntimeException", "java/lang/Exception"]).filter goodWord)
def wsL_run_r1 : List Cond := [Cond.classLink RL 19 "java/lang/IndexOutOfBoundsException", Cond.classLink RL 13 "java/lang/IllegalArgumentException", Cond.methodLink RL 37 yX1_run, Cond.instanceMethod yX1_run, Cond.selects RX1 yX1_run yX1_run, Cond.initialized RX1, Cond.code yX1_run cX1_run 3 (some .int), Cond.fieldLink RX1 10 "MarbleRamps" "now" "LMarbleRamps$Machine;", Cond.methodLink RX1 57 yX1_needHopper, Cond.static yX1_needHopper, Cond.code yX1_needHopper cX1_needHopper 1 none, Cond.classLink RX1 187 "java/lang/IndexOutOfBoundsException", Cond.initialized "java/lang/IndexOutOfBoundsException", Cond.methodLink RX1 19 yX1_needWithin, Cond.static yX1_needWithin, Cond.code yX1_needWithin cX1_needWithin 3 none, Cond.classLink RX1 199 "java/lang/IllegalArgumentException", Cond.initialized "java/lang/IllegalArgumentException", Cond.methodLink RX1 70 yX0_runFrom, Cond.instanceMethod yX0_runFrom, Cond.selects RX0 yX0_runFrom yX0_runFrom, Cond.initialized RX0, Cond.code yX0_runFrom cX0_runFrom 5 (some .int), Cond.fieldLink RX0 27 "MarbleRamps$Machine" "hopperMarbles" "[I"]
def wsL_run_r2 : List Cond := [Cond.fieldLink RX0 24 "MarbleRamps$Machine" "hopperColumns" "[I", Cond.static yX1_cell, Cond.code yX1_cell cX1_cell 2 (some .int), Cond.static yX1_setCell, Cond.code yX1_setCell cX1_setCell 3 none, Cond.methodLink RX0 86 yX0_letFall, Cond.instanceMethod yX0_letFall, Cond.selects RX0 yX0_letFall yX0_letFall, Cond.code yX0_letFall cX0_letFall 3 (some .int), Cond.fieldLink RX0 38 "MarbleRamps$Machine" "rowCount" "I", Cond.fieldLink RX0 41 "MarbleRamps$Machine" "lostCount" "I", Cond.fieldLink RX0 21 "MarbleRamps$Machine" "bins" "[I", Cond.methodLink RX0 77 yX0_fallTo, Cond.instanceMethod yX0_fallTo, Cond.selects RX0 yX0_fallTo yX0_fallTo, Cond.code yX0_fallTo cX0_fallTo 6 (some .int), Cond.methodLink RX0 69 yX0_placeOf, Cond.instanceMethod yX0_placeOf, Cond.selects RX0 yX0_placeOf yX0_placeOf, Cond.code yX0_placeOf cX0_placeOf 3 (some .int), Cond.fieldLink RX0 34 "MarbleRamps$Machine" "columnCount" "I", Cond.methodLink RX0 80 yX0_wayOut, Cond.instanceMethod yX0_wayOut, Cond.selects RX0 yX0_wayOut yX0_wayOut]
def wsL_run_r3 : List Cond := [Cond.code yX0_wayOut cX0_wayOut 5 (some .int), Cond.fieldLink RX0 9 "MarbleRamps$Machine" "parts" "[I", Cond.fieldLink RX0 18 "MarbleRamps$Machine" "states" "[I", Cond.fieldLink RX0 15 "MarbleRamps$Machine" "periods" "[I", Cond.methodLink RX0 83 yX0_hasColumn, Cond.instanceMethod yX0_hasColumn, Cond.selects RX0 yX0_hasColumn yX0_hasColumn, Cond.code yX0_hasColumn cX0_hasColumn 2 (some .boolean), Cond.methodLink RX0 89 yX0_hopperBehind, Cond.instanceMethod yX0_hopperBehind, Cond.selects RX0 yX0_hopperBehind yX0_hopperBehind, Cond.code yX0_hopperBehind cX0_hopperBehind 3 (some .int)]
def wsL_run : List Cond := .codeWith yL_run cL_run 5 (some .int) [(0, 10, 13, 19), (0, 10, 17, 13)] :: ((wsL_run_r1 ++ (wsL_run_r2 ++ wsL_run_r3)) ++ wsX10 ++ wsX00 ++ (vx_atS RX1 191 "java/lang/IndexOutOfBoundsException" ["java/lang/RuntimeException", "java/lang/Exception"]).filter goodWord ++ (vx_atS RX1 203 "java/lang/IllegalArgumentException" ["java/lang/RuntimeException", "java/lang/Exception"]).filter goodWord)
def wsL_partAt_r1 : List Cond := [Cond.classLink RL 19 "java/lang/IndexOutOfBoundsException", Cond.methodLink RL 40 yX1_partAt, Cond.instanceMethod yX1_partAt, Cond.selects RX1 yX1_partAt yX1_partAt, Cond.initialized RX1, Cond.code yX1_partAt cX1_partAt 3 (some .int), Cond.fieldLink RX1 10 "MarbleRamps" "now" "LMarbleRamps$Machine;", Cond.methodLink RX1 27 yX1_needPlace, Cond.instanceMethod yX1_needPlace, Cond.selects RX1 yX1_needPlace yX1_needPlace, Cond.code yX1_needPlace cX1_needPlace 3 none, Cond.methodLink RX1 110 yX1_needRow, Cond.instanceMethod yX1_needRow, Cond.selects RX1 yX1_needRow yX1_needRow, Cond.code yX1_needRow cX1_needRow 2 none, Cond.classLink RX1 187 "java/lang/IndexOutOfBoundsException", Cond.initialized "java/lang/IndexOutOfBoundsException", Cond.methodLink RX1 184 yX0_hasRow, Cond.instanceMethod yX0_hasRow, Cond.selects RX0 yX0_hasRow yX0_hasRow, Cond.initialized RX0, Cond.code yX0_hasRow cX0_hasRow 2 (some .boolean), Cond.fieldLink RX0 38 "MarbleRamps$Machine" "rowCount" "I", Cond.methodLink RX1 60 yX1_needColumn]
def wsL_partAt_r2 : List Cond := [Cond.instanceMethod yX1_needColumn, Cond.selects RX1 yX1_needColumn yX1_needColumn, Cond.code yX1_needColumn cX1_needColumn 2 none, Cond.methodLink RX1 192 yX0_hasColumn, Cond.instanceMethod yX0_hasColumn, Cond.selects RX0 yX0_hasColumn yX0_hasColumn, Cond.code yX0_hasColumn cX0_hasColumn 2 (some .boolean), Cond.fieldLink RX0 34 "MarbleRamps$Machine" "columnCount" "I", Cond.methodLink RX1 34 yX0_placeOf, Cond.instanceMethod yX0_placeOf, Cond.selects RX0 yX0_placeOf yX0_placeOf, Cond.code yX0_placeOf cX0_placeOf 3 (some .int), Cond.methodLink RX1 38 yX0_partIn, Cond.instanceMethod yX0_partIn, Cond.selects RX0 yX0_partIn yX0_partIn, Cond.code yX0_partIn cX0_partIn 2 (some .int), Cond.fieldLink RX0 9 "MarbleRamps$Machine" "parts" "[I", Cond.static yX1_cell, Cond.code yX1_cell cX1_cell 2 (some .int)]
def wsL_partAt : List Cond := .codeWith yL_partAt cL_partAt 5 (some .int) [(0, 10, 13, 19)] :: ((wsL_partAt_r1 ++ wsL_partAt_r2) ++ wsX10 ++ wsX00 ++ (vx_atS RX1 191 "java/lang/IndexOutOfBoundsException" ["java/lang/RuntimeException", "java/lang/Exception"]).filter goodWord)
def wsL_leadsRight_r1 : List Cond := [Cond.classLink RL 19 "java/lang/IndexOutOfBoundsException", Cond.methodLink RL 43 yX1_leadsRight, Cond.instanceMethod yX1_leadsRight, Cond.selects RX1 yX1_leadsRight yX1_leadsRight, Cond.initialized RX1, Cond.code yX1_leadsRight cX1_leadsRight 3 (some .boolean), Cond.fieldLink RX1 10 "MarbleRamps" "now" "LMarbleRamps$Machine;", Cond.methodLink RX1 27 yX1_needPlace, Cond.instanceMethod yX1_needPlace, Cond.selects RX1 yX1_needPlace yX1_needPlace, Cond.code yX1_needPlace cX1_needPlace 3 none, Cond.methodLink RX1 110 yX1_needRow, Cond.instanceMethod yX1_needRow, Cond.selects RX1 yX1_needRow yX1_needRow, Cond.code yX1_needRow cX1_needRow 2 none, Cond.classLink RX1 187 "java/lang/IndexOutOfBoundsException", Cond.initialized "java/lang/IndexOutOfBoundsException", Cond.methodLink RX1 184 yX0_hasRow, Cond.instanceMethod yX0_hasRow, Cond.selects RX0 yX0_hasRow yX0_hasRow, Cond.initialized RX0, Cond.code yX0_hasRow cX0_hasRow 2 (some .boolean), Cond.fieldLink RX0 38 "MarbleRamps$Machine" "rowCount" "I", Cond.methodLink RX1 60 yX1_needColumn]
def wsL_leadsRight_r2 : List Cond := [Cond.instanceMethod yX1_needColumn, Cond.selects RX1 yX1_needColumn yX1_needColumn, Cond.code yX1_needColumn cX1_needColumn 2 none, Cond.methodLink RX1 192 yX0_hasColumn, Cond.instanceMethod yX0_hasColumn, Cond.selects RX0 yX0_hasColumn yX0_hasColumn, Cond.code yX0_hasColumn cX0_hasColumn 2 (some .boolean), Cond.fieldLink RX0 34 "MarbleRamps$Machine" "columnCount" "I", Cond.methodLink RX1 34 yX0_placeOf, Cond.instanceMethod yX0_placeOf, Cond.selects RX0 yX0_placeOf yX0_placeOf, Cond.code yX0_placeOf cX0_placeOf 3 (some .int), Cond.methodLink RX1 53 yX0_isRightToggle, Cond.instanceMethod yX0_isRightToggle, Cond.selects RX0 yX0_isRightToggle yX0_isRightToggle, Cond.code yX0_isRightToggle cX0_isRightToggle 2 (some .boolean), Cond.fieldLink RX0 18 "MarbleRamps$Machine" "states" "[I", Cond.methodLink RX0 65 yX0_partIn, Cond.instanceMethod yX0_partIn, Cond.selects RX0 yX0_partIn yX0_partIn, Cond.code yX0_partIn cX0_partIn 2 (some .int), Cond.fieldLink RX0 9 "MarbleRamps$Machine" "parts" "[I", Cond.static yX1_cell, Cond.code yX1_cell cX1_cell 2 (some .int)]
def wsL_leadsRight : List Cond := .codeWith yL_leadsRight cL_leadsRight 5 (some .int) [(0, 17, 20, 19)] :: ((wsL_leadsRight_r1 ++ wsL_leadsRight_r2) ++ wsX10 ++ wsX00 ++ (vx_atS RX1 191 "java/lang/IndexOutOfBoundsException" ["java/lang/RuntimeException", "java/lang/Exception"]).filter goodWord)
def wsL_countAt_r1 : List Cond := [Cond.classLink RL 19 "java/lang/IndexOutOfBoundsException", Cond.methodLink RL 46 yX1_countAt, Cond.instanceMethod yX1_countAt, Cond.selects RX1 yX1_countAt yX1_countAt, Cond.initialized RX1, Cond.code yX1_countAt cX1_countAt 3 (some .int), Cond.fieldLink RX1 10 "MarbleRamps" "now" "LMarbleRamps$Machine;", Cond.methodLink RX1 27 yX1_needPlace, Cond.instanceMethod yX1_needPlace, Cond.selects RX1 yX1_needPlace yX1_needPlace, Cond.code yX1_needPlace cX1_needPlace 3 none, Cond.methodLink RX1 110 yX1_needRow, Cond.instanceMethod yX1_needRow, Cond.selects RX1 yX1_needRow yX1_needRow, Cond.code yX1_needRow cX1_needRow 2 none, Cond.classLink RX1 187 "java/lang/IndexOutOfBoundsException", Cond.initialized "java/lang/IndexOutOfBoundsException", Cond.methodLink RX1 184 yX0_hasRow, Cond.instanceMethod yX0_hasRow, Cond.selects RX0 yX0_hasRow yX0_hasRow, Cond.initialized RX0, Cond.code yX0_hasRow cX0_hasRow 2 (some .boolean), Cond.fieldLink RX0 38 "MarbleRamps$Machine" "rowCount" "I", Cond.methodLink RX1 60 yX1_needColumn]
def wsL_countAt_r2 : List Cond := [Cond.instanceMethod yX1_needColumn, Cond.selects RX1 yX1_needColumn yX1_needColumn, Cond.code yX1_needColumn cX1_needColumn 2 none, Cond.methodLink RX1 192 yX0_hasColumn, Cond.instanceMethod yX0_hasColumn, Cond.selects RX0 yX0_hasColumn yX0_hasColumn, Cond.code yX0_hasColumn cX0_hasColumn 2 (some .boolean), Cond.fieldLink RX0 34 "MarbleRamps$Machine" "columnCount" "I", Cond.methodLink RX1 34 yX0_placeOf, Cond.instanceMethod yX0_placeOf, Cond.selects RX0 yX0_placeOf yX0_placeOf, Cond.code yX0_placeOf cX0_placeOf 3 (some .int), Cond.methodLink RX1 87 yX0_countedIn, Cond.instanceMethod yX0_countedIn, Cond.selects RX0 yX0_countedIn yX0_countedIn, Cond.code yX0_countedIn cX0_countedIn 2 (some .int), Cond.fieldLink RX0 18 "MarbleRamps$Machine" "states" "[I", Cond.methodLink RX0 65 yX0_partIn, Cond.instanceMethod yX0_partIn, Cond.selects RX0 yX0_partIn yX0_partIn, Cond.code yX0_partIn cX0_partIn 2 (some .int), Cond.fieldLink RX0 9 "MarbleRamps$Machine" "parts" "[I", Cond.static yX1_cell, Cond.code yX1_cell cX1_cell 2 (some .int)]
def wsL_countAt : List Cond := .codeWith yL_countAt cL_countAt 5 (some .int) [(0, 10, 13, 19)] :: ((wsL_countAt_r1 ++ wsL_countAt_r2) ++ wsX10 ++ wsX00 ++ (vx_atS RX1 191 "java/lang/IndexOutOfBoundsException" ["java/lang/RuntimeException", "java/lang/Exception"]).filter goodWord)
def wsL_binOf : List Cond := .codeWith yL_binOf cL_binOf 4 (some .int) [(0, 9, 12, 19)] :: ([.classLink RL 19 "java/lang/IndexOutOfBoundsException", .methodLink RL 49 yX1_binOf, .instanceMethod yX1_binOf, .selects RX1 yX1_binOf yX1_binOf, .initialized RX1, .code yX1_binOf cX1_binOf 2 (some .int), .fieldLink RX1 10 "MarbleRamps" "now" "LMarbleRamps$Machine;", .fieldLink RX1 90 "MarbleRamps$Machine" "bins" "[I", .methodLink RX1 60 yX1_needColumn, .instanceMethod yX1_needColumn, .selects RX1 yX1_needColumn yX1_needColumn, .code yX1_needColumn cX1_needColumn 2 none, .classLink RX1 187 "java/lang/IndexOutOfBoundsException", .initialized "java/lang/IndexOutOfBoundsException", .methodLink RX1 192 yX0_hasColumn, .instanceMethod yX0_hasColumn, .selects RX0 yX0_hasColumn yX0_hasColumn, .initialized RX0, .code yX0_hasColumn cX0_hasColumn 2 (some .boolean), .fieldLink RX0 34 "MarbleRamps$Machine" "columnCount" "I", .methodLink RX1 94 yX1_cell, .static yX1_cell, .code yX1_cell cX1_cell 2 (some .int)] ++ wsX10 ++ wsX00 ++ (vx_atS RX1 191 "java/lang/IndexOutOfBoundsException" ["java/lang/RuntimeException", "java/lang/Exception"]).filter goodWord)
def wsL_marblesIn : List Cond := .codeWith yL_marblesIn cL_marblesIn 4 (some .int) [(0, 9, 12, 19)] :: ([.classLink RL 19 "java/lang/IndexOutOfBoundsException", .methodLink RL 52 yX1_marblesIn, .instanceMethod yX1_marblesIn, .selects RX1 yX1_marblesIn yX1_marblesIn, .initialized RX1, .code yX1_marblesIn cX1_marblesIn 2 (some .int), .fieldLink RX1 10 "MarbleRamps" "now" "LMarbleRamps$Machine;", .fieldLink RX1 101 "MarbleRamps$Machine" "hopperMarbles" "[I", .methodLink RX1 57 yX1_needHopper, .static yX1_needHopper, .code yX1_needHopper cX1_needHopper 1 none, .classLink RX1 187 "java/lang/IndexOutOfBoundsException", .initialized "java/lang/IndexOutOfBoundsException", .methodLink RX1 94 yX1_cell, .static yX1_cell, .code yX1_cell cX1_cell 2 (some .int)] ++ wsX10 ++ wsX00 ++ (vx_atS RX1 191 "java/lang/IndexOutOfBoundsException" ["java/lang/RuntimeException", "java/lang/Exception"]).filter goodWord)
def wsL_columnOf : List Cond := .codeWith yL_columnOf cL_columnOf 4 (some .int) [(0, 9, 12, 19)] :: ([.classLink RL 19 "java/lang/IndexOutOfBoundsException", .methodLink RL 55 yX1_columnOf, .instanceMethod yX1_columnOf, .selects RX1 yX1_columnOf yX1_columnOf, .initialized RX1, .code yX1_columnOf cX1_columnOf 2 (some .int), .fieldLink RX1 10 "MarbleRamps" "now" "LMarbleRamps$Machine;", .fieldLink RX1 104 "MarbleRamps$Machine" "hopperColumns" "[I", .methodLink RX1 57 yX1_needHopper, .static yX1_needHopper, .code yX1_needHopper cX1_needHopper 1 none, .classLink RX1 187 "java/lang/IndexOutOfBoundsException", .initialized "java/lang/IndexOutOfBoundsException", .methodLink RX1 94 yX1_cell, .static yX1_cell, .code yX1_cell cX1_cell 2 (some .int)] ++ wsX10 ++ wsX00 ++ (vx_atS RX1 191 "java/lang/IndexOutOfBoundsException" ["java/lang/RuntimeException", "java/lang/Exception"]).filter goodWord)
def wsL_numberIn_r1 : List Cond := [Cond.classLink RL 19 "java/lang/IndexOutOfBoundsException", Cond.methodLink RL 58 yX1_numberIn, Cond.instanceMethod yX1_numberIn, Cond.selects RX1 yX1_numberIn yX1_numberIn, Cond.initialized RX1, Cond.code yX1_numberIn cX1_numberIn 2 (some .int), Cond.fieldLink RX1 10 "MarbleRamps" "now" "LMarbleRamps$Machine;", Cond.methodLink RX1 110 yX1_needRow, Cond.instanceMethod yX1_needRow, Cond.selects RX1 yX1_needRow yX1_needRow, Cond.code yX1_needRow cX1_needRow 2 none, Cond.classLink RX1 187 "java/lang/IndexOutOfBoundsException", Cond.initialized "java/lang/IndexOutOfBoundsException", Cond.methodLink RX1 184 yX0_hasRow, Cond.instanceMethod yX0_hasRow, Cond.selects RX0 yX0_hasRow yX0_hasRow, Cond.initialized RX0, Cond.code yX0_hasRow cX0_hasRow 2 (some .boolean), Cond.fieldLink RX0 38 "MarbleRamps$Machine" "rowCount" "I", Cond.methodLink RX1 113 yX0_numberToldBy, Cond.instanceMethod yX0_numberToldBy, Cond.selects RX0 yX0_numberToldBy yX0_numberToldBy, Cond.code yX0_numberToldBy cX0_numberToldBy 6 (some .int), Cond.fieldLink RX0 34 "MarbleRamps$Machine" "columnCount" "I"]
def wsL_numberIn_r2 : List Cond := [Cond.methodLink RX0 69 yX0_placeOf, Cond.instanceMethod yX0_placeOf, Cond.selects RX0 yX0_placeOf yX0_placeOf, Cond.code yX0_placeOf cX0_placeOf 3 (some .int), Cond.methodLink RX0 65 yX0_partIn, Cond.instanceMethod yX0_partIn, Cond.selects RX0 yX0_partIn yX0_partIn, Cond.code yX0_partIn cX0_partIn 2 (some .int), Cond.fieldLink RX0 9 "MarbleRamps$Machine" "parts" "[I", Cond.static yX1_cell, Cond.code yX1_cell cX1_cell 2 (some .int), Cond.methodLink RX0 73 yX0_isRightToggle, Cond.instanceMethod yX0_isRightToggle, Cond.selects RX0 yX0_isRightToggle yX0_isRightToggle, Cond.code yX0_isRightToggle cX0_isRightToggle 2 (some .boolean), Cond.fieldLink RX0 18 "MarbleRamps$Machine" "states" "[I"]
def wsL_numberIn : List Cond := .codeWith yL_numberIn cL_numberIn 4 (some .int) [(0, 9, 12, 19)] :: ((wsL_numberIn_r1 ++ wsL_numberIn_r2) ++ wsX10 ++ wsX00 ++ (vx_atS RX1 191 "java/lang/IndexOutOfBoundsException" ["java/lang/RuntimeException", "java/lang/Exception"]).filter goodWord)
def wsL_wouldLand_r1 : List Cond := [Cond.classLink RL 19 "java/lang/IndexOutOfBoundsException", Cond.methodLink RL 61 yX1_wouldLand, Cond.instanceMethod yX1_wouldLand, Cond.selects RX1 yX1_wouldLand yX1_wouldLand, Cond.initialized RX1, Cond.code yX1_wouldLand cX1_wouldLand 2 (some .int), Cond.fieldLink RX1 16 "MarbleRamps" "trial" "LMarbleRamps$Machine;", Cond.fieldLink RX1 10 "MarbleRamps" "now" "LMarbleRamps$Machine;", Cond.methodLink RX1 60 yX1_needColumn, Cond.instanceMethod yX1_needColumn, Cond.selects RX1 yX1_needColumn yX1_needColumn, Cond.code yX1_needColumn cX1_needColumn 2 none, Cond.classLink RX1 187 "java/lang/IndexOutOfBoundsException", Cond.initialized "java/lang/IndexOutOfBoundsException", Cond.methodLink RX1 192 yX0_hasColumn, Cond.instanceMethod yX0_hasColumn, Cond.selects RX0 yX0_hasColumn yX0_hasColumn, Cond.initialized RX0, Cond.code yX0_hasColumn cX0_hasColumn 2 (some .boolean), Cond.fieldLink RX0 34 "MarbleRamps$Machine" "columnCount" "I", Cond.methodLink RX1 116 yX0_becomeLike, Cond.instanceMethod yX0_becomeLike, Cond.selects RX0 yX0_becomeLike yX0_becomeLike, Cond.code yX0_becomeLike cX0_becomeLike 2 none]
def wsL_wouldLand_r2 : List Cond := [Cond.fieldLink RX0 38 "MarbleRamps$Machine" "rowCount" "I", Cond.fieldLink RX0 41 "MarbleRamps$Machine" "lostCount" "I", Cond.fieldLink RX0 9 "MarbleRamps$Machine" "parts" "[I", Cond.fieldLink RX0 15 "MarbleRamps$Machine" "periods" "[I", Cond.fieldLink RX0 18 "MarbleRamps$Machine" "states" "[I", Cond.fieldLink RX0 21 "MarbleRamps$Machine" "bins" "[I", Cond.fieldLink RX0 24 "MarbleRamps$Machine" "hopperColumns" "[I", Cond.fieldLink RX0 27 "MarbleRamps$Machine" "hopperMarbles" "[I", Cond.static yX1_copyCells, Cond.code yX1_copyCells cX1_copyCells 3 none, Cond.methodLink RX1 204 yX1_setCell, Cond.static yX1_setCell, Cond.code yX1_setCell cX1_setCell 3 none, Cond.methodLink RX1 67 yX0_letFall, Cond.instanceMethod yX0_letFall, Cond.selects RX0 yX0_letFall yX0_letFall, Cond.code yX0_letFall cX0_letFall 3 (some .int), Cond.methodLink RX0 77 yX0_fallTo, Cond.instanceMethod yX0_fallTo, Cond.selects RX0 yX0_fallTo yX0_fallTo, Cond.code yX0_fallTo cX0_fallTo 6 (some .int), Cond.methodLink RX0 69 yX0_placeOf, Cond.instanceMethod yX0_placeOf, Cond.selects RX0 yX0_placeOf yX0_placeOf]
def wsL_wouldLand_r3 : List Cond := [Cond.code yX0_placeOf cX0_placeOf 3 (some .int), Cond.methodLink RX0 80 yX0_wayOut, Cond.instanceMethod yX0_wayOut, Cond.selects RX0 yX0_wayOut yX0_wayOut, Cond.code yX0_wayOut cX0_wayOut 5 (some .int), Cond.static yX1_cell, Cond.code yX1_cell cX1_cell 2 (some .int), Cond.methodLink RX0 83 yX0_hasColumn]
def wsL_wouldLand : List Cond := .codeWith yL_wouldLand cL_wouldLand 4 (some .int) [(0, 9, 12, 19)] :: ((wsL_wouldLand_r1 ++ (wsL_wouldLand_r2 ++ wsL_wouldLand_r3)) ++ wsX10 ++ wsX00 ++ (vx_atS RX1 191 "java/lang/IndexOutOfBoundsException" ["java/lang/RuntimeException", "java/lang/Exception"]).filter goodWord)
def wsL_wouldBeIn_r1 : List Cond := [Cond.classLink RL 19 "java/lang/IndexOutOfBoundsException", Cond.methodLink RL 64 yX1_wouldBeIn, Cond.instanceMethod yX1_wouldBeIn, Cond.selects RX1 yX1_wouldBeIn yX1_wouldBeIn, Cond.initialized RX1, Cond.code yX1_wouldBeIn cX1_wouldBeIn 3 (some .int), Cond.fieldLink RX1 16 "MarbleRamps" "trial" "LMarbleRamps$Machine;", Cond.fieldLink RX1 10 "MarbleRamps" "now" "LMarbleRamps$Machine;", Cond.methodLink RX1 60 yX1_needColumn, Cond.instanceMethod yX1_needColumn, Cond.selects RX1 yX1_needColumn yX1_needColumn, Cond.code yX1_needColumn cX1_needColumn 2 none, Cond.classLink RX1 187 "java/lang/IndexOutOfBoundsException", Cond.initialized "java/lang/IndexOutOfBoundsException", Cond.methodLink RX1 192 yX0_hasColumn, Cond.instanceMethod yX0_hasColumn, Cond.selects RX0 yX0_hasColumn yX0_hasColumn, Cond.initialized RX0, Cond.code yX0_hasColumn cX0_hasColumn 2 (some .boolean), Cond.fieldLink RX0 34 "MarbleRamps$Machine" "columnCount" "I", Cond.methodLink RX1 110 yX1_needRow, Cond.instanceMethod yX1_needRow, Cond.selects RX1 yX1_needRow yX1_needRow, Cond.code yX1_needRow cX1_needRow 2 none]
def wsL_wouldBeIn_r2 : List Cond := [Cond.methodLink RX1 184 yX0_hasRow, Cond.instanceMethod yX0_hasRow, Cond.selects RX0 yX0_hasRow yX0_hasRow, Cond.code yX0_hasRow cX0_hasRow 2 (some .boolean), Cond.fieldLink RX0 38 "MarbleRamps$Machine" "rowCount" "I", Cond.methodLink RX1 116 yX0_becomeLike, Cond.instanceMethod yX0_becomeLike, Cond.selects RX0 yX0_becomeLike yX0_becomeLike, Cond.code yX0_becomeLike cX0_becomeLike 2 none, Cond.fieldLink RX0 41 "MarbleRamps$Machine" "lostCount" "I", Cond.fieldLink RX0 9 "MarbleRamps$Machine" "parts" "[I", Cond.fieldLink RX0 15 "MarbleRamps$Machine" "periods" "[I", Cond.fieldLink RX0 18 "MarbleRamps$Machine" "states" "[I", Cond.fieldLink RX0 21 "MarbleRamps$Machine" "bins" "[I", Cond.fieldLink RX0 24 "MarbleRamps$Machine" "hopperColumns" "[I", Cond.fieldLink RX0 27 "MarbleRamps$Machine" "hopperMarbles" "[I", Cond.static yX1_copyCells, Cond.code yX1_copyCells cX1_copyCells 3 none, Cond.methodLink RX1 204 yX1_setCell, Cond.static yX1_setCell, Cond.code yX1_setCell cX1_setCell 3 none, Cond.methodLink RX1 120 yX0_fallTo, Cond.instanceMethod yX0_fallTo, Cond.selects RX0 yX0_fallTo yX0_fallTo]
def wsL_wouldBeIn_r3 : List Cond := [Cond.code yX0_fallTo cX0_fallTo 6 (some .int), Cond.methodLink RX0 69 yX0_placeOf, Cond.instanceMethod yX0_placeOf, Cond.selects RX0 yX0_placeOf yX0_placeOf, Cond.code yX0_placeOf cX0_placeOf 3 (some .int), Cond.methodLink RX0 80 yX0_wayOut, Cond.instanceMethod yX0_wayOut, Cond.selects RX0 yX0_wayOut yX0_wayOut, Cond.code yX0_wayOut cX0_wayOut 5 (some .int), Cond.static yX1_cell, Cond.code yX1_cell cX1_cell 2 (some .int), Cond.methodLink RX0 83 yX0_hasColumn]
def wsL_wouldBeIn : List Cond := .codeWith yL_wouldBeIn cL_wouldBeIn 5 (some .int) [(0, 10, 13, 19)] :: ((wsL_wouldBeIn_r1 ++ (wsL_wouldBeIn_r2 ++ wsL_wouldBeIn_r3)) ++ wsX10 ++ wsX00 ++ (vx_atS RX1 191 "java/lang/IndexOutOfBoundsException" ["java/lang/RuntimeException", "java/lang/Exception"]).filter goodWord)
def wsL_wouldTurn_r1 : List Cond := [Cond.classLink RL 19 "java/lang/IndexOutOfBoundsException", Cond.methodLink RL 67 yX1_wouldTurn, Cond.instanceMethod yX1_wouldTurn, Cond.selects RX1 yX1_wouldTurn yX1_wouldTurn, Cond.initialized RX1, Cond.code yX1_wouldTurn cX1_wouldTurn 2 (some .int), Cond.fieldLink RX1 16 "MarbleRamps" "trial" "LMarbleRamps$Machine;", Cond.fieldLink RX1 10 "MarbleRamps" "now" "LMarbleRamps$Machine;", Cond.methodLink RX1 60 yX1_needColumn, Cond.instanceMethod yX1_needColumn, Cond.selects RX1 yX1_needColumn yX1_needColumn, Cond.code yX1_needColumn cX1_needColumn 2 none, Cond.classLink RX1 187 "java/lang/IndexOutOfBoundsException", Cond.initialized "java/lang/IndexOutOfBoundsException", Cond.methodLink RX1 192 yX0_hasColumn, Cond.instanceMethod yX0_hasColumn, Cond.selects RX0 yX0_hasColumn yX0_hasColumn, Cond.initialized RX0, Cond.code yX0_hasColumn cX0_hasColumn 2 (some .boolean), Cond.fieldLink RX0 34 "MarbleRamps$Machine" "columnCount" "I", Cond.methodLink RX1 116 yX0_becomeLike, Cond.instanceMethod yX0_becomeLike, Cond.selects RX0 yX0_becomeLike yX0_becomeLike, Cond.code yX0_becomeLike cX0_becomeLike 2 none]
def wsL_wouldTurn_r2 : List Cond := [Cond.fieldLink RX0 38 "MarbleRamps$Machine" "rowCount" "I", Cond.fieldLink RX0 41 "MarbleRamps$Machine" "lostCount" "I", Cond.fieldLink RX0 9 "MarbleRamps$Machine" "parts" "[I", Cond.fieldLink RX0 15 "MarbleRamps$Machine" "periods" "[I", Cond.fieldLink RX0 18 "MarbleRamps$Machine" "states" "[I", Cond.fieldLink RX0 21 "MarbleRamps$Machine" "bins" "[I", Cond.fieldLink RX0 24 "MarbleRamps$Machine" "hopperColumns" "[I", Cond.fieldLink RX0 27 "MarbleRamps$Machine" "hopperMarbles" "[I", Cond.static yX1_copyCells, Cond.code yX1_copyCells cX1_copyCells 3 none, Cond.methodLink RX1 204 yX1_setCell, Cond.static yX1_setCell, Cond.code yX1_setCell cX1_setCell 3 none, Cond.methodLink RX1 67 yX0_letFall, Cond.instanceMethod yX0_letFall, Cond.selects RX0 yX0_letFall yX0_letFall, Cond.code yX0_letFall cX0_letFall 3 (some .int), Cond.methodLink RX0 77 yX0_fallTo, Cond.instanceMethod yX0_fallTo, Cond.selects RX0 yX0_fallTo yX0_fallTo, Cond.code yX0_fallTo cX0_fallTo 6 (some .int), Cond.methodLink RX0 69 yX0_placeOf, Cond.instanceMethod yX0_placeOf, Cond.selects RX0 yX0_placeOf yX0_placeOf]
def wsL_wouldTurn_r3 : List Cond := [Cond.code yX0_placeOf cX0_placeOf 3 (some .int), Cond.methodLink RX0 80 yX0_wayOut, Cond.instanceMethod yX0_wayOut, Cond.selects RX0 yX0_wayOut yX0_wayOut, Cond.code yX0_wayOut cX0_wayOut 5 (some .int), Cond.static yX1_cell, Cond.code yX1_cell cX1_cell 2 (some .int), Cond.methodLink RX0 83 yX0_hasColumn, Cond.methodLink RX1 123 yX0_togglesUnlike, Cond.instanceMethod yX0_togglesUnlike, Cond.selects RX0 yX0_togglesUnlike yX0_togglesUnlike, Cond.code yX0_togglesUnlike cX0_togglesUnlike 4 (some .int), Cond.methodLink RX0 73 yX0_isRightToggle, Cond.instanceMethod yX0_isRightToggle, Cond.selects RX0 yX0_isRightToggle yX0_isRightToggle, Cond.code yX0_isRightToggle cX0_isRightToggle 2 (some .boolean), Cond.methodLink RX0 65 yX0_partIn, Cond.instanceMethod yX0_partIn, Cond.selects RX0 yX0_partIn yX0_partIn, Cond.code yX0_partIn cX0_partIn 2 (some .int)]
def wsL_wouldTurn : List Cond := .codeWith yL_wouldTurn cL_wouldTurn 4 (some .int) [(0, 9, 12, 19)] :: ((wsL_wouldTurn_r1 ++ (wsL_wouldTurn_r2 ++ wsL_wouldTurn_r3)) ++ wsX10 ++ wsX00 ++ (vx_atS RX1 191 "java/lang/IndexOutOfBoundsException" ["java/lang/RuntimeException", "java/lang/Exception"]).filter goodWord)
def wsL_lastLands_r1 : List Cond := [Cond.classLink RL 19 "java/lang/IndexOutOfBoundsException", Cond.classLink RL 13 "java/lang/IllegalArgumentException", Cond.methodLink RL 70 yX1_lastLands, Cond.instanceMethod yX1_lastLands, Cond.selects RX1 yX1_lastLands yX1_lastLands, Cond.initialized RX1, Cond.code yX1_lastLands cX1_lastLands 5 (some .int), Cond.fieldLink RX1 16 "MarbleRamps" "trial" "LMarbleRamps$Machine;", Cond.fieldLink RX1 10 "MarbleRamps" "now" "LMarbleRamps$Machine;", Cond.methodLink RX1 60 yX1_needColumn, Cond.instanceMethod yX1_needColumn, Cond.selects RX1 yX1_needColumn yX1_needColumn, Cond.code yX1_needColumn cX1_needColumn 2 none, Cond.classLink RX1 187 "java/lang/IndexOutOfBoundsException", Cond.initialized "java/lang/IndexOutOfBoundsException", Cond.methodLink RX1 192 yX0_hasColumn, Cond.instanceMethod yX0_hasColumn, Cond.selects RX0 yX0_hasColumn yX0_hasColumn, Cond.initialized RX0, Cond.code yX0_hasColumn cX0_hasColumn 2 (some .boolean), Cond.fieldLink RX0 34 "MarbleRamps$Machine" "columnCount" "I", Cond.methodLink RX1 19 yX1_needWithin, Cond.static yX1_needWithin, Cond.code yX1_needWithin cX1_needWithin 3 none]
def wsL_lastLands_r2 : List Cond := [Cond.classLink RX1 199 "java/lang/IllegalArgumentException", Cond.initialized "java/lang/IllegalArgumentException", Cond.methodLink RX1 116 yX0_becomeLike, Cond.instanceMethod yX0_becomeLike, Cond.selects RX0 yX0_becomeLike yX0_becomeLike, Cond.code yX0_becomeLike cX0_becomeLike 2 none, Cond.fieldLink RX0 38 "MarbleRamps$Machine" "rowCount" "I", Cond.fieldLink RX0 41 "MarbleRamps$Machine" "lostCount" "I", Cond.fieldLink RX0 9 "MarbleRamps$Machine" "parts" "[I", Cond.fieldLink RX0 15 "MarbleRamps$Machine" "periods" "[I", Cond.fieldLink RX0 18 "MarbleRamps$Machine" "states" "[I", Cond.fieldLink RX0 21 "MarbleRamps$Machine" "bins" "[I", Cond.fieldLink RX0 24 "MarbleRamps$Machine" "hopperColumns" "[I", Cond.fieldLink RX0 27 "MarbleRamps$Machine" "hopperMarbles" "[I", Cond.static yX1_copyCells, Cond.code yX1_copyCells cX1_copyCells 3 none, Cond.methodLink RX1 204 yX1_setCell, Cond.static yX1_setCell, Cond.code yX1_setCell cX1_setCell 3 none, Cond.methodLink RX1 67 yX0_letFall, Cond.instanceMethod yX0_letFall, Cond.selects RX0 yX0_letFall yX0_letFall, Cond.code yX0_letFall cX0_letFall 3 (some .int), Cond.methodLink RX0 77 yX0_fallTo]
def wsL_lastLands_r3 : List Cond := [Cond.instanceMethod yX0_fallTo, Cond.selects RX0 yX0_fallTo yX0_fallTo, Cond.code yX0_fallTo cX0_fallTo 6 (some .int), Cond.methodLink RX0 69 yX0_placeOf, Cond.instanceMethod yX0_placeOf, Cond.selects RX0 yX0_placeOf yX0_placeOf, Cond.code yX0_placeOf cX0_placeOf 3 (some .int), Cond.methodLink RX0 80 yX0_wayOut, Cond.instanceMethod yX0_wayOut, Cond.selects RX0 yX0_wayOut yX0_wayOut, Cond.code yX0_wayOut cX0_wayOut 5 (some .int), Cond.static yX1_cell, Cond.code yX1_cell cX1_cell 2 (some .int), Cond.methodLink RX0 83 yX0_hasColumn]
def wsL_lastLands : List Cond := .codeWith yL_lastLands cL_lastLands 5 (some .int) [(0, 10, 13, 19), (0, 10, 17, 13)] :: ((wsL_lastLands_r1 ++ (wsL_lastLands_r2 ++ wsL_lastLands_r3)) ++ wsX10 ++ wsX00 ++ (vx_atS RX1 191 "java/lang/IndexOutOfBoundsException" ["java/lang/RuntimeException", "java/lang/Exception"]).filter goodWord ++ (vx_atS RX1 203 "java/lang/IllegalArgumentException" ["java/lang/RuntimeException", "java/lang/Exception"]).filter goodWord)
def wsL_asBeforeIn_r1 : List Cond := [Cond.classLink RL 19 "java/lang/IndexOutOfBoundsException", Cond.methodLink RL 73 yX1_asBeforeIn, Cond.instanceMethod yX1_asBeforeIn, Cond.selects RX1 yX1_asBeforeIn yX1_asBeforeIn, Cond.initialized RX1, Cond.code yX1_asBeforeIn cX1_asBeforeIn 3 (some .int), Cond.fieldLink RX1 16 "MarbleRamps" "trial" "LMarbleRamps$Machine;", Cond.fieldLink RX1 10 "MarbleRamps" "now" "LMarbleRamps$Machine;", Cond.methodLink RX1 60 yX1_needColumn, Cond.instanceMethod yX1_needColumn, Cond.selects RX1 yX1_needColumn yX1_needColumn, Cond.code yX1_needColumn cX1_needColumn 2 none, Cond.classLink RX1 187 "java/lang/IndexOutOfBoundsException", Cond.initialized "java/lang/IndexOutOfBoundsException", Cond.methodLink RX1 192 yX0_hasColumn, Cond.instanceMethod yX0_hasColumn, Cond.selects RX0 yX0_hasColumn yX0_hasColumn, Cond.initialized RX0, Cond.code yX0_hasColumn cX0_hasColumn 2 (some .boolean), Cond.fieldLink RX0 34 "MarbleRamps$Machine" "columnCount" "I", Cond.methodLink RX1 116 yX0_becomeLike, Cond.instanceMethod yX0_becomeLike, Cond.selects RX0 yX0_becomeLike yX0_becomeLike, Cond.code yX0_becomeLike cX0_becomeLike 2 none]
def wsL_asBeforeIn_r2 : List Cond := [Cond.fieldLink RX0 38 "MarbleRamps$Machine" "rowCount" "I", Cond.fieldLink RX0 41 "MarbleRamps$Machine" "lostCount" "I", Cond.fieldLink RX0 9 "MarbleRamps$Machine" "parts" "[I", Cond.fieldLink RX0 15 "MarbleRamps$Machine" "periods" "[I", Cond.fieldLink RX0 18 "MarbleRamps$Machine" "states" "[I", Cond.fieldLink RX0 21 "MarbleRamps$Machine" "bins" "[I", Cond.fieldLink RX0 24 "MarbleRamps$Machine" "hopperColumns" "[I", Cond.fieldLink RX0 27 "MarbleRamps$Machine" "hopperMarbles" "[I", Cond.static yX1_copyCells, Cond.code yX1_copyCells cX1_copyCells 3 none, Cond.methodLink RX1 204 yX1_setCell, Cond.static yX1_setCell, Cond.code yX1_setCell cX1_setCell 3 none, Cond.methodLink RX1 67 yX0_letFall, Cond.instanceMethod yX0_letFall, Cond.selects RX0 yX0_letFall yX0_letFall, Cond.code yX0_letFall cX0_letFall 3 (some .int), Cond.methodLink RX0 77 yX0_fallTo, Cond.instanceMethod yX0_fallTo, Cond.selects RX0 yX0_fallTo yX0_fallTo, Cond.code yX0_fallTo cX0_fallTo 6 (some .int), Cond.methodLink RX0 69 yX0_placeOf, Cond.instanceMethod yX0_placeOf, Cond.selects RX0 yX0_placeOf yX0_placeOf]
def wsL_asBeforeIn_r3 : List Cond := [Cond.code yX0_placeOf cX0_placeOf 3 (some .int), Cond.methodLink RX0 80 yX0_wayOut, Cond.instanceMethod yX0_wayOut, Cond.selects RX0 yX0_wayOut yX0_wayOut, Cond.code yX0_wayOut cX0_wayOut 5 (some .int), Cond.static yX1_cell, Cond.code yX1_cell cX1_cell 2 (some .int), Cond.methodLink RX0 83 yX0_hasColumn, Cond.methodLink RX1 127 yX0_hasStatesOf, Cond.instanceMethod yX0_hasStatesOf, Cond.selects RX0 yX0_hasStatesOf yX0_hasStatesOf, Cond.code yX0_hasStatesOf cX0_hasStatesOf 3 (some .boolean)]
def wsL_asBeforeIn : List Cond := .codeWith yL_asBeforeIn cL_asBeforeIn 4 (some .int) [(0, 9, 12, 19)] :: ((wsL_asBeforeIn_r1 ++ (wsL_asBeforeIn_r2 ++ wsL_asBeforeIn_r3)) ++ wsX10 ++ wsX00 ++ (vx_atS RX1 191 "java/lang/IndexOutOfBoundsException" ["java/lang/RuntimeException", "java/lang/Exception"]).filter goodWord)
def wsL_wouldRun_r1 : List Cond := [Cond.classLink RL 19 "java/lang/IndexOutOfBoundsException", Cond.methodLink RL 76 yX1_wouldRun, Cond.instanceMethod yX1_wouldRun, Cond.selects RX1 yX1_wouldRun yX1_wouldRun, Cond.initialized RX1, Cond.code yX1_wouldRun cX1_wouldRun 2 (some .int), Cond.fieldLink RX1 16 "MarbleRamps" "trial" "LMarbleRamps$Machine;", Cond.fieldLink RX1 10 "MarbleRamps" "now" "LMarbleRamps$Machine;", Cond.methodLink RX1 57 yX1_needHopper, Cond.static yX1_needHopper, Cond.code yX1_needHopper cX1_needHopper 1 none, Cond.classLink RX1 187 "java/lang/IndexOutOfBoundsException", Cond.initialized "java/lang/IndexOutOfBoundsException", Cond.methodLink RX1 116 yX0_becomeLike, Cond.instanceMethod yX0_becomeLike, Cond.selects RX0 yX0_becomeLike yX0_becomeLike, Cond.initialized RX0, Cond.code yX0_becomeLike cX0_becomeLike 2 none, Cond.fieldLink RX0 34 "MarbleRamps$Machine" "columnCount" "I", Cond.fieldLink RX0 38 "MarbleRamps$Machine" "rowCount" "I", Cond.fieldLink RX0 41 "MarbleRamps$Machine" "lostCount" "I", Cond.fieldLink RX0 9 "MarbleRamps$Machine" "parts" "[I", Cond.fieldLink RX0 15 "MarbleRamps$Machine" "periods" "[I", Cond.fieldLink RX0 18 "MarbleRamps$Machine" "states" "[I"]
def wsL_wouldRun_r2 : List Cond := [Cond.fieldLink RX0 21 "MarbleRamps$Machine" "bins" "[I", Cond.fieldLink RX0 24 "MarbleRamps$Machine" "hopperColumns" "[I", Cond.fieldLink RX0 27 "MarbleRamps$Machine" "hopperMarbles" "[I", Cond.static yX1_copyCells, Cond.code yX1_copyCells cX1_copyCells 3 none, Cond.methodLink RX1 204 yX1_setCell, Cond.static yX1_setCell, Cond.code yX1_setCell cX1_setCell 3 none, Cond.methodLink RX1 70 yX0_runFrom, Cond.instanceMethod yX0_runFrom, Cond.selects RX0 yX0_runFrom yX0_runFrom, Cond.code yX0_runFrom cX0_runFrom 5 (some .int), Cond.static yX1_cell, Cond.code yX1_cell cX1_cell 2 (some .int), Cond.methodLink RX0 86 yX0_letFall, Cond.instanceMethod yX0_letFall, Cond.selects RX0 yX0_letFall yX0_letFall, Cond.code yX0_letFall cX0_letFall 3 (some .int), Cond.methodLink RX0 77 yX0_fallTo, Cond.instanceMethod yX0_fallTo, Cond.selects RX0 yX0_fallTo yX0_fallTo, Cond.code yX0_fallTo cX0_fallTo 6 (some .int), Cond.methodLink RX0 69 yX0_placeOf, Cond.instanceMethod yX0_placeOf]
def wsL_wouldRun_r3 : List Cond := [Cond.selects RX0 yX0_placeOf yX0_placeOf, Cond.code yX0_placeOf cX0_placeOf 3 (some .int), Cond.methodLink RX0 80 yX0_wayOut, Cond.instanceMethod yX0_wayOut, Cond.selects RX0 yX0_wayOut yX0_wayOut, Cond.code yX0_wayOut cX0_wayOut 5 (some .int), Cond.methodLink RX0 83 yX0_hasColumn, Cond.instanceMethod yX0_hasColumn, Cond.selects RX0 yX0_hasColumn yX0_hasColumn, Cond.code yX0_hasColumn cX0_hasColumn 2 (some .boolean), Cond.methodLink RX0 89 yX0_hopperBehind, Cond.instanceMethod yX0_hopperBehind, Cond.selects RX0 yX0_hopperBehind yX0_hopperBehind, Cond.code yX0_hopperBehind cX0_hopperBehind 3 (some .int)]
def wsL_wouldRun : List Cond := .codeWith yL_wouldRun cL_wouldRun 4 (some .int) [(0, 9, 12, 19)] :: ((wsL_wouldRun_r1 ++ (wsL_wouldRun_r2 ++ wsL_wouldRun_r3)) ++ wsX10 ++ wsX00 ++ (vx_atS RX1 191 "java/lang/IndexOutOfBoundsException" ["java/lang/RuntimeException", "java/lang/Exception"]).filter goodWord)
def wsL_law0_r1 : List Cond := [Cond.classLink RL 8 RX1, Cond.instantiable RX1 2, Cond.initialized RX1, Cond.classLink RL 80 RX2, Cond.instantiable RX2 10, Cond.initialized RX2, Cond.arrayClass .long, Cond.methodLink RL 79 yX1_init, Cond.instanceMethod yX1_init, Cond.code yX1_init cX1_init 1 none, Cond.methodLink RX1 1 objectInit, Cond.instanceMethod objectInit, Cond.code objectInit ⟨#[0xb1]⟩ 1 none, Cond.classLink RX1 7 RX0, Cond.instantiable RX0 9, Cond.initialized RX0, Cond.fieldLink RX1 10 "MarbleRamps" "now" "LMarbleRamps$Machine;", Cond.fieldLink RX1 16 "MarbleRamps" "trial" "LMarbleRamps$Machine;", Cond.methodLink RX1 9 yX0_init, Cond.instanceMethod yX0_init, Cond.code yX0_init cX0_init 1 none, Cond.methodLink RX0 3 objectInit, Cond.arrayClass .int, Cond.fieldLink RX0 9 "MarbleRamps$Machine" "parts" "[I"]
def wsL_law0_r2 : List Cond := [Cond.fieldLink RX0 15 "MarbleRamps$Machine" "periods" "[I", Cond.fieldLink RX0 18 "MarbleRamps$Machine" "states" "[I", Cond.fieldLink RX0 21 "MarbleRamps$Machine" "bins" "[I", Cond.fieldLink RX0 24 "MarbleRamps$Machine" "hopperColumns" "[I", Cond.fieldLink RX0 27 "MarbleRamps$Machine" "hopperMarbles" "[I", Cond.methodLink RX0 30 yX0_layBoard, Cond.instanceMethod yX0_layBoard, Cond.selects RX0 yX0_layBoard yX0_layBoard, Cond.code yX0_layBoard cX0_layBoard 3 none, Cond.fieldLink RX0 34 "MarbleRamps$Machine" "columnCount" "I", Cond.fieldLink RX0 38 "MarbleRamps$Machine" "rowCount" "I", Cond.fieldLink RX0 41 "MarbleRamps$Machine" "lostCount" "I", Cond.methodLink RX0 44 yJ7_fill_53178, Cond.static yJ7_fill_53178, Cond.initialized RJ7, Cond.code yJ7_fill_53178 cJ7_fill_53178 4 none, Cond.methodLink RX0 50 yX0_clearBins, Cond.instanceMethod yX0_clearBins, Cond.selects RX0 yX0_clearBins yX0_clearBins, Cond.code yX0_clearBins cX0_clearBins 1 none, Cond.static yX1_setCell, Cond.code yX1_setCell cX1_setCell 3 none, Cond.methodLink RL 82 yX2_init, Cond.instanceMethod yX2_init]
def wsL_law0_r3 : List Cond := [Cond.code yX2_init cX2_init 1 none, Cond.methodLink RX2 3 objectInit, Cond.fieldLink RX2 9 "MarbleRampsModel" "columns" "I", Cond.fieldLink RX2 13 "MarbleRampsModel" "rows" "I", Cond.fieldLink RX2 16 "MarbleRampsModel" "part" "[I", Cond.fieldLink RX2 20 "MarbleRampsModel" "period" "[I", Cond.fieldLink RX2 23 "MarbleRampsModel" "above" "[I", Cond.fieldLink RX2 26 "MarbleRampsModel" "now" "[I", Cond.fieldLink RX2 29 "MarbleRampsModel" "kept" "[I", Cond.fieldLink RX2 32 "MarbleRampsModel" "way" "[I", Cond.methodLink RL 83 yL_lay, Cond.static yL_lay, Cond.initialized RL, Cond.codeWith yL_lay cL_lay 5 (some .int) [(0, 10, 13, 13)], Cond.classLink RL 13 "java/lang/IllegalArgumentException", Cond.methodLink RL 7 yX1_lay, Cond.instanceMethod yX1_lay, Cond.selects RX1 yX1_lay yX1_lay, Cond.code yX1_lay cX1_lay 3 (some .int), Cond.methodLink RX1 19 yX1_needWithin, Cond.static yX1_needWithin, Cond.code yX1_needWithin cX1_needWithin 3 none, Cond.classLink RX1 199 "java/lang/IllegalArgumentException", Cond.initialized "java/lang/IllegalArgumentException"]
def wsL_law0_r4 : List Cond := [Cond.methodLink RX1 23 yX0_layBoard, Cond.methodLink RL 88 yX2_lay, Cond.instanceMethod yX2_lay, Cond.selects RX2 yX2_lay yX2_lay, Cond.code yX2_lay cX2_lay 4 (some .int), Cond.fieldLink RX2 35 "MarbleRampsModel" "thrown" "I", Cond.methodLink RX2 38 yX2_isFrom, Cond.static yX2_isFrom, Cond.code yX2_isFrom cX2_isFrom 3 (some .boolean), Cond.methodLink RX2 71 yX2_no, Cond.instanceMethod yX2_no, Cond.selects RX2 yX2_no yX2_no, Cond.code yX2_no cX2_no 2 (some .int), Cond.methodLink RL 89 yX2_thrown, Cond.instanceMethod yX2_thrown, Cond.selects RX2 yX2_thrown yX2_thrown, Cond.code yX2_thrown cX2_thrown 1 (some .int), Cond.methodLink RL 93 yL_put, Cond.static yL_put, Cond.codeWith yL_put cL_put 6 (some .int) [(0, 12, 15, 19), (0, 12, 19, 13)], Cond.classLink RL 19 "java/lang/IndexOutOfBoundsException", Cond.methodLink RL 15 yX1_put, Cond.instanceMethod yX1_put, Cond.selects RX1 yX1_put yX1_put]
def wsL_law0_r5 : List Cond := [Cond.code yX1_put cX1_put 4 (some .int), Cond.methodLink RX1 27 yX1_needPlace, Cond.instanceMethod yX1_needPlace, Cond.selects RX1 yX1_needPlace yX1_needPlace, Cond.code yX1_needPlace cX1_needPlace 3 none, Cond.methodLink RX1 110 yX1_needRow, Cond.instanceMethod yX1_needRow, Cond.selects RX1 yX1_needRow yX1_needRow, Cond.code yX1_needRow cX1_needRow 2 none, Cond.classLink RX1 187 "java/lang/IndexOutOfBoundsException", Cond.initialized "java/lang/IndexOutOfBoundsException", Cond.methodLink RX1 184 yX0_hasRow, Cond.instanceMethod yX0_hasRow, Cond.selects RX0 yX0_hasRow yX0_hasRow, Cond.code yX0_hasRow cX0_hasRow 2 (some .boolean), Cond.methodLink RX1 60 yX1_needColumn, Cond.instanceMethod yX1_needColumn, Cond.selects RX1 yX1_needColumn yX1_needColumn, Cond.code yX1_needColumn cX1_needColumn 2 none, Cond.methodLink RX1 192 yX0_hasColumn, Cond.instanceMethod yX0_hasColumn, Cond.selects RX0 yX0_hasColumn yX0_hasColumn, Cond.code yX0_hasColumn cX0_hasColumn 2 (some .boolean), Cond.methodLink RX1 30 yX0_replacePart]
def wsL_law0_r6 : List Cond := [Cond.instanceMethod yX0_replacePart, Cond.selects RX0 yX0_replacePart yX0_replacePart, Cond.code yX0_replacePart cX0_replacePart 7 (some .int), Cond.methodLink RX0 69 yX0_placeOf, Cond.instanceMethod yX0_placeOf, Cond.selects RX0 yX0_placeOf yX0_placeOf, Cond.code yX0_placeOf cX0_placeOf 3 (some .int), Cond.methodLink RX0 65 yX0_partIn, Cond.instanceMethod yX0_partIn, Cond.selects RX0 yX0_partIn yX0_partIn, Cond.code yX0_partIn cX0_partIn 2 (some .int), Cond.static yX1_cell, Cond.code yX1_cell cX1_cell 2 (some .int), Cond.methodLink RL 96 yX2_put, Cond.instanceMethod yX2_put, Cond.selects RX2 yX2_put yX2_put, Cond.code yX2_put cX2_put 4 (some .int), Cond.methodLink RX2 74 yX2_isPlace, Cond.instanceMethod yX2_isPlace, Cond.selects RX2 yX2_isPlace yX2_isPlace, Cond.code yX2_isPlace cX2_isPlace 3 (some .boolean), Cond.methodLink RX2 42 yX2_isRow, Cond.instanceMethod yX2_isRow, Cond.selects RX2 yX2_isRow yX2_isRow]
def wsL_law0_r7 : List Cond := [Cond.code yX2_isRow cX2_isRow 2 (some .boolean), Cond.methodLink RX2 46 yX2_isColumn, Cond.instanceMethod yX2_isColumn, Cond.selects RX2 yX2_isColumn yX2_isColumn, Cond.code yX2_isColumn cX2_isColumn 2 (some .boolean), Cond.methodLink RX2 78 yX2_placed, Cond.instanceMethod yX2_placed, Cond.selects RX2 yX2_placed yX2_placed, Cond.code yX2_placed cX2_placed 6 (some .int), Cond.methodLink RL 97 yL_putCounter, Cond.static yL_putCounter, Cond.codeWith yL_putCounter cL_putCounter 6 (some .int) [(0, 12, 15, 19), (0, 12, 19, 13)], Cond.methodLink RL 21 yX1_putCounter, Cond.instanceMethod yX1_putCounter, Cond.selects RX1 yX1_putCounter yX1_putCounter, Cond.code yX1_putCounter cX1_putCounter 4 (some .int), Cond.methodLink RL 99 yX2_putCounter, Cond.instanceMethod yX2_putCounter, Cond.selects RX2 yX2_putCounter yX2_putCounter, Cond.code yX2_putCounter cX2_putCounter 4 (some .int), Cond.methodLink RL 100 yL_turn, Cond.static yL_turn, Cond.codeWith yL_turn cL_turn 5 (some .int) [(0, 17, 20, 19), (0, 17, 24, 28)], Cond.classLink RL 28 "java/lang/IllegalStateException"]
def wsL_law0_r8 : List Cond := [Cond.methodLink RL 24 yX1_turn, Cond.instanceMethod yX1_turn, Cond.selects RX1 yX1_turn yX1_turn, Cond.code yX1_turn cX1_turn 4 (some .boolean), Cond.classLink RX1 42 "java/lang/IllegalStateException", Cond.initialized "java/lang/IllegalStateException", Cond.methodLink RX1 34 yX0_placeOf, Cond.methodLink RX1 38 yX0_partIn, Cond.methodLink RX1 49 yX0_turnOver, Cond.instanceMethod yX0_turnOver, Cond.selects RX0 yX0_turnOver yX0_turnOver, Cond.code yX0_turnOver cX0_turnOver 2 none, Cond.methodLink RX0 73 yX0_isRightToggle, Cond.instanceMethod yX0_isRightToggle, Cond.selects RX0 yX0_isRightToggle yX0_isRightToggle, Cond.code yX0_isRightToggle cX0_isRightToggle 2 (some .boolean), Cond.methodLink RX1 53 yX0_isRightToggle, Cond.methodLink RL 102 yX2_turn, Cond.instanceMethod yX2_turn, Cond.selects RX2 yX2_turn yX2_turn, Cond.code yX2_turn cX2_turn 4 (some .boolean), Cond.methodLink RX2 82 yX2_isNot, Cond.instanceMethod yX2_isNot, Cond.selects RX2 yX2_isNot yX2_isNot]
def wsL_law0_r9 : List Cond := [Cond.code yX2_isNot cX2_isNot 2 (some .boolean), Cond.methodLink RL 103 yL_setHopper, Cond.static yL_setHopper, Cond.codeWith yL_setHopper cL_setHopper 6 (some .int) [(0, 12, 15, 19), (0, 12, 19, 13)], Cond.methodLink RL 30 yX1_setHopper, Cond.instanceMethod yX1_setHopper, Cond.selects RX1 yX1_setHopper yX1_setHopper, Cond.code yX1_setHopper cX1_setHopper 4 (some .int), Cond.methodLink RX1 57 yX1_needHopper, Cond.static yX1_needHopper, Cond.code yX1_needHopper cX1_needHopper 1 none, Cond.methodLink RX1 63 yX0_fillHopper, Cond.instanceMethod yX0_fillHopper, Cond.selects RX0 yX0_fillHopper yX0_fillHopper, Cond.code yX0_fillHopper cX0_fillHopper 5 (some .int), Cond.methodLink RL 105 yX2_setHopper, Cond.instanceMethod yX2_setHopper, Cond.selects RX2 yX2_setHopper yX2_setHopper, Cond.code yX2_setHopper cX2_setHopper 5 (some .int), Cond.methodLink RL 106 yL_drop, Cond.static yL_drop, Cond.codeWith yL_drop cL_drop 4 (some .int) [(0, 9, 12, 19)], Cond.methodLink RL 33 yX1_drop, Cond.instanceMethod yX1_drop]
def wsL_law0_r10 : List Cond := [Cond.selects RX1 yX1_drop yX1_drop, Cond.code yX1_drop cX1_drop 2 (some .int), Cond.methodLink RX1 67 yX0_letFall, Cond.instanceMethod yX0_letFall, Cond.selects RX0 yX0_letFall yX0_letFall, Cond.code yX0_letFall cX0_letFall 3 (some .int), Cond.methodLink RX0 77 yX0_fallTo, Cond.instanceMethod yX0_fallTo, Cond.selects RX0 yX0_fallTo yX0_fallTo, Cond.code yX0_fallTo cX0_fallTo 6 (some .int), Cond.methodLink RX0 80 yX0_wayOut, Cond.instanceMethod yX0_wayOut, Cond.selects RX0 yX0_wayOut yX0_wayOut, Cond.code yX0_wayOut cX0_wayOut 5 (some .int), Cond.methodLink RX0 83 yX0_hasColumn, Cond.methodLink RL 109 yX2_drop, Cond.instanceMethod yX2_drop, Cond.selects RX2 yX2_drop yX2_drop, Cond.code yX2_drop cX2_drop 2 (some .int), Cond.methodLink RX2 62 yX2_fall, Cond.instanceMethod yX2_fall, Cond.selects RX2 yX2_fall yX2_fall, Cond.code yX2_fall cX2_fall 5 (some .int), Cond.fieldLink RX2 55 "MarbleRampsModel" "turned" "I"]
def wsL_law0_r11 : List Cond := [Cond.methodLink RX2 58 yX2_goes, Cond.instanceMethod yX2_goes, Cond.selects RX2 yX2_goes yX2_goes, Cond.code yX2_goes cX2_goes 4 (some .int), Cond.methodLink RL 110 yL_run, Cond.static yL_run, Cond.codeWith yL_run cL_run 5 (some .int) [(0, 10, 13, 19), (0, 10, 17, 13)], Cond.methodLink RL 37 yX1_run, Cond.instanceMethod yX1_run, Cond.selects RX1 yX1_run yX1_run, Cond.code yX1_run cX1_run 3 (some .int), Cond.methodLink RX1 70 yX0_runFrom, Cond.instanceMethod yX0_runFrom, Cond.selects RX0 yX0_runFrom yX0_runFrom, Cond.code yX0_runFrom cX0_runFrom 5 (some .int), Cond.methodLink RX0 86 yX0_letFall, Cond.methodLink RX0 89 yX0_hopperBehind, Cond.instanceMethod yX0_hopperBehind, Cond.selects RX0 yX0_hopperBehind yX0_hopperBehind, Cond.code yX0_hopperBehind cX0_hopperBehind 3 (some .int), Cond.methodLink RL 112 yX2_run, Cond.instanceMethod yX2_run, Cond.selects RX2 yX2_run yX2_run, Cond.code yX2_run cX2_run 3 (some .int)]
def wsL_law0_r12 : List Cond := [Cond.methodLink RX2 85 yX2_runFrom, Cond.instanceMethod yX2_runFrom, Cond.selects RX2 yX2_runFrom yX2_runFrom, Cond.code yX2_runFrom cX2_runFrom 7 (some .int), Cond.methodLink RX2 66 yJ6_signum_0f7a4, Cond.static yJ6_signum_0f7a4, Cond.initialized RJ6, Cond.code yJ6_signum_0f7a4 cJ6_signum_0f7a4 1 (some .int), Cond.methodLink RL 113 yX1_emptyBins, Cond.instanceMethod yX1_emptyBins, Cond.selects RX1 yX1_emptyBins yX1_emptyBins, Cond.code yX1_emptyBins cX1_emptyBins 2 (some .int), Cond.methodLink RX1 73 yX0_marblesInBins, Cond.instanceMethod yX0_marblesInBins, Cond.selects RX0 yX0_marblesInBins yX0_marblesInBins, Cond.code yX0_marblesInBins cX0_marblesInBins 6 (some .int), Cond.methodLink RX1 77 yX0_clearBins, Cond.methodLink RL 116 yX2_emptyBins, Cond.instanceMethod yX2_emptyBins, Cond.selects RX2 yX2_emptyBins yX2_emptyBins, Cond.code yX2_emptyBins cX2_emptyBins 3 (some .int), Cond.methodLink RX2 88 yX2_inBins, Cond.instanceMethod yX2_inBins, Cond.selects RX2 yX2_inBins yX2_inBins]
def wsL_law0_r13 : List Cond := [Cond.code yX2_inBins cX2_inBins 3 (some .int), Cond.methodLink RX2 92 yX2_ok, Cond.instanceMethod yX2_ok, Cond.selects RX2 yX2_ok yX2_ok, Cond.code yX2_ok cX2_ok 2 (some .int), Cond.methodLink RL 117 yX1_columns, Cond.instanceMethod yX1_columns, Cond.selects RX1 yX1_columns yX1_columns, Cond.code yX1_columns cX1_columns 1 (some .int), Cond.fieldLink RX1 80 "MarbleRamps$Machine" "columnCount" "I", Cond.methodLink RL 120 yX2_columns, Cond.instanceMethod yX2_columns, Cond.selects RX2 yX2_columns yX2_columns, Cond.code yX2_columns cX2_columns 1 (some .int), Cond.methodLink RL 121 yX1_rows, Cond.instanceMethod yX1_rows, Cond.selects RX1 yX1_rows yX1_rows, Cond.code yX1_rows cX1_rows 1 (some .int), Cond.fieldLink RX1 84 "MarbleRamps$Machine" "rowCount" "I", Cond.methodLink RL 124 yX2_rows, Cond.instanceMethod yX2_rows, Cond.selects RX2 yX2_rows yX2_rows, Cond.code yX2_rows cX2_rows 1 (some .int), Cond.methodLink RL 125 yL_partAt]
def wsL_law0_r14 : List Cond := [Cond.static yL_partAt, Cond.codeWith yL_partAt cL_partAt 5 (some .int) [(0, 10, 13, 19)], Cond.methodLink RL 40 yX1_partAt, Cond.instanceMethod yX1_partAt, Cond.selects RX1 yX1_partAt yX1_partAt, Cond.code yX1_partAt cX1_partAt 3 (some .int), Cond.methodLink RL 127 yX2_partAt, Cond.instanceMethod yX2_partAt, Cond.selects RX2 yX2_partAt yX2_partAt, Cond.code yX2_partAt cX2_partAt 3 (some .int), Cond.methodLink RL 128 yL_leadsRight, Cond.static yL_leadsRight, Cond.codeWith yL_leadsRight cL_leadsRight 5 (some .int) [(0, 17, 20, 19)], Cond.methodLink RL 43 yX1_leadsRight, Cond.instanceMethod yX1_leadsRight, Cond.selects RX1 yX1_leadsRight yX1_leadsRight, Cond.code yX1_leadsRight cX1_leadsRight 3 (some .boolean), Cond.methodLink RL 130 yX2_leadsRight, Cond.instanceMethod yX2_leadsRight, Cond.selects RX2 yX2_leadsRight yX2_leadsRight, Cond.code yX2_leadsRight cX2_leadsRight 3 (some .boolean), Cond.methodLink RX2 95 yX2_isRight, Cond.instanceMethod yX2_isRight, Cond.selects RX2 yX2_isRight yX2_isRight]
def wsL_law0_r15 : List Cond := [Cond.code yX2_isRight cX2_isRight 3 (some .boolean), Cond.methodLink RL 131 yL_countAt, Cond.static yL_countAt, Cond.codeWith yL_countAt cL_countAt 5 (some .int) [(0, 10, 13, 19)], Cond.methodLink RL 46 yX1_countAt, Cond.instanceMethod yX1_countAt, Cond.selects RX1 yX1_countAt yX1_countAt, Cond.code yX1_countAt cX1_countAt 3 (some .int), Cond.methodLink RX1 87 yX0_countedIn, Cond.instanceMethod yX0_countedIn, Cond.selects RX0 yX0_countedIn yX0_countedIn, Cond.code yX0_countedIn cX0_countedIn 2 (some .int), Cond.methodLink RL 133 yX2_countAt, Cond.instanceMethod yX2_countAt, Cond.selects RX2 yX2_countAt yX2_countAt, Cond.code yX2_countAt cX2_countAt 3 (some .int), Cond.methodLink RX2 98 yX2_counted, Cond.instanceMethod yX2_counted, Cond.selects RX2 yX2_counted yX2_counted, Cond.code yX2_counted cX2_counted 3 (some .int), Cond.methodLink RL 134 yL_binOf, Cond.static yL_binOf, Cond.codeWith yL_binOf cL_binOf 4 (some .int) [(0, 9, 12, 19)], Cond.methodLink RL 49 yX1_binOf]
def wsL_law0_r16 : List Cond := [Cond.instanceMethod yX1_binOf, Cond.selects RX1 yX1_binOf yX1_binOf, Cond.code yX1_binOf cX1_binOf 2 (some .int), Cond.fieldLink RX1 90 "MarbleRamps$Machine" "bins" "[I", Cond.methodLink RX1 94 yX1_cell, Cond.methodLink RL 136 yX2_binOf, Cond.instanceMethod yX2_binOf, Cond.selects RX2 yX2_binOf yX2_binOf, Cond.code yX2_binOf cX2_binOf 2 (some .int), Cond.methodLink RL 137 yX1_lost, Cond.instanceMethod yX1_lost, Cond.selects RX1 yX1_lost yX1_lost, Cond.code yX1_lost cX1_lost 1 (some .int), Cond.fieldLink RX1 98 "MarbleRamps$Machine" "lostCount" "I", Cond.methodLink RL 140 yX2_lost, Cond.instanceMethod yX2_lost, Cond.selects RX2 yX2_lost yX2_lost, Cond.code yX2_lost cX2_lost 1 (some .int), Cond.methodLink RL 141 yL_marblesIn, Cond.static yL_marblesIn, Cond.codeWith yL_marblesIn cL_marblesIn 4 (some .int) [(0, 9, 12, 19)], Cond.methodLink RL 52 yX1_marblesIn, Cond.instanceMethod yX1_marblesIn, Cond.selects RX1 yX1_marblesIn yX1_marblesIn]
def wsL_law0_r17 : List Cond := [Cond.code yX1_marblesIn cX1_marblesIn 2 (some .int), Cond.fieldLink RX1 101 "MarbleRamps$Machine" "hopperMarbles" "[I", Cond.methodLink RL 143 yX2_marblesIn, Cond.instanceMethod yX2_marblesIn, Cond.selects RX2 yX2_marblesIn yX2_marblesIn, Cond.code yX2_marblesIn cX2_marblesIn 2 (some .int), Cond.methodLink RL 144 yL_columnOf, Cond.static yL_columnOf, Cond.codeWith yL_columnOf cL_columnOf 4 (some .int) [(0, 9, 12, 19)], Cond.methodLink RL 55 yX1_columnOf, Cond.instanceMethod yX1_columnOf, Cond.selects RX1 yX1_columnOf yX1_columnOf, Cond.code yX1_columnOf cX1_columnOf 2 (some .int), Cond.fieldLink RX1 104 "MarbleRamps$Machine" "hopperColumns" "[I", Cond.methodLink RL 146 yX2_columnOf, Cond.instanceMethod yX2_columnOf, Cond.selects RX2 yX2_columnOf yX2_columnOf, Cond.code yX2_columnOf cX2_columnOf 2 (some .int), Cond.methodLink RL 147 yX1_toggles, Cond.instanceMethod yX1_toggles, Cond.selects RX1 yX1_toggles yX1_toggles, Cond.code yX1_toggles cX1_toggles 1 (some .int), Cond.methodLink RX1 107 yX0_countToggles, Cond.instanceMethod yX0_countToggles]
def wsL_law0_r18 : List Cond := [Cond.selects RX0 yX0_countToggles yX0_countToggles, Cond.code yX0_countToggles cX0_countToggles 6 (some .int), Cond.methodLink RL 150 yX2_toggles, Cond.instanceMethod yX2_toggles, Cond.selects RX2 yX2_toggles yX2_toggles, Cond.code yX2_toggles cX2_toggles 1 (some .int), Cond.methodLink RX2 101 yX2_togglesNow, Cond.instanceMethod yX2_togglesNow, Cond.selects RX2 yX2_togglesNow yX2_togglesNow, Cond.code yX2_togglesNow cX2_togglesNow 3 (some .int), Cond.methodLink RL 151 yL_numberIn, Cond.static yL_numberIn, Cond.codeWith yL_numberIn cL_numberIn 4 (some .int) [(0, 9, 12, 19)], Cond.methodLink RL 58 yX1_numberIn, Cond.instanceMethod yX1_numberIn, Cond.selects RX1 yX1_numberIn yX1_numberIn, Cond.code yX1_numberIn cX1_numberIn 2 (some .int), Cond.methodLink RX1 113 yX0_numberToldBy, Cond.instanceMethod yX0_numberToldBy, Cond.selects RX0 yX0_numberToldBy yX0_numberToldBy, Cond.code yX0_numberToldBy cX0_numberToldBy 6 (some .int), Cond.methodLink RL 153 yX2_numberIn, Cond.instanceMethod yX2_numberIn, Cond.selects RX2 yX2_numberIn yX2_numberIn]
def wsL_law0_r19 : List Cond := [Cond.code yX2_numberIn cX2_numberIn 2 (some .int), Cond.methodLink RX2 104 yX2_number, Cond.instanceMethod yX2_number, Cond.selects RX2 yX2_number yX2_number, Cond.code yX2_number cX2_number 5 (some .int), Cond.methodLink RL 154 yL_wouldLand, Cond.static yL_wouldLand, Cond.codeWith yL_wouldLand cL_wouldLand 4 (some .int) [(0, 9, 12, 19)], Cond.methodLink RL 61 yX1_wouldLand, Cond.instanceMethod yX1_wouldLand, Cond.selects RX1 yX1_wouldLand yX1_wouldLand, Cond.code yX1_wouldLand cX1_wouldLand 2 (some .int), Cond.methodLink RX1 116 yX0_becomeLike, Cond.instanceMethod yX0_becomeLike, Cond.selects RX0 yX0_becomeLike yX0_becomeLike, Cond.code yX0_becomeLike cX0_becomeLike 2 none, Cond.static yX1_copyCells, Cond.code yX1_copyCells cX1_copyCells 3 none, Cond.methodLink RX1 204 yX1_setCell, Cond.methodLink RL 156 yX2_wouldLand, Cond.instanceMethod yX2_wouldLand, Cond.selects RX2 yX2_wouldLand yX2_wouldLand, Cond.code yX2_wouldLand cX2_wouldLand 2 (some .int), Cond.methodLink RX2 113 yX2_look]
def wsL_law0_r20 : List Cond := [Cond.instanceMethod yX2_look, Cond.selects RX2 yX2_look yX2_look, Cond.code yX2_look cX2_look 5 (some .int), Cond.methodLink RX2 107 yX2_keep, Cond.instanceMethod yX2_keep, Cond.selects RX2 yX2_keep yX2_keep, Cond.code yX2_keep cX2_keep 1 none, Cond.methodLink RX2 49 arraycopyName, Cond.native arraycopyName, Cond.static arraycopyName, Cond.initialized "java/lang/System", Cond.methodLink RX2 110 yX2_bringBack, Cond.instanceMethod yX2_bringBack, Cond.selects RX2 yX2_bringBack yX2_bringBack, Cond.code yX2_bringBack cX2_bringBack 1 none, Cond.methodLink RL 157 yL_wouldBeIn, Cond.static yL_wouldBeIn, Cond.codeWith yL_wouldBeIn cL_wouldBeIn 5 (some .int) [(0, 10, 13, 19)], Cond.methodLink RL 64 yX1_wouldBeIn, Cond.instanceMethod yX1_wouldBeIn, Cond.selects RX1 yX1_wouldBeIn yX1_wouldBeIn, Cond.code yX1_wouldBeIn cX1_wouldBeIn 3 (some .int), Cond.methodLink RX1 120 yX0_fallTo, Cond.methodLink RL 159 yX2_wouldBeIn]
def wsL_law0_r21 : List Cond := [Cond.instanceMethod yX2_wouldBeIn, Cond.selects RX2 yX2_wouldBeIn yX2_wouldBeIn, Cond.code yX2_wouldBeIn cX2_wouldBeIn 3 (some .int), Cond.methodLink RL 160 yL_wouldTurn, Cond.static yL_wouldTurn, Cond.codeWith yL_wouldTurn cL_wouldTurn 4 (some .int) [(0, 9, 12, 19)], Cond.methodLink RL 67 yX1_wouldTurn, Cond.instanceMethod yX1_wouldTurn, Cond.selects RX1 yX1_wouldTurn yX1_wouldTurn, Cond.code yX1_wouldTurn cX1_wouldTurn 2 (some .int), Cond.methodLink RX1 123 yX0_togglesUnlike, Cond.instanceMethod yX0_togglesUnlike, Cond.selects RX0 yX0_togglesUnlike yX0_togglesUnlike, Cond.code yX0_togglesUnlike cX0_togglesUnlike 4 (some .int), Cond.methodLink RL 162 yX2_wouldTurn, Cond.instanceMethod yX2_wouldTurn, Cond.selects RX2 yX2_wouldTurn yX2_wouldTurn, Cond.code yX2_wouldTurn cX2_wouldTurn 2 (some .int), Cond.methodLink RX2 116 yX2_turnedBy, Cond.instanceMethod yX2_turnedBy, Cond.selects RX2 yX2_turnedBy yX2_turnedBy, Cond.code yX2_turnedBy cX2_turnedBy 2 (some .int), Cond.methodLink RL 163 yL_lastLands, Cond.static yL_lastLands]
def wsL_law0_r22 : List Cond := [Cond.codeWith yL_lastLands cL_lastLands 5 (some .int) [(0, 10, 13, 19), (0, 10, 17, 13)], Cond.methodLink RL 70 yX1_lastLands, Cond.instanceMethod yX1_lastLands, Cond.selects RX1 yX1_lastLands yX1_lastLands, Cond.code yX1_lastLands cX1_lastLands 5 (some .int), Cond.methodLink RL 165 yX2_lastLands, Cond.instanceMethod yX2_lastLands, Cond.selects RX2 yX2_lastLands yX2_lastLands, Cond.code yX2_lastLands cX2_lastLands 3 (some .int), Cond.methodLink RL 166 yL_asBeforeIn, Cond.static yL_asBeforeIn, Cond.codeWith yL_asBeforeIn cL_asBeforeIn 4 (some .int) [(0, 9, 12, 19)], Cond.methodLink RL 73 yX1_asBeforeIn, Cond.instanceMethod yX1_asBeforeIn, Cond.selects RX1 yX1_asBeforeIn yX1_asBeforeIn, Cond.code yX1_asBeforeIn cX1_asBeforeIn 3 (some .int), Cond.methodLink RX1 127 yX0_hasStatesOf, Cond.instanceMethod yX0_hasStatesOf, Cond.selects RX0 yX0_hasStatesOf yX0_hasStatesOf, Cond.code yX0_hasStatesOf cX0_hasStatesOf 3 (some .boolean), Cond.methodLink RL 168 yX2_asBeforeIn, Cond.instanceMethod yX2_asBeforeIn, Cond.selects RX2 yX2_asBeforeIn yX2_asBeforeIn, Cond.code yX2_asBeforeIn cX2_asBeforeIn 2 (some .int)]
def wsL_law0_r23 : List Cond := [Cond.methodLink RX2 123 yX2_asBefore, Cond.instanceMethod yX2_asBefore, Cond.selects RX2 yX2_asBefore yX2_asBefore, Cond.code yX2_asBefore cX2_asBefore 4 (some .int), Cond.methodLink RX2 119 yX2_isAsKept, Cond.instanceMethod yX2_isAsKept, Cond.selects RX2 yX2_isAsKept yX2_isAsKept, Cond.code yX2_isAsKept cX2_isAsKept 2 (some .boolean), Cond.methodLink RL 169 yL_wouldRun, Cond.static yL_wouldRun, Cond.codeWith yL_wouldRun cL_wouldRun 4 (some .int) [(0, 9, 12, 19)], Cond.methodLink RL 76 yX1_wouldRun, Cond.instanceMethod yX1_wouldRun, Cond.selects RX1 yX1_wouldRun yX1_wouldRun, Cond.code yX1_wouldRun cX1_wouldRun 2 (some .int), Cond.methodLink RL 171 yX2_wouldRun, Cond.instanceMethod yX2_wouldRun, Cond.selects RX2 yX2_wouldRun yX2_wouldRun, Cond.code yX2_wouldRun cX2_wouldRun 2 (some .int), Cond.methodLink RX2 126 yX2_runs, Cond.instanceMethod yX2_runs, Cond.selects RX2 yX2_runs yX2_runs, Cond.code yX2_runs cX2_runs 3 (some .int), Cond.methodLink RL 172 yX1_bestColumn]
def wsL_law0_r24 : List Cond := [Cond.instanceMethod yX1_bestColumn, Cond.selects RX1 yX1_bestColumn yX1_bestColumn, Cond.code yX1_bestColumn cX1_bestColumn 5 (some .int), Cond.methodLink RX1 131 yX1_columns, Cond.methodLink RX1 134 yX1_wouldTurn, Cond.methodLink RL 175 yX2_bestColumn, Cond.instanceMethod yX2_bestColumn, Cond.selects RX2 yX2_bestColumn yX2_bestColumn, Cond.code yX2_bestColumn cX2_bestColumn 1 (some .int), Cond.methodLink RX2 129 yX2_best, Cond.instanceMethod yX2_best, Cond.selects RX2 yX2_best yX2_best, Cond.code yX2_best cX2_best 5 (some .int), Cond.methodLink RL 176 yX1_meanInBins, Cond.instanceMethod yX1_meanInBins, Cond.selects RX1 yX1_meanInBins yX1_meanInBins, Cond.code yX1_meanInBins cX1_meanInBins 2 (some .double), Cond.methodLink RL 180 yX2_meanInBins, Cond.instanceMethod yX2_meanInBins, Cond.selects RX2 yX2_meanInBins yX2_meanInBins, Cond.code yX2_meanInBins cX2_meanInBins 1 (some .double), Cond.methodLink RL 181 yX1_digest, Cond.instanceMethod yX1_digest, Cond.selects RX1 yX1_digest yX1_digest]
def wsL_law0_r25 : List Cond := [Cond.code yX1_digest cX1_digest 5 (some .long), Cond.constantLong RX1 137 (2239), Cond.constantLong RX1 139 (31), Cond.methodLink RX1 141 yX1_rows, Cond.methodLink RX1 144 yX1_lost, Cond.methodLink RX1 147 yX1_toggles, Cond.methodLink RX1 150 yX1_bestColumn, Cond.methodLink RX1 153 yX1_marblesIn, Cond.methodLink RX1 156 yX1_columnOf, Cond.methodLink RX1 159 yX1_wouldRun, Cond.methodLink RX1 162 yX1_numberIn, Cond.methodLink RX1 165 yX1_partAt, Cond.methodLink RX1 168 yX1_leadsRight, Cond.methodLink RX1 172 yX1_countAt, Cond.methodLink RX1 175 yX1_binOf, Cond.methodLink RX1 178 yX1_wouldLand, Cond.methodLink RX1 181 yX1_asBeforeIn, Cond.methodLink RL 185 yX2_digest, Cond.instanceMethod yX2_digest, Cond.selects RX2 yX2_digest yX2_digest, Cond.code yX2_digest cX2_digest 10 (some .long), Cond.constantLong RX2 132 (2239), Cond.constantLong RX2 134 (31)]
def wsL_law0 : List Cond := (wsL_law0_r1 ++ (wsL_law0_r2 ++ (wsL_law0_r3 ++ (wsL_law0_r4 ++ (wsL_law0_r5 ++ (wsL_law0_r6 ++ (wsL_law0_r7 ++ (wsL_law0_r8 ++ (wsL_law0_r9 ++ (wsL_law0_r10 ++ (wsL_law0_r11 ++ (wsL_law0_r12 ++ (wsL_law0_r13 ++ (wsL_law0_r14 ++ (wsL_law0_r15 ++ (wsL_law0_r16 ++ (wsL_law0_r17 ++ (wsL_law0_r18 ++ (wsL_law0_r19 ++ (wsL_law0_r20 ++ (wsL_law0_r21 ++ (wsL_law0_r22 ++ (wsL_law0_r23 ++ (wsL_law0_r24 ++ wsL_law0_r25)))))))))))))))))))))))) ++ wsX10 ++ wsX20 ++ wsX00 ++ ([] : List Cond)
def wsL_law : List Cond := wsL_law0 ++ (vx_atS RX1 203 "java/lang/IllegalArgumentException" ["java/lang/RuntimeException", "java/lang/Exception"]).filter goodWord ++ (vx_atS RX1 191 "java/lang/IndexOutOfBoundsException" ["java/lang/RuntimeException", "java/lang/Exception"]).filter goodWord ++ (vx_atS RX1 46 "java/lang/IllegalStateException" ["java/lang/RuntimeException", "java/lang/Exception"]).filter goodWord
end
section
theorem mem_pos {big ws : List Cond} (ps : List Nat) (h : ws.map some = ps.map (fun i => big[i]?)) : ∀ w ∈ ws, w ∈ big := by
  intro w hw
  have h1 : some w ∈ ws.map some := List.mem_map_of_mem hw
  rw [h] at h1
  obtain ⟨i, -, hi⟩ := List.mem_map.mp h1
  exact List.mem_of_getElem? hi
set_option maxRecDepth 20000 in
theorem wsL_law_in0_r1 : ∀ w ∈ wsL_law0_r1, w ∈ lw_tbl := mem_pos [40, 41, 28, 519, 520, 31, 775, 42, 43, 44, 45, 46, 47, 48, 49, 29, 103, 104, 50, 51, 52, 53, 102, 68] (by decide +kernel)
set_option maxRecDepth 20000 in
theorem wsL_law_in0_r2 : ∀ w ∈ wsL_law0_r2, w ∈ lw_tbl := mem_pos [69, 70, 71, 73, 75, 54, 55, 56, 57, 77, 79, 81, 58, 59, 30, 60, 61, 62, 63, 64, 66, 67, 521, 522] (by decide +kernel)
set_option maxRecDepth 20000 in
theorem wsL_law_in0_r3 : ∀ w ∈ wsL_law0_r3, w ∈ lw_tbl := mem_pos [523, 524, 526, 527, 528, 529, 530, 531, 532, 534, 360, 361, 27, 362, 363, 364, 365, 366, 367, 368, 369, 370, 371, 35] (by decide +kernel)
set_option maxRecDepth 20000 in
theorem wsL_law_in0_r4 : ∀ w ∈ wsL_law0_r4, w ∈ lw_tbl := mem_pos [387, 560, 561, 562, 563, 525, 564, 565, 566, 567, 569, 4, 570, 556, 557, 558, 559, 388, 389, 390, 391, 392, 393, 394] (by decide +kernel)
set_option maxRecDepth 20000 in
theorem wsL_law_in0_r5 : ∀ w ∈ wsL_law0_r5, w ∈ lw_tbl := mem_pos [395, 325, 327, 3, 328, 308, 310, 2, 311, 156, 36, 312, 313, 314, 315, 148, 150, 0, 151, 152, 153, 154, 155, 396] (by decide +kernel)
set_option maxRecDepth 20000 in
theorem wsL_law_in0_r6 : ∀ w ∈ wsL_law0_r6, w ∈ lw_tbl := mem_pos [397, 398, 399, 240, 241, 242, 243, 260, 261, 262, 263, 249, 250, 571, 572, 573, 574, 575, 577, 5, 578, 579, 581, 6] (by decide +kernel)
set_option maxRecDepth 20000 in
theorem wsL_law_in0_r7 : ∀ w ∈ wsL_law0_r7, w ∈ lw_tbl := mem_pos [582, 583, 585, 7, 586, 587, 589, 8, 590, 400, 401, 402, 403, 404, 405, 406, 591, 592, 593, 594, 407, 408, 409, 410] (by decide +kernel)
set_option maxRecDepth 20000 in
theorem wsL_law_in0_r8 : ∀ w ∈ wsL_law0_r8, w ∈ lw_tbl := mem_pos [411, 412, 413, 414, 415, 37, 329, 330, 431, 432, 433, 434, 256, 257, 258, 259, 335, 595, 596, 597, 598, 599, 601, 9] (by decide +kernel)
set_option maxRecDepth 20000 in
theorem wsL_law_in0_r9 : ∀ w ∈ wsL_law0_r9, w ∈ lw_tbl := mem_pos [602, 435, 436, 437, 438, 439, 440, 441, 282, 283, 284, 442, 443, 444, 445, 603, 604, 605, 606, 446, 447, 448, 449, 450] (by decide +kernel)
set_option maxRecDepth 20000 in
theorem wsL_law_in0_r10 : ∀ w ∈ wsL_law0_r10, w ∈ lw_tbl := mem_pos [451, 452, 232, 233, 234, 235, 236, 237, 238, 239, 244, 245, 246, 247, 251, 607, 608, 609, 610, 611, 613, 10, 614, 533] (by decide +kernel)
set_option maxRecDepth 20000 in
theorem wsL_law_in0_r11 : ∀ w ∈ wsL_law0_r11, w ∈ lw_tbl := mem_pos [615, 617, 11, 618, 453, 454, 455, 456, 457, 458, 459, 295, 296, 297, 298, 299, 300, 301, 302, 303, 619, 620, 621, 622] (by decide +kernel)
set_option maxRecDepth 20000 in
theorem wsL_law_in0_r12 : ∀ w ∈ wsL_law0_r12, w ∈ lw_tbl := mem_pos [623, 625, 12, 626, 627, 628, 38, 629, 110, 111, 112, 113, 114, 115, 116, 117, 118, 630, 631, 632, 633, 634, 636, 13] (by decide +kernel)
set_option maxRecDepth 20000 in
theorem wsL_law_in0_r13 : ∀ w ∈ wsL_law0_r13, w ∈ lw_tbl := mem_pos [637, 638, 640, 14, 641, 119, 120, 121, 122, 78, 642, 643, 644, 645, 123, 124, 125, 126, 80, 646, 647, 648, 649, 460] (by decide +kernel)
set_option maxRecDepth 20000 in
theorem wsL_law_in0_r14 : ∀ w ∈ wsL_law0_r14, w ∈ lw_tbl := mem_pos [461, 462, 463, 322, 323, 324, 650, 651, 652, 653, 464, 465, 466, 467, 332, 333, 334, 654, 655, 656, 657, 658, 660, 15] (by decide +kernel)
set_option maxRecDepth 20000 in
theorem wsL_law_in0_r15 : ∀ w ∈ wsL_law0_r15, w ∈ lw_tbl := mem_pos [661, 468, 469, 470, 471, 337, 338, 339, 340, 341, 342, 343, 662, 663, 664, 665, 666, 668, 16, 669, 472, 473, 474, 475] (by decide +kernel)
set_option maxRecDepth 20000 in
theorem wsL_law_in0_r16 : ∀ w ∈ wsL_law0_r16, w ∈ lw_tbl := mem_pos [345, 346, 347, 72, 286, 670, 671, 672, 673, 127, 128, 129, 130, 82, 674, 675, 676, 677, 476, 477, 478, 479, 279, 280] (by decide +kernel)
set_option maxRecDepth 20000 in
theorem wsL_law_in0_r17 : ∀ w ∈ wsL_law0_r17, w ∈ lw_tbl := mem_pos [281, 76, 678, 679, 680, 681, 480, 481, 482, 483, 288, 289, 290, 74, 682, 683, 684, 685, 131, 132, 133, 134, 135, 136] (by decide +kernel)
set_option maxRecDepth 20000 in
theorem wsL_law_in0_r18 : ∀ w ∈ wsL_law0_r18, w ∈ lw_tbl := mem_pos [137, 138, 686, 687, 688, 689, 690, 692, 17, 693, 484, 485, 486, 487, 305, 306, 307, 317, 318, 319, 320, 694, 695, 696] (by decide +kernel)
set_option maxRecDepth 20000 in
theorem wsL_law_in0_r19 : ∀ w ∈ wsL_law0_r19, w ∈ lw_tbl := mem_pos [697, 698, 700, 18, 701, 488, 489, 490, 491, 349, 350, 351, 224, 225, 226, 227, 229, 230, 231, 702, 703, 704, 705, 706] (by decide +kernel)
set_option maxRecDepth 20000 in
theorem wsL_law_in0_r20 : ∀ w ∈ wsL_law0_r20, w ∈ lw_tbl := mem_pos [708, 19, 709, 710, 712, 20, 713, 714, 716, 715, 39, 717, 719, 21, 720, 492, 493, 494, 495, 496, 497, 498, 499, 721] (by decide +kernel)
set_option maxRecDepth 20000 in
theorem wsL_law_in0_r21 : ∀ w ∈ wsL_law0_r21, w ∈ lw_tbl := mem_pos [722, 723, 724, 500, 501, 502, 503, 145, 146, 147, 252, 253, 254, 255, 725, 726, 727, 728, 729, 731, 22, 732, 504, 505] (by decide +kernel)
set_option maxRecDepth 20000 in
theorem wsL_law_in0_r22 : ∀ w ∈ wsL_law0_r22, w ∈ lw_tbl := mem_pos [506, 507, 508, 509, 510, 733, 734, 735, 736, 511, 512, 513, 514, 353, 354, 355, 356, 357, 358, 359, 737, 738, 739, 740] (by decide +kernel)
set_option maxRecDepth 20000 in
theorem wsL_law_in0_r23 : ∀ w ∈ wsL_law0_r23, w ∈ lw_tbl := mem_pos [741, 743, 23, 744, 745, 747, 24, 748, 515, 516, 517, 518, 292, 293, 294, 749, 750, 751, 752, 753, 755, 25, 756, 139] (by decide +kernel)
set_option maxRecDepth 20000 in
theorem wsL_law_in0_r24 : ∀ w ∈ wsL_law0_r24, w ∈ lw_tbl := mem_pos [140, 141, 142, 143, 144, 757, 758, 759, 760, 761, 763, 26, 764, 264, 265, 266, 267, 765, 766, 767, 768, 268, 269, 270] (by decide +kernel)
set_option maxRecDepth 20000 in
theorem wsL_law_in0_r25 : ∀ w ∈ wsL_law0_r25, w ∈ lw_tbl := mem_pos [271, 272, 273, 274, 275, 276, 277, 278, 287, 291, 304, 321, 331, 336, 344, 348, 352, 769, 770, 771, 772, 773, 774] (by decide +kernel)
theorem wsX00_tbl : ∀ w ∈ wsX00, w ∈ lw_tbl := mem_pos [83, 85, 87, 89, 91, 93, 95, 97, 99] (by decide +kernel)
theorem wsX10_tbl : ∀ w ∈ wsX10, w ∈ lw_tbl := mem_pos [105, 107] (by decide +kernel)
theorem wsX20_tbl : ∀ w ∈ wsX20, w ∈ lw_tbl := mem_pos [535, 537, 539, 541, 543, 545, 547, 549, 551, 553] (by decide +kernel)
theorem wsL_law_in0 : ∀ w ∈ wsL_law0, w ∈ lw_tbl := fun w h => (List.mem_append.mp h).elim (fun h => (List.mem_append.mp h).elim (fun h => (List.mem_append.mp h).elim (fun h => (List.mem_append.mp h).elim (fun h => (List.mem_append.mp h).elim (fun h => wsL_law_in0_r1 w h) (fun h => (List.mem_append.mp h).elim (fun h => wsL_law_in0_r2 w h) (fun h => (List.mem_append.mp h).elim (fun h => wsL_law_in0_r3 w h) (fun h => (List.mem_append.mp h).elim (fun h => wsL_law_in0_r4 w h) (fun h => (List.mem_append.mp h).elim (fun h => wsL_law_in0_r5 w h) (fun h => (List.mem_append.mp h).elim (fun h => wsL_law_in0_r6 w h) (fun h => (List.mem_append.mp h).elim (fun h => wsL_law_in0_r7 w h) (fun h => (List.mem_append.mp h).elim (fun h => wsL_law_in0_r8 w h) (fun h => (List.mem_append.mp h).elim (fun h => wsL_law_in0_r9 w h) (fun h => (List.mem_append.mp h).elim (fun h => wsL_law_in0_r10 w h) (fun h => (List.mem_append.mp h).elim (fun h => wsL_law_in0_r11 w h) (fun h => (List.mem_append.mp h).elim (fun h => wsL_law_in0_r12 w h) (fun h => (List.mem_append.mp h).elim (fun h => wsL_law_in0_r13 w h) (fun h => (List.mem_append.mp h).elim (fun h => wsL_law_in0_r14 w h) (fun h => (List.mem_append.mp h).elim (fun h => wsL_law_in0_r15 w h) (fun h => (List.mem_append.mp h).elim (fun h => wsL_law_in0_r16 w h) (fun h => (List.mem_append.mp h).elim (fun h => wsL_law_in0_r17 w h) (fun h => (List.mem_append.mp h).elim (fun h => wsL_law_in0_r18 w h) (fun h => (List.mem_append.mp h).elim (fun h => wsL_law_in0_r19 w h) (fun h => (List.mem_append.mp h).elim (fun h => wsL_law_in0_r20 w h) (fun h => (List.mem_append.mp h).elim (fun h => wsL_law_in0_r21 w h) (fun h => (List.mem_append.mp h).elim (fun h => wsL_law_in0_r22 w h) (fun h => (List.mem_append.mp h).elim (fun h => wsL_law_in0_r23 w h) (fun h => (List.mem_append.mp h).elim (fun h => wsL_law_in0_r24 w h) (fun h => wsL_law_in0_r25 w h))))))))))))))))))))))))) (fun h => wsX10_tbl w h)) (fun h => wsX20_tbl w h)) (fun h => wsX00_tbl w h)) (fun h => absurd h List.not_mem_nil)
theorem wsL_law_x0 : ∀ w ∈ (vx_atS RX1 203 "java/lang/IllegalArgumentException" ["java/lang/RuntimeException", "java/lang/Exception"]).filter goodWord, w ∈ lw_tbl := by decide +kernel
theorem wsL_law_x1 : ∀ w ∈ (vx_atS RX1 191 "java/lang/IndexOutOfBoundsException" ["java/lang/RuntimeException", "java/lang/Exception"]).filter goodWord, w ∈ lw_tbl := by decide +kernel
theorem wsL_law_x2 : ∀ w ∈ (vx_atS RX1 46 "java/lang/IllegalStateException" ["java/lang/RuntimeException", "java/lang/Exception"]).filter goodWord, w ∈ lw_tbl := by decide +kernel
theorem wsL_law_in : ∀ w ∈ wsL_law, w ∈ lw_tbl := fun w h => (List.mem_append.mp h).elim (fun h => (List.mem_append.mp h).elim (fun h => (List.mem_append.mp h).elim (fun h => wsL_law_in0 w h) (fun h => wsL_law_x0 w h)) (fun h => wsL_law_x1 w h)) (fun h => wsL_law_x2 w h)
theorem inlX0 : ∀ w ∈ wsX00, w ∈ wsL_law := fun _ h => List.mem_append_left _ (List.mem_append_left _ (List.mem_append_left _ (List.mem_append_left _ (List.mem_append_right _ h))))
theorem inX0 : ∀ w ∈ wsX00, w ∈ lw_tbl := fun w h => wsL_law_in w (inlX0 w h)
theorem inlX1 : ∀ w ∈ wsX10, w ∈ wsL_law := fun _ h => List.mem_append_left _ (List.mem_append_left _ (List.mem_append_left _ (List.mem_append_left _ (List.mem_append_left _ (List.mem_append_left _ (List.mem_append_right _ h))))))
theorem inX1 : ∀ w ∈ wsX10, w ∈ lw_tbl := fun w h => wsL_law_in w (inlX1 w h)
theorem inlX2 : ∀ w ∈ wsX20, w ∈ wsL_law := fun _ h => List.mem_append_left _ (List.mem_append_left _ (List.mem_append_left _ (List.mem_append_left _ (List.mem_append_left _ (List.mem_append_right _ h)))))
theorem inX2 : ∀ w ∈ wsX20, w ∈ lw_tbl := fun w h => wsL_law_in w (inlX2 w h)
theorem inJx145de : ∀ w ∈ wsJx145de0, w ∈ lw_tbl := by decide +kernel
theorem inJ6 : ∀ w ∈ wsJ60, w ∈ lw_tbl := by decide +kernel
theorem inJ0 : ∀ w ∈ wsJ00, w ∈ lw_tbl := by decide +kernel
theorem inJ10 : ∀ w ∈ wsJ100, w ∈ lw_tbl := by decide +kernel
theorem inJ7 : ∀ w ∈ wsJ70, w ∈ lw_tbl := by decide +kernel
end
section
theorem dJ6_signum_0f7a4_0 : decode cJ6_signum_0f7a4 0 = .ok (.iload_n 0, 1) := by decide +kernel
theorem dJ6_signum_0f7a4_1 : decode cJ6_signum_0f7a4 1 = .ok (.bipush 31, 2) := by decide +kernel
theorem dJ6_signum_0f7a4_3 : decode cJ6_signum_0f7a4 3 = .ok (.ishr, 1) := by decide +kernel
theorem dJ6_signum_0f7a4_4 : decode cJ6_signum_0f7a4 4 = .ok (.iload_n 0, 1) := by decide +kernel
theorem dJ6_signum_0f7a4_5 : decode cJ6_signum_0f7a4 5 = .ok (.ineg, 1) := by decide +kernel
theorem dJ6_signum_0f7a4_6 : decode cJ6_signum_0f7a4 6 = .ok (.bipush 31, 2) := by decide +kernel
theorem dJ6_signum_0f7a4_8 : decode cJ6_signum_0f7a4 8 = .ok (.iushr, 1) := by decide +kernel
theorem dJ6_signum_0f7a4_9 : decode cJ6_signum_0f7a4 9 = .ok (.ior, 1) := by decide +kernel
theorem dJ6_signum_0f7a4_10 : decode cJ6_signum_0f7a4 10 = .ok (.ireturn, 1) := by decide +kernel
theorem dJ7_fill_53178_0 : decode cJ7_fill_53178 0 = .ok (.iconst 0, 1) := by decide +kernel
theorem dJ7_fill_53178_1 : decode cJ7_fill_53178 1 = .ok (.istore_n 2, 1) := by decide +kernel
theorem dJ7_fill_53178_2 : decode cJ7_fill_53178 2 = .ok (.aload_n 0, 1) := by decide +kernel
theorem dJ7_fill_53178_3 : decode cJ7_fill_53178 3 = .ok (.arraylength, 1) := by decide +kernel
theorem dJ7_fill_53178_4 : decode cJ7_fill_53178 4 = .ok (.istore_n 3, 1) := by decide +kernel
theorem dJ7_fill_53178_5 : decode cJ7_fill_53178 5 = .ok (.iload_n 2, 1) := by decide +kernel
theorem dJ7_fill_53178_6 : decode cJ7_fill_53178 6 = .ok (.iload_n 3, 1) := by decide +kernel
theorem dJ7_fill_53178_7 : decode cJ7_fill_53178 7 = .ok (.if_icmp .ge 13, 3) := by decide +kernel
theorem dJ7_fill_53178_10 : decode cJ7_fill_53178 10 = .ok (.aload_n 0, 1) := by decide +kernel
theorem dJ7_fill_53178_11 : decode cJ7_fill_53178 11 = .ok (.iload_n 2, 1) := by decide +kernel
theorem dJ7_fill_53178_12 : decode cJ7_fill_53178 12 = .ok (.iload_n 1, 1) := by decide +kernel
theorem dJ7_fill_53178_13 : decode cJ7_fill_53178 13 = .ok (.iastore, 1) := by decide +kernel
theorem dJ7_fill_53178_14 : decode cJ7_fill_53178 14 = .ok (.iinc 2 1, 3) := by decide +kernel
theorem dJ7_fill_53178_17 : decode cJ7_fill_53178 17 = .ok (.goto (-12), 3) := by decide +kernel
theorem dJ7_fill_53178_20 : decode cJ7_fill_53178 20 = .ok (.return_, 1) := by decide +kernel
set_option maxRecDepth 20000 in
theorem ggX0_init_X0_layBoard : GoodIn wsX0_init wsX0_layBoard := goodIn_r _ [15, 16, 17, 18, 5, 6, 7, 9, 19, 20, 21, 22, 23, 24, 25, 14, 26, 8, 27, 28, 29, 30, 31, 32, 33, 34, 35, 36, 37, 38] (by decide +kernel) (by decide +kernel)
set_option maxRecDepth 20000 in
theorem gX0_init_X0_layBoard : GoodIn wsX0_init (wsV RX0 30 RX0 yX0_layBoard wsX0_layBoard) := goodIn_app (goodIn_of _ (by decide +kernel)) ggX0_init_X0_layBoard
theorem dX0_init_0 : decode cX0_init 0 = .ok (.aload_n 0, 1) := by decide +kernel
theorem dX0_init_1 : decode cX0_init 1 = .ok (.invokespecial 3, 3) := by decide +kernel
theorem dX0_init_4 : decode cX0_init 4 = .ok (.aload_n 0, 1) := by decide +kernel
theorem dX0_init_5 : decode cX0_init 5 = .ok (.bipush 72, 2) := by decide +kernel
theorem dX0_init_7 : decode cX0_init 7 = .ok (.newarray .int, 2) := by decide +kernel
theorem dX0_init_9 : decode cX0_init 9 = .ok (.putfield 9, 3) := by decide +kernel
theorem dX0_init_12 : decode cX0_init 12 = .ok (.aload_n 0, 1) := by decide +kernel
theorem dX0_init_13 : decode cX0_init 13 = .ok (.bipush 72, 2) := by decide +kernel
theorem dX0_init_15 : decode cX0_init 15 = .ok (.newarray .int, 2) := by decide +kernel
theorem dX0_init_17 : decode cX0_init 17 = .ok (.putfield 15, 3) := by decide +kernel
theorem dX0_init_20 : decode cX0_init 20 = .ok (.aload_n 0, 1) := by decide +kernel
theorem dX0_init_21 : decode cX0_init 21 = .ok (.bipush 72, 2) := by decide +kernel
theorem dX0_init_23 : decode cX0_init 23 = .ok (.newarray .int, 2) := by decide +kernel
theorem dX0_init_25 : decode cX0_init 25 = .ok (.putfield 18, 3) := by decide +kernel
theorem dX0_init_28 : decode cX0_init 28 = .ok (.aload_n 0, 1) := by decide +kernel
theorem dX0_init_29 : decode cX0_init 29 = .ok (.bipush 9, 2) := by decide +kernel
theorem dX0_init_31 : decode cX0_init 31 = .ok (.newarray .int, 2) := by decide +kernel
theorem dX0_init_33 : decode cX0_init 33 = .ok (.putfield 21, 3) := by decide +kernel
theorem dX0_init_36 : decode cX0_init 36 = .ok (.aload_n 0, 1) := by decide +kernel
theorem dX0_init_37 : decode cX0_init 37 = .ok (.iconst 2, 1) := by decide +kernel
theorem dX0_init_38 : decode cX0_init 38 = .ok (.newarray .int, 2) := by decide +kernel
theorem dX0_init_40 : decode cX0_init 40 = .ok (.putfield 24, 3) := by decide +kernel
theorem dX0_init_43 : decode cX0_init 43 = .ok (.aload_n 0, 1) := by decide +kernel
theorem dX0_init_44 : decode cX0_init 44 = .ok (.iconst 2, 1) := by decide +kernel
theorem dX0_init_45 : decode cX0_init 45 = .ok (.newarray .int, 2) := by decide +kernel
theorem dX0_init_47 : decode cX0_init 47 = .ok (.putfield 27, 3) := by decide +kernel
theorem dX0_init_50 : decode cX0_init 50 = .ok (.aload_n 0, 1) := by decide +kernel
theorem dX0_init_51 : decode cX0_init 51 = .ok (.iconst 5, 1) := by decide +kernel
theorem dX0_init_52 : decode cX0_init 52 = .ok (.iconst 4, 1) := by decide +kernel
theorem dX0_init_53 : decode cX0_init 53 = .ok (.invokevirtual 30, 3) := by decide +kernel
theorem dX0_init_56 : decode cX0_init 56 = .ok (.return_, 1) := by decide +kernel
set_option maxRecDepth 20000 in
theorem ggX0_layBoard_J7_fill_53178 : GoodIn wsX0_layBoard wsJ7_fill_53178 := goodIn_r _ [11] (by decide +kernel) (by decide +kernel)
set_option maxRecDepth 20000 in
theorem gX0_layBoard_J7_fill_53178 : GoodIn wsX0_layBoard (va_wsS RX0 44 yJ7_fill_53178 wsJ7_fill_53178) := goodIn_app (goodIn_of _ (by decide +kernel)) ggX0_layBoard_J7_fill_53178
set_option maxRecDepth 20000 in
theorem ggX0_layBoard_X0_clearBins : GoodIn wsX0_layBoard wsX0_clearBins := goodIn_r _ [16, 17, 8, 9, 10, 11, 21, 22, 23, 24, 25, 26, 27, 28, 29] (by decide +kernel) (by decide +kernel)
set_option maxRecDepth 20000 in
theorem gX0_layBoard_X0_clearBins : GoodIn wsX0_layBoard (wsV RX0 50 RX0 yX0_clearBins wsX0_clearBins) := goodIn_app (goodIn_of _ (by decide +kernel)) ggX0_layBoard_X0_clearBins
set_option maxRecDepth 20000 in
theorem ggX0_layBoard_X1_setCell : GoodIn wsX0_layBoard wsX1_setCell := goodIn_r _ [20] (by decide +kernel) (by decide +kernel)
set_option maxRecDepth 20000 in
theorem gX0_layBoard_X1_setCell_n53 : GoodIn wsX0_layBoard (wsX1_setCell) := ggX0_layBoard_X1_setCell
theorem dX0_layBoard_0 : decode cX0_layBoard 0 = .ok (.aload_n 0, 1) := by decide +kernel
theorem dX0_layBoard_1 : decode cX0_layBoard 1 = .ok (.iload_n 1, 1) := by decide +kernel
theorem dX0_layBoard_2 : decode cX0_layBoard 2 = .ok (.putfield 34, 3) := by decide +kernel
theorem dX0_layBoard_5 : decode cX0_layBoard 5 = .ok (.aload_n 0, 1) := by decide +kernel
theorem dX0_layBoard_6 : decode cX0_layBoard 6 = .ok (.iload_n 2, 1) := by decide +kernel
theorem dX0_layBoard_7 : decode cX0_layBoard 7 = .ok (.putfield 38, 3) := by decide +kernel
theorem dX0_layBoard_10 : decode cX0_layBoard 10 = .ok (.aload_n 0, 1) := by decide +kernel
theorem dX0_layBoard_11 : decode cX0_layBoard 11 = .ok (.iconst 0, 1) := by decide +kernel
theorem dX0_layBoard_12 : decode cX0_layBoard 12 = .ok (.putfield 41, 3) := by decide +kernel
theorem dX0_layBoard_15 : decode cX0_layBoard 15 = .ok (.aload_n 0, 1) := by decide +kernel
theorem dX0_layBoard_16 : decode cX0_layBoard 16 = .ok (.getfield 9, 3) := by decide +kernel
theorem dX0_layBoard_19 : decode cX0_layBoard 19 = .ok (.iconst 0, 1) := by decide +kernel
theorem dX0_layBoard_20 : decode cX0_layBoard 20 = .ok (.invokestatic 44, 3) := by decide +kernel
theorem dX0_layBoard_23 : decode cX0_layBoard 23 = .ok (.aload_n 0, 1) := by decide +kernel
theorem dX0_layBoard_24 : decode cX0_layBoard 24 = .ok (.getfield 15, 3) := by decide +kernel
theorem dX0_layBoard_27 : decode cX0_layBoard 27 = .ok (.iconst 0, 1) := by decide +kernel
theorem dX0_layBoard_28 : decode cX0_layBoard 28 = .ok (.invokestatic 44, 3) := by decide +kernel
theorem dX0_layBoard_31 : decode cX0_layBoard 31 = .ok (.aload_n 0, 1) := by decide +kernel
theorem dX0_layBoard_32 : decode cX0_layBoard 32 = .ok (.getfield 18, 3) := by decide +kernel
theorem dX0_layBoard_35 : decode cX0_layBoard 35 = .ok (.iconst 0, 1) := by decide +kernel
theorem dX0_layBoard_36 : decode cX0_layBoard 36 = .ok (.invokestatic 44, 3) := by decide +kernel
theorem dX0_layBoard_39 : decode cX0_layBoard 39 = .ok (.aload_n 0, 1) := by decide +kernel
theorem dX0_layBoard_40 : decode cX0_layBoard 40 = .ok (.invokevirtual 50, 3) := by decide +kernel
theorem dX0_layBoard_43 : decode cX0_layBoard 43 = .ok (.aload_n 0, 1) := by decide +kernel
theorem dX0_layBoard_44 : decode cX0_layBoard 44 = .ok (.getfield 24, 3) := by decide +kernel
theorem dX0_layBoard_47 : decode cX0_layBoard 47 = .ok (.iconst 0, 1) := by decide +kernel
theorem dX0_layBoard_48 : decode cX0_layBoard 48 = .ok (.iconst 0, 1) := by decide +kernel
theorem dX0_layBoard_49 : decode cX0_layBoard 49 = .ok (.invokestatic 53, 3) := by decide +kernel
theorem dX0_layBoard_52 : decode cX0_layBoard 52 = .ok (.aload_n 0, 1) := by decide +kernel
theorem dX0_layBoard_53 : decode cX0_layBoard 53 = .ok (.getfield 24, 3) := by decide +kernel
theorem dX0_layBoard_56 : decode cX0_layBoard 56 = .ok (.iconst 1, 1) := by decide +kernel
theorem dX0_layBoard_57 : decode cX0_layBoard 57 = .ok (.iload_n 1, 1) := by decide +kernel
theorem dX0_layBoard_58 : decode cX0_layBoard 58 = .ok (.iconst 1, 1) := by decide +kernel
theorem dX0_layBoard_59 : decode cX0_layBoard 59 = .ok (.isub, 1) := by decide +kernel
theorem dX0_layBoard_60 : decode cX0_layBoard 60 = .ok (.invokestatic 53, 3) := by decide +kernel
theorem dX0_layBoard_63 : decode cX0_layBoard 63 = .ok (.return_, 1) := by decide +kernel
set_option maxRecDepth 20000 in
theorem ggX0_becomeLike_X1_copyCells : GoodIn wsX0_becomeLike wsX1_copyCells := goodIn_r _ [12, 13, 14, 11, 15] (by decide +kernel) (by decide +kernel)
set_option maxRecDepth 20000 in
theorem gX0_becomeLike_X1_copyCells_n57 : GoodIn wsX0_becomeLike (wsX1_copyCells) := ggX0_becomeLike_X1_copyCells
theorem dX0_becomeLike_0 : decode cX0_becomeLike 0 = .ok (.aload_n 0, 1) := by decide +kernel
theorem dX0_becomeLike_1 : decode cX0_becomeLike 1 = .ok (.aload_n 1, 1) := by decide +kernel
theorem dX0_becomeLike_2 : decode cX0_becomeLike 2 = .ok (.getfield 34, 3) := by decide +kernel
theorem dX0_becomeLike_5 : decode cX0_becomeLike 5 = .ok (.putfield 34, 3) := by decide +kernel
theorem dX0_becomeLike_8 : decode cX0_becomeLike 8 = .ok (.aload_n 0, 1) := by decide +kernel
theorem dX0_becomeLike_9 : decode cX0_becomeLike 9 = .ok (.aload_n 1, 1) := by decide +kernel
theorem dX0_becomeLike_10 : decode cX0_becomeLike 10 = .ok (.getfield 38, 3) := by decide +kernel
theorem dX0_becomeLike_13 : decode cX0_becomeLike 13 = .ok (.putfield 38, 3) := by decide +kernel
theorem dX0_becomeLike_16 : decode cX0_becomeLike 16 = .ok (.aload_n 0, 1) := by decide +kernel
theorem dX0_becomeLike_17 : decode cX0_becomeLike 17 = .ok (.aload_n 1, 1) := by decide +kernel
theorem dX0_becomeLike_18 : decode cX0_becomeLike 18 = .ok (.getfield 41, 3) := by decide +kernel
theorem dX0_becomeLike_21 : decode cX0_becomeLike 21 = .ok (.putfield 41, 3) := by decide +kernel
theorem dX0_becomeLike_24 : decode cX0_becomeLike 24 = .ok (.aload_n 1, 1) := by decide +kernel
theorem dX0_becomeLike_25 : decode cX0_becomeLike 25 = .ok (.getfield 9, 3) := by decide +kernel
theorem dX0_becomeLike_28 : decode cX0_becomeLike 28 = .ok (.aload_n 0, 1) := by decide +kernel
theorem dX0_becomeLike_29 : decode cX0_becomeLike 29 = .ok (.getfield 9, 3) := by decide +kernel
theorem dX0_becomeLike_32 : decode cX0_becomeLike 32 = .ok (.invokestatic 57, 3) := by decide +kernel
theorem dX0_becomeLike_35 : decode cX0_becomeLike 35 = .ok (.aload_n 1, 1) := by decide +kernel
theorem dX0_becomeLike_36 : decode cX0_becomeLike 36 = .ok (.getfield 15, 3) := by decide +kernel
theorem dX0_becomeLike_39 : decode cX0_becomeLike 39 = .ok (.aload_n 0, 1) := by decide +kernel
theorem dX0_becomeLike_40 : decode cX0_becomeLike 40 = .ok (.getfield 15, 3) := by decide +kernel
theorem dX0_becomeLike_43 : decode cX0_becomeLike 43 = .ok (.invokestatic 57, 3) := by decide +kernel
theorem dX0_becomeLike_46 : decode cX0_becomeLike 46 = .ok (.aload_n 1, 1) := by decide +kernel
theorem dX0_becomeLike_47 : decode cX0_becomeLike 47 = .ok (.getfield 18, 3) := by decide +kernel
theorem dX0_becomeLike_50 : decode cX0_becomeLike 50 = .ok (.aload_n 0, 1) := by decide +kernel
theorem dX0_becomeLike_51 : decode cX0_becomeLike 51 = .ok (.getfield 18, 3) := by decide +kernel
theorem dX0_becomeLike_54 : decode cX0_becomeLike 54 = .ok (.invokestatic 57, 3) := by decide +kernel
theorem dX0_becomeLike_57 : decode cX0_becomeLike 57 = .ok (.aload_n 1, 1) := by decide +kernel
theorem dX0_becomeLike_58 : decode cX0_becomeLike 58 = .ok (.getfield 21, 3) := by decide +kernel
theorem dX0_becomeLike_61 : decode cX0_becomeLike 61 = .ok (.aload_n 0, 1) := by decide +kernel
theorem dX0_becomeLike_62 : decode cX0_becomeLike 62 = .ok (.getfield 21, 3) := by decide +kernel
theorem dX0_becomeLike_65 : decode cX0_becomeLike 65 = .ok (.invokestatic 57, 3) := by decide +kernel
theorem dX0_becomeLike_68 : decode cX0_becomeLike 68 = .ok (.aload_n 1, 1) := by decide +kernel
theorem dX0_becomeLike_69 : decode cX0_becomeLike 69 = .ok (.getfield 24, 3) := by decide +kernel
theorem dX0_becomeLike_72 : decode cX0_becomeLike 72 = .ok (.aload_n 0, 1) := by decide +kernel
theorem dX0_becomeLike_73 : decode cX0_becomeLike 73 = .ok (.getfield 24, 3) := by decide +kernel
theorem dX0_becomeLike_76 : decode cX0_becomeLike 76 = .ok (.invokestatic 57, 3) := by decide +kernel
theorem dX0_becomeLike_79 : decode cX0_becomeLike 79 = .ok (.aload_n 1, 1) := by decide +kernel
theorem dX0_becomeLike_80 : decode cX0_becomeLike 80 = .ok (.getfield 27, 3) := by decide +kernel
theorem dX0_becomeLike_83 : decode cX0_becomeLike 83 = .ok (.aload_n 0, 1) := by decide +kernel
theorem dX0_becomeLike_84 : decode cX0_becomeLike 84 = .ok (.getfield 27, 3) := by decide +kernel
theorem dX0_becomeLike_87 : decode cX0_becomeLike 87 = .ok (.invokestatic 57, 3) := by decide +kernel
theorem dX0_becomeLike_90 : decode cX0_becomeLike 90 = .ok (.return_, 1) := by decide +kernel
theorem dX0_hasRow_0 : decode cX0_hasRow 0 = .ok (.iload_n 1, 1) := by decide +kernel
theorem dX0_hasRow_1 : decode cX0_hasRow 1 = .ok (.ifCond .lt 15, 3) := by decide +kernel
theorem dX0_hasRow_4 : decode cX0_hasRow 4 = .ok (.iload_n 1, 1) := by decide +kernel
theorem dX0_hasRow_5 : decode cX0_hasRow 5 = .ok (.aload_n 0, 1) := by decide +kernel
theorem dX0_hasRow_6 : decode cX0_hasRow 6 = .ok (.getfield 38, 3) := by decide +kernel
theorem dX0_hasRow_9 : decode cX0_hasRow 9 = .ok (.if_icmp .ge 7, 3) := by decide +kernel
theorem dX0_hasRow_12 : decode cX0_hasRow 12 = .ok (.iconst 1, 1) := by decide +kernel
theorem dX0_hasRow_13 : decode cX0_hasRow 13 = .ok (.goto 4, 3) := by decide +kernel
theorem dX0_hasRow_16 : decode cX0_hasRow 16 = .ok (.iconst 0, 1) := by decide +kernel
theorem dX0_hasRow_17 : decode cX0_hasRow 17 = .ok (.ireturn, 1) := by decide +kernel
theorem dX0_hasColumn_0 : decode cX0_hasColumn 0 = .ok (.iload_n 1, 1) := by decide +kernel
theorem dX0_hasColumn_1 : decode cX0_hasColumn 1 = .ok (.ifCond .lt 15, 3) := by decide +kernel
theorem dX0_hasColumn_4 : decode cX0_hasColumn 4 = .ok (.iload_n 1, 1) := by decide +kernel
theorem dX0_hasColumn_5 : decode cX0_hasColumn 5 = .ok (.aload_n 0, 1) := by decide +kernel
theorem dX0_hasColumn_6 : decode cX0_hasColumn 6 = .ok (.getfield 34, 3) := by decide +kernel
theorem dX0_hasColumn_9 : decode cX0_hasColumn 9 = .ok (.if_icmp .ge 7, 3) := by decide +kernel
theorem dX0_hasColumn_12 : decode cX0_hasColumn 12 = .ok (.iconst 1, 1) := by decide +kernel
theorem dX0_hasColumn_13 : decode cX0_hasColumn 13 = .ok (.goto 4, 3) := by decide +kernel
theorem dX0_hasColumn_16 : decode cX0_hasColumn 16 = .ok (.iconst 0, 1) := by decide +kernel
theorem dX0_hasColumn_17 : decode cX0_hasColumn 17 = .ok (.ireturn, 1) := by decide +kernel
theorem dX0_placeOf_0 : decode cX0_placeOf 0 = .ok (.iload_n 1, 1) := by decide +kernel
theorem dX0_placeOf_1 : decode cX0_placeOf 1 = .ok (.aload_n 0, 1) := by decide +kernel
theorem dX0_placeOf_2 : decode cX0_placeOf 2 = .ok (.getfield 34, 3) := by decide +kernel
theorem dX0_placeOf_5 : decode cX0_placeOf 5 = .ok (.imul, 1) := by decide +kernel
theorem dX0_placeOf_6 : decode cX0_placeOf 6 = .ok (.iload_n 2, 1) := by decide +kernel
theorem dX0_placeOf_7 : decode cX0_placeOf 7 = .ok (.iadd, 1) := by decide +kernel
theorem dX0_placeOf_8 : decode cX0_placeOf 8 = .ok (.ireturn, 1) := by decide +kernel
set_option maxRecDepth 20000 in
theorem ggX0_partIn_X1_cell : GoodIn wsX0_partIn wsX1_cell := goodIn_r _ [4] (by decide +kernel) (by decide +kernel)
set_option maxRecDepth 20000 in
theorem gX0_partIn_X1_cell_n61 : GoodIn wsX0_partIn (wsX1_cell) := ggX0_partIn_X1_cell
theorem dX0_partIn_0 : decode cX0_partIn 0 = .ok (.aload_n 0, 1) := by decide +kernel
theorem dX0_partIn_1 : decode cX0_partIn 1 = .ok (.getfield 9, 3) := by decide +kernel
theorem dX0_partIn_4 : decode cX0_partIn 4 = .ok (.iload_n 1, 1) := by decide +kernel
theorem dX0_partIn_5 : decode cX0_partIn 5 = .ok (.invokestatic 61, 3) := by decide +kernel
theorem dX0_partIn_8 : decode cX0_partIn 8 = .ok (.ireturn, 1) := by decide +kernel
set_option maxRecDepth 20000 in
theorem ggX0_isRightToggle_X0_partIn : GoodIn wsX0_isRightToggle wsX0_partIn := goodIn_r _ [6, 7, 8, 9, 10, 11, 12, 13, 14, 15, 16, 17, 18, 19] (by decide +kernel) (by decide +kernel)
set_option maxRecDepth 20000 in
theorem gX0_isRightToggle_X0_partIn : GoodIn wsX0_isRightToggle (wsV RX0 65 RX0 yX0_partIn wsX0_partIn) := goodIn_app (goodIn_of _ (by decide +kernel)) ggX0_isRightToggle_X0_partIn
set_option maxRecDepth 20000 in
theorem ggX0_isRightToggle_X1_cell : GoodIn wsX0_isRightToggle wsX1_cell := goodIn_r _ [10] (by decide +kernel) (by decide +kernel)
set_option maxRecDepth 20000 in
theorem gX0_isRightToggle_X1_cell_n61 : GoodIn wsX0_isRightToggle (wsX1_cell) := ggX0_isRightToggle_X1_cell
theorem dX0_isRightToggle_0 : decode cX0_isRightToggle 0 = .ok (.aload_n 0, 1) := by decide +kernel
theorem dX0_isRightToggle_1 : decode cX0_isRightToggle 1 = .ok (.iload_n 1, 1) := by decide +kernel
theorem dX0_isRightToggle_2 : decode cX0_isRightToggle 2 = .ok (.invokevirtual 65, 3) := by decide +kernel
theorem dX0_isRightToggle_5 : decode cX0_isRightToggle 5 = .ok (.iconst 3, 1) := by decide +kernel
theorem dX0_isRightToggle_6 : decode cX0_isRightToggle 6 = .ok (.if_icmp .ne 19, 3) := by decide +kernel
theorem dX0_isRightToggle_9 : decode cX0_isRightToggle 9 = .ok (.aload_n 0, 1) := by decide +kernel
theorem dX0_isRightToggle_10 : decode cX0_isRightToggle 10 = .ok (.getfield 18, 3) := by decide +kernel
theorem dX0_isRightToggle_13 : decode cX0_isRightToggle 13 = .ok (.iload_n 1, 1) := by decide +kernel
theorem dX0_isRightToggle_14 : decode cX0_isRightToggle 14 = .ok (.invokestatic 61, 3) := by decide +kernel
theorem dX0_isRightToggle_17 : decode cX0_isRightToggle 17 = .ok (.iconst 1, 1) := by decide +kernel
theorem dX0_isRightToggle_18 : decode cX0_isRightToggle 18 = .ok (.if_icmp .ne 7, 3) := by decide +kernel
theorem dX0_isRightToggle_21 : decode cX0_isRightToggle 21 = .ok (.iconst 1, 1) := by decide +kernel
theorem dX0_isRightToggle_22 : decode cX0_isRightToggle 22 = .ok (.goto 4, 3) := by decide +kernel
theorem dX0_isRightToggle_25 : decode cX0_isRightToggle 25 = .ok (.iconst 0, 1) := by decide +kernel
theorem dX0_isRightToggle_26 : decode cX0_isRightToggle 26 = .ok (.ireturn, 1) := by decide +kernel
set_option maxRecDepth 20000 in
theorem ggX0_countedIn_X0_partIn : GoodIn wsX0_countedIn wsX0_partIn := goodIn_r _ [6, 7, 8, 9, 10, 11, 12, 13, 14, 15, 16, 17, 18, 19] (by decide +kernel) (by decide +kernel)
set_option maxRecDepth 20000 in
theorem gX0_countedIn_X0_partIn : GoodIn wsX0_countedIn (wsV RX0 65 RX0 yX0_partIn wsX0_partIn) := goodIn_app (goodIn_of _ (by decide +kernel)) ggX0_countedIn_X0_partIn
set_option maxRecDepth 20000 in
theorem ggX0_countedIn_X1_cell : GoodIn wsX0_countedIn wsX1_cell := goodIn_r _ [10] (by decide +kernel) (by decide +kernel)
set_option maxRecDepth 20000 in
theorem gX0_countedIn_X1_cell_n61 : GoodIn wsX0_countedIn (wsX1_cell) := ggX0_countedIn_X1_cell
theorem dX0_countedIn_0 : decode cX0_countedIn 0 = .ok (.aload_n 0, 1) := by decide +kernel
theorem dX0_countedIn_1 : decode cX0_countedIn 1 = .ok (.iload_n 1, 1) := by decide +kernel
theorem dX0_countedIn_2 : decode cX0_countedIn 2 = .ok (.invokevirtual 65, 3) := by decide +kernel
theorem dX0_countedIn_5 : decode cX0_countedIn 5 = .ok (.iconst 5, 1) := by decide +kernel
theorem dX0_countedIn_6 : decode cX0_countedIn 6 = .ok (.if_icmp .ne 14, 3) := by decide +kernel
theorem dX0_countedIn_9 : decode cX0_countedIn 9 = .ok (.aload_n 0, 1) := by decide +kernel
theorem dX0_countedIn_10 : decode cX0_countedIn 10 = .ok (.getfield 18, 3) := by decide +kernel
theorem dX0_countedIn_13 : decode cX0_countedIn 13 = .ok (.iload_n 1, 1) := by decide +kernel
theorem dX0_countedIn_14 : decode cX0_countedIn 14 = .ok (.invokestatic 61, 3) := by decide +kernel
theorem dX0_countedIn_17 : decode cX0_countedIn 17 = .ok (.goto 4, 3) := by decide +kernel
theorem dX0_countedIn_20 : decode cX0_countedIn 20 = .ok (.iconst 0, 1) := by decide +kernel
theorem dX0_countedIn_21 : decode cX0_countedIn 21 = .ok (.ireturn, 1) := by decide +kernel
set_option maxRecDepth 20000 in
theorem ggX0_replacePart_X0_placeOf : GoodIn wsX0_replacePart wsX0_placeOf := goodIn_r _ [8, 9, 19, 20, 21, 22, 23, 24, 25, 26, 27] (by decide +kernel) (by decide +kernel)
set_option maxRecDepth 20000 in
theorem gX0_replacePart_X0_placeOf : GoodIn wsX0_replacePart (wsV RX0 69 RX0 yX0_placeOf wsX0_placeOf) := goodIn_app (goodIn_of _ (by decide +kernel)) ggX0_replacePart_X0_placeOf
set_option maxRecDepth 20000 in
theorem ggX0_replacePart_X0_partIn : GoodIn wsX0_replacePart wsX0_partIn := goodIn_r _ [13, 1, 14, 15, 16, 19, 20, 21, 22, 23, 24, 25, 26, 27] (by decide +kernel) (by decide +kernel)
set_option maxRecDepth 20000 in
theorem gX0_replacePart_X0_partIn : GoodIn wsX0_replacePart (wsV RX0 65 RX0 yX0_partIn wsX0_partIn) := goodIn_app (goodIn_of _ (by decide +kernel)) ggX0_replacePart_X0_partIn
set_option maxRecDepth 20000 in
theorem ggX0_replacePart_X1_setCell : GoodIn wsX0_replacePart wsX1_setCell := goodIn_r _ [18] (by decide +kernel) (by decide +kernel)
set_option maxRecDepth 20000 in
theorem gX0_replacePart_X1_setCell_n53 : GoodIn wsX0_replacePart (wsX1_setCell) := ggX0_replacePart_X1_setCell
theorem dX0_replacePart_0 : decode cX0_replacePart 0 = .ok (.aload_n 0, 1) := by decide +kernel
theorem dX0_replacePart_1 : decode cX0_replacePart 1 = .ok (.iload_n 1, 1) := by decide +kernel
theorem dX0_replacePart_2 : decode cX0_replacePart 2 = .ok (.iload_n 2, 1) := by decide +kernel
theorem dX0_replacePart_3 : decode cX0_replacePart 3 = .ok (.invokevirtual 69, 3) := by decide +kernel
theorem dX0_replacePart_6 : decode cX0_replacePart 6 = .ok (.istore 5, 2) := by decide +kernel
theorem dX0_replacePart_8 : decode cX0_replacePart 8 = .ok (.aload_n 0, 1) := by decide +kernel
theorem dX0_replacePart_9 : decode cX0_replacePart 9 = .ok (.iload 5, 2) := by decide +kernel
theorem dX0_replacePart_11 : decode cX0_replacePart 11 = .ok (.invokevirtual 65, 3) := by decide +kernel
theorem dX0_replacePart_14 : decode cX0_replacePart 14 = .ok (.istore 6, 2) := by decide +kernel
theorem dX0_replacePart_16 : decode cX0_replacePart 16 = .ok (.aload_n 0, 1) := by decide +kernel
theorem dX0_replacePart_17 : decode cX0_replacePart 17 = .ok (.getfield 9, 3) := by decide +kernel
theorem dX0_replacePart_20 : decode cX0_replacePart 20 = .ok (.iload 5, 2) := by decide +kernel
theorem dX0_replacePart_22 : decode cX0_replacePart 22 = .ok (.iload_n 3, 1) := by decide +kernel
theorem dX0_replacePart_23 : decode cX0_replacePart 23 = .ok (.invokestatic 53, 3) := by decide +kernel
theorem dX0_replacePart_26 : decode cX0_replacePart 26 = .ok (.aload_n 0, 1) := by decide +kernel
theorem dX0_replacePart_27 : decode cX0_replacePart 27 = .ok (.getfield 15, 3) := by decide +kernel
theorem dX0_replacePart_30 : decode cX0_replacePart 30 = .ok (.iload 5, 2) := by decide +kernel
theorem dX0_replacePart_32 : decode cX0_replacePart 32 = .ok (.iload 4, 2) := by decide +kernel
theorem dX0_replacePart_34 : decode cX0_replacePart 34 = .ok (.invokestatic 53, 3) := by decide +kernel
theorem dX0_replacePart_37 : decode cX0_replacePart 37 = .ok (.aload_n 0, 1) := by decide +kernel
theorem dX0_replacePart_38 : decode cX0_replacePart 38 = .ok (.getfield 18, 3) := by decide +kernel
theorem dX0_replacePart_41 : decode cX0_replacePart 41 = .ok (.iload 5, 2) := by decide +kernel
theorem dX0_replacePart_43 : decode cX0_replacePart 43 = .ok (.iconst 0, 1) := by decide +kernel
theorem dX0_replacePart_44 : decode cX0_replacePart 44 = .ok (.invokestatic 53, 3) := by decide +kernel
theorem dX0_replacePart_47 : decode cX0_replacePart 47 = .ok (.iload 6, 2) := by decide +kernel
theorem dX0_replacePart_49 : decode cX0_replacePart 49 = .ok (.ireturn, 1) := by decide +kernel
set_option maxRecDepth 20000 in
theorem ggX0_turnOver_X0_isRightToggle : GoodIn wsX0_turnOver wsX0_isRightToggle := goodIn_r _ [6, 1, 7, 8, 9, 5, 10, 11, 12, 13, 14, 17, 18, 19, 20, 21, 22, 23, 24, 25] (by decide +kernel) (by decide +kernel)
set_option maxRecDepth 20000 in
theorem gX0_turnOver_X0_isRightToggle : GoodIn wsX0_turnOver (wsV RX0 73 RX0 yX0_isRightToggle wsX0_isRightToggle) := goodIn_app (goodIn_of _ (by decide +kernel)) ggX0_turnOver_X0_isRightToggle
set_option maxRecDepth 20000 in
theorem ggX0_turnOver_X1_setCell : GoodIn wsX0_turnOver wsX1_setCell := goodIn_r _ [16] (by decide +kernel) (by decide +kernel)
set_option maxRecDepth 20000 in
theorem gX0_turnOver_X1_setCell_n53 : GoodIn wsX0_turnOver (wsX1_setCell) := ggX0_turnOver_X1_setCell
theorem dX0_turnOver_0 : decode cX0_turnOver 0 = .ok (.aload_n 0, 1) := by decide +kernel
theorem dX0_turnOver_1 : decode cX0_turnOver 1 = .ok (.getfield 18, 3) := by decide +kernel
theorem dX0_turnOver_4 : decode cX0_turnOver 4 = .ok (.iload_n 1, 1) := by decide +kernel
theorem dX0_turnOver_5 : decode cX0_turnOver 5 = .ok (.aload_n 0, 1) := by decide +kernel
theorem dX0_turnOver_6 : decode cX0_turnOver 6 = .ok (.iload_n 1, 1) := by decide +kernel
theorem dX0_turnOver_7 : decode cX0_turnOver 7 = .ok (.invokevirtual 73, 3) := by decide +kernel
theorem dX0_turnOver_10 : decode cX0_turnOver 10 = .ok (.ifCond .eq 7, 3) := by decide +kernel
theorem dX0_turnOver_13 : decode cX0_turnOver 13 = .ok (.iconst 0, 1) := by decide +kernel
theorem dX0_turnOver_14 : decode cX0_turnOver 14 = .ok (.goto 4, 3) := by decide +kernel
theorem dX0_turnOver_17 : decode cX0_turnOver 17 = .ok (.iconst 1, 1) := by decide +kernel
theorem dX0_turnOver_18 : decode cX0_turnOver 18 = .ok (.invokestatic 53, 3) := by decide +kernel
theorem dX0_turnOver_21 : decode cX0_turnOver 21 = .ok (.return_, 1) := by decide +kernel
theorem dX0_countToggles_0 : decode cX0_countToggles 0 = .ok (.iconst 0, 1) := by decide +kernel
theorem dX0_countToggles_1 : decode cX0_countToggles 1 = .ok (.istore_n 1, 1) := by decide +kernel
theorem dX0_countToggles_2 : decode cX0_countToggles 2 = .ok (.aload_n 0, 1) := by decide +kernel
theorem dX0_countToggles_3 : decode cX0_countToggles 3 = .ok (.getfield 9, 3) := by decide +kernel
theorem dX0_countToggles_6 : decode cX0_countToggles 6 = .ok (.astore_n 2, 1) := by decide +kernel
theorem dX0_countToggles_7 : decode cX0_countToggles 7 = .ok (.aload_n 2, 1) := by decide +kernel
theorem dX0_countToggles_8 : decode cX0_countToggles 8 = .ok (.arraylength, 1) := by decide +kernel
theorem dX0_countToggles_9 : decode cX0_countToggles 9 = .ok (.istore_n 3, 1) := by decide +kernel
theorem dX0_countToggles_10 : decode cX0_countToggles 10 = .ok (.iconst 0, 1) := by decide +kernel
theorem dX0_countToggles_11 : decode cX0_countToggles 11 = .ok (.istore 4, 2) := by decide +kernel
theorem dX0_countToggles_13 : decode cX0_countToggles 13 = .ok (.iload 4, 2) := by decide +kernel
theorem dX0_countToggles_15 : decode cX0_countToggles 15 = .ok (.iload_n 3, 1) := by decide +kernel
theorem dX0_countToggles_16 : decode cX0_countToggles 16 = .ok (.if_icmp .ge 24, 3) := by decide +kernel
theorem dX0_countToggles_19 : decode cX0_countToggles 19 = .ok (.aload_n 2, 1) := by decide +kernel
theorem dX0_countToggles_20 : decode cX0_countToggles 20 = .ok (.iload 4, 2) := by decide +kernel
theorem dX0_countToggles_22 : decode cX0_countToggles 22 = .ok (.iaload, 1) := by decide +kernel
theorem dX0_countToggles_23 : decode cX0_countToggles 23 = .ok (.istore 5, 2) := by decide +kernel
theorem dX0_countToggles_25 : decode cX0_countToggles 25 = .ok (.iload 5, 2) := by decide +kernel
theorem dX0_countToggles_27 : decode cX0_countToggles 27 = .ok (.iconst 3, 1) := by decide +kernel
theorem dX0_countToggles_28 : decode cX0_countToggles 28 = .ok (.if_icmp .ne 6, 3) := by decide +kernel
theorem dX0_countToggles_31 : decode cX0_countToggles 31 = .ok (.iinc 1 1, 3) := by decide +kernel
theorem dX0_countToggles_34 : decode cX0_countToggles 34 = .ok (.iinc 4 1, 3) := by decide +kernel
theorem dX0_countToggles_37 : decode cX0_countToggles 37 = .ok (.goto (-24), 3) := by decide +kernel
theorem dX0_countToggles_40 : decode cX0_countToggles 40 = .ok (.iload_n 1, 1) := by decide +kernel
theorem dX0_countToggles_41 : decode cX0_countToggles 41 = .ok (.ireturn, 1) := by decide +kernel
set_option maxRecDepth 20000 in
theorem ggX0_numberToldBy_X0_placeOf : GoodIn wsX0_numberToldBy wsX0_placeOf := goodIn_r _ [6, 1, 20, 21, 22, 23, 24, 25, 26, 27, 28] (by decide +kernel) (by decide +kernel)
set_option maxRecDepth 20000 in
theorem gX0_numberToldBy_X0_placeOf : GoodIn wsX0_numberToldBy (wsV RX0 69 RX0 yX0_placeOf wsX0_placeOf) := goodIn_app (goodIn_of _ (by decide +kernel)) ggX0_numberToldBy_X0_placeOf
set_option maxRecDepth 20000 in
theorem ggX0_numberToldBy_X0_partIn : GoodIn wsX0_numberToldBy wsX0_partIn := goodIn_r _ [10, 11, 12, 13, 14, 20, 21, 22, 23, 24, 25, 26, 27, 28] (by decide +kernel) (by decide +kernel)
set_option maxRecDepth 20000 in
theorem gX0_numberToldBy_X0_partIn : GoodIn wsX0_numberToldBy (wsV RX0 65 RX0 yX0_partIn wsX0_partIn) := goodIn_app (goodIn_of _ (by decide +kernel)) ggX0_numberToldBy_X0_partIn
set_option maxRecDepth 20000 in
theorem ggX0_numberToldBy_X0_isRightToggle : GoodIn wsX0_numberToldBy wsX0_isRightToggle := goodIn_r _ [18, 19, 7, 8, 9, 5, 10, 11, 12, 13, 14, 20, 21, 22, 23, 24, 25, 26, 27, 28] (by decide +kernel) (by decide +kernel)
set_option maxRecDepth 20000 in
theorem gX0_numberToldBy_X0_isRightToggle : GoodIn wsX0_numberToldBy (wsV RX0 73 RX0 yX0_isRightToggle wsX0_isRightToggle) := goodIn_app (goodIn_of _ (by decide +kernel)) ggX0_numberToldBy_X0_isRightToggle
theorem dX0_numberToldBy_0 : decode cX0_numberToldBy 0 = .ok (.iconst 0, 1) := by decide +kernel
theorem dX0_numberToldBy_1 : decode cX0_numberToldBy 1 = .ok (.istore_n 2, 1) := by decide +kernel
theorem dX0_numberToldBy_2 : decode cX0_numberToldBy 2 = .ok (.iconst 1, 1) := by decide +kernel
theorem dX0_numberToldBy_3 : decode cX0_numberToldBy 3 = .ok (.istore_n 3, 1) := by decide +kernel
theorem dX0_numberToldBy_4 : decode cX0_numberToldBy 4 = .ok (.iconst 0, 1) := by decide +kernel
theorem dX0_numberToldBy_5 : decode cX0_numberToldBy 5 = .ok (.istore 4, 2) := by decide +kernel
theorem dX0_numberToldBy_7 : decode cX0_numberToldBy 7 = .ok (.iload 4, 2) := by decide +kernel
theorem dX0_numberToldBy_9 : decode cX0_numberToldBy 9 = .ok (.aload_n 0, 1) := by decide +kernel
theorem dX0_numberToldBy_10 : decode cX0_numberToldBy 10 = .ok (.getfield 34, 3) := by decide +kernel
theorem dX0_numberToldBy_13 : decode cX0_numberToldBy 13 = .ok (.if_icmp .ge 49, 3) := by decide +kernel
theorem dX0_numberToldBy_16 : decode cX0_numberToldBy 16 = .ok (.aload_n 0, 1) := by decide +kernel
theorem dX0_numberToldBy_17 : decode cX0_numberToldBy 17 = .ok (.iload_n 1, 1) := by decide +kernel
theorem dX0_numberToldBy_18 : decode cX0_numberToldBy 18 = .ok (.iload 4, 2) := by decide +kernel
theorem dX0_numberToldBy_20 : decode cX0_numberToldBy 20 = .ok (.invokevirtual 69, 3) := by decide +kernel
theorem dX0_numberToldBy_23 : decode cX0_numberToldBy 23 = .ok (.istore 5, 2) := by decide +kernel
theorem dX0_numberToldBy_25 : decode cX0_numberToldBy 25 = .ok (.aload_n 0, 1) := by decide +kernel
theorem dX0_numberToldBy_26 : decode cX0_numberToldBy 26 = .ok (.iload 5, 2) := by decide +kernel
theorem dX0_numberToldBy_28 : decode cX0_numberToldBy 28 = .ok (.invokevirtual 65, 3) := by decide +kernel
theorem dX0_numberToldBy_31 : decode cX0_numberToldBy 31 = .ok (.iconst 3, 1) := by decide +kernel
theorem dX0_numberToldBy_32 : decode cX0_numberToldBy 32 = .ok (.if_icmp .ne 24, 3) := by decide +kernel
theorem dX0_numberToldBy_35 : decode cX0_numberToldBy 35 = .ok (.iload_n 2, 1) := by decide +kernel
theorem dX0_numberToldBy_36 : decode cX0_numberToldBy 36 = .ok (.aload_n 0, 1) := by decide +kernel
theorem dX0_numberToldBy_37 : decode cX0_numberToldBy 37 = .ok (.iload 5, 2) := by decide +kernel
theorem dX0_numberToldBy_39 : decode cX0_numberToldBy 39 = .ok (.invokevirtual 73, 3) := by decide +kernel
theorem dX0_numberToldBy_42 : decode cX0_numberToldBy 42 = .ok (.ifCond .eq 7, 3) := by decide +kernel
theorem dX0_numberToldBy_45 : decode cX0_numberToldBy 45 = .ok (.iload_n 3, 1) := by decide +kernel
theorem dX0_numberToldBy_46 : decode cX0_numberToldBy 46 = .ok (.goto 4, 3) := by decide +kernel
theorem dX0_numberToldBy_49 : decode cX0_numberToldBy 49 = .ok (.iconst 0, 1) := by decide +kernel
theorem dX0_numberToldBy_50 : decode cX0_numberToldBy 50 = .ok (.iadd, 1) := by decide +kernel
theorem dX0_numberToldBy_51 : decode cX0_numberToldBy 51 = .ok (.istore_n 2, 1) := by decide +kernel
theorem dX0_numberToldBy_52 : decode cX0_numberToldBy 52 = .ok (.iload_n 3, 1) := by decide +kernel
theorem dX0_numberToldBy_53 : decode cX0_numberToldBy 53 = .ok (.iconst 2, 1) := by decide +kernel
theorem dX0_numberToldBy_54 : decode cX0_numberToldBy 54 = .ok (.imul, 1) := by decide +kernel
theorem dX0_numberToldBy_55 : decode cX0_numberToldBy 55 = .ok (.istore_n 3, 1) := by decide +kernel
theorem dX0_numberToldBy_56 : decode cX0_numberToldBy 56 = .ok (.iinc 4 1, 3) := by decide +kernel
theorem dX0_numberToldBy_59 : decode cX0_numberToldBy 59 = .ok (.goto (-52), 3) := by decide +kernel
theorem dX0_numberToldBy_62 : decode cX0_numberToldBy 62 = .ok (.iload_n 2, 1) := by decide +kernel
theorem dX0_numberToldBy_63 : decode cX0_numberToldBy 63 = .ok (.ireturn, 1) := by decide +kernel
set_option maxRecDepth 20000 in
theorem ggX0_togglesUnlike_X0_isRightToggle : GoodIn wsX0_togglesUnlike wsX0_isRightToggle := goodIn_r _ [6, 7, 8, 9, 10, 5, 11, 1, 12, 13, 14, 15, 16, 17, 18, 19, 20, 21, 22, 23] (by decide +kernel) (by decide +kernel)
set_option maxRecDepth 20000 in
theorem gX0_togglesUnlike_X0_isRightToggle : GoodIn wsX0_togglesUnlike (wsV RX0 73 RX0 yX0_isRightToggle wsX0_isRightToggle) := goodIn_app (goodIn_of _ (by decide +kernel)) ggX0_togglesUnlike_X0_isRightToggle
theorem dX0_togglesUnlike_0 : decode cX0_togglesUnlike 0 = .ok (.iconst 0, 1) := by decide +kernel
theorem dX0_togglesUnlike_1 : decode cX0_togglesUnlike 1 = .ok (.istore_n 2, 1) := by decide +kernel
theorem dX0_togglesUnlike_2 : decode cX0_togglesUnlike 2 = .ok (.iconst 0, 1) := by decide +kernel
theorem dX0_togglesUnlike_3 : decode cX0_togglesUnlike 3 = .ok (.istore_n 3, 1) := by decide +kernel
theorem dX0_togglesUnlike_4 : decode cX0_togglesUnlike 4 = .ok (.iload_n 3, 1) := by decide +kernel
theorem dX0_togglesUnlike_5 : decode cX0_togglesUnlike 5 = .ok (.aload_n 0, 1) := by decide +kernel
theorem dX0_togglesUnlike_6 : decode cX0_togglesUnlike 6 = .ok (.getfield 9, 3) := by decide +kernel
theorem dX0_togglesUnlike_9 : decode cX0_togglesUnlike 9 = .ok (.arraylength, 1) := by decide +kernel
theorem dX0_togglesUnlike_10 : decode cX0_togglesUnlike 10 = .ok (.if_icmp .ge 25, 3) := by decide +kernel
theorem dX0_togglesUnlike_13 : decode cX0_togglesUnlike 13 = .ok (.aload_n 0, 1) := by decide +kernel
theorem dX0_togglesUnlike_14 : decode cX0_togglesUnlike 14 = .ok (.iload_n 3, 1) := by decide +kernel
theorem dX0_togglesUnlike_15 : decode cX0_togglesUnlike 15 = .ok (.invokevirtual 73, 3) := by decide +kernel
theorem dX0_togglesUnlike_18 : decode cX0_togglesUnlike 18 = .ok (.aload_n 1, 1) := by decide +kernel
theorem dX0_togglesUnlike_19 : decode cX0_togglesUnlike 19 = .ok (.iload_n 3, 1) := by decide +kernel
theorem dX0_togglesUnlike_20 : decode cX0_togglesUnlike 20 = .ok (.invokevirtual 73, 3) := by decide +kernel
theorem dX0_togglesUnlike_23 : decode cX0_togglesUnlike 23 = .ok (.if_icmp .eq 6, 3) := by decide +kernel
theorem dX0_togglesUnlike_26 : decode cX0_togglesUnlike 26 = .ok (.iinc 2 1, 3) := by decide +kernel
theorem dX0_togglesUnlike_29 : decode cX0_togglesUnlike 29 = .ok (.iinc 3 1, 3) := by decide +kernel
theorem dX0_togglesUnlike_32 : decode cX0_togglesUnlike 32 = .ok (.goto (-28), 3) := by decide +kernel
theorem dX0_togglesUnlike_35 : decode cX0_togglesUnlike 35 = .ok (.iload_n 2, 1) := by decide +kernel
theorem dX0_togglesUnlike_36 : decode cX0_togglesUnlike 36 = .ok (.ireturn, 1) := by decide +kernel
set_option maxRecDepth 20000 in
theorem ggX0_hasStatesOf_X1_cell : GoodIn wsX0_hasStatesOf wsX1_cell := goodIn_r _ [4] (by decide +kernel) (by decide +kernel)
set_option maxRecDepth 20000 in
theorem gX0_hasStatesOf_X1_cell_n61 : GoodIn wsX0_hasStatesOf (wsX1_cell) := ggX0_hasStatesOf_X1_cell
theorem dX0_hasStatesOf_0 : decode cX0_hasStatesOf 0 = .ok (.iconst 0, 1) := by decide +kernel
theorem dX0_hasStatesOf_1 : decode cX0_hasStatesOf 1 = .ok (.istore_n 2, 1) := by decide +kernel
theorem dX0_hasStatesOf_2 : decode cX0_hasStatesOf 2 = .ok (.iload_n 2, 1) := by decide +kernel
theorem dX0_hasStatesOf_3 : decode cX0_hasStatesOf 3 = .ok (.aload_n 0, 1) := by decide +kernel
theorem dX0_hasStatesOf_4 : decode cX0_hasStatesOf 4 = .ok (.getfield 18, 3) := by decide +kernel
theorem dX0_hasStatesOf_7 : decode cX0_hasStatesOf 7 = .ok (.arraylength, 1) := by decide +kernel
theorem dX0_hasStatesOf_8 : decode cX0_hasStatesOf 8 = .ok (.if_icmp .ge 30, 3) := by decide +kernel
theorem dX0_hasStatesOf_11 : decode cX0_hasStatesOf 11 = .ok (.aload_n 0, 1) := by decide +kernel
theorem dX0_hasStatesOf_12 : decode cX0_hasStatesOf 12 = .ok (.getfield 18, 3) := by decide +kernel
theorem dX0_hasStatesOf_15 : decode cX0_hasStatesOf 15 = .ok (.iload_n 2, 1) := by decide +kernel
theorem dX0_hasStatesOf_16 : decode cX0_hasStatesOf 16 = .ok (.invokestatic 61, 3) := by decide +kernel
theorem dX0_hasStatesOf_19 : decode cX0_hasStatesOf 19 = .ok (.aload_n 1, 1) := by decide +kernel
theorem dX0_hasStatesOf_20 : decode cX0_hasStatesOf 20 = .ok (.getfield 18, 3) := by decide +kernel
theorem dX0_hasStatesOf_23 : decode cX0_hasStatesOf 23 = .ok (.iload_n 2, 1) := by decide +kernel
theorem dX0_hasStatesOf_24 : decode cX0_hasStatesOf 24 = .ok (.invokestatic 61, 3) := by decide +kernel
theorem dX0_hasStatesOf_27 : decode cX0_hasStatesOf 27 = .ok (.if_icmp .eq 5, 3) := by decide +kernel
theorem dX0_hasStatesOf_30 : decode cX0_hasStatesOf 30 = .ok (.iconst 0, 1) := by decide +kernel
theorem dX0_hasStatesOf_31 : decode cX0_hasStatesOf 31 = .ok (.ireturn, 1) := by decide +kernel
theorem dX0_hasStatesOf_32 : decode cX0_hasStatesOf 32 = .ok (.iinc 2 1, 3) := by decide +kernel
theorem dX0_hasStatesOf_35 : decode cX0_hasStatesOf 35 = .ok (.goto (-33), 3) := by decide +kernel
theorem dX0_hasStatesOf_38 : decode cX0_hasStatesOf 38 = .ok (.iconst 1, 1) := by decide +kernel
theorem dX0_hasStatesOf_39 : decode cX0_hasStatesOf 39 = .ok (.ireturn, 1) := by decide +kernel
set_option maxRecDepth 20000 in
theorem ggX0_letFall_X0_fallTo : GoodIn wsX0_letFall wsX0_fallTo := goodIn_r _ [8, 9, 10, 11, 7, 12, 13, 14, 15, 16, 17, 18, 19, 20, 21, 22, 23, 24, 25, 26, 27, 28, 29, 30, 31, 32, 33, 34, 35, 36, 37, 38] (by decide +kernel) (by decide +kernel)
set_option maxRecDepth 20000 in
theorem gX0_letFall_X0_fallTo : GoodIn wsX0_letFall (wsV RX0 77 RX0 yX0_fallTo wsX0_fallTo) := goodIn_app (goodIn_of _ (by decide +kernel)) ggX0_letFall_X0_fallTo
set_option maxRecDepth 20000 in
theorem ggX0_letFall_X1_cell : GoodIn wsX0_letFall wsX1_cell := goodIn_r _ [23] (by decide +kernel) (by decide +kernel)
set_option maxRecDepth 20000 in
theorem gX0_letFall_X1_cell_n61 : GoodIn wsX0_letFall (wsX1_cell) := ggX0_letFall_X1_cell
set_option maxRecDepth 20000 in
theorem ggX0_letFall_X1_setCell : GoodIn wsX0_letFall wsX1_setCell := goodIn_r _ [25] (by decide +kernel) (by decide +kernel)
set_option maxRecDepth 20000 in
theorem gX0_letFall_X1_setCell_n53 : GoodIn wsX0_letFall (wsX1_setCell) := ggX0_letFall_X1_setCell
theorem dX0_letFall_0 : decode cX0_letFall 0 = .ok (.aload_n 0, 1) := by decide +kernel
theorem dX0_letFall_1 : decode cX0_letFall 1 = .ok (.iload_n 1, 1) := by decide +kernel
theorem dX0_letFall_2 : decode cX0_letFall 2 = .ok (.aload_n 0, 1) := by decide +kernel
theorem dX0_letFall_3 : decode cX0_letFall 3 = .ok (.getfield 38, 3) := by decide +kernel
theorem dX0_letFall_6 : decode cX0_letFall 6 = .ok (.invokevirtual 77, 3) := by decide +kernel
theorem dX0_letFall_9 : decode cX0_letFall 9 = .ok (.istore_n 2, 1) := by decide +kernel
theorem dX0_letFall_10 : decode cX0_letFall 10 = .ok (.iload_n 2, 1) := by decide +kernel
theorem dX0_letFall_11 : decode cX0_letFall 11 = .ok (.iconst (-1), 1) := by decide +kernel
theorem dX0_letFall_12 : decode cX0_letFall 12 = .ok (.if_icmp .ne 16, 3) := by decide +kernel
theorem dX0_letFall_15 : decode cX0_letFall 15 = .ok (.aload_n 0, 1) := by decide +kernel
theorem dX0_letFall_16 : decode cX0_letFall 16 = .ok (.dup, 1) := by decide +kernel
theorem dX0_letFall_17 : decode cX0_letFall 17 = .ok (.getfield 41, 3) := by decide +kernel
theorem dX0_letFall_20 : decode cX0_letFall 20 = .ok (.iconst 1, 1) := by decide +kernel
theorem dX0_letFall_21 : decode cX0_letFall 21 = .ok (.iadd, 1) := by decide +kernel
theorem dX0_letFall_22 : decode cX0_letFall 22 = .ok (.putfield 41, 3) := by decide +kernel
theorem dX0_letFall_25 : decode cX0_letFall 25 = .ok (.goto 21, 3) := by decide +kernel
theorem dX0_letFall_28 : decode cX0_letFall 28 = .ok (.aload_n 0, 1) := by decide +kernel
theorem dX0_letFall_29 : decode cX0_letFall 29 = .ok (.getfield 21, 3) := by decide +kernel
theorem dX0_letFall_32 : decode cX0_letFall 32 = .ok (.iload_n 2, 1) := by decide +kernel
theorem dX0_letFall_33 : decode cX0_letFall 33 = .ok (.aload_n 0, 1) := by decide +kernel
theorem dX0_letFall_34 : decode cX0_letFall 34 = .ok (.getfield 21, 3) := by decide +kernel
theorem dX0_letFall_37 : decode cX0_letFall 37 = .ok (.iload_n 2, 1) := by decide +kernel
theorem dX0_letFall_38 : decode cX0_letFall 38 = .ok (.invokestatic 61, 3) := by decide +kernel
theorem dX0_letFall_41 : decode cX0_letFall 41 = .ok (.iconst 1, 1) := by decide +kernel
theorem dX0_letFall_42 : decode cX0_letFall 42 = .ok (.iadd, 1) := by decide +kernel
theorem dX0_letFall_43 : decode cX0_letFall 43 = .ok (.invokestatic 53, 3) := by decide +kernel
theorem dX0_letFall_46 : decode cX0_letFall 46 = .ok (.iload_n 2, 1) := by decide +kernel
theorem dX0_letFall_47 : decode cX0_letFall 47 = .ok (.ireturn, 1) := by decide +kernel
set_option maxRecDepth 20000 in
theorem ggX0_fallTo_X0_placeOf : GoodIn wsX0_fallTo wsX0_placeOf := goodIn_r _ [5, 6, 23, 24, 25, 26, 27, 28, 29, 30, 31] (by decide +kernel) (by decide +kernel)
set_option maxRecDepth 20000 in
theorem gX0_fallTo_X0_placeOf : GoodIn wsX0_fallTo (wsV RX0 69 RX0 yX0_placeOf wsX0_placeOf) := goodIn_app (goodIn_of _ (by decide +kernel)) ggX0_fallTo_X0_placeOf
set_option maxRecDepth 20000 in
theorem ggX0_fallTo_X0_wayOut : GoodIn wsX0_fallTo wsX0_wayOut := goodIn_r _ [10, 11, 12, 13, 14, 15, 16, 17, 18, 23, 24, 25, 26, 27, 28, 29, 30, 31] (by decide +kernel) (by decide +kernel)
set_option maxRecDepth 20000 in
theorem gX0_fallTo_X0_wayOut : GoodIn wsX0_fallTo (wsV RX0 80 RX0 yX0_wayOut wsX0_wayOut) := goodIn_app (goodIn_of _ (by decide +kernel)) ggX0_fallTo_X0_wayOut
set_option maxRecDepth 20000 in
theorem ggX0_fallTo_X0_hasColumn : GoodIn wsX0_fallTo wsX0_hasColumn := goodIn_r _ [22, 6, 23, 24, 25, 26, 27, 28, 29, 30, 31] (by decide +kernel) (by decide +kernel)
set_option maxRecDepth 20000 in
theorem gX0_fallTo_X0_hasColumn : GoodIn wsX0_fallTo (wsV RX0 83 RX0 yX0_hasColumn wsX0_hasColumn) := goodIn_app (goodIn_of _ (by decide +kernel)) ggX0_fallTo_X0_hasColumn
theorem dX0_fallTo_0 : decode cX0_fallTo 0 = .ok (.iload_n 1, 1) := by decide +kernel
theorem dX0_fallTo_1 : decode cX0_fallTo 1 = .ok (.istore_n 3, 1) := by decide +kernel
theorem dX0_fallTo_2 : decode cX0_fallTo 2 = .ok (.iconst 0, 1) := by decide +kernel
theorem dX0_fallTo_3 : decode cX0_fallTo 3 = .ok (.istore 4, 2) := by decide +kernel
theorem dX0_fallTo_5 : decode cX0_fallTo 5 = .ok (.iconst 0, 1) := by decide +kernel
theorem dX0_fallTo_6 : decode cX0_fallTo 6 = .ok (.istore 5, 2) := by decide +kernel
theorem dX0_fallTo_8 : decode cX0_fallTo 8 = .ok (.iload 5, 2) := by decide +kernel
theorem dX0_fallTo_10 : decode cX0_fallTo 10 = .ok (.iload_n 2, 1) := by decide +kernel
theorem dX0_fallTo_11 : decode cX0_fallTo 11 = .ok (.if_icmp .ge 39, 3) := by decide +kernel
theorem dX0_fallTo_14 : decode cX0_fallTo 14 = .ok (.aload_n 0, 1) := by decide +kernel
theorem dX0_fallTo_15 : decode cX0_fallTo 15 = .ok (.aload_n 0, 1) := by decide +kernel
theorem dX0_fallTo_16 : decode cX0_fallTo 16 = .ok (.iload 5, 2) := by decide +kernel
theorem dX0_fallTo_18 : decode cX0_fallTo 18 = .ok (.iload_n 3, 1) := by decide +kernel
theorem dX0_fallTo_19 : decode cX0_fallTo 19 = .ok (.invokevirtual 69, 3) := by decide +kernel
theorem dX0_fallTo_22 : decode cX0_fallTo 22 = .ok (.iload 4, 2) := by decide +kernel
theorem dX0_fallTo_24 : decode cX0_fallTo 24 = .ok (.invokevirtual 80, 3) := by decide +kernel
theorem dX0_fallTo_27 : decode cX0_fallTo 27 = .ok (.istore 4, 2) := by decide +kernel
theorem dX0_fallTo_29 : decode cX0_fallTo 29 = .ok (.iload_n 3, 1) := by decide +kernel
theorem dX0_fallTo_30 : decode cX0_fallTo 30 = .ok (.iload 4, 2) := by decide +kernel
theorem dX0_fallTo_32 : decode cX0_fallTo 32 = .ok (.iadd, 1) := by decide +kernel
theorem dX0_fallTo_33 : decode cX0_fallTo 33 = .ok (.istore_n 3, 1) := by decide +kernel
theorem dX0_fallTo_34 : decode cX0_fallTo 34 = .ok (.aload_n 0, 1) := by decide +kernel
theorem dX0_fallTo_35 : decode cX0_fallTo 35 = .ok (.iload_n 3, 1) := by decide +kernel
theorem dX0_fallTo_36 : decode cX0_fallTo 36 = .ok (.invokevirtual 83, 3) := by decide +kernel
theorem dX0_fallTo_39 : decode cX0_fallTo 39 = .ok (.ifCond .ne 5, 3) := by decide +kernel
theorem dX0_fallTo_42 : decode cX0_fallTo 42 = .ok (.iconst (-1), 1) := by decide +kernel
theorem dX0_fallTo_43 : decode cX0_fallTo 43 = .ok (.ireturn, 1) := by decide +kernel
theorem dX0_fallTo_44 : decode cX0_fallTo 44 = .ok (.iinc 5 1, 3) := by decide +kernel
theorem dX0_fallTo_47 : decode cX0_fallTo 47 = .ok (.goto (-39), 3) := by decide +kernel
theorem dX0_fallTo_50 : decode cX0_fallTo 50 = .ok (.iload_n 3, 1) := by decide +kernel
theorem dX0_fallTo_51 : decode cX0_fallTo 51 = .ok (.ireturn, 1) := by decide +kernel
set_option maxRecDepth 20000 in
theorem ggX0_wayOut_X1_cell : GoodIn wsX0_wayOut wsX1_cell := goodIn_r _ [6] (by decide +kernel) (by decide +kernel)
set_option maxRecDepth 20000 in
theorem gX0_wayOut_X1_cell_n61 : GoodIn wsX0_wayOut (wsX1_cell) := ggX0_wayOut_X1_cell
set_option maxRecDepth 20000 in
theorem ggX0_wayOut_X1_setCell : GoodIn wsX0_wayOut wsX1_setCell := goodIn_r _ [8] (by decide +kernel) (by decide +kernel)
set_option maxRecDepth 20000 in
theorem gX0_wayOut_X1_setCell_n53 : GoodIn wsX0_wayOut (wsX1_setCell) := ggX0_wayOut_X1_setCell
theorem dX0_wayOut_0 : decode cX0_wayOut 0 = .ok (.aload_n 0, 1) := by decide +kernel
theorem dX0_wayOut_1 : decode cX0_wayOut 1 = .ok (.getfield 9, 3) := by decide +kernel
theorem dX0_wayOut_4 : decode cX0_wayOut 4 = .ok (.iload_n 1, 1) := by decide +kernel
theorem dX0_wayOut_5 : decode cX0_wayOut 5 = .ok (.invokestatic 61, 3) := by decide +kernel
theorem dX0_wayOut_8 : decode cX0_wayOut 8 = .ok (.tableswitch 101 1 5 #[36, 38, 42, 40, 42], 36) := by decide +kernel
theorem dX0_wayOut_44 : decode cX0_wayOut 44 = .ok (.iconst (-1), 1) := by decide +kernel
theorem dX0_wayOut_45 : decode cX0_wayOut 45 = .ok (.ireturn, 1) := by decide +kernel
theorem dX0_wayOut_46 : decode cX0_wayOut 46 = .ok (.iconst 1, 1) := by decide +kernel
theorem dX0_wayOut_47 : decode cX0_wayOut 47 = .ok (.ireturn, 1) := by decide +kernel
theorem dX0_wayOut_48 : decode cX0_wayOut 48 = .ok (.iload_n 2, 1) := by decide +kernel
theorem dX0_wayOut_49 : decode cX0_wayOut 49 = .ok (.ireturn, 1) := by decide +kernel
theorem dX0_wayOut_50 : decode cX0_wayOut 50 = .ok (.aload_n 0, 1) := by decide +kernel
theorem dX0_wayOut_51 : decode cX0_wayOut 51 = .ok (.getfield 18, 3) := by decide +kernel
theorem dX0_wayOut_54 : decode cX0_wayOut 54 = .ok (.iload_n 1, 1) := by decide +kernel
theorem dX0_wayOut_55 : decode cX0_wayOut 55 = .ok (.invokestatic 61, 3) := by decide +kernel
theorem dX0_wayOut_58 : decode cX0_wayOut 58 = .ok (.iconst 1, 1) := by decide +kernel
theorem dX0_wayOut_59 : decode cX0_wayOut 59 = .ok (.iadd, 1) := by decide +kernel
theorem dX0_wayOut_60 : decode cX0_wayOut 60 = .ok (.istore_n 3, 1) := by decide +kernel
theorem dX0_wayOut_61 : decode cX0_wayOut 61 = .ok (.iload_n 3, 1) := by decide +kernel
theorem dX0_wayOut_62 : decode cX0_wayOut 62 = .ok (.aload_n 0, 1) := by decide +kernel
theorem dX0_wayOut_63 : decode cX0_wayOut 63 = .ok (.getfield 15, 3) := by decide +kernel
theorem dX0_wayOut_66 : decode cX0_wayOut 66 = .ok (.iload_n 1, 1) := by decide +kernel
theorem dX0_wayOut_67 : decode cX0_wayOut 67 = .ok (.invokestatic 61, 3) := by decide +kernel
theorem dX0_wayOut_70 : decode cX0_wayOut 70 = .ok (.if_icmp .lt 7, 3) := by decide +kernel
theorem dX0_wayOut_73 : decode cX0_wayOut 73 = .ok (.iconst 1, 1) := by decide +kernel
theorem dX0_wayOut_74 : decode cX0_wayOut 74 = .ok (.goto 4, 3) := by decide +kernel
theorem dX0_wayOut_77 : decode cX0_wayOut 77 = .ok (.iconst 0, 1) := by decide +kernel
theorem dX0_wayOut_78 : decode cX0_wayOut 78 = .ok (.istore 4, 2) := by decide +kernel
theorem dX0_wayOut_80 : decode cX0_wayOut 80 = .ok (.aload_n 0, 1) := by decide +kernel
theorem dX0_wayOut_81 : decode cX0_wayOut 81 = .ok (.getfield 18, 3) := by decide +kernel
theorem dX0_wayOut_84 : decode cX0_wayOut 84 = .ok (.iload_n 1, 1) := by decide +kernel
theorem dX0_wayOut_85 : decode cX0_wayOut 85 = .ok (.iload 4, 2) := by decide +kernel
theorem dX0_wayOut_87 : decode cX0_wayOut 87 = .ok (.ifCond .eq 7, 3) := by decide +kernel
theorem dX0_wayOut_90 : decode cX0_wayOut 90 = .ok (.iconst 0, 1) := by decide +kernel
theorem dX0_wayOut_91 : decode cX0_wayOut 91 = .ok (.goto 4, 3) := by decide +kernel
theorem dX0_wayOut_94 : decode cX0_wayOut 94 = .ok (.iload_n 3, 1) := by decide +kernel
theorem dX0_wayOut_95 : decode cX0_wayOut 95 = .ok (.invokestatic 53, 3) := by decide +kernel
theorem dX0_wayOut_98 : decode cX0_wayOut 98 = .ok (.iload 4, 2) := by decide +kernel
theorem dX0_wayOut_100 : decode cX0_wayOut 100 = .ok (.ifCond .eq 7, 3) := by decide +kernel
theorem dX0_wayOut_103 : decode cX0_wayOut 103 = .ok (.iconst 1, 1) := by decide +kernel
theorem dX0_wayOut_104 : decode cX0_wayOut 104 = .ok (.goto 4, 3) := by decide +kernel
theorem dX0_wayOut_107 : decode cX0_wayOut 107 = .ok (.iconst (-1), 1) := by decide +kernel
theorem dX0_wayOut_108 : decode cX0_wayOut 108 = .ok (.ireturn, 1) := by decide +kernel
theorem dX0_wayOut_109 : decode cX0_wayOut 109 = .ok (.iconst 0, 1) := by decide +kernel
theorem dX0_wayOut_110 : decode cX0_wayOut 110 = .ok (.ireturn, 1) := by decide +kernel
theorem dX0_marblesInBins_0 : decode cX0_marblesInBins 0 = .ok (.iconst 0, 1) := by decide +kernel
theorem dX0_marblesInBins_1 : decode cX0_marblesInBins 1 = .ok (.istore_n 1, 1) := by decide +kernel
theorem dX0_marblesInBins_2 : decode cX0_marblesInBins 2 = .ok (.aload_n 0, 1) := by decide +kernel
theorem dX0_marblesInBins_3 : decode cX0_marblesInBins 3 = .ok (.getfield 21, 3) := by decide +kernel
theorem dX0_marblesInBins_6 : decode cX0_marblesInBins 6 = .ok (.astore_n 2, 1) := by decide +kernel
theorem dX0_marblesInBins_7 : decode cX0_marblesInBins 7 = .ok (.aload_n 2, 1) := by decide +kernel
theorem dX0_marblesInBins_8 : decode cX0_marblesInBins 8 = .ok (.arraylength, 1) := by decide +kernel
theorem dX0_marblesInBins_9 : decode cX0_marblesInBins 9 = .ok (.istore_n 3, 1) := by decide +kernel
theorem dX0_marblesInBins_10 : decode cX0_marblesInBins 10 = .ok (.iconst 0, 1) := by decide +kernel
theorem dX0_marblesInBins_11 : decode cX0_marblesInBins 11 = .ok (.istore 4, 2) := by decide +kernel
theorem dX0_marblesInBins_13 : decode cX0_marblesInBins 13 = .ok (.iload 4, 2) := by decide +kernel
theorem dX0_marblesInBins_15 : decode cX0_marblesInBins 15 = .ok (.iload_n 3, 1) := by decide +kernel
theorem dX0_marblesInBins_16 : decode cX0_marblesInBins 16 = .ok (.if_icmp .ge 20, 3) := by decide +kernel
theorem dX0_marblesInBins_19 : decode cX0_marblesInBins 19 = .ok (.aload_n 2, 1) := by decide +kernel
theorem dX0_marblesInBins_20 : decode cX0_marblesInBins 20 = .ok (.iload 4, 2) := by decide +kernel
theorem dX0_marblesInBins_22 : decode cX0_marblesInBins 22 = .ok (.iaload, 1) := by decide +kernel
theorem dX0_marblesInBins_23 : decode cX0_marblesInBins 23 = .ok (.istore 5, 2) := by decide +kernel
theorem dX0_marblesInBins_25 : decode cX0_marblesInBins 25 = .ok (.iload_n 1, 1) := by decide +kernel
theorem dX0_marblesInBins_26 : decode cX0_marblesInBins 26 = .ok (.iload 5, 2) := by decide +kernel
theorem dX0_marblesInBins_28 : decode cX0_marblesInBins 28 = .ok (.iadd, 1) := by decide +kernel
theorem dX0_marblesInBins_29 : decode cX0_marblesInBins 29 = .ok (.istore_n 1, 1) := by decide +kernel
theorem dX0_marblesInBins_30 : decode cX0_marblesInBins 30 = .ok (.iinc 4 1, 3) := by decide +kernel
theorem dX0_marblesInBins_33 : decode cX0_marblesInBins 33 = .ok (.goto (-20), 3) := by decide +kernel
theorem dX0_marblesInBins_36 : decode cX0_marblesInBins 36 = .ok (.iload_n 1, 1) := by decide +kernel
theorem dX0_marblesInBins_37 : decode cX0_marblesInBins 37 = .ok (.ireturn, 1) := by decide +kernel
set_option maxRecDepth 20000 in
theorem ggX0_clearBins_J7_fill_53178 : GoodIn wsX0_clearBins wsJ7_fill_53178 := goodIn_r _ [5] (by decide +kernel) (by decide +kernel)
set_option maxRecDepth 20000 in
theorem gX0_clearBins_J7_fill_53178 : GoodIn wsX0_clearBins (va_wsS RX0 44 yJ7_fill_53178 wsJ7_fill_53178) := goodIn_app (goodIn_of _ (by decide +kernel)) ggX0_clearBins_J7_fill_53178
theorem dX0_clearBins_0 : decode cX0_clearBins 0 = .ok (.aload_n 0, 1) := by decide +kernel
theorem dX0_clearBins_1 : decode cX0_clearBins 1 = .ok (.getfield 21, 3) := by decide +kernel
theorem dX0_clearBins_4 : decode cX0_clearBins 4 = .ok (.iconst 0, 1) := by decide +kernel
theorem dX0_clearBins_5 : decode cX0_clearBins 5 = .ok (.invokestatic 44, 3) := by decide +kernel
theorem dX0_clearBins_8 : decode cX0_clearBins 8 = .ok (.return_, 1) := by decide +kernel
set_option maxRecDepth 20000 in
theorem ggX0_fillHopper_X1_cell : GoodIn wsX0_fillHopper wsX1_cell := goodIn_r _ [5] (by decide +kernel) (by decide +kernel)
set_option maxRecDepth 20000 in
theorem gX0_fillHopper_X1_cell_n61 : GoodIn wsX0_fillHopper (wsX1_cell) := ggX0_fillHopper_X1_cell
set_option maxRecDepth 20000 in
theorem ggX0_fillHopper_X1_setCell : GoodIn wsX0_fillHopper wsX1_setCell := goodIn_r _ [7] (by decide +kernel) (by decide +kernel)
set_option maxRecDepth 20000 in
theorem gX0_fillHopper_X1_setCell_n53 : GoodIn wsX0_fillHopper (wsX1_setCell) := ggX0_fillHopper_X1_setCell
theorem dX0_fillHopper_0 : decode cX0_fillHopper 0 = .ok (.aload_n 0, 1) := by decide +kernel
theorem dX0_fillHopper_1 : decode cX0_fillHopper 1 = .ok (.getfield 27, 3) := by decide +kernel
theorem dX0_fillHopper_4 : decode cX0_fillHopper 4 = .ok (.iload_n 1, 1) := by decide +kernel
theorem dX0_fillHopper_5 : decode cX0_fillHopper 5 = .ok (.invokestatic 61, 3) := by decide +kernel
theorem dX0_fillHopper_8 : decode cX0_fillHopper 8 = .ok (.istore 4, 2) := by decide +kernel
theorem dX0_fillHopper_10 : decode cX0_fillHopper 10 = .ok (.aload_n 0, 1) := by decide +kernel
theorem dX0_fillHopper_11 : decode cX0_fillHopper 11 = .ok (.getfield 24, 3) := by decide +kernel
theorem dX0_fillHopper_14 : decode cX0_fillHopper 14 = .ok (.iload_n 1, 1) := by decide +kernel
theorem dX0_fillHopper_15 : decode cX0_fillHopper 15 = .ok (.iload_n 2, 1) := by decide +kernel
theorem dX0_fillHopper_16 : decode cX0_fillHopper 16 = .ok (.invokestatic 53, 3) := by decide +kernel
theorem dX0_fillHopper_19 : decode cX0_fillHopper 19 = .ok (.aload_n 0, 1) := by decide +kernel
theorem dX0_fillHopper_20 : decode cX0_fillHopper 20 = .ok (.getfield 27, 3) := by decide +kernel
theorem dX0_fillHopper_23 : decode cX0_fillHopper 23 = .ok (.iload_n 1, 1) := by decide +kernel
theorem dX0_fillHopper_24 : decode cX0_fillHopper 24 = .ok (.iload_n 3, 1) := by decide +kernel
theorem dX0_fillHopper_25 : decode cX0_fillHopper 25 = .ok (.invokestatic 53, 3) := by decide +kernel
theorem dX0_fillHopper_28 : decode cX0_fillHopper 28 = .ok (.iload 4, 2) := by decide +kernel
theorem dX0_fillHopper_30 : decode cX0_fillHopper 30 = .ok (.ireturn, 1) := by decide +kernel
set_option maxRecDepth 20000 in
theorem ggX0_runFrom_X1_cell : GoodIn wsX0_runFrom wsX1_cell := goodIn_r _ [5] (by decide +kernel) (by decide +kernel)
set_option maxRecDepth 20000 in
theorem gX0_runFrom_X1_cell_n61 : GoodIn wsX0_runFrom (wsX1_cell) := ggX0_runFrom_X1_cell
set_option maxRecDepth 20000 in
theorem ggX0_runFrom_X1_setCell : GoodIn wsX0_runFrom wsX1_setCell := goodIn_r _ [7] (by decide +kernel) (by decide +kernel)
set_option maxRecDepth 20000 in
theorem gX0_runFrom_X1_setCell_n53 : GoodIn wsX0_runFrom (wsX1_setCell) := ggX0_runFrom_X1_setCell
set_option maxRecDepth 20000 in
theorem ggX0_runFrom_X0_letFall : GoodIn wsX0_runFrom wsX0_letFall := goodIn_r _ [12, 13, 14, 15, 16, 17, 18, 11, 19, 20, 21, 22, 23, 24, 25, 26, 27, 28, 29, 30, 31, 3, 4, 5, 6, 7, 32, 33, 34, 35, 40, 41, 42, 43, 44, 45, 46, 47, 48] (by decide +kernel) (by decide +kernel)
set_option maxRecDepth 20000 in
theorem gX0_runFrom_X0_letFall : GoodIn wsX0_runFrom (wsV RX0 86 RX0 yX0_letFall wsX0_letFall) := goodIn_app (goodIn_of _ (by decide +kernel)) ggX0_runFrom_X0_letFall
set_option maxRecDepth 20000 in
theorem ggX0_runFrom_X0_hopperBehind : GoodIn wsX0_runFrom wsX0_hopperBehind := goodIn_r _ [39, 24, 40, 41, 42, 43, 44, 45, 46, 47, 48] (by decide +kernel) (by decide +kernel)
set_option maxRecDepth 20000 in
theorem gX0_runFrom_X0_hopperBehind : GoodIn wsX0_runFrom (wsV RX0 89 RX0 yX0_hopperBehind wsX0_hopperBehind) := goodIn_app (goodIn_of _ (by decide +kernel)) ggX0_runFrom_X0_hopperBehind
theorem dX0_runFrom_0 : decode cX0_runFrom 0 = .ok (.iconst 0, 1) := by decide +kernel
theorem dX0_runFrom_1 : decode cX0_runFrom 1 = .ok (.istore_n 3, 1) := by decide +kernel
theorem dX0_runFrom_2 : decode cX0_runFrom 2 = .ok (.iload_n 1, 1) := by decide +kernel
theorem dX0_runFrom_3 : decode cX0_runFrom 3 = .ok (.istore 4, 2) := by decide +kernel
theorem dX0_runFrom_5 : decode cX0_runFrom 5 = .ok (.iload_n 3, 1) := by decide +kernel
theorem dX0_runFrom_6 : decode cX0_runFrom 6 = .ok (.iload_n 2, 1) := by decide +kernel
theorem dX0_runFrom_7 : decode cX0_runFrom 7 = .ok (.if_icmp .ge 66, 3) := by decide +kernel
theorem dX0_runFrom_10 : decode cX0_runFrom 10 = .ok (.iload 4, 2) := by decide +kernel
theorem dX0_runFrom_12 : decode cX0_runFrom 12 = .ok (.iconst (-1), 1) := by decide +kernel
theorem dX0_runFrom_13 : decode cX0_runFrom 13 = .ok (.if_icmp .eq 60, 3) := by decide +kernel
theorem dX0_runFrom_16 : decode cX0_runFrom 16 = .ok (.aload_n 0, 1) := by decide +kernel
theorem dX0_runFrom_17 : decode cX0_runFrom 17 = .ok (.getfield 27, 3) := by decide +kernel
theorem dX0_runFrom_20 : decode cX0_runFrom 20 = .ok (.iload 4, 2) := by decide +kernel
theorem dX0_runFrom_22 : decode cX0_runFrom 22 = .ok (.invokestatic 61, 3) := by decide +kernel
theorem dX0_runFrom_25 : decode cX0_runFrom 25 = .ok (.ifCond .le 48, 3) := by decide +kernel
theorem dX0_runFrom_28 : decode cX0_runFrom 28 = .ok (.iinc 3 1, 3) := by decide +kernel
theorem dX0_runFrom_31 : decode cX0_runFrom 31 = .ok (.aload_n 0, 1) := by decide +kernel
theorem dX0_runFrom_32 : decode cX0_runFrom 32 = .ok (.getfield 27, 3) := by decide +kernel
theorem dX0_runFrom_35 : decode cX0_runFrom 35 = .ok (.iload 4, 2) := by decide +kernel
theorem dX0_runFrom_37 : decode cX0_runFrom 37 = .ok (.aload_n 0, 1) := by decide +kernel
theorem dX0_runFrom_38 : decode cX0_runFrom 38 = .ok (.getfield 27, 3) := by decide +kernel
theorem dX0_runFrom_41 : decode cX0_runFrom 41 = .ok (.iload 4, 2) := by decide +kernel
theorem dX0_runFrom_43 : decode cX0_runFrom 43 = .ok (.invokestatic 61, 3) := by decide +kernel
theorem dX0_runFrom_46 : decode cX0_runFrom 46 = .ok (.iconst 1, 1) := by decide +kernel
theorem dX0_runFrom_47 : decode cX0_runFrom 47 = .ok (.isub, 1) := by decide +kernel
theorem dX0_runFrom_48 : decode cX0_runFrom 48 = .ok (.invokestatic 53, 3) := by decide +kernel
theorem dX0_runFrom_51 : decode cX0_runFrom 51 = .ok (.aload_n 0, 1) := by decide +kernel
theorem dX0_runFrom_52 : decode cX0_runFrom 52 = .ok (.aload_n 0, 1) := by decide +kernel
theorem dX0_runFrom_53 : decode cX0_runFrom 53 = .ok (.aload_n 0, 1) := by decide +kernel
theorem dX0_runFrom_54 : decode cX0_runFrom 54 = .ok (.getfield 24, 3) := by decide +kernel
theorem dX0_runFrom_57 : decode cX0_runFrom 57 = .ok (.iload 4, 2) := by decide +kernel
theorem dX0_runFrom_59 : decode cX0_runFrom 59 = .ok (.invokestatic 61, 3) := by decide +kernel
theorem dX0_runFrom_62 : decode cX0_runFrom 62 = .ok (.invokevirtual 86, 3) := by decide +kernel
theorem dX0_runFrom_65 : decode cX0_runFrom 65 = .ok (.invokevirtual 89, 3) := by decide +kernel
theorem dX0_runFrom_68 : decode cX0_runFrom 68 = .ok (.istore 4, 2) := by decide +kernel
theorem dX0_runFrom_70 : decode cX0_runFrom 70 = .ok (.goto (-65), 3) := by decide +kernel
theorem dX0_runFrom_73 : decode cX0_runFrom 73 = .ok (.iload_n 3, 1) := by decide +kernel
theorem dX0_runFrom_74 : decode cX0_runFrom 74 = .ok (.ireturn, 1) := by decide +kernel
theorem dX0_hopperBehind_0 : decode cX0_hopperBehind 0 = .ok (.aload_n 0, 1) := by decide +kernel
theorem dX0_hopperBehind_1 : decode cX0_hopperBehind 1 = .ok (.getfield 34, 3) := by decide +kernel
theorem dX0_hopperBehind_4 : decode cX0_hopperBehind 4 = .ok (.iconst 1, 1) := by decide +kernel
theorem dX0_hopperBehind_5 : decode cX0_hopperBehind 5 = .ok (.isub, 1) := by decide +kernel
theorem dX0_hopperBehind_6 : decode cX0_hopperBehind 6 = .ok (.istore_n 2, 1) := by decide +kernel
theorem dX0_hopperBehind_7 : decode cX0_hopperBehind 7 = .ok (.iload_n 1, 1) := by decide +kernel
theorem dX0_hopperBehind_8 : decode cX0_hopperBehind 8 = .ok (.iconst (-1), 1) := by decide +kernel
theorem dX0_hopperBehind_9 : decode cX0_hopperBehind 9 = .ok (.if_icmp .eq 10, 3) := by decide +kernel
theorem dX0_hopperBehind_12 : decode cX0_hopperBehind 12 = .ok (.iconst 2, 1) := by decide +kernel
theorem dX0_hopperBehind_13 : decode cX0_hopperBehind 13 = .ok (.iload_n 1, 1) := by decide +kernel
theorem dX0_hopperBehind_14 : decode cX0_hopperBehind 14 = .ok (.imul, 1) := by decide +kernel
theorem dX0_hopperBehind_15 : decode cX0_hopperBehind 15 = .ok (.iload_n 2, 1) := by decide +kernel
theorem dX0_hopperBehind_16 : decode cX0_hopperBehind 16 = .ok (.if_icmp .ne 5, 3) := by decide +kernel
theorem dX0_hopperBehind_19 : decode cX0_hopperBehind 19 = .ok (.iconst (-1), 1) := by decide +kernel
theorem dX0_hopperBehind_20 : decode cX0_hopperBehind 20 = .ok (.ireturn, 1) := by decide +kernel
theorem dX0_hopperBehind_21 : decode cX0_hopperBehind 21 = .ok (.iconst 2, 1) := by decide +kernel
theorem dX0_hopperBehind_22 : decode cX0_hopperBehind 22 = .ok (.iload_n 1, 1) := by decide +kernel
theorem dX0_hopperBehind_23 : decode cX0_hopperBehind 23 = .ok (.imul, 1) := by decide +kernel
theorem dX0_hopperBehind_24 : decode cX0_hopperBehind 24 = .ok (.iload_n 2, 1) := by decide +kernel
theorem dX0_hopperBehind_25 : decode cX0_hopperBehind 25 = .ok (.if_icmp .ge 7, 3) := by decide +kernel
theorem dX0_hopperBehind_28 : decode cX0_hopperBehind 28 = .ok (.iconst 0, 1) := by decide +kernel
theorem dX0_hopperBehind_29 : decode cX0_hopperBehind 29 = .ok (.goto 4, 3) := by decide +kernel
theorem dX0_hopperBehind_32 : decode cX0_hopperBehind 32 = .ok (.iconst 1, 1) := by decide +kernel
theorem dX0_hopperBehind_33 : decode cX0_hopperBehind 33 = .ok (.ireturn, 1) := by decide +kernel
set_option maxRecDepth 20000 in
theorem ggX1_init_X0_init : GoodIn wsX1_init wsX0_init := goodIn_r _ [11, 12, 2, 3, 13, 14, 15, 16, 17, 18, 19, 20, 21, 22, 6, 23, 24, 25, 26, 27, 28, 29, 30, 31, 32, 33, 34, 35, 36, 37, 38, 39, 40, 41, 42, 43, 44, 45, 46] (by decide +kernel) (by decide +kernel)
set_option maxRecDepth 20000 in
theorem gX1_init_X0_init : GoodIn wsX1_init (wsX0_init) := ggX1_init_X0_init
theorem dX1_init_0 : decode cX1_init 0 = .ok (.aload_n 0, 1) := by decide +kernel
theorem dX1_init_1 : decode cX1_init 1 = .ok (.invokespecial 1, 3) := by decide +kernel
theorem dX1_init_4 : decode cX1_init 4 = .ok (.aload_n 0, 1) := by decide +kernel
theorem dX1_init_5 : decode cX1_init 5 = .ok (.new 7, 3) := by decide +kernel
theorem dX1_init_8 : decode cX1_init 8 = .ok (.dup, 1) := by decide +kernel
theorem dX1_init_9 : decode cX1_init 9 = .ok (.invokespecial 9, 3) := by decide +kernel
theorem dX1_init_12 : decode cX1_init 12 = .ok (.putfield 10, 3) := by decide +kernel
theorem dX1_init_15 : decode cX1_init 15 = .ok (.aload_n 0, 1) := by decide +kernel
theorem dX1_init_16 : decode cX1_init 16 = .ok (.new 7, 3) := by decide +kernel
theorem dX1_init_19 : decode cX1_init 19 = .ok (.dup, 1) := by decide +kernel
theorem dX1_init_20 : decode cX1_init 20 = .ok (.invokespecial 9, 3) := by decide +kernel
theorem dX1_init_23 : decode cX1_init 23 = .ok (.putfield 16, 3) := by decide +kernel
theorem dX1_init_26 : decode cX1_init 26 = .ok (.return_, 1) := by decide +kernel
set_option maxRecDepth 20000 in
theorem ggX1_lay_X1_needWithin : GoodIn wsX1_lay wsX1_needWithin := goodIn_ca (goodIn_r _ [5, 6, 7] (by decide +kernel) (by decide +kernel)) (goodIn_sub (fun _ h => List.mem_cons_of_mem _ (List.mem_append_right _ h)) (by decide +kernel))
set_option maxRecDepth 20000 in
theorem gX1_lay_X1_needWithin : GoodIn wsX1_lay (va_wsS RX1 19 yX1_needWithin wsX1_needWithin) := goodIn_app (goodIn_of _ (by decide +kernel)) ggX1_lay_X1_needWithin
set_option maxRecDepth 20000 in
theorem ggX1_lay_X0_layBoard : GoodIn wsX1_lay wsX0_layBoard := goodIn_r _ [12, 13, 14, 15, 16, 17, 18, 19, 20, 21, 22, 23, 24, 25, 26, 11, 27, 28, 29, 4, 30, 33, 34, 35, 36, 37, 38, 39, 40, 41] (by decide +kernel) (by decide +kernel)
set_option maxRecDepth 20000 in
theorem gX1_lay_X0_layBoard : GoodIn wsX1_lay (wsV RX1 23 RX0 yX0_layBoard wsX0_layBoard) := goodIn_app (goodIn_of _ (by decide +kernel)) ggX1_lay_X0_layBoard
theorem dX1_lay_0 : decode cX1_lay 0 = .ok (.iload_n 1, 1) := by decide +kernel
theorem dX1_lay_1 : decode cX1_lay 1 = .ok (.iconst 2, 1) := by decide +kernel
theorem dX1_lay_2 : decode cX1_lay 2 = .ok (.bipush 9, 2) := by decide +kernel
theorem dX1_lay_4 : decode cX1_lay 4 = .ok (.invokestatic 19, 3) := by decide +kernel
theorem dX1_lay_7 : decode cX1_lay 7 = .ok (.iload_n 2, 1) := by decide +kernel
theorem dX1_lay_8 : decode cX1_lay 8 = .ok (.iconst 1, 1) := by decide +kernel
theorem dX1_lay_9 : decode cX1_lay 9 = .ok (.bipush 8, 2) := by decide +kernel
theorem dX1_lay_11 : decode cX1_lay 11 = .ok (.invokestatic 19, 3) := by decide +kernel
theorem dX1_lay_14 : decode cX1_lay 14 = .ok (.aload_n 0, 1) := by decide +kernel
theorem dX1_lay_15 : decode cX1_lay 15 = .ok (.getfield 10, 3) := by decide +kernel
theorem dX1_lay_18 : decode cX1_lay 18 = .ok (.iload_n 1, 1) := by decide +kernel
theorem dX1_lay_19 : decode cX1_lay 19 = .ok (.iload_n 2, 1) := by decide +kernel
theorem dX1_lay_20 : decode cX1_lay 20 = .ok (.invokevirtual 23, 3) := by decide +kernel
theorem dX1_lay_23 : decode cX1_lay 23 = .ok (.iload_n 1, 1) := by decide +kernel
theorem dX1_lay_24 : decode cX1_lay 24 = .ok (.iload_n 2, 1) := by decide +kernel
theorem dX1_lay_25 : decode cX1_lay 25 = .ok (.imul, 1) := by decide +kernel
theorem dX1_lay_26 : decode cX1_lay 26 = .ok (.ireturn, 1) := by decide +kernel
set_option maxRecDepth 20000 in
theorem ggX1_put_X1_needPlace : GoodIn wsX1_put wsX1_needPlace := goodIn_ca (goodIn_r _ [6, 7, 8, 9, 5, 10, 11, 12, 1, 13, 14, 15, 16, 17, 18, 19, 20, 21, 22, 23, 24, 25, 26, 27, 52, 53, 54, 55, 56, 57, 58, 59, 60, 61, 62] (by decide +kernel) (by decide +kernel)) (goodIn_sub (fun _ h => List.mem_cons_of_mem _ (List.mem_append_left _ (List.mem_append_right _ h))) (by decide +kernel))
set_option maxRecDepth 20000 in
theorem gX1_put_X1_needPlace : GoodIn wsX1_put (wsV RX1 27 RX1 yX1_needPlace wsX1_needPlace) := goodIn_app (goodIn_of _ (by decide +kernel)) ggX1_put_X1_needPlace
set_option maxRecDepth 20000 in
theorem ggX1_put_X1_needWithin : GoodIn wsX1_put wsX1_needWithin := goodIn_ca (goodIn_r _ [30, 31, 32] (by decide +kernel) (by decide +kernel)) (goodIn_sub (fun _ h => List.mem_cons_of_mem _ (List.mem_append_right _ h)) (by decide +kernel))
set_option maxRecDepth 20000 in
theorem gX1_put_X1_needWithin : GoodIn wsX1_put (va_wsS RX1 19 yX1_needWithin wsX1_needWithin) := goodIn_app (goodIn_of _ (by decide +kernel)) ggX1_put_X1_needWithin
set_option maxRecDepth 20000 in
theorem ggX1_put_X0_replacePart : GoodIn wsX1_put wsX0_replacePart := goodIn_r _ [36, 37, 38, 39, 40, 41, 42, 16, 43, 27, 44, 45, 46, 47, 48, 5, 49, 50, 51, 54, 55, 56, 57, 58, 59, 60, 61, 62] (by decide +kernel) (by decide +kernel)
set_option maxRecDepth 20000 in
theorem gX1_put_X0_replacePart : GoodIn wsX1_put (wsV RX1 30 RX0 yX0_replacePart wsX0_replacePart) := goodIn_app (goodIn_of _ (by decide +kernel)) ggX1_put_X0_replacePart
theorem dX1_put_0 : decode cX1_put 0 = .ok (.aload_n 0, 1) := by decide +kernel
theorem dX1_put_1 : decode cX1_put 1 = .ok (.iload_n 1, 1) := by decide +kernel
theorem dX1_put_2 : decode cX1_put 2 = .ok (.iload_n 2, 1) := by decide +kernel
theorem dX1_put_3 : decode cX1_put 3 = .ok (.invokevirtual 27, 3) := by decide +kernel
theorem dX1_put_6 : decode cX1_put 6 = .ok (.iload_n 3, 1) := by decide +kernel
theorem dX1_put_7 : decode cX1_put 7 = .ok (.iconst 0, 1) := by decide +kernel
theorem dX1_put_8 : decode cX1_put 8 = .ok (.iconst 4, 1) := by decide +kernel
theorem dX1_put_9 : decode cX1_put 9 = .ok (.invokestatic 19, 3) := by decide +kernel
theorem dX1_put_12 : decode cX1_put 12 = .ok (.aload_n 0, 1) := by decide +kernel
theorem dX1_put_13 : decode cX1_put 13 = .ok (.getfield 10, 3) := by decide +kernel
theorem dX1_put_16 : decode cX1_put 16 = .ok (.iload_n 1, 1) := by decide +kernel
theorem dX1_put_17 : decode cX1_put 17 = .ok (.iload_n 2, 1) := by decide +kernel
theorem dX1_put_18 : decode cX1_put 18 = .ok (.iload_n 3, 1) := by decide +kernel
theorem dX1_put_19 : decode cX1_put 19 = .ok (.iload_n 3, 1) := by decide +kernel
theorem dX1_put_20 : decode cX1_put 20 = .ok (.iconst 3, 1) := by decide +kernel
theorem dX1_put_21 : decode cX1_put 21 = .ok (.if_icmp .ne 7, 3) := by decide +kernel
theorem dX1_put_24 : decode cX1_put 24 = .ok (.iconst 2, 1) := by decide +kernel
theorem dX1_put_25 : decode cX1_put 25 = .ok (.goto 4, 3) := by decide +kernel
theorem dX1_put_28 : decode cX1_put 28 = .ok (.iconst 0, 1) := by decide +kernel
theorem dX1_put_29 : decode cX1_put 29 = .ok (.invokevirtual 30, 3) := by decide +kernel
theorem dX1_put_32 : decode cX1_put 32 = .ok (.ireturn, 1) := by decide +kernel
set_option maxRecDepth 20000 in
theorem ggX1_putCounter_X1_needPlace : GoodIn wsX1_putCounter wsX1_needPlace := goodIn_ca (goodIn_r _ [6, 7, 8, 9, 5, 10, 11, 12, 1, 13, 14, 15, 16, 17, 18, 19, 20, 21, 22, 23, 24, 25, 26, 27, 52, 53, 54, 55, 56, 57, 58, 59, 60, 61, 62] (by decide +kernel) (by decide +kernel)) (goodIn_sub (fun _ h => List.mem_cons_of_mem _ (List.mem_append_left _ (List.mem_append_right _ h))) (by decide +kernel))
set_option maxRecDepth 20000 in
theorem gX1_putCounter_X1_needPlace : GoodIn wsX1_putCounter (wsV RX1 27 RX1 yX1_needPlace wsX1_needPlace) := goodIn_app (goodIn_of _ (by decide +kernel)) ggX1_putCounter_X1_needPlace
set_option maxRecDepth 20000 in
theorem ggX1_putCounter_X1_needWithin : GoodIn wsX1_putCounter wsX1_needWithin := goodIn_ca (goodIn_r _ [30, 31, 32] (by decide +kernel) (by decide +kernel)) (goodIn_sub (fun _ h => List.mem_cons_of_mem _ (List.mem_append_right _ h)) (by decide +kernel))
set_option maxRecDepth 20000 in
theorem gX1_putCounter_X1_needWithin : GoodIn wsX1_putCounter (va_wsS RX1 19 yX1_needWithin wsX1_needWithin) := goodIn_app (goodIn_of _ (by decide +kernel)) ggX1_putCounter_X1_needWithin
set_option maxRecDepth 20000 in
theorem ggX1_putCounter_X0_replacePart : GoodIn wsX1_putCounter wsX0_replacePart := goodIn_r _ [36, 37, 38, 39, 40, 41, 42, 16, 43, 27, 44, 45, 46, 47, 48, 5, 49, 50, 51, 54, 55, 56, 57, 58, 59, 60, 61, 62] (by decide +kernel) (by decide +kernel)
set_option maxRecDepth 20000 in
theorem gX1_putCounter_X0_replacePart : GoodIn wsX1_putCounter (wsV RX1 30 RX0 yX0_replacePart wsX0_replacePart) := goodIn_app (goodIn_of _ (by decide +kernel)) ggX1_putCounter_X0_replacePart
theorem dX1_putCounter_0 : decode cX1_putCounter 0 = .ok (.aload_n 0, 1) := by decide +kernel
theorem dX1_putCounter_1 : decode cX1_putCounter 1 = .ok (.iload_n 1, 1) := by decide +kernel
theorem dX1_putCounter_2 : decode cX1_putCounter 2 = .ok (.iload_n 2, 1) := by decide +kernel
theorem dX1_putCounter_3 : decode cX1_putCounter 3 = .ok (.invokevirtual 27, 3) := by decide +kernel
theorem dX1_putCounter_6 : decode cX1_putCounter 6 = .ok (.iload_n 3, 1) := by decide +kernel
theorem dX1_putCounter_7 : decode cX1_putCounter 7 = .ok (.iconst 2, 1) := by decide +kernel
theorem dX1_putCounter_8 : decode cX1_putCounter 8 = .ok (.bipush 9, 2) := by decide +kernel
theorem dX1_putCounter_10 : decode cX1_putCounter 10 = .ok (.invokestatic 19, 3) := by decide +kernel
theorem dX1_putCounter_13 : decode cX1_putCounter 13 = .ok (.aload_n 0, 1) := by decide +kernel
theorem dX1_putCounter_14 : decode cX1_putCounter 14 = .ok (.getfield 10, 3) := by decide +kernel
theorem dX1_putCounter_17 : decode cX1_putCounter 17 = .ok (.iload_n 1, 1) := by decide +kernel
theorem dX1_putCounter_18 : decode cX1_putCounter 18 = .ok (.iload_n 2, 1) := by decide +kernel
theorem dX1_putCounter_19 : decode cX1_putCounter 19 = .ok (.iconst 5, 1) := by decide +kernel
theorem dX1_putCounter_20 : decode cX1_putCounter 20 = .ok (.iload_n 3, 1) := by decide +kernel
theorem dX1_putCounter_21 : decode cX1_putCounter 21 = .ok (.invokevirtual 30, 3) := by decide +kernel
theorem dX1_putCounter_24 : decode cX1_putCounter 24 = .ok (.ireturn, 1) := by decide +kernel
set_option maxRecDepth 20000 in
theorem ggX1_turn_X1_needPlace : GoodIn wsX1_turn wsX1_needPlace := goodIn_ca (goodIn_r _ [8, 9, 10, 11, 7, 12, 13, 14, 3, 15, 16, 17, 18, 19, 20, 21, 22, 23, 24, 25, 26, 27, 28, 29, 54, 55, 56, 57, 58, 59, 60, 61, 62, 63, 64] (by decide +kernel) (by decide +kernel)) (goodIn_sub (fun _ h => List.mem_cons_of_mem _ (List.mem_append_right _ h)) (by decide +kernel))
set_option maxRecDepth 20000 in
theorem gX1_turn_X1_needPlace : GoodIn wsX1_turn (wsV RX1 27 RX1 yX1_needPlace wsX1_needPlace) := goodIn_app (goodIn_of _ (by decide +kernel)) ggX1_turn_X1_needPlace
set_option maxRecDepth 20000 in
theorem ggX1_turn_X0_placeOf : GoodIn wsX1_turn wsX0_placeOf := goodIn_r _ [33, 29, 56, 57, 58, 59, 60, 61, 62, 63, 64] (by decide +kernel) (by decide +kernel)
set_option maxRecDepth 20000 in
theorem gX1_turn_X0_placeOf : GoodIn wsX1_turn (wsV RX1 34 RX0 yX0_placeOf wsX0_placeOf) := goodIn_app (goodIn_of _ (by decide +kernel)) ggX1_turn_X0_placeOf
set_option maxRecDepth 20000 in
theorem ggX1_turn_X0_partIn : GoodIn wsX1_turn wsX0_partIn := goodIn_r _ [37, 38, 39, 7, 40, 56, 57, 58, 59, 60, 61, 62, 63, 64] (by decide +kernel) (by decide +kernel)
set_option maxRecDepth 20000 in
theorem gX1_turn_X0_partIn : GoodIn wsX1_turn (wsV RX1 38 RX0 yX0_partIn wsX0_partIn) := goodIn_app (goodIn_of _ (by decide +kernel)) ggX1_turn_X0_partIn
set_option maxRecDepth 20000 in
theorem ggX1_turn_X0_turnOver : GoodIn wsX1_turn wsX0_turnOver := goodIn_r _ [44, 45, 46, 47, 48, 18, 49, 50, 35, 36, 37, 38, 39, 7, 40, 51, 52, 56, 57, 58, 59, 60, 61, 62, 63, 64] (by decide +kernel) (by decide +kernel)
set_option maxRecDepth 20000 in
theorem gX1_turn_X0_turnOver : GoodIn wsX1_turn (wsV RX1 49 RX0 yX0_turnOver wsX0_turnOver) := goodIn_app (goodIn_of _ (by decide +kernel)) ggX1_turn_X0_turnOver
set_option maxRecDepth 20000 in
theorem ggX1_turn_X0_isRightToggle : GoodIn wsX1_turn wsX0_isRightToggle := goodIn_r _ [49, 45, 50, 35, 36, 18, 37, 38, 39, 7, 40, 56, 57, 58, 59, 60, 61, 62, 63, 64] (by decide +kernel) (by decide +kernel)
set_option maxRecDepth 20000 in
theorem gX1_turn_X0_isRightToggle : GoodIn wsX1_turn (wsV RX1 53 RX0 yX0_isRightToggle wsX0_isRightToggle) := goodIn_app (goodIn_of _ (by decide +kernel)) ggX1_turn_X0_isRightToggle
theorem dX1_turn_0 : decode cX1_turn 0 = .ok (.aload_n 0, 1) := by decide +kernel
theorem dX1_turn_1 : decode cX1_turn 1 = .ok (.iload_n 1, 1) := by decide +kernel
theorem dX1_turn_2 : decode cX1_turn 2 = .ok (.iload_n 2, 1) := by decide +kernel
theorem dX1_turn_3 : decode cX1_turn 3 = .ok (.invokevirtual 27, 3) := by decide +kernel
theorem dX1_turn_6 : decode cX1_turn 6 = .ok (.aload_n 0, 1) := by decide +kernel
theorem dX1_turn_7 : decode cX1_turn 7 = .ok (.getfield 10, 3) := by decide +kernel
theorem dX1_turn_10 : decode cX1_turn 10 = .ok (.iload_n 1, 1) := by decide +kernel
theorem dX1_turn_11 : decode cX1_turn 11 = .ok (.iload_n 2, 1) := by decide +kernel
theorem dX1_turn_12 : decode cX1_turn 12 = .ok (.invokevirtual 34, 3) := by decide +kernel
theorem dX1_turn_15 : decode cX1_turn 15 = .ok (.istore_n 3, 1) := by decide +kernel
theorem dX1_turn_16 : decode cX1_turn 16 = .ok (.aload_n 0, 1) := by decide +kernel
theorem dX1_turn_17 : decode cX1_turn 17 = .ok (.getfield 10, 3) := by decide +kernel
theorem dX1_turn_20 : decode cX1_turn 20 = .ok (.iload_n 3, 1) := by decide +kernel
theorem dX1_turn_21 : decode cX1_turn 21 = .ok (.invokevirtual 38, 3) := by decide +kernel
theorem dX1_turn_24 : decode cX1_turn 24 = .ok (.iconst 3, 1) := by decide +kernel
theorem dX1_turn_25 : decode cX1_turn 25 = .ok (.if_icmp .eq 13, 3) := by decide +kernel
theorem dX1_turn_28 : decode cX1_turn 28 = .ok (.new 42, 3) := by decide +kernel
theorem dX1_turn_31 : decode cX1_turn 31 = .ok (.dup, 1) := by decide +kernel
theorem dX1_turn_32 : decode cX1_turn 32 = .ok (.ldc 44, 2) := by decide +kernel
theorem dX1_turn_34 : decode cX1_turn 34 = .ok (.invokespecial 46, 3) := by decide +kernel
theorem dX1_turn_37 : decode cX1_turn 37 = .ok (.athrow, 1) := by decide +kernel
theorem dX1_turn_38 : decode cX1_turn 38 = .ok (.aload_n 0, 1) := by decide +kernel
theorem dX1_turn_39 : decode cX1_turn 39 = .ok (.getfield 10, 3) := by decide +kernel
theorem dX1_turn_42 : decode cX1_turn 42 = .ok (.iload_n 3, 1) := by decide +kernel
theorem dX1_turn_43 : decode cX1_turn 43 = .ok (.invokevirtual 49, 3) := by decide +kernel
theorem dX1_turn_46 : decode cX1_turn 46 = .ok (.aload_n 0, 1) := by decide +kernel
theorem dX1_turn_47 : decode cX1_turn 47 = .ok (.getfield 10, 3) := by decide +kernel
theorem dX1_turn_50 : decode cX1_turn 50 = .ok (.iload_n 3, 1) := by decide +kernel
theorem dX1_turn_51 : decode cX1_turn 51 = .ok (.invokevirtual 53, 3) := by decide +kernel
theorem dX1_turn_54 : decode cX1_turn 54 = .ok (.ireturn, 1) := by decide +kernel
set_option maxRecDepth 20000 in
theorem ggX1_setHopper_X1_needHopper : GoodIn wsX1_setHopper wsX1_needHopper := goodIn_ca (goodIn_r _ [5, 6, 7] (by decide +kernel) (by decide +kernel)) (goodIn_sub (fun _ h => List.mem_cons_of_mem _ (List.mem_append_left _ (List.mem_append_right _ h))) (by decide +kernel))
set_option maxRecDepth 20000 in
theorem gX1_setHopper_X1_needHopper : GoodIn wsX1_setHopper (va_wsS RX1 57 yX1_needHopper wsX1_needHopper) := goodIn_app (goodIn_of _ (by decide +kernel)) ggX1_setHopper_X1_needHopper
set_option maxRecDepth 20000 in
theorem ggX1_setHopper_X1_needColumn : GoodIn wsX1_setHopper wsX1_needColumn := goodIn_ca (goodIn_r _ [11, 6, 7, 1, 12, 13, 14, 15, 16, 17, 33, 34, 35, 36, 37, 38, 39, 40, 41, 42, 43] (by decide +kernel) (by decide +kernel)) (goodIn_sub (fun _ h => List.mem_cons_of_mem _ (List.mem_append_left _ (List.mem_append_right _ h))) (by decide +kernel))
set_option maxRecDepth 20000 in
theorem gX1_setHopper_X1_needColumn : GoodIn wsX1_setHopper (wsV RX1 60 RX1 yX1_needColumn wsX1_needColumn) := goodIn_app (goodIn_of _ (by decide +kernel)) ggX1_setHopper_X1_needColumn
set_option maxRecDepth 20000 in
theorem ggX1_setHopper_X1_needWithin : GoodIn wsX1_setHopper wsX1_needWithin := goodIn_ca (goodIn_r _ [20, 21, 22] (by decide +kernel) (by decide +kernel)) (goodIn_sub (fun _ h => List.mem_cons_of_mem _ (List.mem_append_right _ h)) (by decide +kernel))
set_option maxRecDepth 20000 in
theorem gX1_setHopper_X1_needWithin : GoodIn wsX1_setHopper (va_wsS RX1 19 yX1_needWithin wsX1_needWithin) := goodIn_app (goodIn_of _ (by decide +kernel)) ggX1_setHopper_X1_needWithin
set_option maxRecDepth 20000 in
theorem ggX1_setHopper_X0_fillHopper : GoodIn wsX1_setHopper wsX0_fillHopper := goodIn_r _ [26, 27, 28, 29, 4, 30, 31, 32, 35, 36, 37, 38, 39, 40, 41, 42, 43] (by decide +kernel) (by decide +kernel)
set_option maxRecDepth 20000 in
theorem gX1_setHopper_X0_fillHopper : GoodIn wsX1_setHopper (wsV RX1 63 RX0 yX0_fillHopper wsX0_fillHopper) := goodIn_app (goodIn_of _ (by decide +kernel)) ggX1_setHopper_X0_fillHopper
theorem dX1_setHopper_0 : decode cX1_setHopper 0 = .ok (.iload_n 1, 1) := by decide +kernel
theorem dX1_setHopper_1 : decode cX1_setHopper 1 = .ok (.invokestatic 57, 3) := by decide +kernel
theorem dX1_setHopper_4 : decode cX1_setHopper 4 = .ok (.aload_n 0, 1) := by decide +kernel
theorem dX1_setHopper_5 : decode cX1_setHopper 5 = .ok (.iload_n 2, 1) := by decide +kernel
theorem dX1_setHopper_6 : decode cX1_setHopper 6 = .ok (.invokevirtual 60, 3) := by decide +kernel
theorem dX1_setHopper_9 : decode cX1_setHopper 9 = .ok (.iload_n 3, 1) := by decide +kernel
theorem dX1_setHopper_10 : decode cX1_setHopper 10 = .ok (.iconst 0, 1) := by decide +kernel
theorem dX1_setHopper_11 : decode cX1_setHopper 11 = .ok (.bipush 99, 2) := by decide +kernel
theorem dX1_setHopper_13 : decode cX1_setHopper 13 = .ok (.invokestatic 19, 3) := by decide +kernel
theorem dX1_setHopper_16 : decode cX1_setHopper 16 = .ok (.aload_n 0, 1) := by decide +kernel
theorem dX1_setHopper_17 : decode cX1_setHopper 17 = .ok (.getfield 10, 3) := by decide +kernel
theorem dX1_setHopper_20 : decode cX1_setHopper 20 = .ok (.iload_n 1, 1) := by decide +kernel
theorem dX1_setHopper_21 : decode cX1_setHopper 21 = .ok (.iload_n 2, 1) := by decide +kernel
theorem dX1_setHopper_22 : decode cX1_setHopper 22 = .ok (.iload_n 3, 1) := by decide +kernel
theorem dX1_setHopper_23 : decode cX1_setHopper 23 = .ok (.invokevirtual 63, 3) := by decide +kernel
theorem dX1_setHopper_26 : decode cX1_setHopper 26 = .ok (.ireturn, 1) := by decide +kernel
set_option maxRecDepth 20000 in
theorem ggX1_drop_X1_needColumn : GoodIn wsX1_drop wsX1_needColumn := goodIn_ca (goodIn_r _ [6, 7, 8, 1, 9, 10, 11, 12, 13, 14, 42, 43, 44, 45, 46, 47, 48, 49, 50, 51, 52] (by decide +kernel) (by decide +kernel)) (goodIn_sub (fun _ h => List.mem_cons_of_mem _ (List.mem_append_right _ h)) (by decide +kernel))
set_option maxRecDepth 20000 in
theorem gX1_drop_X1_needColumn : GoodIn wsX1_drop (wsV RX1 60 RX1 yX1_needColumn wsX1_needColumn) := goodIn_app (goodIn_of _ (by decide +kernel)) ggX1_drop_X1_needColumn
set_option maxRecDepth 20000 in
theorem ggX1_drop_X0_letFall : GoodIn wsX1_drop wsX0_letFall := goodIn_r _ [18, 19, 20, 21, 22, 23, 24, 12, 25, 26, 27, 28, 29, 14, 30, 31, 32, 33, 34, 35, 36, 37, 5, 38, 39, 40, 41, 10, 11, 13, 44, 45, 46, 47, 48, 49, 50, 51, 52] (by decide +kernel) (by decide +kernel)
set_option maxRecDepth 20000 in
theorem gX1_drop_X0_letFall : GoodIn wsX1_drop (wsV RX1 67 RX0 yX0_letFall wsX0_letFall) := goodIn_app (goodIn_of _ (by decide +kernel)) ggX1_drop_X0_letFall
theorem dX1_drop_0 : decode cX1_drop 0 = .ok (.aload_n 0, 1) := by decide +kernel
theorem dX1_drop_1 : decode cX1_drop 1 = .ok (.iload_n 1, 1) := by decide +kernel
theorem dX1_drop_2 : decode cX1_drop 2 = .ok (.invokevirtual 60, 3) := by decide +kernel
theorem dX1_drop_5 : decode cX1_drop 5 = .ok (.aload_n 0, 1) := by decide +kernel
theorem dX1_drop_6 : decode cX1_drop 6 = .ok (.getfield 10, 3) := by decide +kernel
theorem dX1_drop_9 : decode cX1_drop 9 = .ok (.iload_n 1, 1) := by decide +kernel
theorem dX1_drop_10 : decode cX1_drop 10 = .ok (.invokevirtual 67, 3) := by decide +kernel
theorem dX1_drop_13 : decode cX1_drop 13 = .ok (.ireturn, 1) := by decide +kernel
set_option maxRecDepth 20000 in
theorem ggX1_run_X1_needHopper : GoodIn wsX1_run wsX1_needHopper := goodIn_ca (goodIn_r _ [5, 6, 7] (by decide +kernel) (by decide +kernel)) (goodIn_sub (fun _ h => List.mem_cons_of_mem _ (List.mem_append_left _ (List.mem_append_right _ h))) (by decide +kernel))
set_option maxRecDepth 20000 in
theorem gX1_run_X1_needHopper : GoodIn wsX1_run (va_wsS RX1 57 yX1_needHopper wsX1_needHopper) := goodIn_app (goodIn_of _ (by decide +kernel)) ggX1_run_X1_needHopper
set_option maxRecDepth 20000 in
theorem ggX1_run_X1_needWithin : GoodIn wsX1_run wsX1_needWithin := goodIn_ca (goodIn_r _ [10, 11, 12] (by decide +kernel) (by decide +kernel)) (goodIn_sub (fun _ h => List.mem_cons_of_mem _ (List.mem_append_right _ h)) (by decide +kernel))
set_option maxRecDepth 20000 in
theorem gX1_run_X1_needWithin : GoodIn wsX1_run (va_wsS RX1 19 yX1_needWithin wsX1_needWithin) := goodIn_app (goodIn_of _ (by decide +kernel)) ggX1_run_X1_needWithin
set_option maxRecDepth 20000 in
theorem ggX1_run_X0_runFrom : GoodIn wsX1_run wsX0_runFrom := goodIn_r _ [17, 18, 19, 20, 4, 21, 22, 23, 24, 25, 26, 16, 27, 28, 29, 30, 31, 32, 33, 34, 35, 36, 37, 38, 39, 40, 41, 42, 43, 44, 45, 46, 47, 48, 49, 50, 51, 52, 53, 54, 57, 58, 59, 60, 61, 62, 63, 64, 65] (by decide +kernel) (by decide +kernel)
set_option maxRecDepth 20000 in
theorem gX1_run_X0_runFrom : GoodIn wsX1_run (wsV RX1 70 RX0 yX0_runFrom wsX0_runFrom) := goodIn_app (goodIn_of _ (by decide +kernel)) ggX1_run_X0_runFrom
theorem dX1_run_0 : decode cX1_run 0 = .ok (.iload_n 1, 1) := by decide +kernel
theorem dX1_run_1 : decode cX1_run 1 = .ok (.invokestatic 57, 3) := by decide +kernel
theorem dX1_run_4 : decode cX1_run 4 = .ok (.iload_n 2, 1) := by decide +kernel
theorem dX1_run_5 : decode cX1_run 5 = .ok (.iconst 1, 1) := by decide +kernel
theorem dX1_run_6 : decode cX1_run 6 = .ok (.bipush 99, 2) := by decide +kernel
theorem dX1_run_8 : decode cX1_run 8 = .ok (.invokestatic 19, 3) := by decide +kernel
theorem dX1_run_11 : decode cX1_run 11 = .ok (.aload_n 0, 1) := by decide +kernel
theorem dX1_run_12 : decode cX1_run 12 = .ok (.getfield 10, 3) := by decide +kernel
theorem dX1_run_15 : decode cX1_run 15 = .ok (.iload_n 1, 1) := by decide +kernel
theorem dX1_run_16 : decode cX1_run 16 = .ok (.iload_n 2, 1) := by decide +kernel
theorem dX1_run_17 : decode cX1_run 17 = .ok (.invokevirtual 70, 3) := by decide +kernel
theorem dX1_run_20 : decode cX1_run 20 = .ok (.ireturn, 1) := by decide +kernel
set_option maxRecDepth 20000 in
theorem ggX1_emptyBins_X0_marblesInBins : GoodIn wsX1_emptyBins wsX0_marblesInBins := goodIn_r _ [6, 7, 18, 19, 20, 21, 22, 23, 24, 25, 26] (by decide +kernel) (by decide +kernel)
set_option maxRecDepth 20000 in
theorem gX1_emptyBins_X0_marblesInBins : GoodIn wsX1_emptyBins (wsV RX1 73 RX0 yX0_marblesInBins wsX0_marblesInBins) := goodIn_app (goodIn_of _ (by decide +kernel)) ggX1_emptyBins_X0_marblesInBins
set_option maxRecDepth 20000 in
theorem ggX1_emptyBins_X0_clearBins : GoodIn wsX1_emptyBins wsX0_clearBins := goodIn_r _ [11, 7, 12, 13, 14, 15, 18, 19, 20, 21, 22, 23, 24, 25, 26] (by decide +kernel) (by decide +kernel)
set_option maxRecDepth 20000 in
theorem gX1_emptyBins_X0_clearBins : GoodIn wsX1_emptyBins (wsV RX1 77 RX0 yX0_clearBins wsX0_clearBins) := goodIn_app (goodIn_of _ (by decide +kernel)) ggX1_emptyBins_X0_clearBins
theorem dX1_emptyBins_0 : decode cX1_emptyBins 0 = .ok (.aload_n 0, 1) := by decide +kernel
theorem dX1_emptyBins_1 : decode cX1_emptyBins 1 = .ok (.getfield 10, 3) := by decide +kernel
theorem dX1_emptyBins_4 : decode cX1_emptyBins 4 = .ok (.invokevirtual 73, 3) := by decide +kernel
theorem dX1_emptyBins_7 : decode cX1_emptyBins 7 = .ok (.istore_n 1, 1) := by decide +kernel
theorem dX1_emptyBins_8 : decode cX1_emptyBins 8 = .ok (.aload_n 0, 1) := by decide +kernel
theorem dX1_emptyBins_9 : decode cX1_emptyBins 9 = .ok (.getfield 10, 3) := by decide +kernel
theorem dX1_emptyBins_12 : decode cX1_emptyBins 12 = .ok (.invokevirtual 77, 3) := by decide +kernel
theorem dX1_emptyBins_15 : decode cX1_emptyBins 15 = .ok (.iload_n 1, 1) := by decide +kernel
theorem dX1_emptyBins_16 : decode cX1_emptyBins 16 = .ok (.ireturn, 1) := by decide +kernel
theorem dX1_columns_0 : decode cX1_columns 0 = .ok (.aload_n 0, 1) := by decide +kernel
theorem dX1_columns_1 : decode cX1_columns 1 = .ok (.getfield 10, 3) := by decide +kernel
theorem dX1_columns_4 : decode cX1_columns 4 = .ok (.getfield 80, 3) := by decide +kernel
theorem dX1_columns_7 : decode cX1_columns 7 = .ok (.ireturn, 1) := by decide +kernel
theorem dX1_rows_0 : decode cX1_rows 0 = .ok (.aload_n 0, 1) := by decide +kernel
theorem dX1_rows_1 : decode cX1_rows 1 = .ok (.getfield 10, 3) := by decide +kernel
theorem dX1_rows_4 : decode cX1_rows 4 = .ok (.getfield 84, 3) := by decide +kernel
theorem dX1_rows_7 : decode cX1_rows 7 = .ok (.ireturn, 1) := by decide +kernel
set_option maxRecDepth 20000 in
theorem ggX1_partAt_X1_needPlace : GoodIn wsX1_partAt wsX1_needPlace := goodIn_ca (goodIn_r _ [6, 7, 8, 9, 5, 10, 11, 12, 1, 13, 14, 15, 16, 17, 18, 19, 20, 21, 22, 23, 24, 25, 26, 27, 39, 40, 41, 42, 43, 44, 45, 46, 47, 48, 49] (by decide +kernel) (by decide +kernel)) (goodIn_sub (fun _ h => List.mem_cons_of_mem _ (List.mem_append_right _ h)) (by decide +kernel))
set_option maxRecDepth 20000 in
theorem gX1_partAt_X1_needPlace : GoodIn wsX1_partAt (wsV RX1 27 RX1 yX1_needPlace wsX1_needPlace) := goodIn_app (goodIn_of _ (by decide +kernel)) ggX1_partAt_X1_needPlace
set_option maxRecDepth 20000 in
theorem ggX1_partAt_X0_placeOf : GoodIn wsX1_partAt wsX0_placeOf := goodIn_r _ [31, 27, 41, 42, 43, 44, 45, 46, 47, 48, 49] (by decide +kernel) (by decide +kernel)
set_option maxRecDepth 20000 in
theorem gX1_partAt_X0_placeOf : GoodIn wsX1_partAt (wsV RX1 34 RX0 yX0_placeOf wsX0_placeOf) := goodIn_app (goodIn_of _ (by decide +kernel)) ggX1_partAt_X0_placeOf
set_option maxRecDepth 20000 in
theorem ggX1_partAt_X0_partIn : GoodIn wsX1_partAt wsX0_partIn := goodIn_r _ [35, 36, 37, 5, 38, 41, 42, 43, 44, 45, 46, 47, 48, 49] (by decide +kernel) (by decide +kernel)
set_option maxRecDepth 20000 in
theorem gX1_partAt_X0_partIn : GoodIn wsX1_partAt (wsV RX1 38 RX0 yX0_partIn wsX0_partIn) := goodIn_app (goodIn_of _ (by decide +kernel)) ggX1_partAt_X0_partIn
theorem dX1_partAt_0 : decode cX1_partAt 0 = .ok (.aload_n 0, 1) := by decide +kernel
theorem dX1_partAt_1 : decode cX1_partAt 1 = .ok (.iload_n 1, 1) := by decide +kernel
theorem dX1_partAt_2 : decode cX1_partAt 2 = .ok (.iload_n 2, 1) := by decide +kernel
theorem dX1_partAt_3 : decode cX1_partAt 3 = .ok (.invokevirtual 27, 3) := by decide +kernel
theorem dX1_partAt_6 : decode cX1_partAt 6 = .ok (.aload_n 0, 1) := by decide +kernel
theorem dX1_partAt_7 : decode cX1_partAt 7 = .ok (.getfield 10, 3) := by decide +kernel
theorem dX1_partAt_10 : decode cX1_partAt 10 = .ok (.aload_n 0, 1) := by decide +kernel
theorem dX1_partAt_11 : decode cX1_partAt 11 = .ok (.getfield 10, 3) := by decide +kernel
theorem dX1_partAt_14 : decode cX1_partAt 14 = .ok (.iload_n 1, 1) := by decide +kernel
theorem dX1_partAt_15 : decode cX1_partAt 15 = .ok (.iload_n 2, 1) := by decide +kernel
theorem dX1_partAt_16 : decode cX1_partAt 16 = .ok (.invokevirtual 34, 3) := by decide +kernel
theorem dX1_partAt_19 : decode cX1_partAt 19 = .ok (.invokevirtual 38, 3) := by decide +kernel
theorem dX1_partAt_22 : decode cX1_partAt 22 = .ok (.ireturn, 1) := by decide +kernel
set_option maxRecDepth 20000 in
theorem ggX1_leadsRight_X1_needPlace : GoodIn wsX1_leadsRight wsX1_needPlace := goodIn_ca (goodIn_r _ [6, 7, 8, 9, 5, 10, 11, 12, 1, 13, 14, 15, 16, 17, 18, 19, 20, 21, 22, 23, 24, 25, 26, 27, 44, 45, 46, 47, 48, 49, 50, 51, 52, 53, 54] (by decide +kernel) (by decide +kernel)) (goodIn_sub (fun _ h => List.mem_cons_of_mem _ (List.mem_append_right _ h)) (by decide +kernel))
set_option maxRecDepth 20000 in
theorem gX1_leadsRight_X1_needPlace : GoodIn wsX1_leadsRight (wsV RX1 27 RX1 yX1_needPlace wsX1_needPlace) := goodIn_app (goodIn_of _ (by decide +kernel)) ggX1_leadsRight_X1_needPlace
set_option maxRecDepth 20000 in
theorem ggX1_leadsRight_X0_placeOf : GoodIn wsX1_leadsRight wsX0_placeOf := goodIn_r _ [31, 27, 46, 47, 48, 49, 50, 51, 52, 53, 54] (by decide +kernel) (by decide +kernel)
set_option maxRecDepth 20000 in
theorem gX1_leadsRight_X0_placeOf : GoodIn wsX1_leadsRight (wsV RX1 34 RX0 yX0_placeOf wsX0_placeOf) := goodIn_app (goodIn_of _ (by decide +kernel)) ggX1_leadsRight_X0_placeOf
set_option maxRecDepth 20000 in
theorem ggX1_leadsRight_X0_isRightToggle : GoodIn wsX1_leadsRight wsX0_isRightToggle := goodIn_r _ [35, 36, 37, 38, 39, 16, 40, 41, 42, 5, 43, 46, 47, 48, 49, 50, 51, 52, 53, 54] (by decide +kernel) (by decide +kernel)
set_option maxRecDepth 20000 in
theorem gX1_leadsRight_X0_isRightToggle : GoodIn wsX1_leadsRight (wsV RX1 53 RX0 yX0_isRightToggle wsX0_isRightToggle) := goodIn_app (goodIn_of _ (by decide +kernel)) ggX1_leadsRight_X0_isRightToggle
theorem dX1_leadsRight_0 : decode cX1_leadsRight 0 = .ok (.aload_n 0, 1) := by decide +kernel
theorem dX1_leadsRight_1 : decode cX1_leadsRight 1 = .ok (.iload_n 1, 1) := by decide +kernel
theorem dX1_leadsRight_2 : decode cX1_leadsRight 2 = .ok (.iload_n 2, 1) := by decide +kernel
theorem dX1_leadsRight_3 : decode cX1_leadsRight 3 = .ok (.invokevirtual 27, 3) := by decide +kernel
theorem dX1_leadsRight_6 : decode cX1_leadsRight 6 = .ok (.aload_n 0, 1) := by decide +kernel
theorem dX1_leadsRight_7 : decode cX1_leadsRight 7 = .ok (.getfield 10, 3) := by decide +kernel
theorem dX1_leadsRight_10 : decode cX1_leadsRight 10 = .ok (.aload_n 0, 1) := by decide +kernel
theorem dX1_leadsRight_11 : decode cX1_leadsRight 11 = .ok (.getfield 10, 3) := by decide +kernel
theorem dX1_leadsRight_14 : decode cX1_leadsRight 14 = .ok (.iload_n 1, 1) := by decide +kernel
theorem dX1_leadsRight_15 : decode cX1_leadsRight 15 = .ok (.iload_n 2, 1) := by decide +kernel
theorem dX1_leadsRight_16 : decode cX1_leadsRight 16 = .ok (.invokevirtual 34, 3) := by decide +kernel
theorem dX1_leadsRight_19 : decode cX1_leadsRight 19 = .ok (.invokevirtual 53, 3) := by decide +kernel
theorem dX1_leadsRight_22 : decode cX1_leadsRight 22 = .ok (.ireturn, 1) := by decide +kernel
set_option maxRecDepth 20000 in
theorem ggX1_countAt_X1_needPlace : GoodIn wsX1_countAt wsX1_needPlace := goodIn_ca (goodIn_r _ [6, 7, 8, 9, 5, 10, 11, 12, 1, 13, 14, 15, 16, 17, 18, 19, 20, 21, 22, 23, 24, 25, 26, 27, 44, 45, 46, 47, 48, 49, 50, 51, 52, 53, 54] (by decide +kernel) (by decide +kernel)) (goodIn_sub (fun _ h => List.mem_cons_of_mem _ (List.mem_append_right _ h)) (by decide +kernel))
set_option maxRecDepth 20000 in
theorem gX1_countAt_X1_needPlace : GoodIn wsX1_countAt (wsV RX1 27 RX1 yX1_needPlace wsX1_needPlace) := goodIn_app (goodIn_of _ (by decide +kernel)) ggX1_countAt_X1_needPlace
set_option maxRecDepth 20000 in
theorem ggX1_countAt_X0_placeOf : GoodIn wsX1_countAt wsX0_placeOf := goodIn_r _ [31, 27, 46, 47, 48, 49, 50, 51, 52, 53, 54] (by decide +kernel) (by decide +kernel)
set_option maxRecDepth 20000 in
theorem gX1_countAt_X0_placeOf : GoodIn wsX1_countAt (wsV RX1 34 RX0 yX0_placeOf wsX0_placeOf) := goodIn_app (goodIn_of _ (by decide +kernel)) ggX1_countAt_X0_placeOf
set_option maxRecDepth 20000 in
theorem ggX1_countAt_X0_countedIn : GoodIn wsX1_countAt wsX0_countedIn := goodIn_r _ [35, 36, 37, 38, 39, 16, 40, 41, 42, 5, 43, 46, 47, 48, 49, 50, 51, 52, 53, 54] (by decide +kernel) (by decide +kernel)
set_option maxRecDepth 20000 in
theorem gX1_countAt_X0_countedIn : GoodIn wsX1_countAt (wsV RX1 87 RX0 yX0_countedIn wsX0_countedIn) := goodIn_app (goodIn_of _ (by decide +kernel)) ggX1_countAt_X0_countedIn
theorem dX1_countAt_0 : decode cX1_countAt 0 = .ok (.aload_n 0, 1) := by decide +kernel
theorem dX1_countAt_1 : decode cX1_countAt 1 = .ok (.iload_n 1, 1) := by decide +kernel
theorem dX1_countAt_2 : decode cX1_countAt 2 = .ok (.iload_n 2, 1) := by decide +kernel
theorem dX1_countAt_3 : decode cX1_countAt 3 = .ok (.invokevirtual 27, 3) := by decide +kernel
theorem dX1_countAt_6 : decode cX1_countAt 6 = .ok (.aload_n 0, 1) := by decide +kernel
theorem dX1_countAt_7 : decode cX1_countAt 7 = .ok (.getfield 10, 3) := by decide +kernel
theorem dX1_countAt_10 : decode cX1_countAt 10 = .ok (.aload_n 0, 1) := by decide +kernel
theorem dX1_countAt_11 : decode cX1_countAt 11 = .ok (.getfield 10, 3) := by decide +kernel
theorem dX1_countAt_14 : decode cX1_countAt 14 = .ok (.iload_n 1, 1) := by decide +kernel
theorem dX1_countAt_15 : decode cX1_countAt 15 = .ok (.iload_n 2, 1) := by decide +kernel
theorem dX1_countAt_16 : decode cX1_countAt 16 = .ok (.invokevirtual 34, 3) := by decide +kernel
theorem dX1_countAt_19 : decode cX1_countAt 19 = .ok (.invokevirtual 87, 3) := by decide +kernel
theorem dX1_countAt_22 : decode cX1_countAt 22 = .ok (.ireturn, 1) := by decide +kernel
set_option maxRecDepth 20000 in
theorem ggX1_binOf_X1_needColumn : GoodIn wsX1_binOf wsX1_needColumn := goodIn_ca (goodIn_r _ [7, 8, 9, 1, 10, 11, 12, 13, 14, 15, 19, 20, 21, 22, 23, 24, 25, 26, 27, 28, 29] (by decide +kernel) (by decide +kernel)) (goodIn_sub (fun _ h => List.mem_cons_of_mem _ (List.mem_append_right _ h)) (by decide +kernel))
set_option maxRecDepth 20000 in
theorem gX1_binOf_X1_needColumn : GoodIn wsX1_binOf (wsV RX1 60 RX1 yX1_needColumn wsX1_needColumn) := goodIn_app (goodIn_of _ (by decide +kernel)) ggX1_binOf_X1_needColumn
set_option maxRecDepth 20000 in
theorem ggX1_binOf_X1_cell : GoodIn wsX1_binOf wsX1_cell := goodIn_r _ [18] (by decide +kernel) (by decide +kernel)
set_option maxRecDepth 20000 in
theorem gX1_binOf_X1_cell : GoodIn wsX1_binOf (va_wsS RX1 94 yX1_cell wsX1_cell) := goodIn_app (goodIn_of _ (by decide +kernel)) ggX1_binOf_X1_cell
theorem dX1_binOf_0 : decode cX1_binOf 0 = .ok (.aload_n 0, 1) := by decide +kernel
theorem dX1_binOf_1 : decode cX1_binOf 1 = .ok (.iload_n 1, 1) := by decide +kernel
theorem dX1_binOf_2 : decode cX1_binOf 2 = .ok (.invokevirtual 60, 3) := by decide +kernel
theorem dX1_binOf_5 : decode cX1_binOf 5 = .ok (.aload_n 0, 1) := by decide +kernel
theorem dX1_binOf_6 : decode cX1_binOf 6 = .ok (.getfield 10, 3) := by decide +kernel
theorem dX1_binOf_9 : decode cX1_binOf 9 = .ok (.getfield 90, 3) := by decide +kernel
theorem dX1_binOf_12 : decode cX1_binOf 12 = .ok (.iload_n 1, 1) := by decide +kernel
theorem dX1_binOf_13 : decode cX1_binOf 13 = .ok (.invokestatic 94, 3) := by decide +kernel
theorem dX1_binOf_16 : decode cX1_binOf 16 = .ok (.ireturn, 1) := by decide +kernel
theorem dX1_lost_0 : decode cX1_lost 0 = .ok (.aload_n 0, 1) := by decide +kernel
theorem dX1_lost_1 : decode cX1_lost 1 = .ok (.getfield 10, 3) := by decide +kernel
theorem dX1_lost_4 : decode cX1_lost 4 = .ok (.getfield 98, 3) := by decide +kernel
theorem dX1_lost_7 : decode cX1_lost 7 = .ok (.ireturn, 1) := by decide +kernel
set_option maxRecDepth 20000 in
theorem ggX1_marblesIn_X1_needHopper : GoodIn wsX1_marblesIn wsX1_needHopper := goodIn_ca (goodIn_r _ [6, 7, 8] (by decide +kernel) (by decide +kernel)) (goodIn_sub (fun _ h => List.mem_cons_of_mem _ (List.mem_append_right _ h)) (by decide +kernel))
set_option maxRecDepth 20000 in
theorem gX1_marblesIn_X1_needHopper : GoodIn wsX1_marblesIn (va_wsS RX1 57 yX1_needHopper wsX1_needHopper) := goodIn_app (goodIn_of _ (by decide +kernel)) ggX1_marblesIn_X1_needHopper
set_option maxRecDepth 20000 in
theorem ggX1_marblesIn_X1_cell : GoodIn wsX1_marblesIn wsX1_cell := goodIn_r _ [11] (by decide +kernel) (by decide +kernel)
set_option maxRecDepth 20000 in
theorem gX1_marblesIn_X1_cell : GoodIn wsX1_marblesIn (va_wsS RX1 94 yX1_cell wsX1_cell) := goodIn_app (goodIn_of _ (by decide +kernel)) ggX1_marblesIn_X1_cell
theorem dX1_marblesIn_0 : decode cX1_marblesIn 0 = .ok (.iload_n 1, 1) := by decide +kernel
theorem dX1_marblesIn_1 : decode cX1_marblesIn 1 = .ok (.invokestatic 57, 3) := by decide +kernel
theorem dX1_marblesIn_4 : decode cX1_marblesIn 4 = .ok (.aload_n 0, 1) := by decide +kernel
theorem dX1_marblesIn_5 : decode cX1_marblesIn 5 = .ok (.getfield 10, 3) := by decide +kernel
theorem dX1_marblesIn_8 : decode cX1_marblesIn 8 = .ok (.getfield 101, 3) := by decide +kernel
theorem dX1_marblesIn_11 : decode cX1_marblesIn 11 = .ok (.iload_n 1, 1) := by decide +kernel
theorem dX1_marblesIn_12 : decode cX1_marblesIn 12 = .ok (.invokestatic 94, 3) := by decide +kernel
theorem dX1_marblesIn_15 : decode cX1_marblesIn 15 = .ok (.ireturn, 1) := by decide +kernel
set_option maxRecDepth 20000 in
theorem ggX1_columnOf_X1_needHopper : GoodIn wsX1_columnOf wsX1_needHopper := goodIn_ca (goodIn_r _ [6, 7, 8] (by decide +kernel) (by decide +kernel)) (goodIn_sub (fun _ h => List.mem_cons_of_mem _ (List.mem_append_right _ h)) (by decide +kernel))
set_option maxRecDepth 20000 in
theorem gX1_columnOf_X1_needHopper : GoodIn wsX1_columnOf (va_wsS RX1 57 yX1_needHopper wsX1_needHopper) := goodIn_app (goodIn_of _ (by decide +kernel)) ggX1_columnOf_X1_needHopper
set_option maxRecDepth 20000 in
theorem ggX1_columnOf_X1_cell : GoodIn wsX1_columnOf wsX1_cell := goodIn_r _ [11] (by decide +kernel) (by decide +kernel)
set_option maxRecDepth 20000 in
theorem gX1_columnOf_X1_cell : GoodIn wsX1_columnOf (va_wsS RX1 94 yX1_cell wsX1_cell) := goodIn_app (goodIn_of _ (by decide +kernel)) ggX1_columnOf_X1_cell
theorem dX1_columnOf_0 : decode cX1_columnOf 0 = .ok (.iload_n 1, 1) := by decide +kernel
theorem dX1_columnOf_1 : decode cX1_columnOf 1 = .ok (.invokestatic 57, 3) := by decide +kernel
theorem dX1_columnOf_4 : decode cX1_columnOf 4 = .ok (.aload_n 0, 1) := by decide +kernel
theorem dX1_columnOf_5 : decode cX1_columnOf 5 = .ok (.getfield 10, 3) := by decide +kernel
theorem dX1_columnOf_8 : decode cX1_columnOf 8 = .ok (.getfield 104, 3) := by decide +kernel
theorem dX1_columnOf_11 : decode cX1_columnOf 11 = .ok (.iload_n 1, 1) := by decide +kernel
theorem dX1_columnOf_12 : decode cX1_columnOf 12 = .ok (.invokestatic 94, 3) := by decide +kernel
theorem dX1_columnOf_15 : decode cX1_columnOf 15 = .ok (.ireturn, 1) := by decide +kernel
set_option maxRecDepth 20000 in
theorem ggX1_toggles_X0_countToggles : GoodIn wsX1_toggles wsX0_countToggles := goodIn_r _ [6, 7, 10, 11, 12, 13, 14, 15, 16, 17, 18] (by decide +kernel) (by decide +kernel)
set_option maxRecDepth 20000 in
theorem gX1_toggles_X0_countToggles : GoodIn wsX1_toggles (wsV RX1 107 RX0 yX0_countToggles wsX0_countToggles) := goodIn_app (goodIn_of _ (by decide +kernel)) ggX1_toggles_X0_countToggles
theorem dX1_toggles_0 : decode cX1_toggles 0 = .ok (.aload_n 0, 1) := by decide +kernel
theorem dX1_toggles_1 : decode cX1_toggles 1 = .ok (.getfield 10, 3) := by decide +kernel
theorem dX1_toggles_4 : decode cX1_toggles 4 = .ok (.invokevirtual 107, 3) := by decide +kernel
theorem dX1_toggles_7 : decode cX1_toggles 7 = .ok (.ireturn, 1) := by decide +kernel
set_option maxRecDepth 20000 in
theorem ggX1_numberIn_X1_needRow : GoodIn wsX1_numberIn wsX1_needRow := goodIn_ca (goodIn_r _ [6, 7, 8, 1, 9, 10, 11, 12, 13, 14, 36, 37, 38, 39, 40, 41, 42, 43, 44, 45, 46] (by decide +kernel) (by decide +kernel)) (goodIn_sub (fun _ h => List.mem_cons_of_mem _ (List.mem_append_right _ h)) (by decide +kernel))
set_option maxRecDepth 20000 in
theorem gX1_numberIn_X1_needRow : GoodIn wsX1_numberIn (wsV RX1 110 RX1 yX1_needRow wsX1_needRow) := goodIn_app (goodIn_of _ (by decide +kernel)) ggX1_numberIn_X1_needRow
set_option maxRecDepth 20000 in
theorem ggX1_numberIn_X0_numberToldBy : GoodIn wsX1_numberIn wsX0_numberToldBy := goodIn_r _ [18, 19, 20, 21, 22, 12, 23, 24, 25, 26, 27, 28, 29, 5, 30, 31, 32, 33, 34, 35, 38, 39, 40, 41, 42, 43, 44, 45, 46] (by decide +kernel) (by decide +kernel)
set_option maxRecDepth 20000 in
theorem gX1_numberIn_X0_numberToldBy : GoodIn wsX1_numberIn (wsV RX1 113 RX0 yX0_numberToldBy wsX0_numberToldBy) := goodIn_app (goodIn_of _ (by decide +kernel)) ggX1_numberIn_X0_numberToldBy
theorem dX1_numberIn_0 : decode cX1_numberIn 0 = .ok (.aload_n 0, 1) := by decide +kernel
theorem dX1_numberIn_1 : decode cX1_numberIn 1 = .ok (.iload_n 1, 1) := by decide +kernel
theorem dX1_numberIn_2 : decode cX1_numberIn 2 = .ok (.invokevirtual 110, 3) := by decide +kernel
theorem dX1_numberIn_5 : decode cX1_numberIn 5 = .ok (.aload_n 0, 1) := by decide +kernel
theorem dX1_numberIn_6 : decode cX1_numberIn 6 = .ok (.getfield 10, 3) := by decide +kernel
theorem dX1_numberIn_9 : decode cX1_numberIn 9 = .ok (.iload_n 1, 1) := by decide +kernel
theorem dX1_numberIn_10 : decode cX1_numberIn 10 = .ok (.invokevirtual 113, 3) := by decide +kernel
theorem dX1_numberIn_13 : decode cX1_numberIn 13 = .ok (.ireturn, 1) := by decide +kernel
set_option maxRecDepth 20000 in
theorem ggX1_wouldLand_X1_needColumn : GoodIn wsX1_wouldLand wsX1_needColumn := goodIn_ca (goodIn_r _ [7, 8, 9, 2, 10, 11, 12, 13, 14, 15, 52, 53, 54, 55, 56, 57, 58, 59, 60, 61, 62] (by decide +kernel) (by decide +kernel)) (goodIn_sub (fun _ h => List.mem_cons_of_mem _ (List.mem_append_right _ h)) (by decide +kernel))
set_option maxRecDepth 20000 in
theorem gX1_wouldLand_X1_needColumn : GoodIn wsX1_wouldLand (wsV RX1 60 RX1 yX1_needColumn wsX1_needColumn) := goodIn_app (goodIn_of _ (by decide +kernel)) ggX1_wouldLand_X1_needColumn
set_option maxRecDepth 20000 in
theorem ggX1_wouldLand_X0_becomeLike : GoodIn wsX1_wouldLand wsX0_becomeLike := goodIn_r _ [19, 15, 20, 21, 22, 23, 24, 25, 26, 27, 28, 6, 29, 30, 31, 32, 54, 55, 56, 57, 58, 59, 60, 61, 62] (by decide +kernel) (by decide +kernel)
set_option maxRecDepth 20000 in
theorem gX1_wouldLand_X0_becomeLike : GoodIn wsX1_wouldLand (wsV RX1 116 RX0 yX0_becomeLike wsX0_becomeLike) := goodIn_app (goodIn_of _ (by decide +kernel)) ggX1_wouldLand_X0_becomeLike
set_option maxRecDepth 20000 in
theorem ggX1_wouldLand_X0_letFall : GoodIn wsX1_wouldLand wsX0_letFall := goodIn_r _ [36, 20, 21, 25, 37, 38, 39, 13, 40, 41, 42, 43, 44, 15, 45, 46, 47, 48, 22, 24, 23, 49, 6, 50, 31, 32, 51, 11, 12, 14, 54, 55, 56, 57, 58, 59, 60, 61, 62] (by decide +kernel) (by decide +kernel)
set_option maxRecDepth 20000 in
theorem gX1_wouldLand_X0_letFall : GoodIn wsX1_wouldLand (wsV RX1 67 RX0 yX0_letFall wsX0_letFall) := goodIn_app (goodIn_of _ (by decide +kernel)) ggX1_wouldLand_X0_letFall
theorem dX1_wouldLand_0 : decode cX1_wouldLand 0 = .ok (.aload_n 0, 1) := by decide +kernel
theorem dX1_wouldLand_1 : decode cX1_wouldLand 1 = .ok (.iload_n 1, 1) := by decide +kernel
theorem dX1_wouldLand_2 : decode cX1_wouldLand 2 = .ok (.invokevirtual 60, 3) := by decide +kernel
theorem dX1_wouldLand_5 : decode cX1_wouldLand 5 = .ok (.aload_n 0, 1) := by decide +kernel
theorem dX1_wouldLand_6 : decode cX1_wouldLand 6 = .ok (.getfield 16, 3) := by decide +kernel
theorem dX1_wouldLand_9 : decode cX1_wouldLand 9 = .ok (.aload_n 0, 1) := by decide +kernel
theorem dX1_wouldLand_10 : decode cX1_wouldLand 10 = .ok (.getfield 10, 3) := by decide +kernel
theorem dX1_wouldLand_13 : decode cX1_wouldLand 13 = .ok (.invokevirtual 116, 3) := by decide +kernel
theorem dX1_wouldLand_16 : decode cX1_wouldLand 16 = .ok (.aload_n 0, 1) := by decide +kernel
theorem dX1_wouldLand_17 : decode cX1_wouldLand 17 = .ok (.getfield 16, 3) := by decide +kernel
theorem dX1_wouldLand_20 : decode cX1_wouldLand 20 = .ok (.iload_n 1, 1) := by decide +kernel
theorem dX1_wouldLand_21 : decode cX1_wouldLand 21 = .ok (.invokevirtual 67, 3) := by decide +kernel
theorem dX1_wouldLand_24 : decode cX1_wouldLand 24 = .ok (.ireturn, 1) := by decide +kernel
set_option maxRecDepth 20000 in
theorem ggX1_wouldBeIn_X1_needColumn : GoodIn wsX1_wouldBeIn wsX1_needColumn := goodIn_ca (goodIn_r _ [7, 8, 9, 2, 10, 11, 12, 13, 14, 15, 56, 57, 58, 59, 60, 61, 62, 63, 64, 65, 66] (by decide +kernel) (by decide +kernel)) (goodIn_sub (fun _ h => List.mem_cons_of_mem _ (List.mem_append_right _ h)) (by decide +kernel))
set_option maxRecDepth 20000 in
theorem gX1_wouldBeIn_X1_needColumn : GoodIn wsX1_wouldBeIn (wsV RX1 60 RX1 yX1_needColumn wsX1_needColumn) := goodIn_app (goodIn_of _ (by decide +kernel)) ggX1_wouldBeIn_X1_needColumn
set_option maxRecDepth 20000 in
theorem ggX1_wouldBeIn_X1_needRow : GoodIn wsX1_wouldBeIn wsX1_needRow := goodIn_ca (goodIn_r _ [19, 8, 9, 2, 20, 21, 22, 13, 23, 24, 56, 57, 58, 59, 60, 61, 62, 63, 64, 65, 66] (by decide +kernel) (by decide +kernel)) (goodIn_sub (fun _ h => List.mem_cons_of_mem _ (List.mem_append_right _ h)) (by decide +kernel))
set_option maxRecDepth 20000 in
theorem gX1_wouldBeIn_X1_needRow : GoodIn wsX1_wouldBeIn (wsV RX1 110 RX1 yX1_needRow wsX1_needRow) := goodIn_app (goodIn_of _ (by decide +kernel)) ggX1_wouldBeIn_X1_needRow
set_option maxRecDepth 20000 in
theorem ggX1_wouldBeIn_X0_becomeLike : GoodIn wsX1_wouldBeIn wsX0_becomeLike := goodIn_r _ [28, 15, 24, 29, 30, 31, 32, 33, 34, 35, 36, 6, 37, 38, 39, 40, 58, 59, 60, 61, 62, 63, 64, 65, 66] (by decide +kernel) (by decide +kernel)
set_option maxRecDepth 20000 in
theorem gX1_wouldBeIn_X0_becomeLike : GoodIn wsX1_wouldBeIn (wsV RX1 116 RX0 yX0_becomeLike wsX0_becomeLike) := goodIn_app (goodIn_of _ (by decide +kernel)) ggX1_wouldBeIn_X0_becomeLike
set_option maxRecDepth 20000 in
theorem ggX1_wouldBeIn_X0_fallTo : GoodIn wsX1_wouldBeIn wsX0_fallTo := goodIn_r _ [44, 45, 46, 47, 13, 48, 15, 49, 50, 51, 52, 30, 32, 31, 53, 6, 54, 39, 40, 55, 11, 12, 14, 58, 59, 60, 61, 62, 63, 64, 65, 66] (by decide +kernel) (by decide +kernel)
set_option maxRecDepth 20000 in
theorem gX1_wouldBeIn_X0_fallTo : GoodIn wsX1_wouldBeIn (wsV RX1 120 RX0 yX0_fallTo wsX0_fallTo) := goodIn_app (goodIn_of _ (by decide +kernel)) ggX1_wouldBeIn_X0_fallTo
theorem dX1_wouldBeIn_0 : decode cX1_wouldBeIn 0 = .ok (.aload_n 0, 1) := by decide +kernel
theorem dX1_wouldBeIn_1 : decode cX1_wouldBeIn 1 = .ok (.iload_n 1, 1) := by decide +kernel
theorem dX1_wouldBeIn_2 : decode cX1_wouldBeIn 2 = .ok (.invokevirtual 60, 3) := by decide +kernel
theorem dX1_wouldBeIn_5 : decode cX1_wouldBeIn 5 = .ok (.aload_n 0, 1) := by decide +kernel
theorem dX1_wouldBeIn_6 : decode cX1_wouldBeIn 6 = .ok (.iload_n 2, 1) := by decide +kernel
theorem dX1_wouldBeIn_7 : decode cX1_wouldBeIn 7 = .ok (.invokevirtual 110, 3) := by decide +kernel
theorem dX1_wouldBeIn_10 : decode cX1_wouldBeIn 10 = .ok (.aload_n 0, 1) := by decide +kernel
theorem dX1_wouldBeIn_11 : decode cX1_wouldBeIn 11 = .ok (.getfield 16, 3) := by decide +kernel
theorem dX1_wouldBeIn_14 : decode cX1_wouldBeIn 14 = .ok (.aload_n 0, 1) := by decide +kernel
theorem dX1_wouldBeIn_15 : decode cX1_wouldBeIn 15 = .ok (.getfield 10, 3) := by decide +kernel
theorem dX1_wouldBeIn_18 : decode cX1_wouldBeIn 18 = .ok (.invokevirtual 116, 3) := by decide +kernel
theorem dX1_wouldBeIn_21 : decode cX1_wouldBeIn 21 = .ok (.aload_n 0, 1) := by decide +kernel
theorem dX1_wouldBeIn_22 : decode cX1_wouldBeIn 22 = .ok (.getfield 16, 3) := by decide +kernel
theorem dX1_wouldBeIn_25 : decode cX1_wouldBeIn 25 = .ok (.iload_n 1, 1) := by decide +kernel
theorem dX1_wouldBeIn_26 : decode cX1_wouldBeIn 26 = .ok (.iload_n 2, 1) := by decide +kernel
theorem dX1_wouldBeIn_27 : decode cX1_wouldBeIn 27 = .ok (.invokevirtual 120, 3) := by decide +kernel
theorem dX1_wouldBeIn_30 : decode cX1_wouldBeIn 30 = .ok (.ireturn, 1) := by decide +kernel
set_option maxRecDepth 20000 in
theorem ggX1_wouldTurn_X1_needColumn : GoodIn wsX1_wouldTurn wsX1_needColumn := goodIn_ca (goodIn_r _ [7, 8, 9, 2, 10, 11, 12, 13, 14, 15, 64, 65, 66, 67, 68, 69, 70, 71, 72, 73, 74] (by decide +kernel) (by decide +kernel)) (goodIn_sub (fun _ h => List.mem_cons_of_mem _ (List.mem_append_right _ h)) (by decide +kernel))
set_option maxRecDepth 20000 in
theorem gX1_wouldTurn_X1_needColumn : GoodIn wsX1_wouldTurn (wsV RX1 60 RX1 yX1_needColumn wsX1_needColumn) := goodIn_app (goodIn_of _ (by decide +kernel)) ggX1_wouldTurn_X1_needColumn
set_option maxRecDepth 20000 in
theorem ggX1_wouldTurn_X0_becomeLike : GoodIn wsX1_wouldTurn wsX0_becomeLike := goodIn_r _ [19, 15, 20, 21, 22, 23, 24, 25, 26, 27, 28, 6, 29, 30, 31, 32, 66, 67, 68, 69, 70, 71, 72, 73, 74] (by decide +kernel) (by decide +kernel)
set_option maxRecDepth 20000 in
theorem gX1_wouldTurn_X0_becomeLike : GoodIn wsX1_wouldTurn (wsV RX1 116 RX0 yX0_becomeLike wsX0_becomeLike) := goodIn_app (goodIn_of _ (by decide +kernel)) ggX1_wouldTurn_X0_becomeLike
set_option maxRecDepth 20000 in
theorem ggX1_wouldTurn_X0_letFall : GoodIn wsX1_wouldTurn wsX0_letFall := goodIn_r _ [36, 20, 21, 25, 37, 38, 39, 13, 40, 41, 42, 43, 44, 15, 45, 46, 47, 48, 22, 24, 23, 49, 6, 50, 31, 32, 51, 11, 12, 14, 66, 67, 68, 69, 70, 71, 72, 73, 74] (by decide +kernel) (by decide +kernel)
set_option maxRecDepth 20000 in
theorem gX1_wouldTurn_X0_letFall : GoodIn wsX1_wouldTurn (wsV RX1 67 RX0 yX0_letFall wsX0_letFall) := goodIn_app (goodIn_of _ (by decide +kernel)) ggX1_wouldTurn_X0_letFall
set_option maxRecDepth 20000 in
theorem ggX1_wouldTurn_X0_togglesUnlike : GoodIn wsX1_wouldTurn wsX0_togglesUnlike := goodIn_r _ [55, 22, 56, 57, 58, 13, 59, 24, 60, 61, 62, 63, 49, 6, 50, 66, 67, 68, 69, 70, 71, 72, 73, 74] (by decide +kernel) (by decide +kernel)
set_option maxRecDepth 20000 in
theorem gX1_wouldTurn_X0_togglesUnlike : GoodIn wsX1_wouldTurn (wsV RX1 123 RX0 yX0_togglesUnlike wsX0_togglesUnlike) := goodIn_app (goodIn_of _ (by decide +kernel)) ggX1_wouldTurn_X0_togglesUnlike
theorem dX1_wouldTurn_0 : decode cX1_wouldTurn 0 = .ok (.aload_n 0, 1) := by decide +kernel
theorem dX1_wouldTurn_1 : decode cX1_wouldTurn 1 = .ok (.iload_n 1, 1) := by decide +kernel
theorem dX1_wouldTurn_2 : decode cX1_wouldTurn 2 = .ok (.invokevirtual 60, 3) := by decide +kernel
theorem dX1_wouldTurn_5 : decode cX1_wouldTurn 5 = .ok (.aload_n 0, 1) := by decide +kernel
theorem dX1_wouldTurn_6 : decode cX1_wouldTurn 6 = .ok (.getfield 16, 3) := by decide +kernel
theorem dX1_wouldTurn_9 : decode cX1_wouldTurn 9 = .ok (.aload_n 0, 1) := by decide +kernel
theorem dX1_wouldTurn_10 : decode cX1_wouldTurn 10 = .ok (.getfield 10, 3) := by decide +kernel
theorem dX1_wouldTurn_13 : decode cX1_wouldTurn 13 = .ok (.invokevirtual 116, 3) := by decide +kernel
theorem dX1_wouldTurn_16 : decode cX1_wouldTurn 16 = .ok (.aload_n 0, 1) := by decide +kernel
theorem dX1_wouldTurn_17 : decode cX1_wouldTurn 17 = .ok (.getfield 16, 3) := by decide +kernel
theorem dX1_wouldTurn_20 : decode cX1_wouldTurn 20 = .ok (.iload_n 1, 1) := by decide +kernel
theorem dX1_wouldTurn_21 : decode cX1_wouldTurn 21 = .ok (.invokevirtual 67, 3) := by decide +kernel
theorem dX1_wouldTurn_24 : decode cX1_wouldTurn 24 = .ok (.pop, 1) := by decide +kernel
theorem dX1_wouldTurn_25 : decode cX1_wouldTurn 25 = .ok (.aload_n 0, 1) := by decide +kernel
theorem dX1_wouldTurn_26 : decode cX1_wouldTurn 26 = .ok (.getfield 16, 3) := by decide +kernel
theorem dX1_wouldTurn_29 : decode cX1_wouldTurn 29 = .ok (.aload_n 0, 1) := by decide +kernel
theorem dX1_wouldTurn_30 : decode cX1_wouldTurn 30 = .ok (.getfield 10, 3) := by decide +kernel
theorem dX1_wouldTurn_33 : decode cX1_wouldTurn 33 = .ok (.invokevirtual 123, 3) := by decide +kernel
theorem dX1_wouldTurn_36 : decode cX1_wouldTurn 36 = .ok (.ireturn, 1) := by decide +kernel
set_option maxRecDepth 20000 in
theorem ggX1_lastLands_X1_needColumn : GoodIn wsX1_lastLands wsX1_needColumn := goodIn_ca (goodIn_r _ [7, 8, 9, 2, 10, 11, 12, 13, 14, 15, 57, 58, 59, 60, 61, 62, 63, 64, 65, 66, 67] (by decide +kernel) (by decide +kernel)) (goodIn_sub (fun _ h => List.mem_cons_of_mem _ (List.mem_append_left _ (List.mem_append_right _ h))) (by decide +kernel))
set_option maxRecDepth 20000 in
theorem gX1_lastLands_X1_needColumn : GoodIn wsX1_lastLands (wsV RX1 60 RX1 yX1_needColumn wsX1_needColumn) := goodIn_app (goodIn_of _ (by decide +kernel)) ggX1_lastLands_X1_needColumn
set_option maxRecDepth 20000 in
theorem ggX1_lastLands_X1_needWithin : GoodIn wsX1_lastLands wsX1_needWithin := goodIn_ca (goodIn_r _ [18, 19, 20] (by decide +kernel) (by decide +kernel)) (goodIn_sub (fun _ h => List.mem_cons_of_mem _ (List.mem_append_right _ h)) (by decide +kernel))
set_option maxRecDepth 20000 in
theorem gX1_lastLands_X1_needWithin : GoodIn wsX1_lastLands (va_wsS RX1 19 yX1_needWithin wsX1_needWithin) := goodIn_app (goodIn_of _ (by decide +kernel)) ggX1_lastLands_X1_needWithin
set_option maxRecDepth 20000 in
theorem ggX1_lastLands_X0_becomeLike : GoodIn wsX1_lastLands wsX0_becomeLike := goodIn_r _ [24, 15, 25, 26, 27, 28, 29, 30, 31, 32, 33, 6, 34, 35, 36, 37, 59, 60, 61, 62, 63, 64, 65, 66, 67] (by decide +kernel) (by decide +kernel)
set_option maxRecDepth 20000 in
theorem gX1_lastLands_X0_becomeLike : GoodIn wsX1_lastLands (wsV RX1 116 RX0 yX0_becomeLike wsX0_becomeLike) := goodIn_app (goodIn_of _ (by decide +kernel)) ggX1_lastLands_X0_becomeLike
set_option maxRecDepth 20000 in
theorem ggX1_lastLands_X0_letFall : GoodIn wsX1_lastLands wsX0_letFall := goodIn_r _ [41, 25, 26, 30, 42, 43, 44, 13, 45, 46, 47, 48, 49, 15, 50, 51, 52, 53, 27, 29, 28, 54, 6, 55, 36, 37, 56, 11, 12, 14, 59, 60, 61, 62, 63, 64, 65, 66, 67] (by decide +kernel) (by decide +kernel)
set_option maxRecDepth 20000 in
theorem gX1_lastLands_X0_letFall : GoodIn wsX1_lastLands (wsV RX1 67 RX0 yX0_letFall wsX0_letFall) := goodIn_app (goodIn_of _ (by decide +kernel)) ggX1_lastLands_X0_letFall
theorem dX1_lastLands_0 : decode cX1_lastLands 0 = .ok (.aload_n 0, 1) := by decide +kernel
theorem dX1_lastLands_1 : decode cX1_lastLands 1 = .ok (.iload_n 1, 1) := by decide +kernel
theorem dX1_lastLands_2 : decode cX1_lastLands 2 = .ok (.invokevirtual 60, 3) := by decide +kernel
theorem dX1_lastLands_5 : decode cX1_lastLands 5 = .ok (.iload_n 2, 1) := by decide +kernel
theorem dX1_lastLands_6 : decode cX1_lastLands 6 = .ok (.iconst 1, 1) := by decide +kernel
theorem dX1_lastLands_7 : decode cX1_lastLands 7 = .ok (.bipush 60, 2) := by decide +kernel
theorem dX1_lastLands_9 : decode cX1_lastLands 9 = .ok (.invokestatic 19, 3) := by decide +kernel
theorem dX1_lastLands_12 : decode cX1_lastLands 12 = .ok (.aload_n 0, 1) := by decide +kernel
theorem dX1_lastLands_13 : decode cX1_lastLands 13 = .ok (.getfield 16, 3) := by decide +kernel
theorem dX1_lastLands_16 : decode cX1_lastLands 16 = .ok (.aload_n 0, 1) := by decide +kernel
theorem dX1_lastLands_17 : decode cX1_lastLands 17 = .ok (.getfield 10, 3) := by decide +kernel
theorem dX1_lastLands_20 : decode cX1_lastLands 20 = .ok (.invokevirtual 116, 3) := by decide +kernel
theorem dX1_lastLands_23 : decode cX1_lastLands 23 = .ok (.iconst (-1), 1) := by decide +kernel
theorem dX1_lastLands_24 : decode cX1_lastLands 24 = .ok (.istore_n 3, 1) := by decide +kernel
theorem dX1_lastLands_25 : decode cX1_lastLands 25 = .ok (.iconst 0, 1) := by decide +kernel
theorem dX1_lastLands_26 : decode cX1_lastLands 26 = .ok (.istore 4, 2) := by decide +kernel
theorem dX1_lastLands_28 : decode cX1_lastLands 28 = .ok (.iload 4, 2) := by decide +kernel
theorem dX1_lastLands_30 : decode cX1_lastLands 30 = .ok (.iload_n 2, 1) := by decide +kernel
theorem dX1_lastLands_31 : decode cX1_lastLands 31 = .ok (.if_icmp .ge 18, 3) := by decide +kernel
theorem dX1_lastLands_34 : decode cX1_lastLands 34 = .ok (.aload_n 0, 1) := by decide +kernel
theorem dX1_lastLands_35 : decode cX1_lastLands 35 = .ok (.getfield 16, 3) := by decide +kernel
theorem dX1_lastLands_38 : decode cX1_lastLands 38 = .ok (.iload_n 1, 1) := by decide +kernel
theorem dX1_lastLands_39 : decode cX1_lastLands 39 = .ok (.invokevirtual 67, 3) := by decide +kernel
theorem dX1_lastLands_42 : decode cX1_lastLands 42 = .ok (.istore_n 3, 1) := by decide +kernel
theorem dX1_lastLands_43 : decode cX1_lastLands 43 = .ok (.iinc 4 1, 3) := by decide +kernel
theorem dX1_lastLands_46 : decode cX1_lastLands 46 = .ok (.goto (-18), 3) := by decide +kernel
theorem dX1_lastLands_49 : decode cX1_lastLands 49 = .ok (.iload_n 3, 1) := by decide +kernel
theorem dX1_lastLands_50 : decode cX1_lastLands 50 = .ok (.ireturn, 1) := by decide +kernel
set_option maxRecDepth 20000 in
theorem ggX1_asBeforeIn_X1_needColumn : GoodIn wsX1_asBeforeIn wsX1_needColumn := goodIn_ca (goodIn_r _ [7, 8, 9, 2, 10, 11, 12, 13, 14, 15, 56, 57, 58, 59, 60, 61, 62, 63, 64, 65, 66] (by decide +kernel) (by decide +kernel)) (goodIn_sub (fun _ h => List.mem_cons_of_mem _ (List.mem_append_right _ h)) (by decide +kernel))
set_option maxRecDepth 20000 in
theorem gX1_asBeforeIn_X1_needColumn : GoodIn wsX1_asBeforeIn (wsV RX1 60 RX1 yX1_needColumn wsX1_needColumn) := goodIn_app (goodIn_of _ (by decide +kernel)) ggX1_asBeforeIn_X1_needColumn
set_option maxRecDepth 20000 in
theorem ggX1_asBeforeIn_X0_becomeLike : GoodIn wsX1_asBeforeIn wsX0_becomeLike := goodIn_r _ [19, 15, 20, 21, 22, 23, 24, 25, 26, 27, 28, 6, 29, 30, 31, 32, 58, 59, 60, 61, 62, 63, 64, 65, 66] (by decide +kernel) (by decide +kernel)
set_option maxRecDepth 20000 in
theorem gX1_asBeforeIn_X0_becomeLike : GoodIn wsX1_asBeforeIn (wsV RX1 116 RX0 yX0_becomeLike wsX0_becomeLike) := goodIn_app (goodIn_of _ (by decide +kernel)) ggX1_asBeforeIn_X0_becomeLike
set_option maxRecDepth 20000 in
theorem ggX1_asBeforeIn_X0_letFall : GoodIn wsX1_asBeforeIn wsX0_letFall := goodIn_r _ [36, 20, 21, 25, 37, 38, 39, 13, 40, 41, 42, 43, 44, 15, 45, 46, 47, 48, 22, 24, 23, 49, 6, 50, 31, 32, 51, 11, 12, 14, 58, 59, 60, 61, 62, 63, 64, 65, 66] (by decide +kernel) (by decide +kernel)
set_option maxRecDepth 20000 in
theorem gX1_asBeforeIn_X0_letFall : GoodIn wsX1_asBeforeIn (wsV RX1 67 RX0 yX0_letFall wsX0_letFall) := goodIn_app (goodIn_of _ (by decide +kernel)) ggX1_asBeforeIn_X0_letFall
set_option maxRecDepth 20000 in
theorem ggX1_asBeforeIn_X0_hasStatesOf : GoodIn wsX1_asBeforeIn wsX0_hasStatesOf := goodIn_r _ [55, 24, 49, 6, 50, 58, 59, 60, 61, 62, 63, 64, 65, 66] (by decide +kernel) (by decide +kernel)
set_option maxRecDepth 20000 in
theorem gX1_asBeforeIn_X0_hasStatesOf : GoodIn wsX1_asBeforeIn (wsV RX1 127 RX0 yX0_hasStatesOf wsX0_hasStatesOf) := goodIn_app (goodIn_of _ (by decide +kernel)) ggX1_asBeforeIn_X0_hasStatesOf
theorem dX1_asBeforeIn_0 : decode cX1_asBeforeIn 0 = .ok (.aload_n 0, 1) := by decide +kernel
theorem dX1_asBeforeIn_1 : decode cX1_asBeforeIn 1 = .ok (.iload_n 1, 1) := by decide +kernel
theorem dX1_asBeforeIn_2 : decode cX1_asBeforeIn 2 = .ok (.invokevirtual 60, 3) := by decide +kernel
theorem dX1_asBeforeIn_5 : decode cX1_asBeforeIn 5 = .ok (.aload_n 0, 1) := by decide +kernel
theorem dX1_asBeforeIn_6 : decode cX1_asBeforeIn 6 = .ok (.getfield 16, 3) := by decide +kernel
theorem dX1_asBeforeIn_9 : decode cX1_asBeforeIn 9 = .ok (.aload_n 0, 1) := by decide +kernel
theorem dX1_asBeforeIn_10 : decode cX1_asBeforeIn 10 = .ok (.getfield 10, 3) := by decide +kernel
theorem dX1_asBeforeIn_13 : decode cX1_asBeforeIn 13 = .ok (.invokevirtual 116, 3) := by decide +kernel
theorem dX1_asBeforeIn_16 : decode cX1_asBeforeIn 16 = .ok (.iconst 1, 1) := by decide +kernel
theorem dX1_asBeforeIn_17 : decode cX1_asBeforeIn 17 = .ok (.istore_n 2, 1) := by decide +kernel
theorem dX1_asBeforeIn_18 : decode cX1_asBeforeIn 18 = .ok (.iload_n 2, 1) := by decide +kernel
theorem dX1_asBeforeIn_19 : decode cX1_asBeforeIn 19 = .ok (.bipush 60, 2) := by decide +kernel
theorem dX1_asBeforeIn_21 : decode cX1_asBeforeIn 21 = .ok (.if_icmp .gt 34, 3) := by decide +kernel
theorem dX1_asBeforeIn_24 : decode cX1_asBeforeIn 24 = .ok (.aload_n 0, 1) := by decide +kernel
theorem dX1_asBeforeIn_25 : decode cX1_asBeforeIn 25 = .ok (.getfield 16, 3) := by decide +kernel
theorem dX1_asBeforeIn_28 : decode cX1_asBeforeIn 28 = .ok (.iload_n 1, 1) := by decide +kernel
theorem dX1_asBeforeIn_29 : decode cX1_asBeforeIn 29 = .ok (.invokevirtual 67, 3) := by decide +kernel
theorem dX1_asBeforeIn_32 : decode cX1_asBeforeIn 32 = .ok (.pop, 1) := by decide +kernel
theorem dX1_asBeforeIn_33 : decode cX1_asBeforeIn 33 = .ok (.aload_n 0, 1) := by decide +kernel
theorem dX1_asBeforeIn_34 : decode cX1_asBeforeIn 34 = .ok (.getfield 16, 3) := by decide +kernel
theorem dX1_asBeforeIn_37 : decode cX1_asBeforeIn 37 = .ok (.aload_n 0, 1) := by decide +kernel
theorem dX1_asBeforeIn_38 : decode cX1_asBeforeIn 38 = .ok (.getfield 10, 3) := by decide +kernel
theorem dX1_asBeforeIn_41 : decode cX1_asBeforeIn 41 = .ok (.invokevirtual 127, 3) := by decide +kernel
theorem dX1_asBeforeIn_44 : decode cX1_asBeforeIn 44 = .ok (.ifCond .eq 5, 3) := by decide +kernel
theorem dX1_asBeforeIn_47 : decode cX1_asBeforeIn 47 = .ok (.iload_n 2, 1) := by decide +kernel
theorem dX1_asBeforeIn_48 : decode cX1_asBeforeIn 48 = .ok (.ireturn, 1) := by decide +kernel
theorem dX1_asBeforeIn_49 : decode cX1_asBeforeIn 49 = .ok (.iinc 2 1, 3) := by decide +kernel
theorem dX1_asBeforeIn_52 : decode cX1_asBeforeIn 52 = .ok (.goto (-34), 3) := by decide +kernel
theorem dX1_asBeforeIn_55 : decode cX1_asBeforeIn 55 = .ok (.iconst (-1), 1) := by decide +kernel
theorem dX1_asBeforeIn_56 : decode cX1_asBeforeIn 56 = .ok (.ireturn, 1) := by decide +kernel
set_option maxRecDepth 20000 in
theorem ggX1_wouldRun_X1_needHopper : GoodIn wsX1_wouldRun wsX1_needHopper := goodIn_ca (goodIn_r _ [6, 7, 8] (by decide +kernel) (by decide +kernel)) (goodIn_sub (fun _ h => List.mem_cons_of_mem _ (List.mem_append_right _ h)) (by decide +kernel))
set_option maxRecDepth 20000 in
theorem gX1_wouldRun_X1_needHopper : GoodIn wsX1_wouldRun (va_wsS RX1 57 yX1_needHopper wsX1_needHopper) := goodIn_app (goodIn_of _ (by decide +kernel)) ggX1_wouldRun_X1_needHopper
set_option maxRecDepth 20000 in
theorem ggX1_wouldRun_X0_becomeLike : GoodIn wsX1_wouldRun wsX0_becomeLike := goodIn_r _ [13, 14, 15, 16, 17, 18, 19, 20, 21, 22, 23, 5, 24, 25, 26, 27, 60, 61, 62, 63, 64, 65, 66, 67, 68] (by decide +kernel) (by decide +kernel)
set_option maxRecDepth 20000 in
theorem gX1_wouldRun_X0_becomeLike : GoodIn wsX1_wouldRun (wsV RX1 116 RX0 yX0_becomeLike wsX0_becomeLike) := goodIn_app (goodIn_of _ (by decide +kernel)) ggX1_wouldRun_X0_becomeLike
set_option maxRecDepth 20000 in
theorem ggX1_wouldRun_X0_runFrom : GoodIn wsX1_wouldRun wsX0_runFrom := goodIn_r _ [31, 22, 21, 32, 5, 33, 26, 27, 34, 35, 36, 12, 37, 15, 16, 20, 38, 39, 40, 41, 42, 43, 44, 45, 14, 46, 47, 48, 49, 17, 19, 18, 50, 51, 52, 53, 54, 55, 56, 57, 60, 61, 62, 63, 64, 65, 66, 67, 68] (by decide +kernel) (by decide +kernel)
set_option maxRecDepth 20000 in
theorem gX1_wouldRun_X0_runFrom : GoodIn wsX1_wouldRun (wsV RX1 70 RX0 yX0_runFrom wsX0_runFrom) := goodIn_app (goodIn_of _ (by decide +kernel)) ggX1_wouldRun_X0_runFrom
theorem dX1_wouldRun_0 : decode cX1_wouldRun 0 = .ok (.iload_n 1, 1) := by decide +kernel
theorem dX1_wouldRun_1 : decode cX1_wouldRun 1 = .ok (.invokestatic 57, 3) := by decide +kernel
theorem dX1_wouldRun_4 : decode cX1_wouldRun 4 = .ok (.aload_n 0, 1) := by decide +kernel
theorem dX1_wouldRun_5 : decode cX1_wouldRun 5 = .ok (.getfield 16, 3) := by decide +kernel
theorem dX1_wouldRun_8 : decode cX1_wouldRun 8 = .ok (.aload_n 0, 1) := by decide +kernel
theorem dX1_wouldRun_9 : decode cX1_wouldRun 9 = .ok (.getfield 10, 3) := by decide +kernel
theorem dX1_wouldRun_12 : decode cX1_wouldRun 12 = .ok (.invokevirtual 116, 3) := by decide +kernel
theorem dX1_wouldRun_15 : decode cX1_wouldRun 15 = .ok (.aload_n 0, 1) := by decide +kernel
theorem dX1_wouldRun_16 : decode cX1_wouldRun 16 = .ok (.getfield 16, 3) := by decide +kernel
theorem dX1_wouldRun_19 : decode cX1_wouldRun 19 = .ok (.iload_n 1, 1) := by decide +kernel
theorem dX1_wouldRun_20 : decode cX1_wouldRun 20 = .ok (.bipush 99, 2) := by decide +kernel
theorem dX1_wouldRun_22 : decode cX1_wouldRun 22 = .ok (.invokevirtual 70, 3) := by decide +kernel
theorem dX1_wouldRun_25 : decode cX1_wouldRun 25 = .ok (.ireturn, 1) := by decide +kernel
set_option maxRecDepth 20000 in
theorem ggX1_bestColumn_X1_columns : GoodIn wsX1_bestColumn wsX1_columns := goodIn_r _ [5, 6, 7, 73, 74, 75, 76, 77, 78, 79, 80, 81, 82, 83] (by decide +kernel) (by decide +kernel)
set_option maxRecDepth 20000 in
theorem gX1_bestColumn_X1_columns : GoodIn wsX1_bestColumn (wsV RX1 131 RX1 yX1_columns wsX1_columns) := goodIn_app (goodIn_of _ (by decide +kernel)) ggX1_bestColumn_X1_columns
set_option maxRecDepth 20000 in
theorem ggX1_bestColumn_X1_wouldTurn : GoodIn wsX1_bestColumn wsX1_wouldTurn := goodIn_ca (goodIn_r _ [11, 12, 6, 13, 14, 15, 4, 16, 17, 18, 19, 20, 21, 22, 23, 24, 25, 26, 27, 28, 29, 30, 31, 32, 33, 34, 35, 36, 37, 38, 39, 40, 41, 42, 43, 44, 45, 46, 47, 48, 49, 50, 51, 52, 53, 54, 55, 56, 57, 58, 59, 60, 61, 62, 63, 64, 65, 66, 67, 68, 69, 70, 71, 72, 73, 74, 75, 76, 77, 78, 79, 80, 81, 82, 83] (by decide +kernel) (by decide +kernel)) (goodIn_sub (fun _ h => List.mem_cons_of_mem _ (List.mem_append_right _ h)) (by decide +kernel))
set_option maxRecDepth 20000 in
theorem gX1_bestColumn_X1_wouldTurn : GoodIn wsX1_bestColumn (wsV RX1 134 RX1 yX1_wouldTurn wsX1_wouldTurn) := goodIn_app (goodIn_of _ (by decide +kernel)) ggX1_bestColumn_X1_wouldTurn
theorem dX1_bestColumn_0 : decode cX1_bestColumn 0 = .ok (.iconst 0, 1) := by decide +kernel
theorem dX1_bestColumn_1 : decode cX1_bestColumn 1 = .ok (.istore_n 1, 1) := by decide +kernel
theorem dX1_bestColumn_2 : decode cX1_bestColumn 2 = .ok (.iconst 0, 1) := by decide +kernel
theorem dX1_bestColumn_3 : decode cX1_bestColumn 3 = .ok (.istore_n 2, 1) := by decide +kernel
theorem dX1_bestColumn_4 : decode cX1_bestColumn 4 = .ok (.iconst 0, 1) := by decide +kernel
theorem dX1_bestColumn_5 : decode cX1_bestColumn 5 = .ok (.istore_n 3, 1) := by decide +kernel
theorem dX1_bestColumn_6 : decode cX1_bestColumn 6 = .ok (.iload_n 3, 1) := by decide +kernel
theorem dX1_bestColumn_7 : decode cX1_bestColumn 7 = .ok (.aload_n 0, 1) := by decide +kernel
theorem dX1_bestColumn_8 : decode cX1_bestColumn 8 = .ok (.invokevirtual 131, 3) := by decide +kernel
theorem dX1_bestColumn_11 : decode cX1_bestColumn 11 = .ok (.if_icmp .ge 27, 3) := by decide +kernel
theorem dX1_bestColumn_14 : decode cX1_bestColumn 14 = .ok (.aload_n 0, 1) := by decide +kernel
theorem dX1_bestColumn_15 : decode cX1_bestColumn 15 = .ok (.iload_n 3, 1) := by decide +kernel
theorem dX1_bestColumn_16 : decode cX1_bestColumn 16 = .ok (.invokevirtual 134, 3) := by decide +kernel
theorem dX1_bestColumn_19 : decode cX1_bestColumn 19 = .ok (.istore 4, 2) := by decide +kernel
theorem dX1_bestColumn_21 : decode cX1_bestColumn 21 = .ok (.iload 4, 2) := by decide +kernel
theorem dX1_bestColumn_23 : decode cX1_bestColumn 23 = .ok (.iload_n 2, 1) := by decide +kernel
theorem dX1_bestColumn_24 : decode cX1_bestColumn 24 = .ok (.if_icmp .le 8, 3) := by decide +kernel
theorem dX1_bestColumn_27 : decode cX1_bestColumn 27 = .ok (.iload_n 3, 1) := by decide +kernel
theorem dX1_bestColumn_28 : decode cX1_bestColumn 28 = .ok (.istore_n 1, 1) := by decide +kernel
theorem dX1_bestColumn_29 : decode cX1_bestColumn 29 = .ok (.iload 4, 2) := by decide +kernel
theorem dX1_bestColumn_31 : decode cX1_bestColumn 31 = .ok (.istore_n 2, 1) := by decide +kernel
theorem dX1_bestColumn_32 : decode cX1_bestColumn 32 = .ok (.iinc 3 1, 3) := by decide +kernel
theorem dX1_bestColumn_35 : decode cX1_bestColumn 35 = .ok (.goto (-29), 3) := by decide +kernel
theorem dX1_bestColumn_38 : decode cX1_bestColumn 38 = .ok (.iload_n 1, 1) := by decide +kernel
theorem dX1_bestColumn_39 : decode cX1_bestColumn 39 = .ok (.ireturn, 1) := by decide +kernel
set_option maxRecDepth 20000 in
theorem ggX1_meanInBins_X1_columns : GoodIn wsX1_meanInBins wsX1_columns := goodIn_r _ [6, 1, 7, 14, 15, 16, 17, 18, 19, 20, 21, 22, 23, 24] (by decide +kernel) (by decide +kernel)
set_option maxRecDepth 20000 in
theorem gX1_meanInBins_X1_columns : GoodIn wsX1_meanInBins (wsV RX1 131 RX1 yX1_columns wsX1_columns) := goodIn_app (goodIn_of _ (by decide +kernel)) ggX1_meanInBins_X1_columns
set_option maxRecDepth 20000 in
theorem ggX1_meanInBins_X0_marblesInBins : GoodIn wsX1_meanInBins wsX0_marblesInBins := goodIn_r _ [12, 13, 16, 17, 18, 19, 20, 21, 22, 23, 24] (by decide +kernel) (by decide +kernel)
set_option maxRecDepth 20000 in
theorem gX1_meanInBins_X0_marblesInBins : GoodIn wsX1_meanInBins (wsV RX1 73 RX0 yX0_marblesInBins wsX0_marblesInBins) := goodIn_app (goodIn_of _ (by decide +kernel)) ggX1_meanInBins_X0_marblesInBins
theorem dX1_meanInBins_0 : decode cX1_meanInBins 0 = .ok (.aload_n 0, 1) := by decide +kernel
theorem dX1_meanInBins_1 : decode cX1_meanInBins 1 = .ok (.invokevirtual 131, 3) := by decide +kernel
theorem dX1_meanInBins_4 : decode cX1_meanInBins 4 = .ok (.istore_n 1, 1) := by decide +kernel
theorem dX1_meanInBins_5 : decode cX1_meanInBins 5 = .ok (.iload_n 1, 1) := by decide +kernel
theorem dX1_meanInBins_6 : decode cX1_meanInBins 6 = .ok (.ifCond .ne 7, 3) := by decide +kernel
theorem dX1_meanInBins_9 : decode cX1_meanInBins 9 = .ok (.dconst 0, 1) := by decide +kernel
theorem dX1_meanInBins_10 : decode cX1_meanInBins 10 = .ok (.goto 14, 3) := by decide +kernel
theorem dX1_meanInBins_13 : decode cX1_meanInBins 13 = .ok (.aload_n 0, 1) := by decide +kernel
theorem dX1_meanInBins_14 : decode cX1_meanInBins 14 = .ok (.getfield 10, 3) := by decide +kernel
theorem dX1_meanInBins_17 : decode cX1_meanInBins 17 = .ok (.invokevirtual 73, 3) := by decide +kernel
theorem dX1_meanInBins_20 : decode cX1_meanInBins 20 = .ok (.i2d, 1) := by decide +kernel
theorem dX1_meanInBins_21 : decode cX1_meanInBins 21 = .ok (.iload_n 1, 1) := by decide +kernel
theorem dX1_meanInBins_22 : decode cX1_meanInBins 22 = .ok (.i2d, 1) := by decide +kernel
theorem dX1_meanInBins_23 : decode cX1_meanInBins 23 = .ok (.ddiv, 1) := by decide +kernel
theorem dX1_meanInBins_24 : decode cX1_meanInBins 24 = .ok (.dreturn, 1) := by decide +kernel
set_option maxRecDepth 20000 in
theorem ggX1_digest_X1_columns : GoodIn wsX1_digest wsX1_columns := goodIn_r _ [7, 8, 9, 180, 181, 182, 183, 184, 185, 186, 187, 188, 189, 190] (by decide +kernel) (by decide +kernel)
set_option maxRecDepth 20000 in
theorem gX1_digest_X1_columns : GoodIn wsX1_digest (wsV RX1 131 RX1 yX1_columns wsX1_columns) := goodIn_app (goodIn_of _ (by decide +kernel)) ggX1_digest_X1_columns
set_option maxRecDepth 20000 in
theorem ggX1_digest_X1_rows : GoodIn wsX1_digest wsX1_rows := goodIn_r _ [13, 8, 14, 180, 181, 182, 183, 184, 185, 186, 187, 188, 189, 190] (by decide +kernel) (by decide +kernel)
set_option maxRecDepth 20000 in
theorem gX1_digest_X1_rows : GoodIn wsX1_digest (wsV RX1 141 RX1 yX1_rows wsX1_rows) := goodIn_app (goodIn_of _ (by decide +kernel)) ggX1_digest_X1_rows
set_option maxRecDepth 20000 in
theorem ggX1_digest_X1_lost : GoodIn wsX1_digest wsX1_lost := goodIn_r _ [18, 8, 19, 180, 181, 182, 183, 184, 185, 186, 187, 188, 189, 190] (by decide +kernel) (by decide +kernel)
set_option maxRecDepth 20000 in
theorem gX1_digest_X1_lost : GoodIn wsX1_digest (wsV RX1 144 RX1 yX1_lost wsX1_lost) := goodIn_app (goodIn_of _ (by decide +kernel)) ggX1_digest_X1_lost
set_option maxRecDepth 20000 in
theorem ggX1_digest_X1_toggles : GoodIn wsX1_digest wsX1_toggles := goodIn_r _ [23, 8, 24, 25, 26, 27, 28, 29, 180, 181, 182, 183, 184, 185, 186, 187, 188, 189, 190] (by decide +kernel) (by decide +kernel)
set_option maxRecDepth 20000 in
theorem gX1_digest_X1_toggles : GoodIn wsX1_digest (wsV RX1 147 RX1 yX1_toggles wsX1_toggles) := goodIn_app (goodIn_of _ (by decide +kernel)) ggX1_digest_X1_toggles
set_option maxRecDepth 20000 in
theorem ggX1_digest_X1_bestColumn : GoodIn wsX1_digest wsX1_bestColumn := goodIn_ca (goodIn_r _ [33, 3, 4, 5, 6, 7, 8, 9, 34, 35, 36, 37, 38, 39, 40, 41, 42, 43, 44, 45, 46, 47, 27, 48, 49, 50, 51, 52, 53, 54, 55, 29, 56, 57, 58, 59, 60, 61, 62, 63, 64, 65, 66, 67, 68, 69, 70, 71, 72, 73, 74, 75, 76, 77, 78, 79, 80, 81, 82, 83, 84, 85, 86, 87, 88, 89, 90, 91, 92, 93, 94, 95, 96, 180, 181, 182, 183, 184, 185, 186, 187, 188, 189, 190] (by decide +kernel) (by decide +kernel)) (goodIn_sub (fun _ h => List.mem_cons_of_mem _ (List.mem_append_right _ h)) (by decide +kernel))
set_option maxRecDepth 20000 in
theorem gX1_digest_X1_bestColumn : GoodIn wsX1_digest (wsV RX1 150 RX1 yX1_bestColumn wsX1_bestColumn) := goodIn_app (goodIn_of _ (by decide +kernel)) ggX1_digest_X1_bestColumn
set_option maxRecDepth 20000 in
theorem ggX1_digest_X1_marblesIn : GoodIn wsX1_digest wsX1_marblesIn := goodIn_ca (goodIn_r _ [100, 8, 101, 102, 103, 6, 104, 43, 44, 105, 82, 83, 180, 181, 182, 183, 184, 185, 186, 187, 188, 189, 190] (by decide +kernel) (by decide +kernel)) (goodIn_sub (fun _ h => List.mem_cons_of_mem _ (List.mem_append_right _ h)) (by decide +kernel))
set_option maxRecDepth 20000 in
theorem gX1_digest_X1_marblesIn : GoodIn wsX1_digest (wsV RX1 153 RX1 yX1_marblesIn wsX1_marblesIn) := goodIn_app (goodIn_of _ (by decide +kernel)) ggX1_digest_X1_marblesIn
set_option maxRecDepth 20000 in
theorem ggX1_digest_X1_columnOf : GoodIn wsX1_digest wsX1_columnOf := goodIn_ca (goodIn_r _ [109, 8, 110, 102, 103, 6, 104, 43, 44, 105, 82, 83, 180, 181, 182, 183, 184, 185, 186, 187, 188, 189, 190] (by decide +kernel) (by decide +kernel)) (goodIn_sub (fun _ h => List.mem_cons_of_mem _ (List.mem_append_right _ h)) (by decide +kernel))
set_option maxRecDepth 20000 in
theorem gX1_digest_X1_columnOf : GoodIn wsX1_digest (wsV RX1 156 RX1 yX1_columnOf wsX1_columnOf) := goodIn_app (goodIn_of _ (by decide +kernel)) ggX1_digest_X1_columnOf
set_option maxRecDepth 20000 in
theorem ggX1_digest_X1_wouldRun : GoodIn wsX1_digest wsX1_wouldRun := goodIn_ca (goodIn_r _ [114, 38, 8, 102, 103, 6, 104, 43, 44, 50, 51, 52, 27, 53, 49, 54, 55, 29, 56, 57, 58, 59, 60, 61, 62, 63, 64, 65, 115, 116, 117, 118, 82, 83, 119, 67, 68, 69, 70, 71, 72, 73, 74, 75, 76, 77, 78, 79, 80, 81, 84, 46, 47, 48, 120, 121, 122, 123, 180, 181, 182, 183, 184, 185, 186, 187, 188, 189, 190] (by decide +kernel) (by decide +kernel)) (goodIn_sub (fun _ h => List.mem_cons_of_mem _ (List.mem_append_right _ h)) (by decide +kernel))
set_option maxRecDepth 20000 in
theorem gX1_digest_X1_wouldRun : GoodIn wsX1_digest (wsV RX1 159 RX1 yX1_wouldRun wsX1_wouldRun) := goodIn_app (goodIn_of _ (by decide +kernel)) ggX1_digest_X1_wouldRun
set_option maxRecDepth 20000 in
theorem ggX1_digest_X1_numberIn : GoodIn wsX1_digest wsX1_numberIn := goodIn_ca (goodIn_r _ [127, 8, 128, 129, 130, 6, 131, 43, 44, 132, 133, 134, 27, 135, 54, 136, 137, 138, 139, 49, 74, 75, 76, 77, 93, 94, 95, 96, 29, 82, 83, 89, 90, 91, 92, 57, 180, 181, 182, 183, 184, 185, 186, 187, 188, 189, 190] (by decide +kernel) (by decide +kernel)) (goodIn_sub (fun _ h => List.mem_cons_of_mem _ (List.mem_append_right _ h)) (by decide +kernel))
set_option maxRecDepth 20000 in
theorem gX1_digest_X1_numberIn : GoodIn wsX1_digest (wsV RX1 162 RX1 yX1_numberIn wsX1_numberIn) := goodIn_app (goodIn_of _ (by decide +kernel)) ggX1_digest_X1_numberIn
set_option maxRecDepth 20000 in
theorem ggX1_digest_X1_partAt : GoodIn wsX1_digest wsX1_partAt := goodIn_ca (goodIn_r _ [143, 8, 144, 145, 146, 6, 147, 128, 129, 130, 131, 43, 44, 132, 133, 134, 27, 135, 54, 39, 40, 41, 42, 45, 46, 47, 48, 49, 148, 75, 76, 77, 149, 94, 95, 96, 29, 82, 83, 180, 181, 182, 183, 184, 185, 186, 187, 188, 189, 190] (by decide +kernel) (by decide +kernel)) (goodIn_sub (fun _ h => List.mem_cons_of_mem _ (List.mem_append_right _ h)) (by decide +kernel))
set_option maxRecDepth 20000 in
theorem gX1_digest_X1_partAt : GoodIn wsX1_digest (wsV RX1 165 RX1 yX1_partAt wsX1_partAt) := goodIn_app (goodIn_of _ (by decide +kernel)) ggX1_digest_X1_partAt
set_option maxRecDepth 20000 in
theorem ggX1_digest_X1_leadsRight : GoodIn wsX1_digest wsX1_leadsRight := goodIn_ca (goodIn_r _ [153, 8, 144, 145, 146, 6, 147, 128, 129, 130, 131, 43, 44, 132, 133, 134, 27, 135, 54, 39, 40, 41, 42, 45, 46, 47, 48, 49, 148, 75, 76, 77, 154, 90, 91, 92, 57, 93, 94, 95, 96, 29, 82, 83, 180, 181, 182, 183, 184, 185, 186, 187, 188, 189, 190] (by decide +kernel) (by decide +kernel)) (goodIn_sub (fun _ h => List.mem_cons_of_mem _ (List.mem_append_right _ h)) (by decide +kernel))
set_option maxRecDepth 20000 in
theorem gX1_digest_X1_leadsRight : GoodIn wsX1_digest (wsV RX1 168 RX1 yX1_leadsRight wsX1_leadsRight) := goodIn_app (goodIn_of _ (by decide +kernel)) ggX1_digest_X1_leadsRight
set_option maxRecDepth 20000 in
theorem ggX1_digest_X1_countAt : GoodIn wsX1_digest wsX1_countAt := goodIn_ca (goodIn_r _ [158, 8, 144, 145, 146, 6, 147, 128, 129, 130, 131, 43, 44, 132, 133, 134, 27, 135, 54, 39, 40, 41, 42, 45, 46, 47, 48, 49, 148, 75, 76, 77, 159, 160, 161, 162, 57, 93, 94, 95, 96, 29, 82, 83, 180, 181, 182, 183, 184, 185, 186, 187, 188, 189, 190] (by decide +kernel) (by decide +kernel)) (goodIn_sub (fun _ h => List.mem_cons_of_mem _ (List.mem_append_right _ h)) (by decide +kernel))
set_option maxRecDepth 20000 in
theorem gX1_digest_X1_countAt : GoodIn wsX1_digest (wsV RX1 172 RX1 yX1_countAt wsX1_countAt) := goodIn_app (goodIn_of _ (by decide +kernel)) ggX1_digest_X1_countAt
set_option maxRecDepth 20000 in
theorem ggX1_digest_X1_binOf : GoodIn wsX1_digest wsX1_binOf := goodIn_ca (goodIn_r _ [166, 8, 167, 39, 40, 41, 6, 42, 43, 44, 45, 46, 47, 27, 48, 49, 105, 82, 83, 180, 181, 182, 183, 184, 185, 186, 187, 188, 189, 190] (by decide +kernel) (by decide +kernel)) (goodIn_sub (fun _ h => List.mem_cons_of_mem _ (List.mem_append_right _ h)) (by decide +kernel))
set_option maxRecDepth 20000 in
theorem gX1_digest_X1_binOf : GoodIn wsX1_digest (wsV RX1 175 RX1 yX1_binOf wsX1_binOf) := goodIn_app (goodIn_of _ (by decide +kernel)) ggX1_digest_X1_binOf
set_option maxRecDepth 20000 in
theorem ggX1_digest_X1_wouldLand : GoodIn wsX1_digest wsX1_wouldLand := goodIn_ca (goodIn_r _ [171, 38, 8, 39, 40, 41, 6, 42, 43, 44, 45, 46, 47, 27, 48, 49, 50, 51, 52, 53, 54, 55, 29, 56, 57, 58, 59, 60, 61, 62, 63, 64, 65, 66, 67, 68, 69, 70, 71, 72, 73, 74, 75, 76, 77, 78, 79, 80, 81, 82, 83, 84, 180, 181, 182, 183, 184, 185, 186, 187, 188, 189, 190] (by decide +kernel) (by decide +kernel)) (goodIn_sub (fun _ h => List.mem_cons_of_mem _ (List.mem_append_right _ h)) (by decide +kernel))
set_option maxRecDepth 20000 in
theorem gX1_digest_X1_wouldLand : GoodIn wsX1_digest (wsV RX1 178 RX1 yX1_wouldLand wsX1_wouldLand) := goodIn_app (goodIn_of _ (by decide +kernel)) ggX1_digest_X1_wouldLand
set_option maxRecDepth 20000 in
theorem ggX1_digest_X1_wouldTurn : GoodIn wsX1_digest wsX1_wouldTurn := goodIn_ca (goodIn_r _ [37, 38, 8, 39, 40, 41, 6, 42, 43, 44, 45, 46, 47, 27, 48, 49, 50, 51, 52, 53, 54, 55, 29, 56, 57, 58, 59, 60, 61, 62, 63, 64, 65, 66, 67, 68, 69, 70, 71, 72, 73, 74, 75, 76, 77, 78, 79, 80, 81, 82, 83, 84, 85, 86, 87, 88, 89, 90, 91, 92, 93, 94, 95, 96, 180, 181, 182, 183, 184, 185, 186, 187, 188, 189, 190] (by decide +kernel) (by decide +kernel)) (goodIn_sub (fun _ h => List.mem_cons_of_mem _ (List.mem_append_right _ h)) (by decide +kernel))
set_option maxRecDepth 20000 in
theorem gX1_digest_X1_wouldTurn : GoodIn wsX1_digest (wsV RX1 134 RX1 yX1_wouldTurn wsX1_wouldTurn) := goodIn_app (goodIn_of _ (by decide +kernel)) ggX1_digest_X1_wouldTurn
set_option maxRecDepth 20000 in
theorem ggX1_digest_X1_asBeforeIn : GoodIn wsX1_digest wsX1_asBeforeIn := goodIn_ca (goodIn_r _ [175, 38, 8, 39, 40, 41, 6, 42, 43, 44, 45, 46, 47, 27, 48, 49, 50, 51, 52, 53, 54, 55, 29, 56, 57, 58, 59, 60, 61, 62, 63, 64, 65, 66, 67, 68, 69, 70, 71, 72, 73, 74, 75, 76, 77, 78, 79, 80, 81, 82, 83, 84, 176, 177, 178, 179, 180, 181, 182, 183, 184, 185, 186, 187, 188, 189, 190] (by decide +kernel) (by decide +kernel)) (goodIn_sub (fun _ h => List.mem_cons_of_mem _ (List.mem_append_right _ h)) (by decide +kernel))
set_option maxRecDepth 20000 in
theorem gX1_digest_X1_asBeforeIn : GoodIn wsX1_digest (wsV RX1 181 RX1 yX1_asBeforeIn wsX1_asBeforeIn) := goodIn_app (goodIn_of _ (by decide +kernel)) ggX1_digest_X1_asBeforeIn
theorem dX1_digest_0 : decode cX1_digest 0 = .ok (.ldc2_w 137, 3) := by decide +kernel
theorem dX1_digest_3 : decode cX1_digest 3 = .ok (.lstore_n 1, 1) := by decide +kernel
theorem dX1_digest_4 : decode cX1_digest 4 = .ok (.lload_n 1, 1) := by decide +kernel
theorem dX1_digest_5 : decode cX1_digest 5 = .ok (.ldc2_w 139, 3) := by decide +kernel
theorem dX1_digest_8 : decode cX1_digest 8 = .ok (.lmul, 1) := by decide +kernel
theorem dX1_digest_9 : decode cX1_digest 9 = .ok (.aload_n 0, 1) := by decide +kernel
theorem dX1_digest_10 : decode cX1_digest 10 = .ok (.invokevirtual 131, 3) := by decide +kernel
theorem dX1_digest_13 : decode cX1_digest 13 = .ok (.i2l, 1) := by decide +kernel
theorem dX1_digest_14 : decode cX1_digest 14 = .ok (.ladd, 1) := by decide +kernel
theorem dX1_digest_15 : decode cX1_digest 15 = .ok (.lstore_n 1, 1) := by decide +kernel
theorem dX1_digest_16 : decode cX1_digest 16 = .ok (.lload_n 1, 1) := by decide +kernel
theorem dX1_digest_17 : decode cX1_digest 17 = .ok (.ldc2_w 139, 3) := by decide +kernel
theorem dX1_digest_20 : decode cX1_digest 20 = .ok (.lmul, 1) := by decide +kernel
theorem dX1_digest_21 : decode cX1_digest 21 = .ok (.aload_n 0, 1) := by decide +kernel
theorem dX1_digest_22 : decode cX1_digest 22 = .ok (.invokevirtual 141, 3) := by decide +kernel
theorem dX1_digest_25 : decode cX1_digest 25 = .ok (.i2l, 1) := by decide +kernel
theorem dX1_digest_26 : decode cX1_digest 26 = .ok (.ladd, 1) := by decide +kernel
theorem dX1_digest_27 : decode cX1_digest 27 = .ok (.lstore_n 1, 1) := by decide +kernel
theorem dX1_digest_28 : decode cX1_digest 28 = .ok (.lload_n 1, 1) := by decide +kernel
theorem dX1_digest_29 : decode cX1_digest 29 = .ok (.ldc2_w 139, 3) := by decide +kernel
theorem dX1_digest_32 : decode cX1_digest 32 = .ok (.lmul, 1) := by decide +kernel
theorem dX1_digest_33 : decode cX1_digest 33 = .ok (.aload_n 0, 1) := by decide +kernel
theorem dX1_digest_34 : decode cX1_digest 34 = .ok (.invokevirtual 144, 3) := by decide +kernel
theorem dX1_digest_37 : decode cX1_digest 37 = .ok (.i2l, 1) := by decide +kernel
theorem dX1_digest_38 : decode cX1_digest 38 = .ok (.ladd, 1) := by decide +kernel
theorem dX1_digest_39 : decode cX1_digest 39 = .ok (.lstore_n 1, 1) := by decide +kernel
theorem dX1_digest_40 : decode cX1_digest 40 = .ok (.lload_n 1, 1) := by decide +kernel
theorem dX1_digest_41 : decode cX1_digest 41 = .ok (.ldc2_w 139, 3) := by decide +kernel
theorem dX1_digest_44 : decode cX1_digest 44 = .ok (.lmul, 1) := by decide +kernel
theorem dX1_digest_45 : decode cX1_digest 45 = .ok (.aload_n 0, 1) := by decide +kernel
theorem dX1_digest_46 : decode cX1_digest 46 = .ok (.invokevirtual 147, 3) := by decide +kernel
theorem dX1_digest_49 : decode cX1_digest 49 = .ok (.i2l, 1) := by decide +kernel
theorem dX1_digest_50 : decode cX1_digest 50 = .ok (.ladd, 1) := by decide +kernel
theorem dX1_digest_51 : decode cX1_digest 51 = .ok (.lstore_n 1, 1) := by decide +kernel
theorem dX1_digest_52 : decode cX1_digest 52 = .ok (.lload_n 1, 1) := by decide +kernel
theorem dX1_digest_53 : decode cX1_digest 53 = .ok (.ldc2_w 139, 3) := by decide +kernel
theorem dX1_digest_56 : decode cX1_digest 56 = .ok (.lmul, 1) := by decide +kernel
theorem dX1_digest_57 : decode cX1_digest 57 = .ok (.aload_n 0, 1) := by decide +kernel
theorem dX1_digest_58 : decode cX1_digest 58 = .ok (.invokevirtual 150, 3) := by decide +kernel
theorem dX1_digest_61 : decode cX1_digest 61 = .ok (.i2l, 1) := by decide +kernel
theorem dX1_digest_62 : decode cX1_digest 62 = .ok (.ladd, 1) := by decide +kernel
theorem dX1_digest_63 : decode cX1_digest 63 = .ok (.lstore_n 1, 1) := by decide +kernel
theorem dX1_digest_64 : decode cX1_digest 64 = .ok (.iconst 0, 1) := by decide +kernel
theorem dX1_digest_65 : decode cX1_digest 65 = .ok (.istore_n 3, 1) := by decide +kernel
theorem dX1_digest_66 : decode cX1_digest 66 = .ok (.iload_n 3, 1) := by decide +kernel
theorem dX1_digest_67 : decode cX1_digest 67 = .ok (.iconst 2, 1) := by decide +kernel
theorem dX1_digest_68 : decode cX1_digest 68 = .ok (.if_icmp .ge 48, 3) := by decide +kernel
theorem dX1_digest_71 : decode cX1_digest 71 = .ok (.lload_n 1, 1) := by decide +kernel
theorem dX1_digest_72 : decode cX1_digest 72 = .ok (.ldc2_w 139, 3) := by decide +kernel
theorem dX1_digest_75 : decode cX1_digest 75 = .ok (.lmul, 1) := by decide +kernel
theorem dX1_digest_76 : decode cX1_digest 76 = .ok (.aload_n 0, 1) := by decide +kernel
theorem dX1_digest_77 : decode cX1_digest 77 = .ok (.iload_n 3, 1) := by decide +kernel
theorem dX1_digest_78 : decode cX1_digest 78 = .ok (.invokevirtual 153, 3) := by decide +kernel
theorem dX1_digest_81 : decode cX1_digest 81 = .ok (.i2l, 1) := by decide +kernel
theorem dX1_digest_82 : decode cX1_digest 82 = .ok (.ladd, 1) := by decide +kernel
theorem dX1_digest_83 : decode cX1_digest 83 = .ok (.lstore_n 1, 1) := by decide +kernel
theorem dX1_digest_84 : decode cX1_digest 84 = .ok (.lload_n 1, 1) := by decide +kernel
theorem dX1_digest_85 : decode cX1_digest 85 = .ok (.ldc2_w 139, 3) := by decide +kernel
theorem dX1_digest_88 : decode cX1_digest 88 = .ok (.lmul, 1) := by decide +kernel
theorem dX1_digest_89 : decode cX1_digest 89 = .ok (.aload_n 0, 1) := by decide +kernel
theorem dX1_digest_90 : decode cX1_digest 90 = .ok (.iload_n 3, 1) := by decide +kernel
theorem dX1_digest_91 : decode cX1_digest 91 = .ok (.invokevirtual 156, 3) := by decide +kernel
theorem dX1_digest_94 : decode cX1_digest 94 = .ok (.i2l, 1) := by decide +kernel
theorem dX1_digest_95 : decode cX1_digest 95 = .ok (.ladd, 1) := by decide +kernel
theorem dX1_digest_96 : decode cX1_digest 96 = .ok (.lstore_n 1, 1) := by decide +kernel
theorem dX1_digest_97 : decode cX1_digest 97 = .ok (.lload_n 1, 1) := by decide +kernel
theorem dX1_digest_98 : decode cX1_digest 98 = .ok (.ldc2_w 139, 3) := by decide +kernel
theorem dX1_digest_101 : decode cX1_digest 101 = .ok (.lmul, 1) := by decide +kernel
theorem dX1_digest_102 : decode cX1_digest 102 = .ok (.aload_n 0, 1) := by decide +kernel
theorem dX1_digest_103 : decode cX1_digest 103 = .ok (.iload_n 3, 1) := by decide +kernel
theorem dX1_digest_104 : decode cX1_digest 104 = .ok (.invokevirtual 159, 3) := by decide +kernel
theorem dX1_digest_107 : decode cX1_digest 107 = .ok (.i2l, 1) := by decide +kernel
theorem dX1_digest_108 : decode cX1_digest 108 = .ok (.ladd, 1) := by decide +kernel
theorem dX1_digest_109 : decode cX1_digest 109 = .ok (.lstore_n 1, 1) := by decide +kernel
theorem dX1_digest_110 : decode cX1_digest 110 = .ok (.iinc 3 1, 3) := by decide +kernel
theorem dX1_digest_113 : decode cX1_digest 113 = .ok (.goto (-47), 3) := by decide +kernel
theorem dX1_digest_116 : decode cX1_digest 116 = .ok (.iconst 0, 1) := by decide +kernel
theorem dX1_digest_117 : decode cX1_digest 117 = .ok (.istore_n 3, 1) := by decide +kernel
theorem dX1_digest_118 : decode cX1_digest 118 = .ok (.iload_n 3, 1) := by decide +kernel
theorem dX1_digest_119 : decode cX1_digest 119 = .ok (.aload_n 0, 1) := by decide +kernel
theorem dX1_digest_120 : decode cX1_digest 120 = .ok (.invokevirtual 141, 3) := by decide +kernel
theorem dX1_digest_123 : decode cX1_digest 123 = .ok (.if_icmp .ge 93, 3) := by decide +kernel
theorem dX1_digest_126 : decode cX1_digest 126 = .ok (.lload_n 1, 1) := by decide +kernel
theorem dX1_digest_127 : decode cX1_digest 127 = .ok (.ldc2_w 139, 3) := by decide +kernel
theorem dX1_digest_130 : decode cX1_digest 130 = .ok (.lmul, 1) := by decide +kernel
theorem dX1_digest_131 : decode cX1_digest 131 = .ok (.aload_n 0, 1) := by decide +kernel
theorem dX1_digest_132 : decode cX1_digest 132 = .ok (.iload_n 3, 1) := by decide +kernel
theorem dX1_digest_133 : decode cX1_digest 133 = .ok (.invokevirtual 162, 3) := by decide +kernel
theorem dX1_digest_136 : decode cX1_digest 136 = .ok (.i2l, 1) := by decide +kernel
theorem dX1_digest_137 : decode cX1_digest 137 = .ok (.ladd, 1) := by decide +kernel
theorem dX1_digest_138 : decode cX1_digest 138 = .ok (.lstore_n 1, 1) := by decide +kernel
theorem dX1_digest_139 : decode cX1_digest 139 = .ok (.iconst 0, 1) := by decide +kernel
theorem dX1_digest_140 : decode cX1_digest 140 = .ok (.istore 4, 2) := by decide +kernel
theorem dX1_digest_142 : decode cX1_digest 142 = .ok (.iload 4, 2) := by decide +kernel
theorem dX1_digest_144 : decode cX1_digest 144 = .ok (.aload_n 0, 1) := by decide +kernel
theorem dX1_digest_145 : decode cX1_digest 145 = .ok (.invokevirtual 131, 3) := by decide +kernel
theorem dX1_digest_148 : decode cX1_digest 148 = .ok (.if_icmp .ge 62, 3) := by decide +kernel
theorem dX1_digest_151 : decode cX1_digest 151 = .ok (.lload_n 1, 1) := by decide +kernel
theorem dX1_digest_152 : decode cX1_digest 152 = .ok (.ldc2_w 139, 3) := by decide +kernel
theorem dX1_digest_155 : decode cX1_digest 155 = .ok (.lmul, 1) := by decide +kernel
theorem dX1_digest_156 : decode cX1_digest 156 = .ok (.aload_n 0, 1) := by decide +kernel
theorem dX1_digest_157 : decode cX1_digest 157 = .ok (.iload_n 3, 1) := by decide +kernel
theorem dX1_digest_158 : decode cX1_digest 158 = .ok (.iload 4, 2) := by decide +kernel
theorem dX1_digest_160 : decode cX1_digest 160 = .ok (.invokevirtual 165, 3) := by decide +kernel
theorem dX1_digest_163 : decode cX1_digest 163 = .ok (.i2l, 1) := by decide +kernel
theorem dX1_digest_164 : decode cX1_digest 164 = .ok (.ladd, 1) := by decide +kernel
theorem dX1_digest_165 : decode cX1_digest 165 = .ok (.lstore_n 1, 1) := by decide +kernel
theorem dX1_digest_166 : decode cX1_digest 166 = .ok (.lload_n 1, 1) := by decide +kernel
theorem dX1_digest_167 : decode cX1_digest 167 = .ok (.ldc2_w 139, 3) := by decide +kernel
theorem dX1_digest_170 : decode cX1_digest 170 = .ok (.lmul, 1) := by decide +kernel
theorem dX1_digest_171 : decode cX1_digest 171 = .ok (.aload_n 0, 1) := by decide +kernel
theorem dX1_digest_172 : decode cX1_digest 172 = .ok (.iload_n 3, 1) := by decide +kernel
theorem dX1_digest_173 : decode cX1_digest 173 = .ok (.iload 4, 2) := by decide +kernel
theorem dX1_digest_175 : decode cX1_digest 175 = .ok (.invokevirtual 168, 3) := by decide +kernel
theorem dX1_digest_178 : decode cX1_digest 178 = .ok (.ifCond .eq 7, 3) := by decide +kernel
theorem dX1_digest_181 : decode cX1_digest 181 = .ok (.iconst 1, 1) := by decide +kernel
theorem dX1_digest_182 : decode cX1_digest 182 = .ok (.goto 4, 3) := by decide +kernel
theorem dX1_digest_185 : decode cX1_digest 185 = .ok (.iconst 0, 1) := by decide +kernel
theorem dX1_digest_186 : decode cX1_digest 186 = .ok (.i2l, 1) := by decide +kernel
theorem dX1_digest_187 : decode cX1_digest 187 = .ok (.ladd, 1) := by decide +kernel
theorem dX1_digest_188 : decode cX1_digest 188 = .ok (.lstore_n 1, 1) := by decide +kernel
theorem dX1_digest_189 : decode cX1_digest 189 = .ok (.lload_n 1, 1) := by decide +kernel
theorem dX1_digest_190 : decode cX1_digest 190 = .ok (.ldc2_w 139, 3) := by decide +kernel
theorem dX1_digest_193 : decode cX1_digest 193 = .ok (.lmul, 1) := by decide +kernel
theorem dX1_digest_194 : decode cX1_digest 194 = .ok (.aload_n 0, 1) := by decide +kernel
theorem dX1_digest_195 : decode cX1_digest 195 = .ok (.iload_n 3, 1) := by decide +kernel
theorem dX1_digest_196 : decode cX1_digest 196 = .ok (.iload 4, 2) := by decide +kernel
theorem dX1_digest_198 : decode cX1_digest 198 = .ok (.invokevirtual 172, 3) := by decide +kernel
theorem dX1_digest_201 : decode cX1_digest 201 = .ok (.i2l, 1) := by decide +kernel
theorem dX1_digest_202 : decode cX1_digest 202 = .ok (.ladd, 1) := by decide +kernel
theorem dX1_digest_203 : decode cX1_digest 203 = .ok (.lstore_n 1, 1) := by decide +kernel
theorem dX1_digest_204 : decode cX1_digest 204 = .ok (.iinc 4 1, 3) := by decide +kernel
theorem dX1_digest_207 : decode cX1_digest 207 = .ok (.goto (-65), 3) := by decide +kernel
theorem dX1_digest_210 : decode cX1_digest 210 = .ok (.iinc 3 1, 3) := by decide +kernel
theorem dX1_digest_213 : decode cX1_digest 213 = .ok (.goto (-95), 3) := by decide +kernel
theorem dX1_digest_216 : decode cX1_digest 216 = .ok (.iconst 0, 1) := by decide +kernel
theorem dX1_digest_217 : decode cX1_digest 217 = .ok (.istore_n 3, 1) := by decide +kernel
theorem dX1_digest_218 : decode cX1_digest 218 = .ok (.iload_n 3, 1) := by decide +kernel
theorem dX1_digest_219 : decode cX1_digest 219 = .ok (.aload_n 0, 1) := by decide +kernel
theorem dX1_digest_220 : decode cX1_digest 220 = .ok (.invokevirtual 131, 3) := by decide +kernel
theorem dX1_digest_223 : decode cX1_digest 223 = .ok (.if_icmp .ge 61, 3) := by decide +kernel
theorem dX1_digest_226 : decode cX1_digest 226 = .ok (.lload_n 1, 1) := by decide +kernel
theorem dX1_digest_227 : decode cX1_digest 227 = .ok (.ldc2_w 139, 3) := by decide +kernel
theorem dX1_digest_230 : decode cX1_digest 230 = .ok (.lmul, 1) := by decide +kernel
theorem dX1_digest_231 : decode cX1_digest 231 = .ok (.aload_n 0, 1) := by decide +kernel
theorem dX1_digest_232 : decode cX1_digest 232 = .ok (.iload_n 3, 1) := by decide +kernel
theorem dX1_digest_233 : decode cX1_digest 233 = .ok (.invokevirtual 175, 3) := by decide +kernel
theorem dX1_digest_236 : decode cX1_digest 236 = .ok (.i2l, 1) := by decide +kernel
theorem dX1_digest_237 : decode cX1_digest 237 = .ok (.ladd, 1) := by decide +kernel
theorem dX1_digest_238 : decode cX1_digest 238 = .ok (.lstore_n 1, 1) := by decide +kernel
theorem dX1_digest_239 : decode cX1_digest 239 = .ok (.lload_n 1, 1) := by decide +kernel
theorem dX1_digest_240 : decode cX1_digest 240 = .ok (.ldc2_w 139, 3) := by decide +kernel
theorem dX1_digest_243 : decode cX1_digest 243 = .ok (.lmul, 1) := by decide +kernel
theorem dX1_digest_244 : decode cX1_digest 244 = .ok (.aload_n 0, 1) := by decide +kernel
theorem dX1_digest_245 : decode cX1_digest 245 = .ok (.iload_n 3, 1) := by decide +kernel
theorem dX1_digest_246 : decode cX1_digest 246 = .ok (.invokevirtual 178, 3) := by decide +kernel
theorem dX1_digest_249 : decode cX1_digest 249 = .ok (.i2l, 1) := by decide +kernel
theorem dX1_digest_250 : decode cX1_digest 250 = .ok (.ladd, 1) := by decide +kernel
theorem dX1_digest_251 : decode cX1_digest 251 = .ok (.lstore_n 1, 1) := by decide +kernel
theorem dX1_digest_252 : decode cX1_digest 252 = .ok (.lload_n 1, 1) := by decide +kernel
theorem dX1_digest_253 : decode cX1_digest 253 = .ok (.ldc2_w 139, 3) := by decide +kernel
theorem dX1_digest_256 : decode cX1_digest 256 = .ok (.lmul, 1) := by decide +kernel
theorem dX1_digest_257 : decode cX1_digest 257 = .ok (.aload_n 0, 1) := by decide +kernel
theorem dX1_digest_258 : decode cX1_digest 258 = .ok (.iload_n 3, 1) := by decide +kernel
theorem dX1_digest_259 : decode cX1_digest 259 = .ok (.invokevirtual 134, 3) := by decide +kernel
theorem dX1_digest_262 : decode cX1_digest 262 = .ok (.i2l, 1) := by decide +kernel
theorem dX1_digest_263 : decode cX1_digest 263 = .ok (.ladd, 1) := by decide +kernel
theorem dX1_digest_264 : decode cX1_digest 264 = .ok (.lstore_n 1, 1) := by decide +kernel
theorem dX1_digest_265 : decode cX1_digest 265 = .ok (.lload_n 1, 1) := by decide +kernel
theorem dX1_digest_266 : decode cX1_digest 266 = .ok (.ldc2_w 139, 3) := by decide +kernel
theorem dX1_digest_269 : decode cX1_digest 269 = .ok (.lmul, 1) := by decide +kernel
theorem dX1_digest_270 : decode cX1_digest 270 = .ok (.aload_n 0, 1) := by decide +kernel
theorem dX1_digest_271 : decode cX1_digest 271 = .ok (.iload_n 3, 1) := by decide +kernel
theorem dX1_digest_272 : decode cX1_digest 272 = .ok (.invokevirtual 181, 3) := by decide +kernel
theorem dX1_digest_275 : decode cX1_digest 275 = .ok (.i2l, 1) := by decide +kernel
theorem dX1_digest_276 : decode cX1_digest 276 = .ok (.ladd, 1) := by decide +kernel
theorem dX1_digest_277 : decode cX1_digest 277 = .ok (.lstore_n 1, 1) := by decide +kernel
theorem dX1_digest_278 : decode cX1_digest 278 = .ok (.iinc 3 1, 3) := by decide +kernel
theorem dX1_digest_281 : decode cX1_digest 281 = .ok (.goto (-63), 3) := by decide +kernel
theorem dX1_digest_284 : decode cX1_digest 284 = .ok (.lload_n 1, 1) := by decide +kernel
theorem dX1_digest_285 : decode cX1_digest 285 = .ok (.lreturn, 1) := by decide +kernel
set_option maxRecDepth 20000 in
theorem ggX1_needPlace_X1_needRow : GoodIn wsX1_needPlace wsX1_needRow := goodIn_ca (goodIn_r _ [5, 6, 7, 8, 9, 10, 11, 12, 13, 14, 24, 25, 26, 27, 28, 29, 30, 31, 32, 33, 34] (by decide +kernel) (by decide +kernel)) (goodIn_sub (fun _ h => List.mem_cons_of_mem _ (List.mem_append_right _ h)) (by decide +kernel))
set_option maxRecDepth 20000 in
theorem gX1_needPlace_X1_needRow : GoodIn wsX1_needPlace (wsV RX1 110 RX1 yX1_needRow wsX1_needRow) := goodIn_app (goodIn_of _ (by decide +kernel)) ggX1_needPlace_X1_needRow
set_option maxRecDepth 20000 in
theorem ggX1_needPlace_X1_needColumn : GoodIn wsX1_needPlace wsX1_needColumn := goodIn_ca (goodIn_r _ [18, 6, 7, 8, 19, 20, 21, 12, 22, 23, 24, 25, 26, 27, 28, 29, 30, 31, 32, 33, 34] (by decide +kernel) (by decide +kernel)) (goodIn_sub (fun _ h => List.mem_cons_of_mem _ (List.mem_append_right _ h)) (by decide +kernel))
set_option maxRecDepth 20000 in
theorem gX1_needPlace_X1_needColumn : GoodIn wsX1_needPlace (wsV RX1 60 RX1 yX1_needColumn wsX1_needColumn) := goodIn_app (goodIn_of _ (by decide +kernel)) ggX1_needPlace_X1_needColumn
theorem dX1_needPlace_0 : decode cX1_needPlace 0 = .ok (.aload_n 0, 1) := by decide +kernel
theorem dX1_needPlace_1 : decode cX1_needPlace 1 = .ok (.iload_n 1, 1) := by decide +kernel
theorem dX1_needPlace_2 : decode cX1_needPlace 2 = .ok (.invokevirtual 110, 3) := by decide +kernel
theorem dX1_needPlace_5 : decode cX1_needPlace 5 = .ok (.aload_n 0, 1) := by decide +kernel
theorem dX1_needPlace_6 : decode cX1_needPlace 6 = .ok (.iload_n 2, 1) := by decide +kernel
theorem dX1_needPlace_7 : decode cX1_needPlace 7 = .ok (.invokevirtual 60, 3) := by decide +kernel
theorem dX1_needPlace_10 : decode cX1_needPlace 10 = .ok (.return_, 1) := by decide +kernel
set_option maxRecDepth 20000 in
theorem ggX1_needRow_X0_hasRow : GoodIn wsX1_needRow wsX0_hasRow := goodIn_r _ [8, 9, 12, 13, 14, 15, 16, 17, 18, 19, 20] (by decide +kernel) (by decide +kernel)
set_option maxRecDepth 20000 in
theorem gX1_needRow_X0_hasRow : GoodIn wsX1_needRow (wsV RX1 184 RX0 yX0_hasRow wsX0_hasRow) := goodIn_app (goodIn_of _ (by decide +kernel)) ggX1_needRow_X0_hasRow
theorem dX1_needRow_0 : decode cX1_needRow 0 = .ok (.aload_n 0, 1) := by decide +kernel
theorem dX1_needRow_1 : decode cX1_needRow 1 = .ok (.getfield 10, 3) := by decide +kernel
theorem dX1_needRow_4 : decode cX1_needRow 4 = .ok (.iload_n 1, 1) := by decide +kernel
theorem dX1_needRow_5 : decode cX1_needRow 5 = .ok (.invokevirtual 184, 3) := by decide +kernel
theorem dX1_needRow_8 : decode cX1_needRow 8 = .ok (.ifCond .ne 13, 3) := by decide +kernel
theorem dX1_needRow_11 : decode cX1_needRow 11 = .ok (.new 187, 3) := by decide +kernel
theorem dX1_needRow_14 : decode cX1_needRow 14 = .ok (.dup, 1) := by decide +kernel
theorem dX1_needRow_15 : decode cX1_needRow 15 = .ok (.ldc 189, 2) := by decide +kernel
theorem dX1_needRow_17 : decode cX1_needRow 17 = .ok (.invokespecial 191, 3) := by decide +kernel
theorem dX1_needRow_20 : decode cX1_needRow 20 = .ok (.athrow, 1) := by decide +kernel
theorem dX1_needRow_21 : decode cX1_needRow 21 = .ok (.return_, 1) := by decide +kernel
set_option maxRecDepth 20000 in
theorem ggX1_needColumn_X0_hasColumn : GoodIn wsX1_needColumn wsX0_hasColumn := goodIn_r _ [8, 9, 12, 13, 14, 15, 16, 17, 18, 19, 20] (by decide +kernel) (by decide +kernel)
set_option maxRecDepth 20000 in
theorem gX1_needColumn_X0_hasColumn : GoodIn wsX1_needColumn (wsV RX1 192 RX0 yX0_hasColumn wsX0_hasColumn) := goodIn_app (goodIn_of _ (by decide +kernel)) ggX1_needColumn_X0_hasColumn
theorem dX1_needColumn_0 : decode cX1_needColumn 0 = .ok (.aload_n 0, 1) := by decide +kernel
theorem dX1_needColumn_1 : decode cX1_needColumn 1 = .ok (.getfield 10, 3) := by decide +kernel
theorem dX1_needColumn_4 : decode cX1_needColumn 4 = .ok (.iload_n 1, 1) := by decide +kernel
theorem dX1_needColumn_5 : decode cX1_needColumn 5 = .ok (.invokevirtual 192, 3) := by decide +kernel
theorem dX1_needColumn_8 : decode cX1_needColumn 8 = .ok (.ifCond .ne 13, 3) := by decide +kernel
theorem dX1_needColumn_11 : decode cX1_needColumn 11 = .ok (.new 187, 3) := by decide +kernel
theorem dX1_needColumn_14 : decode cX1_needColumn 14 = .ok (.dup, 1) := by decide +kernel
theorem dX1_needColumn_15 : decode cX1_needColumn 15 = .ok (.ldc 195, 2) := by decide +kernel
theorem dX1_needColumn_17 : decode cX1_needColumn 17 = .ok (.invokespecial 191, 3) := by decide +kernel
theorem dX1_needColumn_20 : decode cX1_needColumn 20 = .ok (.athrow, 1) := by decide +kernel
theorem dX1_needColumn_21 : decode cX1_needColumn 21 = .ok (.return_, 1) := by decide +kernel
theorem dX1_needHopper_0 : decode cX1_needHopper 0 = .ok (.iload_n 0, 1) := by decide +kernel
theorem dX1_needHopper_1 : decode cX1_needHopper 1 = .ok (.ifCond .lt 8, 3) := by decide +kernel
theorem dX1_needHopper_4 : decode cX1_needHopper 4 = .ok (.iload_n 0, 1) := by decide +kernel
theorem dX1_needHopper_5 : decode cX1_needHopper 5 = .ok (.iconst 2, 1) := by decide +kernel
theorem dX1_needHopper_6 : decode cX1_needHopper 6 = .ok (.if_icmp .lt 13, 3) := by decide +kernel
theorem dX1_needHopper_9 : decode cX1_needHopper 9 = .ok (.new 187, 3) := by decide +kernel
theorem dX1_needHopper_12 : decode cX1_needHopper 12 = .ok (.dup, 1) := by decide +kernel
theorem dX1_needHopper_13 : decode cX1_needHopper 13 = .ok (.ldc 197, 2) := by decide +kernel
theorem dX1_needHopper_15 : decode cX1_needHopper 15 = .ok (.invokespecial 191, 3) := by decide +kernel
theorem dX1_needHopper_18 : decode cX1_needHopper 18 = .ok (.athrow, 1) := by decide +kernel
theorem dX1_needHopper_19 : decode cX1_needHopper 19 = .ok (.return_, 1) := by decide +kernel
theorem dX1_needWithin_0 : decode cX1_needWithin 0 = .ok (.iload_n 0, 1) := by decide +kernel
theorem dX1_needWithin_1 : decode cX1_needWithin 1 = .ok (.iload_n 1, 1) := by decide +kernel
theorem dX1_needWithin_2 : decode cX1_needWithin 2 = .ok (.if_icmp .lt 8, 3) := by decide +kernel
theorem dX1_needWithin_5 : decode cX1_needWithin 5 = .ok (.iload_n 0, 1) := by decide +kernel
theorem dX1_needWithin_6 : decode cX1_needWithin 6 = .ok (.iload_n 2, 1) := by decide +kernel
theorem dX1_needWithin_7 : decode cX1_needWithin 7 = .ok (.if_icmp .le 13, 3) := by decide +kernel
theorem dX1_needWithin_10 : decode cX1_needWithin 10 = .ok (.new 199, 3) := by decide +kernel
theorem dX1_needWithin_13 : decode cX1_needWithin 13 = .ok (.dup, 1) := by decide +kernel
theorem dX1_needWithin_14 : decode cX1_needWithin 14 = .ok (.ldc 201, 2) := by decide +kernel
theorem dX1_needWithin_16 : decode cX1_needWithin 16 = .ok (.invokespecial 203, 3) := by decide +kernel
theorem dX1_needWithin_19 : decode cX1_needWithin 19 = .ok (.athrow, 1) := by decide +kernel
theorem dX1_needWithin_20 : decode cX1_needWithin 20 = .ok (.return_, 1) := by decide +kernel
theorem dX1_cell_0 : decode cX1_cell 0 = .ok (.iload_n 1, 1) := by decide +kernel
theorem dX1_cell_1 : decode cX1_cell 1 = .ok (.ifCond .lt 15, 3) := by decide +kernel
theorem dX1_cell_4 : decode cX1_cell 4 = .ok (.iload_n 1, 1) := by decide +kernel
theorem dX1_cell_5 : decode cX1_cell 5 = .ok (.aload_n 0, 1) := by decide +kernel
theorem dX1_cell_6 : decode cX1_cell 6 = .ok (.arraylength, 1) := by decide +kernel
theorem dX1_cell_7 : decode cX1_cell 7 = .ok (.if_icmp .ge 9, 3) := by decide +kernel
theorem dX1_cell_10 : decode cX1_cell 10 = .ok (.aload_n 0, 1) := by decide +kernel
theorem dX1_cell_11 : decode cX1_cell 11 = .ok (.iload_n 1, 1) := by decide +kernel
theorem dX1_cell_12 : decode cX1_cell 12 = .ok (.iaload, 1) := by decide +kernel
theorem dX1_cell_13 : decode cX1_cell 13 = .ok (.goto 4, 3) := by decide +kernel
theorem dX1_cell_16 : decode cX1_cell 16 = .ok (.iconst 0, 1) := by decide +kernel
theorem dX1_cell_17 : decode cX1_cell 17 = .ok (.ireturn, 1) := by decide +kernel
theorem dX1_setCell_0 : decode cX1_setCell 0 = .ok (.iload_n 1, 1) := by decide +kernel
theorem dX1_setCell_1 : decode cX1_setCell 1 = .ok (.ifCond .lt 13, 3) := by decide +kernel
theorem dX1_setCell_4 : decode cX1_setCell 4 = .ok (.iload_n 1, 1) := by decide +kernel
theorem dX1_setCell_5 : decode cX1_setCell 5 = .ok (.aload_n 0, 1) := by decide +kernel
theorem dX1_setCell_6 : decode cX1_setCell 6 = .ok (.arraylength, 1) := by decide +kernel
theorem dX1_setCell_7 : decode cX1_setCell 7 = .ok (.if_icmp .ge 7, 3) := by decide +kernel
theorem dX1_setCell_10 : decode cX1_setCell 10 = .ok (.aload_n 0, 1) := by decide +kernel
theorem dX1_setCell_11 : decode cX1_setCell 11 = .ok (.iload_n 1, 1) := by decide +kernel
theorem dX1_setCell_12 : decode cX1_setCell 12 = .ok (.iload_n 2, 1) := by decide +kernel
theorem dX1_setCell_13 : decode cX1_setCell 13 = .ok (.iastore, 1) := by decide +kernel
theorem dX1_setCell_14 : decode cX1_setCell 14 = .ok (.return_, 1) := by decide +kernel
set_option maxRecDepth 20000 in
theorem ggX1_copyCells_X1_setCell : GoodIn wsX1_copyCells wsX1_setCell := goodIn_r _ [4] (by decide +kernel) (by decide +kernel)
set_option maxRecDepth 20000 in
theorem gX1_copyCells_X1_setCell : GoodIn wsX1_copyCells (va_wsS RX1 204 yX1_setCell wsX1_setCell) := goodIn_app (goodIn_of _ (by decide +kernel)) ggX1_copyCells_X1_setCell
theorem dX1_copyCells_0 : decode cX1_copyCells 0 = .ok (.iconst 0, 1) := by decide +kernel
theorem dX1_copyCells_1 : decode cX1_copyCells 1 = .ok (.istore_n 2, 1) := by decide +kernel
theorem dX1_copyCells_2 : decode cX1_copyCells 2 = .ok (.iload_n 2, 1) := by decide +kernel
theorem dX1_copyCells_3 : decode cX1_copyCells 3 = .ok (.aload_n 0, 1) := by decide +kernel
theorem dX1_copyCells_4 : decode cX1_copyCells 4 = .ok (.arraylength, 1) := by decide +kernel
theorem dX1_copyCells_5 : decode cX1_copyCells 5 = .ok (.if_icmp .ge 17, 3) := by decide +kernel
theorem dX1_copyCells_8 : decode cX1_copyCells 8 = .ok (.aload_n 1, 1) := by decide +kernel
theorem dX1_copyCells_9 : decode cX1_copyCells 9 = .ok (.iload_n 2, 1) := by decide +kernel
theorem dX1_copyCells_10 : decode cX1_copyCells 10 = .ok (.aload_n 0, 1) := by decide +kernel
theorem dX1_copyCells_11 : decode cX1_copyCells 11 = .ok (.iload_n 2, 1) := by decide +kernel
theorem dX1_copyCells_12 : decode cX1_copyCells 12 = .ok (.iaload, 1) := by decide +kernel
theorem dX1_copyCells_13 : decode cX1_copyCells 13 = .ok (.invokestatic 204, 3) := by decide +kernel
theorem dX1_copyCells_16 : decode cX1_copyCells 16 = .ok (.iinc 2 1, 3) := by decide +kernel
theorem dX1_copyCells_19 : decode cX1_copyCells 19 = .ok (.goto (-17), 3) := by decide +kernel
theorem dX1_copyCells_22 : decode cX1_copyCells 22 = .ok (.return_, 1) := by decide +kernel
abbrev vwCl : List vw_C := [(RX0, TX0, 9), (RX1, TX1, 2), (RX2, TX2, 10)]
end
section
theorem dX2_init_0 : decode cX2_init 0 = .ok (.aload_n 0, 1) := by decide +kernel
theorem dX2_init_1 : decode cX2_init 1 = .ok (.invokespecial 3, 3) := by decide +kernel
theorem dX2_init_4 : decode cX2_init 4 = .ok (.aload_n 0, 1) := by decide +kernel
theorem dX2_init_5 : decode cX2_init 5 = .ok (.iconst 5, 1) := by decide +kernel
theorem dX2_init_6 : decode cX2_init 6 = .ok (.putfield 9, 3) := by decide +kernel
theorem dX2_init_9 : decode cX2_init 9 = .ok (.aload_n 0, 1) := by decide +kernel
theorem dX2_init_10 : decode cX2_init 10 = .ok (.iconst 4, 1) := by decide +kernel
theorem dX2_init_11 : decode cX2_init 11 = .ok (.putfield 13, 3) := by decide +kernel
theorem dX2_init_14 : decode cX2_init 14 = .ok (.aload_n 0, 1) := by decide +kernel
theorem dX2_init_15 : decode cX2_init 15 = .ok (.bipush 72, 2) := by decide +kernel
theorem dX2_init_17 : decode cX2_init 17 = .ok (.newarray .int, 2) := by decide +kernel
theorem dX2_init_19 : decode cX2_init 19 = .ok (.putfield 16, 3) := by decide +kernel
theorem dX2_init_22 : decode cX2_init 22 = .ok (.aload_n 0, 1) := by decide +kernel
theorem dX2_init_23 : decode cX2_init 23 = .ok (.bipush 72, 2) := by decide +kernel
theorem dX2_init_25 : decode cX2_init 25 = .ok (.newarray .int, 2) := by decide +kernel
theorem dX2_init_27 : decode cX2_init 27 = .ok (.putfield 20, 3) := by decide +kernel
theorem dX2_init_30 : decode cX2_init 30 = .ok (.aload_n 0, 1) := by decide +kernel
theorem dX2_init_31 : decode cX2_init 31 = .ok (.iconst 2, 1) := by decide +kernel
theorem dX2_init_32 : decode cX2_init 32 = .ok (.newarray .int, 2) := by decide +kernel
theorem dX2_init_34 : decode cX2_init 34 = .ok (.dup, 1) := by decide +kernel
theorem dX2_init_35 : decode cX2_init 35 = .ok (.iconst 0, 1) := by decide +kernel
theorem dX2_init_36 : decode cX2_init 36 = .ok (.iconst 0, 1) := by decide +kernel
theorem dX2_init_37 : decode cX2_init 37 = .ok (.iastore, 1) := by decide +kernel
theorem dX2_init_38 : decode cX2_init 38 = .ok (.dup, 1) := by decide +kernel
theorem dX2_init_39 : decode cX2_init 39 = .ok (.iconst 1, 1) := by decide +kernel
theorem dX2_init_40 : decode cX2_init 40 = .ok (.iconst 4, 1) := by decide +kernel
theorem dX2_init_41 : decode cX2_init 41 = .ok (.iastore, 1) := by decide +kernel
theorem dX2_init_42 : decode cX2_init 42 = .ok (.putfield 23, 3) := by decide +kernel
theorem dX2_init_45 : decode cX2_init 45 = .ok (.aload_n 0, 1) := by decide +kernel
theorem dX2_init_46 : decode cX2_init 46 = .ok (.bipush 84, 2) := by decide +kernel
theorem dX2_init_48 : decode cX2_init 48 = .ok (.newarray .int, 2) := by decide +kernel
theorem dX2_init_50 : decode cX2_init 50 = .ok (.putfield 26, 3) := by decide +kernel
theorem dX2_init_53 : decode cX2_init 53 = .ok (.aload_n 0, 1) := by decide +kernel
theorem dX2_init_54 : decode cX2_init 54 = .ok (.bipush 84, 2) := by decide +kernel
theorem dX2_init_56 : decode cX2_init 56 = .ok (.newarray .int, 2) := by decide +kernel
theorem dX2_init_58 : decode cX2_init 58 = .ok (.putfield 29, 3) := by decide +kernel
theorem dX2_init_61 : decode cX2_init 61 = .ok (.aload_n 0, 1) := by decide +kernel
theorem dX2_init_62 : decode cX2_init 62 = .ok (.bipush 8, 2) := by decide +kernel
theorem dX2_init_64 : decode cX2_init 64 = .ok (.newarray .int, 2) := by decide +kernel
theorem dX2_init_66 : decode cX2_init 66 = .ok (.putfield 32, 3) := by decide +kernel
theorem dX2_init_69 : decode cX2_init 69 = .ok (.return_, 1) := by decide +kernel
theorem dX2_thrown_0 : decode cX2_thrown 0 = .ok (.aload_n 0, 1) := by decide +kernel
theorem dX2_thrown_1 : decode cX2_thrown 1 = .ok (.getfield 35, 3) := by decide +kernel
theorem dX2_thrown_4 : decode cX2_thrown 4 = .ok (.ireturn, 1) := by decide +kernel
theorem dX2_no_0 : decode cX2_no 0 = .ok (.aload_n 0, 1) := by decide +kernel
theorem dX2_no_1 : decode cX2_no 1 = .ok (.iload_n 1, 1) := by decide +kernel
theorem dX2_no_2 : decode cX2_no 2 = .ok (.putfield 35, 3) := by decide +kernel
theorem dX2_no_5 : decode cX2_no 5 = .ok (.iconst 0, 1) := by decide +kernel
theorem dX2_no_6 : decode cX2_no 6 = .ok (.ireturn, 1) := by decide +kernel
theorem dX2_isNot_0 : decode cX2_isNot 0 = .ok (.aload_n 0, 1) := by decide +kernel
theorem dX2_isNot_1 : decode cX2_isNot 1 = .ok (.iload_n 1, 1) := by decide +kernel
theorem dX2_isNot_2 : decode cX2_isNot 2 = .ok (.putfield 35, 3) := by decide +kernel
theorem dX2_isNot_5 : decode cX2_isNot 5 = .ok (.iconst 0, 1) := by decide +kernel
theorem dX2_isNot_6 : decode cX2_isNot 6 = .ok (.ireturn, 1) := by decide +kernel
theorem dX2_ok_0 : decode cX2_ok 0 = .ok (.aload_n 0, 1) := by decide +kernel
theorem dX2_ok_1 : decode cX2_ok 1 = .ok (.iconst 0, 1) := by decide +kernel
theorem dX2_ok_2 : decode cX2_ok 2 = .ok (.putfield 35, 3) := by decide +kernel
theorem dX2_ok_5 : decode cX2_ok 5 = .ok (.iload_n 1, 1) := by decide +kernel
theorem dX2_ok_6 : decode cX2_ok 6 = .ok (.ireturn, 1) := by decide +kernel
theorem dX2_isFrom_0 : decode cX2_isFrom 0 = .ok (.iload_n 0, 1) := by decide +kernel
theorem dX2_isFrom_1 : decode cX2_isFrom 1 = .ok (.iload_n 1, 1) := by decide +kernel
theorem dX2_isFrom_2 : decode cX2_isFrom 2 = .ok (.if_icmp .lt 12, 3) := by decide +kernel
theorem dX2_isFrom_5 : decode cX2_isFrom 5 = .ok (.iload_n 0, 1) := by decide +kernel
theorem dX2_isFrom_6 : decode cX2_isFrom 6 = .ok (.iload_n 2, 1) := by decide +kernel
theorem dX2_isFrom_7 : decode cX2_isFrom 7 = .ok (.if_icmp .gt 7, 3) := by decide +kernel
theorem dX2_isFrom_10 : decode cX2_isFrom 10 = .ok (.iconst 1, 1) := by decide +kernel
theorem dX2_isFrom_11 : decode cX2_isFrom 11 = .ok (.goto 4, 3) := by decide +kernel
theorem dX2_isFrom_14 : decode cX2_isFrom 14 = .ok (.iconst 0, 1) := by decide +kernel
theorem dX2_isFrom_15 : decode cX2_isFrom 15 = .ok (.ireturn, 1) := by decide +kernel
set_option maxRecDepth 20000 in
theorem ggX2_isColumn_X2_isFrom : GoodIn wsX2_isColumn wsX2_isFrom := goodIn_r _ [5] (by decide +kernel) (by decide +kernel)
set_option maxRecDepth 20000 in
theorem gX2_isColumn_X2_isFrom : GoodIn wsX2_isColumn (va_wsS RX2 38 yX2_isFrom wsX2_isFrom) := goodIn_app (goodIn_of _ (by decide +kernel)) ggX2_isColumn_X2_isFrom
theorem dX2_isColumn_0 : decode cX2_isColumn 0 = .ok (.iload_n 1, 1) := by decide +kernel
theorem dX2_isColumn_1 : decode cX2_isColumn 1 = .ok (.iconst 0, 1) := by decide +kernel
theorem dX2_isColumn_2 : decode cX2_isColumn 2 = .ok (.aload_n 0, 1) := by decide +kernel
theorem dX2_isColumn_3 : decode cX2_isColumn 3 = .ok (.getfield 9, 3) := by decide +kernel
theorem dX2_isColumn_6 : decode cX2_isColumn 6 = .ok (.iconst 1, 1) := by decide +kernel
theorem dX2_isColumn_7 : decode cX2_isColumn 7 = .ok (.isub, 1) := by decide +kernel
theorem dX2_isColumn_8 : decode cX2_isColumn 8 = .ok (.invokestatic 38, 3) := by decide +kernel
theorem dX2_isColumn_11 : decode cX2_isColumn 11 = .ok (.ireturn, 1) := by decide +kernel
set_option maxRecDepth 20000 in
theorem ggX2_isRow_X2_isFrom : GoodIn wsX2_isRow wsX2_isFrom := goodIn_r _ [5] (by decide +kernel) (by decide +kernel)
set_option maxRecDepth 20000 in
theorem gX2_isRow_X2_isFrom : GoodIn wsX2_isRow (va_wsS RX2 38 yX2_isFrom wsX2_isFrom) := goodIn_app (goodIn_of _ (by decide +kernel)) ggX2_isRow_X2_isFrom
theorem dX2_isRow_0 : decode cX2_isRow 0 = .ok (.iload_n 1, 1) := by decide +kernel
theorem dX2_isRow_1 : decode cX2_isRow 1 = .ok (.iconst 0, 1) := by decide +kernel
theorem dX2_isRow_2 : decode cX2_isRow 2 = .ok (.aload_n 0, 1) := by decide +kernel
theorem dX2_isRow_3 : decode cX2_isRow 3 = .ok (.getfield 13, 3) := by decide +kernel
theorem dX2_isRow_6 : decode cX2_isRow 6 = .ok (.iconst 1, 1) := by decide +kernel
theorem dX2_isRow_7 : decode cX2_isRow 7 = .ok (.isub, 1) := by decide +kernel
theorem dX2_isRow_8 : decode cX2_isRow 8 = .ok (.invokestatic 38, 3) := by decide +kernel
theorem dX2_isRow_11 : decode cX2_isRow 11 = .ok (.ireturn, 1) := by decide +kernel
set_option maxRecDepth 20000 in
theorem ggX2_isPlace_X2_isRow : GoodIn wsX2_isPlace wsX2_isRow := goodIn_r _ [5, 6, 7, 8, 4, 9, 15, 16, 17, 18, 19, 20, 21, 22, 23, 24] (by decide +kernel) (by decide +kernel)
set_option maxRecDepth 20000 in
theorem gX2_isPlace_X2_isRow : GoodIn wsX2_isPlace (wsV RX2 42 RX2 yX2_isRow wsX2_isRow) := goodIn_app (goodIn_of _ (by decide +kernel)) ggX2_isPlace_X2_isRow
set_option maxRecDepth 20000 in
theorem ggX2_isPlace_X2_isColumn : GoodIn wsX2_isPlace wsX2_isColumn := goodIn_r _ [13, 14, 7, 8, 4, 9, 15, 16, 17, 18, 19, 20, 21, 22, 23, 24] (by decide +kernel) (by decide +kernel)
set_option maxRecDepth 20000 in
theorem gX2_isPlace_X2_isColumn : GoodIn wsX2_isPlace (wsV RX2 46 RX2 yX2_isColumn wsX2_isColumn) := goodIn_app (goodIn_of _ (by decide +kernel)) ggX2_isPlace_X2_isColumn
theorem dX2_isPlace_0 : decode cX2_isPlace 0 = .ok (.aload_n 0, 1) := by decide +kernel
theorem dX2_isPlace_1 : decode cX2_isPlace 1 = .ok (.iload_n 1, 1) := by decide +kernel
theorem dX2_isPlace_2 : decode cX2_isPlace 2 = .ok (.invokevirtual 42, 3) := by decide +kernel
theorem dX2_isPlace_5 : decode cX2_isPlace 5 = .ok (.ifCond .eq 15, 3) := by decide +kernel
theorem dX2_isPlace_8 : decode cX2_isPlace 8 = .ok (.aload_n 0, 1) := by decide +kernel
theorem dX2_isPlace_9 : decode cX2_isPlace 9 = .ok (.iload_n 2, 1) := by decide +kernel
theorem dX2_isPlace_10 : decode cX2_isPlace 10 = .ok (.invokevirtual 46, 3) := by decide +kernel
theorem dX2_isPlace_13 : decode cX2_isPlace 13 = .ok (.ifCond .eq 7, 3) := by decide +kernel
theorem dX2_isPlace_16 : decode cX2_isPlace 16 = .ok (.iconst 1, 1) := by decide +kernel
theorem dX2_isPlace_17 : decode cX2_isPlace 17 = .ok (.goto 4, 3) := by decide +kernel
theorem dX2_isPlace_20 : decode cX2_isPlace 20 = .ok (.iconst 0, 1) := by decide +kernel
theorem dX2_isPlace_21 : decode cX2_isPlace 21 = .ok (.ireturn, 1) := by decide +kernel
theorem dX2_keep_0 : decode cX2_keep 0 = .ok (.aload_n 0, 1) := by decide +kernel
theorem dX2_keep_1 : decode cX2_keep 1 = .ok (.getfield 26, 3) := by decide +kernel
theorem dX2_keep_4 : decode cX2_keep 4 = .ok (.iconst 0, 1) := by decide +kernel
theorem dX2_keep_5 : decode cX2_keep 5 = .ok (.aload_n 0, 1) := by decide +kernel
theorem dX2_keep_6 : decode cX2_keep 6 = .ok (.getfield 29, 3) := by decide +kernel
theorem dX2_keep_9 : decode cX2_keep 9 = .ok (.iconst 0, 1) := by decide +kernel
theorem dX2_keep_10 : decode cX2_keep 10 = .ok (.bipush 84, 2) := by decide +kernel
theorem dX2_keep_12 : decode cX2_keep 12 = .ok (.invokestatic 49, 3) := by decide +kernel
theorem dX2_keep_15 : decode cX2_keep 15 = .ok (.return_, 1) := by decide +kernel
theorem dX2_bringBack_0 : decode cX2_bringBack 0 = .ok (.aload_n 0, 1) := by decide +kernel
theorem dX2_bringBack_1 : decode cX2_bringBack 1 = .ok (.getfield 29, 3) := by decide +kernel
theorem dX2_bringBack_4 : decode cX2_bringBack 4 = .ok (.iconst 0, 1) := by decide +kernel
theorem dX2_bringBack_5 : decode cX2_bringBack 5 = .ok (.aload_n 0, 1) := by decide +kernel
theorem dX2_bringBack_6 : decode cX2_bringBack 6 = .ok (.getfield 26, 3) := by decide +kernel
theorem dX2_bringBack_9 : decode cX2_bringBack 9 = .ok (.iconst 0, 1) := by decide +kernel
theorem dX2_bringBack_10 : decode cX2_bringBack 10 = .ok (.bipush 84, 2) := by decide +kernel
theorem dX2_bringBack_12 : decode cX2_bringBack 12 = .ok (.invokestatic 49, 3) := by decide +kernel
theorem dX2_bringBack_15 : decode cX2_bringBack 15 = .ok (.return_, 1) := by decide +kernel
theorem dX2_goes_0 : decode cX2_goes 0 = .ok (.aload_n 0, 1) := by decide +kernel
theorem dX2_goes_1 : decode cX2_goes 1 = .ok (.getfield 26, 3) := by decide +kernel
theorem dX2_goes_4 : decode cX2_goes 4 = .ok (.iload_n 1, 1) := by decide +kernel
theorem dX2_goes_5 : decode cX2_goes 5 = .ok (.iaload, 1) := by decide +kernel
theorem dX2_goes_6 : decode cX2_goes 6 = .ok (.istore_n 3, 1) := by decide +kernel
theorem dX2_goes_7 : decode cX2_goes 7 = .ok (.aload_n 0, 1) := by decide +kernel
theorem dX2_goes_8 : decode cX2_goes 8 = .ok (.getfield 16, 3) := by decide +kernel
theorem dX2_goes_11 : decode cX2_goes 11 = .ok (.iload_n 1, 1) := by decide +kernel
theorem dX2_goes_12 : decode cX2_goes 12 = .ok (.iaload, 1) := by decide +kernel
theorem dX2_goes_13 : decode cX2_goes 13 = .ok (.tableswitch 102 1 5 #[35, 37, 39, 69, 71], 35) := by decide +kernel
theorem dX2_goes_48 : decode cX2_goes 48 = .ok (.iconst (-1), 1) := by decide +kernel
theorem dX2_goes_49 : decode cX2_goes 49 = .ok (.ireturn, 1) := by decide +kernel
theorem dX2_goes_50 : decode cX2_goes 50 = .ok (.iconst 1, 1) := by decide +kernel
theorem dX2_goes_51 : decode cX2_goes 51 = .ok (.ireturn, 1) := by decide +kernel
theorem dX2_goes_52 : decode cX2_goes 52 = .ok (.aload_n 0, 1) := by decide +kernel
theorem dX2_goes_53 : decode cX2_goes 53 = .ok (.getfield 26, 3) := by decide +kernel
theorem dX2_goes_56 : decode cX2_goes 56 = .ok (.iload_n 1, 1) := by decide +kernel
theorem dX2_goes_57 : decode cX2_goes 57 = .ok (.iconst 1, 1) := by decide +kernel
theorem dX2_goes_58 : decode cX2_goes 58 = .ok (.iload_n 3, 1) := by decide +kernel
theorem dX2_goes_59 : decode cX2_goes 59 = .ok (.isub, 1) := by decide +kernel
theorem dX2_goes_60 : decode cX2_goes 60 = .ok (.iastore, 1) := by decide +kernel
theorem dX2_goes_61 : decode cX2_goes 61 = .ok (.aload_n 0, 1) := by decide +kernel
theorem dX2_goes_62 : decode cX2_goes 62 = .ok (.dup, 1) := by decide +kernel
theorem dX2_goes_63 : decode cX2_goes 63 = .ok (.getfield 55, 3) := by decide +kernel
theorem dX2_goes_66 : decode cX2_goes 66 = .ok (.iconst 1, 1) := by decide +kernel
theorem dX2_goes_67 : decode cX2_goes 67 = .ok (.iadd, 1) := by decide +kernel
theorem dX2_goes_68 : decode cX2_goes 68 = .ok (.putfield 55, 3) := by decide +kernel
theorem dX2_goes_71 : decode cX2_goes 71 = .ok (.iload_n 3, 1) := by decide +kernel
theorem dX2_goes_72 : decode cX2_goes 72 = .ok (.iconst 1, 1) := by decide +kernel
theorem dX2_goes_73 : decode cX2_goes 73 = .ok (.if_icmp .ne 7, 3) := by decide +kernel
theorem dX2_goes_76 : decode cX2_goes 76 = .ok (.iconst 1, 1) := by decide +kernel
theorem dX2_goes_77 : decode cX2_goes 77 = .ok (.goto 4, 3) := by decide +kernel
theorem dX2_goes_80 : decode cX2_goes 80 = .ok (.iconst (-1), 1) := by decide +kernel
theorem dX2_goes_81 : decode cX2_goes 81 = .ok (.ireturn, 1) := by decide +kernel
theorem dX2_goes_82 : decode cX2_goes 82 = .ok (.iload_n 2, 1) := by decide +kernel
theorem dX2_goes_83 : decode cX2_goes 83 = .ok (.ireturn, 1) := by decide +kernel
theorem dX2_goes_84 : decode cX2_goes 84 = .ok (.aload_n 0, 1) := by decide +kernel
theorem dX2_goes_85 : decode cX2_goes 85 = .ok (.getfield 26, 3) := by decide +kernel
theorem dX2_goes_88 : decode cX2_goes 88 = .ok (.iload_n 1, 1) := by decide +kernel
theorem dX2_goes_89 : decode cX2_goes 89 = .ok (.iload_n 3, 1) := by decide +kernel
theorem dX2_goes_90 : decode cX2_goes 90 = .ok (.iconst 1, 1) := by decide +kernel
theorem dX2_goes_91 : decode cX2_goes 91 = .ok (.iadd, 1) := by decide +kernel
theorem dX2_goes_92 : decode cX2_goes 92 = .ok (.aload_n 0, 1) := by decide +kernel
theorem dX2_goes_93 : decode cX2_goes 93 = .ok (.getfield 20, 3) := by decide +kernel
theorem dX2_goes_96 : decode cX2_goes 96 = .ok (.iload_n 1, 1) := by decide +kernel
theorem dX2_goes_97 : decode cX2_goes 97 = .ok (.iaload, 1) := by decide +kernel
theorem dX2_goes_98 : decode cX2_goes 98 = .ok (.irem, 1) := by decide +kernel
theorem dX2_goes_99 : decode cX2_goes 99 = .ok (.iastore, 1) := by decide +kernel
theorem dX2_goes_100 : decode cX2_goes 100 = .ok (.aload_n 0, 1) := by decide +kernel
theorem dX2_goes_101 : decode cX2_goes 101 = .ok (.getfield 26, 3) := by decide +kernel
theorem dX2_goes_104 : decode cX2_goes 104 = .ok (.iload_n 1, 1) := by decide +kernel
theorem dX2_goes_105 : decode cX2_goes 105 = .ok (.iaload, 1) := by decide +kernel
theorem dX2_goes_106 : decode cX2_goes 106 = .ok (.ifCond .ne 7, 3) := by decide +kernel
theorem dX2_goes_109 : decode cX2_goes 109 = .ok (.iconst 1, 1) := by decide +kernel
theorem dX2_goes_110 : decode cX2_goes 110 = .ok (.goto 4, 3) := by decide +kernel
theorem dX2_goes_113 : decode cX2_goes 113 = .ok (.iconst (-1), 1) := by decide +kernel
theorem dX2_goes_114 : decode cX2_goes 114 = .ok (.ireturn, 1) := by decide +kernel
theorem dX2_goes_115 : decode cX2_goes 115 = .ok (.iconst 0, 1) := by decide +kernel
theorem dX2_goes_116 : decode cX2_goes 116 = .ok (.ireturn, 1) := by decide +kernel
set_option maxRecDepth 20000 in
theorem ggX2_fall_X2_goes : GoodIn wsX2_fall wsX2_goes := goodIn_r _ [9, 4, 10, 1, 11, 20, 21, 22, 23, 24, 25, 26, 27, 28, 29] (by decide +kernel) (by decide +kernel)
set_option maxRecDepth 20000 in
theorem gX2_fall_X2_goes : GoodIn wsX2_fall (wsV RX2 58 RX2 yX2_goes wsX2_goes) := goodIn_app (goodIn_of _ (by decide +kernel)) ggX2_fall_X2_goes
set_option maxRecDepth 20000 in
theorem ggX2_fall_X2_isColumn : GoodIn wsX2_fall wsX2_isColumn := goodIn_r _ [15, 16, 17, 18, 8, 19, 20, 21, 22, 23, 24, 25, 26, 27, 28, 29] (by decide +kernel) (by decide +kernel)
set_option maxRecDepth 20000 in
theorem gX2_fall_X2_isColumn : GoodIn wsX2_fall (wsV RX2 46 RX2 yX2_isColumn wsX2_isColumn) := goodIn_app (goodIn_of _ (by decide +kernel)) ggX2_fall_X2_isColumn
theorem dX2_fall_0 : decode cX2_fall 0 = .ok (.iload_n 1, 1) := by decide +kernel
theorem dX2_fall_1 : decode cX2_fall 1 = .ok (.istore_n 2, 1) := by decide +kernel
theorem dX2_fall_2 : decode cX2_fall 2 = .ok (.iconst 0, 1) := by decide +kernel
theorem dX2_fall_3 : decode cX2_fall 3 = .ok (.istore_n 3, 1) := by decide +kernel
theorem dX2_fall_4 : decode cX2_fall 4 = .ok (.aload_n 0, 1) := by decide +kernel
theorem dX2_fall_5 : decode cX2_fall 5 = .ok (.iconst 0, 1) := by decide +kernel
theorem dX2_fall_6 : decode cX2_fall 6 = .ok (.putfield 55, 3) := by decide +kernel
theorem dX2_fall_9 : decode cX2_fall 9 = .ok (.iconst 0, 1) := by decide +kernel
theorem dX2_fall_10 : decode cX2_fall 10 = .ok (.istore 4, 2) := by decide +kernel
theorem dX2_fall_12 : decode cX2_fall 12 = .ok (.iload 4, 2) := by decide +kernel
theorem dX2_fall_14 : decode cX2_fall 14 = .ok (.bipush 8, 2) := by decide +kernel
theorem dX2_fall_16 : decode cX2_fall 16 = .ok (.if_icmp .ge 17, 3) := by decide +kernel
theorem dX2_fall_19 : decode cX2_fall 19 = .ok (.aload_n 0, 1) := by decide +kernel
theorem dX2_fall_20 : decode cX2_fall 20 = .ok (.getfield 32, 3) := by decide +kernel
theorem dX2_fall_23 : decode cX2_fall 23 = .ok (.iload 4, 2) := by decide +kernel
theorem dX2_fall_25 : decode cX2_fall 25 = .ok (.iconst (-1), 1) := by decide +kernel
theorem dX2_fall_26 : decode cX2_fall 26 = .ok (.iastore, 1) := by decide +kernel
theorem dX2_fall_27 : decode cX2_fall 27 = .ok (.iinc 4 1, 3) := by decide +kernel
theorem dX2_fall_30 : decode cX2_fall 30 = .ok (.goto (-18), 3) := by decide +kernel
theorem dX2_fall_33 : decode cX2_fall 33 = .ok (.iconst 0, 1) := by decide +kernel
theorem dX2_fall_34 : decode cX2_fall 34 = .ok (.istore 4, 2) := by decide +kernel
theorem dX2_fall_36 : decode cX2_fall 36 = .ok (.iload 4, 2) := by decide +kernel
theorem dX2_fall_38 : decode cX2_fall 38 = .ok (.aload_n 0, 1) := by decide +kernel
theorem dX2_fall_39 : decode cX2_fall 39 = .ok (.getfield 13, 3) := by decide +kernel
theorem dX2_fall_42 : decode cX2_fall 42 = .ok (.if_icmp .ge 58, 3) := by decide +kernel
theorem dX2_fall_45 : decode cX2_fall 45 = .ok (.aload_n 0, 1) := by decide +kernel
theorem dX2_fall_46 : decode cX2_fall 46 = .ok (.getfield 32, 3) := by decide +kernel
theorem dX2_fall_49 : decode cX2_fall 49 = .ok (.iload 4, 2) := by decide +kernel
theorem dX2_fall_51 : decode cX2_fall 51 = .ok (.iload_n 2, 1) := by decide +kernel
theorem dX2_fall_52 : decode cX2_fall 52 = .ok (.iastore, 1) := by decide +kernel
theorem dX2_fall_53 : decode cX2_fall 53 = .ok (.aload_n 0, 1) := by decide +kernel
theorem dX2_fall_54 : decode cX2_fall 54 = .ok (.bipush 9, 2) := by decide +kernel
theorem dX2_fall_56 : decode cX2_fall 56 = .ok (.iload 4, 2) := by decide +kernel
theorem dX2_fall_58 : decode cX2_fall 58 = .ok (.imul, 1) := by decide +kernel
theorem dX2_fall_59 : decode cX2_fall 59 = .ok (.iload_n 2, 1) := by decide +kernel
theorem dX2_fall_60 : decode cX2_fall 60 = .ok (.iadd, 1) := by decide +kernel
theorem dX2_fall_61 : decode cX2_fall 61 = .ok (.iload_n 3, 1) := by decide +kernel
theorem dX2_fall_62 : decode cX2_fall 62 = .ok (.invokevirtual 58, 3) := by decide +kernel
theorem dX2_fall_65 : decode cX2_fall 65 = .ok (.istore_n 3, 1) := by decide +kernel
theorem dX2_fall_66 : decode cX2_fall 66 = .ok (.iload_n 2, 1) := by decide +kernel
theorem dX2_fall_67 : decode cX2_fall 67 = .ok (.iload_n 3, 1) := by decide +kernel
theorem dX2_fall_68 : decode cX2_fall 68 = .ok (.iadd, 1) := by decide +kernel
theorem dX2_fall_69 : decode cX2_fall 69 = .ok (.istore_n 2, 1) := by decide +kernel
theorem dX2_fall_70 : decode cX2_fall 70 = .ok (.aload_n 0, 1) := by decide +kernel
theorem dX2_fall_71 : decode cX2_fall 71 = .ok (.iload_n 2, 1) := by decide +kernel
theorem dX2_fall_72 : decode cX2_fall 72 = .ok (.invokevirtual 46, 3) := by decide +kernel
theorem dX2_fall_75 : decode cX2_fall 75 = .ok (.ifCond .eq 6, 3) := by decide +kernel
theorem dX2_fall_78 : decode cX2_fall 78 = .ok (.goto 16, 3) := by decide +kernel
theorem dX2_fall_81 : decode cX2_fall 81 = .ok (.aload_n 0, 1) := by decide +kernel
theorem dX2_fall_82 : decode cX2_fall 82 = .ok (.getfield 26, 3) := by decide +kernel
theorem dX2_fall_85 : decode cX2_fall 85 = .ok (.bipush 83, 2) := by decide +kernel
theorem dX2_fall_87 : decode cX2_fall 87 = .ok (.dup2, 1) := by decide +kernel
theorem dX2_fall_88 : decode cX2_fall 88 = .ok (.iaload, 1) := by decide +kernel
theorem dX2_fall_89 : decode cX2_fall 89 = .ok (.iconst 1, 1) := by decide +kernel
theorem dX2_fall_90 : decode cX2_fall 90 = .ok (.iadd, 1) := by decide +kernel
theorem dX2_fall_91 : decode cX2_fall 91 = .ok (.iastore, 1) := by decide +kernel
theorem dX2_fall_92 : decode cX2_fall 92 = .ok (.iconst (-1), 1) := by decide +kernel
theorem dX2_fall_93 : decode cX2_fall 93 = .ok (.ireturn, 1) := by decide +kernel
theorem dX2_fall_94 : decode cX2_fall 94 = .ok (.iinc 4 1, 3) := by decide +kernel
theorem dX2_fall_97 : decode cX2_fall 97 = .ok (.goto (-61), 3) := by decide +kernel
theorem dX2_fall_100 : decode cX2_fall 100 = .ok (.aload_n 0, 1) := by decide +kernel
theorem dX2_fall_101 : decode cX2_fall 101 = .ok (.getfield 26, 3) := by decide +kernel
theorem dX2_fall_104 : decode cX2_fall 104 = .ok (.bipush 72, 2) := by decide +kernel
theorem dX2_fall_106 : decode cX2_fall 106 = .ok (.iload_n 2, 1) := by decide +kernel
theorem dX2_fall_107 : decode cX2_fall 107 = .ok (.iadd, 1) := by decide +kernel
theorem dX2_fall_108 : decode cX2_fall 108 = .ok (.dup2, 1) := by decide +kernel
theorem dX2_fall_109 : decode cX2_fall 109 = .ok (.iaload, 1) := by decide +kernel
theorem dX2_fall_110 : decode cX2_fall 110 = .ok (.iconst 1, 1) := by decide +kernel
theorem dX2_fall_111 : decode cX2_fall 111 = .ok (.iadd, 1) := by decide +kernel
theorem dX2_fall_112 : decode cX2_fall 112 = .ok (.iastore, 1) := by decide +kernel
theorem dX2_fall_113 : decode cX2_fall 113 = .ok (.iload_n 2, 1) := by decide +kernel
theorem dX2_fall_114 : decode cX2_fall 114 = .ok (.ireturn, 1) := by decide +kernel
set_option maxRecDepth 20000 in
theorem ggX2_runFrom_X2_fall : GoodIn wsX2_runFrom wsX2_fall := goodIn_r _ [8, 9, 10, 11, 1, 12, 13, 14, 7, 15, 16, 17, 18, 19, 20, 21, 3, 22, 23, 24, 29, 30, 31, 32, 33, 34, 35, 36, 37, 38] (by decide +kernel) (by decide +kernel)
set_option maxRecDepth 20000 in
theorem gX2_runFrom_X2_fall : GoodIn wsX2_runFrom (wsV RX2 62 RX2 yX2_fall wsX2_fall) := goodIn_app (goodIn_of _ (by decide +kernel)) ggX2_runFrom_X2_fall
set_option maxRecDepth 20000 in
theorem ggX2_runFrom_J6_signum_0f7a4 : GoodIn wsX2_runFrom wsJ6_signum_0f7a4 := goodIn_r _ [28] (by decide +kernel) (by decide +kernel)
set_option maxRecDepth 20000 in
theorem gX2_runFrom_J6_signum_0f7a4 : GoodIn wsX2_runFrom (va_wsS RX2 66 yJ6_signum_0f7a4 wsJ6_signum_0f7a4) := goodIn_app (goodIn_of _ (by decide +kernel)) ggX2_runFrom_J6_signum_0f7a4
theorem dX2_runFrom_0 : decode cX2_runFrom 0 = .ok (.iload_n 1, 1) := by decide +kernel
theorem dX2_runFrom_1 : decode cX2_runFrom 1 = .ok (.istore_n 3, 1) := by decide +kernel
theorem dX2_runFrom_2 : decode cX2_runFrom 2 = .ok (.iconst 0, 1) := by decide +kernel
theorem dX2_runFrom_3 : decode cX2_runFrom 3 = .ok (.istore 4, 2) := by decide +kernel
theorem dX2_runFrom_5 : decode cX2_runFrom 5 = .ok (.iload_n 3, 1) := by decide +kernel
theorem dX2_runFrom_6 : decode cX2_runFrom 6 = .ok (.ifCond .lt 93, 3) := by decide +kernel
theorem dX2_runFrom_9 : decode cX2_runFrom 9 = .ok (.iload 4, 2) := by decide +kernel
theorem dX2_runFrom_11 : decode cX2_runFrom 11 = .ok (.iload_n 2, 1) := by decide +kernel
theorem dX2_runFrom_12 : decode cX2_runFrom 12 = .ok (.if_icmp .ge 87, 3) := by decide +kernel
theorem dX2_runFrom_15 : decode cX2_runFrom 15 = .ok (.aload_n 0, 1) := by decide +kernel
theorem dX2_runFrom_16 : decode cX2_runFrom 16 = .ok (.getfield 26, 3) := by decide +kernel
theorem dX2_runFrom_19 : decode cX2_runFrom 19 = .ok (.bipush 81, 2) := by decide +kernel
theorem dX2_runFrom_21 : decode cX2_runFrom 21 = .ok (.iload_n 3, 1) := by decide +kernel
theorem dX2_runFrom_22 : decode cX2_runFrom 22 = .ok (.iadd, 1) := by decide +kernel
theorem dX2_runFrom_23 : decode cX2_runFrom 23 = .ok (.iaload, 1) := by decide +kernel
theorem dX2_runFrom_24 : decode cX2_runFrom 24 = .ok (.ifCond .le 75, 3) := by decide +kernel
theorem dX2_runFrom_27 : decode cX2_runFrom 27 = .ok (.aload_n 0, 1) := by decide +kernel
theorem dX2_runFrom_28 : decode cX2_runFrom 28 = .ok (.getfield 26, 3) := by decide +kernel
theorem dX2_runFrom_31 : decode cX2_runFrom 31 = .ok (.bipush 81, 2) := by decide +kernel
theorem dX2_runFrom_33 : decode cX2_runFrom 33 = .ok (.iload_n 3, 1) := by decide +kernel
theorem dX2_runFrom_34 : decode cX2_runFrom 34 = .ok (.iadd, 1) := by decide +kernel
theorem dX2_runFrom_35 : decode cX2_runFrom 35 = .ok (.dup2, 1) := by decide +kernel
theorem dX2_runFrom_36 : decode cX2_runFrom 36 = .ok (.iaload, 1) := by decide +kernel
theorem dX2_runFrom_37 : decode cX2_runFrom 37 = .ok (.iconst 1, 1) := by decide +kernel
theorem dX2_runFrom_38 : decode cX2_runFrom 38 = .ok (.isub, 1) := by decide +kernel
theorem dX2_runFrom_39 : decode cX2_runFrom 39 = .ok (.iastore, 1) := by decide +kernel
theorem dX2_runFrom_40 : decode cX2_runFrom 40 = .ok (.iinc 4 1, 3) := by decide +kernel
theorem dX2_runFrom_43 : decode cX2_runFrom 43 = .ok (.aload_n 0, 1) := by decide +kernel
theorem dX2_runFrom_44 : decode cX2_runFrom 44 = .ok (.aload_n 0, 1) := by decide +kernel
theorem dX2_runFrom_45 : decode cX2_runFrom 45 = .ok (.getfield 23, 3) := by decide +kernel
theorem dX2_runFrom_48 : decode cX2_runFrom 48 = .ok (.iload_n 3, 1) := by decide +kernel
theorem dX2_runFrom_49 : decode cX2_runFrom 49 = .ok (.iaload, 1) := by decide +kernel
theorem dX2_runFrom_50 : decode cX2_runFrom 50 = .ok (.invokevirtual 62, 3) := by decide +kernel
theorem dX2_runFrom_53 : decode cX2_runFrom 53 = .ok (.istore 5, 2) := by decide +kernel
theorem dX2_runFrom_55 : decode cX2_runFrom 55 = .ok (.iconst 2, 1) := by decide +kernel
theorem dX2_runFrom_56 : decode cX2_runFrom 56 = .ok (.iload 5, 2) := by decide +kernel
theorem dX2_runFrom_58 : decode cX2_runFrom 58 = .ok (.imul, 1) := by decide +kernel
theorem dX2_runFrom_59 : decode cX2_runFrom 59 = .ok (.aload_n 0, 1) := by decide +kernel
theorem dX2_runFrom_60 : decode cX2_runFrom 60 = .ok (.getfield 9, 3) := by decide +kernel
theorem dX2_runFrom_63 : decode cX2_runFrom 63 = .ok (.isub, 1) := by decide +kernel
theorem dX2_runFrom_64 : decode cX2_runFrom 64 = .ok (.iconst 1, 1) := by decide +kernel
theorem dX2_runFrom_65 : decode cX2_runFrom 65 = .ok (.iadd, 1) := by decide +kernel
theorem dX2_runFrom_66 : decode cX2_runFrom 66 = .ok (.invokestatic 66, 3) := by decide +kernel
theorem dX2_runFrom_69 : decode cX2_runFrom 69 = .ok (.istore 6, 2) := by decide +kernel
theorem dX2_runFrom_71 : decode cX2_runFrom 71 = .ok (.iload 5, 2) := by decide +kernel
theorem dX2_runFrom_73 : decode cX2_runFrom 73 = .ok (.ifCond .lt 8, 3) := by decide +kernel
theorem dX2_runFrom_76 : decode cX2_runFrom 76 = .ok (.iload 6, 2) := by decide +kernel
theorem dX2_runFrom_78 : decode cX2_runFrom 78 = .ok (.ifCond .ne 7, 3) := by decide +kernel
theorem dX2_runFrom_81 : decode cX2_runFrom 81 = .ok (.iconst (-1), 1) := by decide +kernel
theorem dX2_runFrom_82 : decode cX2_runFrom 82 = .ok (.goto 13, 3) := by decide +kernel
theorem dX2_runFrom_85 : decode cX2_runFrom 85 = .ok (.iload 6, 2) := by decide +kernel
theorem dX2_runFrom_87 : decode cX2_runFrom 87 = .ok (.ifCond .ge 7, 3) := by decide +kernel
theorem dX2_runFrom_90 : decode cX2_runFrom 90 = .ok (.iconst 0, 1) := by decide +kernel
theorem dX2_runFrom_91 : decode cX2_runFrom 91 = .ok (.goto 4, 3) := by decide +kernel
theorem dX2_runFrom_94 : decode cX2_runFrom 94 = .ok (.iconst 1, 1) := by decide +kernel
theorem dX2_runFrom_95 : decode cX2_runFrom 95 = .ok (.istore_n 3, 1) := by decide +kernel
theorem dX2_runFrom_96 : decode cX2_runFrom 96 = .ok (.goto (-91), 3) := by decide +kernel
theorem dX2_runFrom_99 : decode cX2_runFrom 99 = .ok (.iload 4, 2) := by decide +kernel
theorem dX2_runFrom_101 : decode cX2_runFrom 101 = .ok (.ireturn, 1) := by decide +kernel
set_option maxRecDepth 20000 in
theorem ggX2_lay_X2_isFrom : GoodIn wsX2_lay wsX2_isFrom := goodIn_r _ [10] (by decide +kernel) (by decide +kernel)
set_option maxRecDepth 20000 in
theorem gX2_lay_X2_isFrom : GoodIn wsX2_lay (va_wsS RX2 38 yX2_isFrom wsX2_isFrom) := goodIn_app (goodIn_of _ (by decide +kernel)) ggX2_lay_X2_isFrom
set_option maxRecDepth 20000 in
theorem ggX2_lay_X2_no : GoodIn wsX2_lay wsX2_no := goodIn_r _ [14, 1, 15, 16, 17, 18, 19, 20, 21, 22, 23, 24] (by decide +kernel) (by decide +kernel)
set_option maxRecDepth 20000 in
theorem gX2_lay_X2_no : GoodIn wsX2_lay (wsV RX2 71 RX2 yX2_no wsX2_no) := goodIn_app (goodIn_of _ (by decide +kernel)) ggX2_lay_X2_no
theorem dX2_lay_0 : decode cX2_lay 0 = .ok (.aload_n 0, 1) := by decide +kernel
theorem dX2_lay_1 : decode cX2_lay 1 = .ok (.iconst 0, 1) := by decide +kernel
theorem dX2_lay_2 : decode cX2_lay 2 = .ok (.putfield 35, 3) := by decide +kernel
theorem dX2_lay_5 : decode cX2_lay 5 = .ok (.iload_n 1, 1) := by decide +kernel
theorem dX2_lay_6 : decode cX2_lay 6 = .ok (.iconst 2, 1) := by decide +kernel
theorem dX2_lay_7 : decode cX2_lay 7 = .ok (.bipush 9, 2) := by decide +kernel
theorem dX2_lay_9 : decode cX2_lay 9 = .ok (.invokestatic 38, 3) := by decide +kernel
theorem dX2_lay_12 : decode cX2_lay 12 = .ok (.ifCond .eq 13, 3) := by decide +kernel
theorem dX2_lay_15 : decode cX2_lay 15 = .ok (.iload_n 2, 1) := by decide +kernel
theorem dX2_lay_16 : decode cX2_lay 16 = .ok (.iconst 1, 1) := by decide +kernel
theorem dX2_lay_17 : decode cX2_lay 17 = .ok (.bipush 8, 2) := by decide +kernel
theorem dX2_lay_19 : decode cX2_lay 19 = .ok (.invokestatic 38, 3) := by decide +kernel
theorem dX2_lay_22 : decode cX2_lay 22 = .ok (.ifCond .ne 9, 3) := by decide +kernel
theorem dX2_lay_25 : decode cX2_lay 25 = .ok (.aload_n 0, 1) := by decide +kernel
theorem dX2_lay_26 : decode cX2_lay 26 = .ok (.iconst 1, 1) := by decide +kernel
theorem dX2_lay_27 : decode cX2_lay 27 = .ok (.invokevirtual 71, 3) := by decide +kernel
theorem dX2_lay_30 : decode cX2_lay 30 = .ok (.ireturn, 1) := by decide +kernel
theorem dX2_lay_31 : decode cX2_lay 31 = .ok (.aload_n 0, 1) := by decide +kernel
theorem dX2_lay_32 : decode cX2_lay 32 = .ok (.iload_n 1, 1) := by decide +kernel
theorem dX2_lay_33 : decode cX2_lay 33 = .ok (.putfield 9, 3) := by decide +kernel
theorem dX2_lay_36 : decode cX2_lay 36 = .ok (.aload_n 0, 1) := by decide +kernel
theorem dX2_lay_37 : decode cX2_lay 37 = .ok (.iload_n 2, 1) := by decide +kernel
theorem dX2_lay_38 : decode cX2_lay 38 = .ok (.putfield 13, 3) := by decide +kernel
theorem dX2_lay_41 : decode cX2_lay 41 = .ok (.iconst 0, 1) := by decide +kernel
theorem dX2_lay_42 : decode cX2_lay 42 = .ok (.istore_n 3, 1) := by decide +kernel
theorem dX2_lay_43 : decode cX2_lay 43 = .ok (.iload_n 3, 1) := by decide +kernel
theorem dX2_lay_44 : decode cX2_lay 44 = .ok (.bipush 72, 2) := by decide +kernel
theorem dX2_lay_46 : decode cX2_lay 46 = .ok (.if_icmp .ge 23, 3) := by decide +kernel
theorem dX2_lay_49 : decode cX2_lay 49 = .ok (.aload_n 0, 1) := by decide +kernel
theorem dX2_lay_50 : decode cX2_lay 50 = .ok (.getfield 16, 3) := by decide +kernel
theorem dX2_lay_53 : decode cX2_lay 53 = .ok (.iload_n 3, 1) := by decide +kernel
theorem dX2_lay_54 : decode cX2_lay 54 = .ok (.iconst 0, 1) := by decide +kernel
theorem dX2_lay_55 : decode cX2_lay 55 = .ok (.iastore, 1) := by decide +kernel
theorem dX2_lay_56 : decode cX2_lay 56 = .ok (.aload_n 0, 1) := by decide +kernel
theorem dX2_lay_57 : decode cX2_lay 57 = .ok (.getfield 26, 3) := by decide +kernel
theorem dX2_lay_60 : decode cX2_lay 60 = .ok (.iload_n 3, 1) := by decide +kernel
theorem dX2_lay_61 : decode cX2_lay 61 = .ok (.iconst 0, 1) := by decide +kernel
theorem dX2_lay_62 : decode cX2_lay 62 = .ok (.iastore, 1) := by decide +kernel
theorem dX2_lay_63 : decode cX2_lay 63 = .ok (.iinc 3 1, 3) := by decide +kernel
theorem dX2_lay_66 : decode cX2_lay 66 = .ok (.goto (-23), 3) := by decide +kernel
theorem dX2_lay_69 : decode cX2_lay 69 = .ok (.iconst 0, 1) := by decide +kernel
theorem dX2_lay_70 : decode cX2_lay 70 = .ok (.istore_n 3, 1) := by decide +kernel
theorem dX2_lay_71 : decode cX2_lay 71 = .ok (.iload_n 3, 1) := by decide +kernel
theorem dX2_lay_72 : decode cX2_lay 72 = .ok (.bipush 9, 2) := by decide +kernel
theorem dX2_lay_74 : decode cX2_lay 74 = .ok (.if_icmp .ge 19, 3) := by decide +kernel
theorem dX2_lay_77 : decode cX2_lay 77 = .ok (.aload_n 0, 1) := by decide +kernel
theorem dX2_lay_78 : decode cX2_lay 78 = .ok (.getfield 26, 3) := by decide +kernel
theorem dX2_lay_81 : decode cX2_lay 81 = .ok (.bipush 72, 2) := by decide +kernel
theorem dX2_lay_83 : decode cX2_lay 83 = .ok (.iload_n 3, 1) := by decide +kernel
theorem dX2_lay_84 : decode cX2_lay 84 = .ok (.iadd, 1) := by decide +kernel
theorem dX2_lay_85 : decode cX2_lay 85 = .ok (.iconst 0, 1) := by decide +kernel
theorem dX2_lay_86 : decode cX2_lay 86 = .ok (.iastore, 1) := by decide +kernel
theorem dX2_lay_87 : decode cX2_lay 87 = .ok (.iinc 3 1, 3) := by decide +kernel
theorem dX2_lay_90 : decode cX2_lay 90 = .ok (.goto (-19), 3) := by decide +kernel
theorem dX2_lay_93 : decode cX2_lay 93 = .ok (.aload_n 0, 1) := by decide +kernel
theorem dX2_lay_94 : decode cX2_lay 94 = .ok (.getfield 26, 3) := by decide +kernel
theorem dX2_lay_97 : decode cX2_lay 97 = .ok (.bipush 83, 2) := by decide +kernel
theorem dX2_lay_99 : decode cX2_lay 99 = .ok (.iconst 0, 1) := by decide +kernel
theorem dX2_lay_100 : decode cX2_lay 100 = .ok (.iastore, 1) := by decide +kernel
theorem dX2_lay_101 : decode cX2_lay 101 = .ok (.aload_n 0, 1) := by decide +kernel
theorem dX2_lay_102 : decode cX2_lay 102 = .ok (.getfield 23, 3) := by decide +kernel
theorem dX2_lay_105 : decode cX2_lay 105 = .ok (.iconst 0, 1) := by decide +kernel
theorem dX2_lay_106 : decode cX2_lay 106 = .ok (.iconst 0, 1) := by decide +kernel
theorem dX2_lay_107 : decode cX2_lay 107 = .ok (.iastore, 1) := by decide +kernel
theorem dX2_lay_108 : decode cX2_lay 108 = .ok (.aload_n 0, 1) := by decide +kernel
theorem dX2_lay_109 : decode cX2_lay 109 = .ok (.getfield 23, 3) := by decide +kernel
theorem dX2_lay_112 : decode cX2_lay 112 = .ok (.iconst 1, 1) := by decide +kernel
theorem dX2_lay_113 : decode cX2_lay 113 = .ok (.iload_n 1, 1) := by decide +kernel
theorem dX2_lay_114 : decode cX2_lay 114 = .ok (.iconst 1, 1) := by decide +kernel
theorem dX2_lay_115 : decode cX2_lay 115 = .ok (.isub, 1) := by decide +kernel
theorem dX2_lay_116 : decode cX2_lay 116 = .ok (.iastore, 1) := by decide +kernel
theorem dX2_lay_117 : decode cX2_lay 117 = .ok (.iload_n 1, 1) := by decide +kernel
theorem dX2_lay_118 : decode cX2_lay 118 = .ok (.iload_n 2, 1) := by decide +kernel
theorem dX2_lay_119 : decode cX2_lay 119 = .ok (.imul, 1) := by decide +kernel
theorem dX2_lay_120 : decode cX2_lay 120 = .ok (.ireturn, 1) := by decide +kernel
theorem dX2_placed_0 : decode cX2_placed 0 = .ok (.bipush 9, 2) := by decide +kernel
theorem dX2_placed_2 : decode cX2_placed 2 = .ok (.iload_n 1, 1) := by decide +kernel
theorem dX2_placed_3 : decode cX2_placed 3 = .ok (.imul, 1) := by decide +kernel
theorem dX2_placed_4 : decode cX2_placed 4 = .ok (.iload_n 2, 1) := by decide +kernel
theorem dX2_placed_5 : decode cX2_placed 5 = .ok (.iadd, 1) := by decide +kernel
theorem dX2_placed_6 : decode cX2_placed 6 = .ok (.istore 4, 2) := by decide +kernel
theorem dX2_placed_8 : decode cX2_placed 8 = .ok (.aload_n 0, 1) := by decide +kernel
theorem dX2_placed_9 : decode cX2_placed 9 = .ok (.getfield 16, 3) := by decide +kernel
theorem dX2_placed_12 : decode cX2_placed 12 = .ok (.iload 4, 2) := by decide +kernel
theorem dX2_placed_14 : decode cX2_placed 14 = .ok (.iaload, 1) := by decide +kernel
theorem dX2_placed_15 : decode cX2_placed 15 = .ok (.istore 5, 2) := by decide +kernel
theorem dX2_placed_17 : decode cX2_placed 17 = .ok (.aload_n 0, 1) := by decide +kernel
theorem dX2_placed_18 : decode cX2_placed 18 = .ok (.getfield 16, 3) := by decide +kernel
theorem dX2_placed_21 : decode cX2_placed 21 = .ok (.iload 4, 2) := by decide +kernel
theorem dX2_placed_23 : decode cX2_placed 23 = .ok (.iload_n 3, 1) := by decide +kernel
theorem dX2_placed_24 : decode cX2_placed 24 = .ok (.iastore, 1) := by decide +kernel
theorem dX2_placed_25 : decode cX2_placed 25 = .ok (.aload_n 0, 1) := by decide +kernel
theorem dX2_placed_26 : decode cX2_placed 26 = .ok (.getfield 26, 3) := by decide +kernel
theorem dX2_placed_29 : decode cX2_placed 29 = .ok (.iload 4, 2) := by decide +kernel
theorem dX2_placed_31 : decode cX2_placed 31 = .ok (.iconst 0, 1) := by decide +kernel
theorem dX2_placed_32 : decode cX2_placed 32 = .ok (.iastore, 1) := by decide +kernel
theorem dX2_placed_33 : decode cX2_placed 33 = .ok (.iload 5, 2) := by decide +kernel
theorem dX2_placed_35 : decode cX2_placed 35 = .ok (.ireturn, 1) := by decide +kernel
set_option maxRecDepth 20000 in
theorem ggX2_put_X2_isPlace : GoodIn wsX2_put wsX2_isPlace := goodIn_r _ [6, 7, 8, 9, 5, 10, 11, 12, 13, 14, 15, 16, 17, 18, 19, 30, 31, 32, 33, 34, 35, 36, 37, 38, 39] (by decide +kernel) (by decide +kernel)
set_option maxRecDepth 20000 in
theorem gX2_put_X2_isPlace : GoodIn wsX2_put (wsV RX2 74 RX2 yX2_isPlace wsX2_isPlace) := goodIn_app (goodIn_of _ (by decide +kernel)) ggX2_put_X2_isPlace
set_option maxRecDepth 20000 in
theorem ggX2_put_X2_no : GoodIn wsX2_put wsX2_no := goodIn_r _ [23, 1, 30, 31, 32, 33, 34, 35, 36, 37, 38, 39] (by decide +kernel) (by decide +kernel)
set_option maxRecDepth 20000 in
theorem gX2_put_X2_no : GoodIn wsX2_put (wsV RX2 71 RX2 yX2_no wsX2_no) := goodIn_app (goodIn_of _ (by decide +kernel)) ggX2_put_X2_no
set_option maxRecDepth 20000 in
theorem ggX2_put_X2_isFrom : GoodIn wsX2_put wsX2_isFrom := goodIn_r _ [14] (by decide +kernel) (by decide +kernel)
set_option maxRecDepth 20000 in
theorem gX2_put_X2_isFrom : GoodIn wsX2_put (va_wsS RX2 38 yX2_isFrom wsX2_isFrom) := goodIn_app (goodIn_of _ (by decide +kernel)) ggX2_put_X2_isFrom
set_option maxRecDepth 20000 in
theorem ggX2_put_X2_placed : GoodIn wsX2_put wsX2_placed := goodIn_r _ [27, 28, 29, 30, 31, 32, 33, 34, 35, 36, 37, 38, 39] (by decide +kernel) (by decide +kernel)
set_option maxRecDepth 20000 in
theorem gX2_put_X2_placed : GoodIn wsX2_put (wsV RX2 78 RX2 yX2_placed wsX2_placed) := goodIn_app (goodIn_of _ (by decide +kernel)) ggX2_put_X2_placed
theorem dX2_put_0 : decode cX2_put 0 = .ok (.aload_n 0, 1) := by decide +kernel
theorem dX2_put_1 : decode cX2_put 1 = .ok (.iconst 0, 1) := by decide +kernel
theorem dX2_put_2 : decode cX2_put 2 = .ok (.putfield 35, 3) := by decide +kernel
theorem dX2_put_5 : decode cX2_put 5 = .ok (.aload_n 0, 1) := by decide +kernel
theorem dX2_put_6 : decode cX2_put 6 = .ok (.iload_n 1, 1) := by decide +kernel
theorem dX2_put_7 : decode cX2_put 7 = .ok (.iload_n 2, 1) := by decide +kernel
theorem dX2_put_8 : decode cX2_put 8 = .ok (.invokevirtual 74, 3) := by decide +kernel
theorem dX2_put_11 : decode cX2_put 11 = .ok (.ifCond .ne 9, 3) := by decide +kernel
theorem dX2_put_14 : decode cX2_put 14 = .ok (.aload_n 0, 1) := by decide +kernel
theorem dX2_put_15 : decode cX2_put 15 = .ok (.iconst 1, 1) := by decide +kernel
theorem dX2_put_16 : decode cX2_put 16 = .ok (.invokevirtual 71, 3) := by decide +kernel
theorem dX2_put_19 : decode cX2_put 19 = .ok (.ireturn, 1) := by decide +kernel
theorem dX2_put_20 : decode cX2_put 20 = .ok (.iload_n 3, 1) := by decide +kernel
theorem dX2_put_21 : decode cX2_put 21 = .ok (.iconst 0, 1) := by decide +kernel
theorem dX2_put_22 : decode cX2_put 22 = .ok (.iconst 4, 1) := by decide +kernel
theorem dX2_put_23 : decode cX2_put 23 = .ok (.invokestatic 38, 3) := by decide +kernel
theorem dX2_put_26 : decode cX2_put 26 = .ok (.ifCond .eq 13, 3) := by decide +kernel
theorem dX2_put_29 : decode cX2_put 29 = .ok (.aload_n 0, 1) := by decide +kernel
theorem dX2_put_30 : decode cX2_put 30 = .ok (.iload_n 1, 1) := by decide +kernel
theorem dX2_put_31 : decode cX2_put 31 = .ok (.iload_n 2, 1) := by decide +kernel
theorem dX2_put_32 : decode cX2_put 32 = .ok (.iload_n 3, 1) := by decide +kernel
theorem dX2_put_33 : decode cX2_put 33 = .ok (.invokevirtual 78, 3) := by decide +kernel
theorem dX2_put_36 : decode cX2_put 36 = .ok (.goto 8, 3) := by decide +kernel
theorem dX2_put_39 : decode cX2_put 39 = .ok (.aload_n 0, 1) := by decide +kernel
theorem dX2_put_40 : decode cX2_put 40 = .ok (.iconst 2, 1) := by decide +kernel
theorem dX2_put_41 : decode cX2_put 41 = .ok (.invokevirtual 71, 3) := by decide +kernel
theorem dX2_put_44 : decode cX2_put 44 = .ok (.ireturn, 1) := by decide +kernel
set_option maxRecDepth 20000 in
theorem ggX2_putCounter_X2_isPlace : GoodIn wsX2_putCounter wsX2_isPlace := goodIn_r _ [7, 8, 9, 10, 6, 11, 12, 13, 14, 15, 16, 17, 18, 19, 20, 31, 32, 33, 34, 35, 36, 37, 38, 39, 40] (by decide +kernel) (by decide +kernel)
set_option maxRecDepth 20000 in
theorem gX2_putCounter_X2_isPlace : GoodIn wsX2_putCounter (wsV RX2 74 RX2 yX2_isPlace wsX2_isPlace) := goodIn_app (goodIn_of _ (by decide +kernel)) ggX2_putCounter_X2_isPlace
set_option maxRecDepth 20000 in
theorem ggX2_putCounter_X2_no : GoodIn wsX2_putCounter wsX2_no := goodIn_r _ [24, 1, 31, 32, 33, 34, 35, 36, 37, 38, 39, 40] (by decide +kernel) (by decide +kernel)
set_option maxRecDepth 20000 in
theorem gX2_putCounter_X2_no : GoodIn wsX2_putCounter (wsV RX2 71 RX2 yX2_no wsX2_no) := goodIn_app (goodIn_of _ (by decide +kernel)) ggX2_putCounter_X2_no
set_option maxRecDepth 20000 in
theorem ggX2_putCounter_X2_isFrom : GoodIn wsX2_putCounter wsX2_isFrom := goodIn_r _ [15] (by decide +kernel) (by decide +kernel)
set_option maxRecDepth 20000 in
theorem gX2_putCounter_X2_isFrom : GoodIn wsX2_putCounter (va_wsS RX2 38 yX2_isFrom wsX2_isFrom) := goodIn_app (goodIn_of _ (by decide +kernel)) ggX2_putCounter_X2_isFrom
set_option maxRecDepth 20000 in
theorem ggX2_putCounter_X2_placed : GoodIn wsX2_putCounter wsX2_placed := goodIn_r _ [28, 29, 30, 31, 32, 33, 34, 35, 36, 37, 38, 39, 40] (by decide +kernel) (by decide +kernel)
set_option maxRecDepth 20000 in
theorem gX2_putCounter_X2_placed : GoodIn wsX2_putCounter (wsV RX2 78 RX2 yX2_placed wsX2_placed) := goodIn_app (goodIn_of _ (by decide +kernel)) ggX2_putCounter_X2_placed
theorem dX2_putCounter_0 : decode cX2_putCounter 0 = .ok (.aload_n 0, 1) := by decide +kernel
theorem dX2_putCounter_1 : decode cX2_putCounter 1 = .ok (.iconst 0, 1) := by decide +kernel
theorem dX2_putCounter_2 : decode cX2_putCounter 2 = .ok (.putfield 35, 3) := by decide +kernel
theorem dX2_putCounter_5 : decode cX2_putCounter 5 = .ok (.aload_n 0, 1) := by decide +kernel
theorem dX2_putCounter_6 : decode cX2_putCounter 6 = .ok (.iload_n 1, 1) := by decide +kernel
theorem dX2_putCounter_7 : decode cX2_putCounter 7 = .ok (.iload_n 2, 1) := by decide +kernel
theorem dX2_putCounter_8 : decode cX2_putCounter 8 = .ok (.invokevirtual 74, 3) := by decide +kernel
theorem dX2_putCounter_11 : decode cX2_putCounter 11 = .ok (.ifCond .ne 9, 3) := by decide +kernel
theorem dX2_putCounter_14 : decode cX2_putCounter 14 = .ok (.aload_n 0, 1) := by decide +kernel
theorem dX2_putCounter_15 : decode cX2_putCounter 15 = .ok (.iconst 1, 1) := by decide +kernel
theorem dX2_putCounter_16 : decode cX2_putCounter 16 = .ok (.invokevirtual 71, 3) := by decide +kernel
theorem dX2_putCounter_19 : decode cX2_putCounter 19 = .ok (.ireturn, 1) := by decide +kernel
theorem dX2_putCounter_20 : decode cX2_putCounter 20 = .ok (.iload_n 3, 1) := by decide +kernel
theorem dX2_putCounter_21 : decode cX2_putCounter 21 = .ok (.iconst 2, 1) := by decide +kernel
theorem dX2_putCounter_22 : decode cX2_putCounter 22 = .ok (.bipush 9, 2) := by decide +kernel
theorem dX2_putCounter_24 : decode cX2_putCounter 24 = .ok (.invokestatic 38, 3) := by decide +kernel
theorem dX2_putCounter_27 : decode cX2_putCounter 27 = .ok (.ifCond .ne 9, 3) := by decide +kernel
theorem dX2_putCounter_30 : decode cX2_putCounter 30 = .ok (.aload_n 0, 1) := by decide +kernel
theorem dX2_putCounter_31 : decode cX2_putCounter 31 = .ok (.iconst 2, 1) := by decide +kernel
theorem dX2_putCounter_32 : decode cX2_putCounter 32 = .ok (.invokevirtual 71, 3) := by decide +kernel
theorem dX2_putCounter_35 : decode cX2_putCounter 35 = .ok (.ireturn, 1) := by decide +kernel
theorem dX2_putCounter_36 : decode cX2_putCounter 36 = .ok (.aload_n 0, 1) := by decide +kernel
theorem dX2_putCounter_37 : decode cX2_putCounter 37 = .ok (.getfield 20, 3) := by decide +kernel
theorem dX2_putCounter_40 : decode cX2_putCounter 40 = .ok (.bipush 9, 2) := by decide +kernel
theorem dX2_putCounter_42 : decode cX2_putCounter 42 = .ok (.iload_n 1, 1) := by decide +kernel
theorem dX2_putCounter_43 : decode cX2_putCounter 43 = .ok (.imul, 1) := by decide +kernel
theorem dX2_putCounter_44 : decode cX2_putCounter 44 = .ok (.iload_n 2, 1) := by decide +kernel
theorem dX2_putCounter_45 : decode cX2_putCounter 45 = .ok (.iadd, 1) := by decide +kernel
theorem dX2_putCounter_46 : decode cX2_putCounter 46 = .ok (.iload_n 3, 1) := by decide +kernel
theorem dX2_putCounter_47 : decode cX2_putCounter 47 = .ok (.iastore, 1) := by decide +kernel
theorem dX2_putCounter_48 : decode cX2_putCounter 48 = .ok (.aload_n 0, 1) := by decide +kernel
theorem dX2_putCounter_49 : decode cX2_putCounter 49 = .ok (.iload_n 1, 1) := by decide +kernel
theorem dX2_putCounter_50 : decode cX2_putCounter 50 = .ok (.iload_n 2, 1) := by decide +kernel
theorem dX2_putCounter_51 : decode cX2_putCounter 51 = .ok (.iconst 5, 1) := by decide +kernel
theorem dX2_putCounter_52 : decode cX2_putCounter 52 = .ok (.invokevirtual 78, 3) := by decide +kernel
theorem dX2_putCounter_55 : decode cX2_putCounter 55 = .ok (.ireturn, 1) := by decide +kernel
set_option maxRecDepth 20000 in
theorem ggX2_turn_X2_isPlace : GoodIn wsX2_turn wsX2_isPlace := goodIn_r _ [8, 9, 10, 11, 7, 12, 13, 14, 15, 16, 17, 18, 19, 20, 21, 26, 27, 28, 29, 30, 31, 32, 33, 34, 35] (by decide +kernel) (by decide +kernel)
set_option maxRecDepth 20000 in
theorem gX2_turn_X2_isPlace : GoodIn wsX2_turn (wsV RX2 74 RX2 yX2_isPlace wsX2_isPlace) := goodIn_app (goodIn_of _ (by decide +kernel)) ggX2_turn_X2_isPlace
set_option maxRecDepth 20000 in
theorem ggX2_turn_X2_isNot : GoodIn wsX2_turn wsX2_isNot := goodIn_r _ [25, 1, 26, 27, 28, 29, 30, 31, 32, 33, 34, 35] (by decide +kernel) (by decide +kernel)
set_option maxRecDepth 20000 in
theorem gX2_turn_X2_isNot : GoodIn wsX2_turn (wsV RX2 82 RX2 yX2_isNot wsX2_isNot) := goodIn_app (goodIn_of _ (by decide +kernel)) ggX2_turn_X2_isNot
theorem dX2_turn_0 : decode cX2_turn 0 = .ok (.aload_n 0, 1) := by decide +kernel
theorem dX2_turn_1 : decode cX2_turn 1 = .ok (.iconst 0, 1) := by decide +kernel
theorem dX2_turn_2 : decode cX2_turn 2 = .ok (.putfield 35, 3) := by decide +kernel
theorem dX2_turn_5 : decode cX2_turn 5 = .ok (.aload_n 0, 1) := by decide +kernel
theorem dX2_turn_6 : decode cX2_turn 6 = .ok (.iload_n 1, 1) := by decide +kernel
theorem dX2_turn_7 : decode cX2_turn 7 = .ok (.iload_n 2, 1) := by decide +kernel
theorem dX2_turn_8 : decode cX2_turn 8 = .ok (.invokevirtual 74, 3) := by decide +kernel
theorem dX2_turn_11 : decode cX2_turn 11 = .ok (.ifCond .ne 9, 3) := by decide +kernel
theorem dX2_turn_14 : decode cX2_turn 14 = .ok (.aload_n 0, 1) := by decide +kernel
theorem dX2_turn_15 : decode cX2_turn 15 = .ok (.iconst 1, 1) := by decide +kernel
theorem dX2_turn_16 : decode cX2_turn 16 = .ok (.invokevirtual 82, 3) := by decide +kernel
theorem dX2_turn_19 : decode cX2_turn 19 = .ok (.ireturn, 1) := by decide +kernel
theorem dX2_turn_20 : decode cX2_turn 20 = .ok (.bipush 9, 2) := by decide +kernel
theorem dX2_turn_22 : decode cX2_turn 22 = .ok (.iload_n 1, 1) := by decide +kernel
theorem dX2_turn_23 : decode cX2_turn 23 = .ok (.imul, 1) := by decide +kernel
theorem dX2_turn_24 : decode cX2_turn 24 = .ok (.iload_n 2, 1) := by decide +kernel
theorem dX2_turn_25 : decode cX2_turn 25 = .ok (.iadd, 1) := by decide +kernel
theorem dX2_turn_26 : decode cX2_turn 26 = .ok (.istore_n 3, 1) := by decide +kernel
theorem dX2_turn_27 : decode cX2_turn 27 = .ok (.aload_n 0, 1) := by decide +kernel
theorem dX2_turn_28 : decode cX2_turn 28 = .ok (.getfield 16, 3) := by decide +kernel
theorem dX2_turn_31 : decode cX2_turn 31 = .ok (.iload_n 3, 1) := by decide +kernel
theorem dX2_turn_32 : decode cX2_turn 32 = .ok (.iaload, 1) := by decide +kernel
theorem dX2_turn_33 : decode cX2_turn 33 = .ok (.iconst 3, 1) := by decide +kernel
theorem dX2_turn_34 : decode cX2_turn 34 = .ok (.if_icmp .eq 9, 3) := by decide +kernel
theorem dX2_turn_37 : decode cX2_turn 37 = .ok (.aload_n 0, 1) := by decide +kernel
theorem dX2_turn_38 : decode cX2_turn 38 = .ok (.iconst 2, 1) := by decide +kernel
theorem dX2_turn_39 : decode cX2_turn 39 = .ok (.invokevirtual 82, 3) := by decide +kernel
theorem dX2_turn_42 : decode cX2_turn 42 = .ok (.ireturn, 1) := by decide +kernel
theorem dX2_turn_43 : decode cX2_turn 43 = .ok (.aload_n 0, 1) := by decide +kernel
theorem dX2_turn_44 : decode cX2_turn 44 = .ok (.getfield 26, 3) := by decide +kernel
theorem dX2_turn_47 : decode cX2_turn 47 = .ok (.iload_n 3, 1) := by decide +kernel
theorem dX2_turn_48 : decode cX2_turn 48 = .ok (.iconst 1, 1) := by decide +kernel
theorem dX2_turn_49 : decode cX2_turn 49 = .ok (.aload_n 0, 1) := by decide +kernel
theorem dX2_turn_50 : decode cX2_turn 50 = .ok (.getfield 26, 3) := by decide +kernel
theorem dX2_turn_53 : decode cX2_turn 53 = .ok (.iload_n 3, 1) := by decide +kernel
theorem dX2_turn_54 : decode cX2_turn 54 = .ok (.iaload, 1) := by decide +kernel
theorem dX2_turn_55 : decode cX2_turn 55 = .ok (.isub, 1) := by decide +kernel
theorem dX2_turn_56 : decode cX2_turn 56 = .ok (.iastore, 1) := by decide +kernel
theorem dX2_turn_57 : decode cX2_turn 57 = .ok (.aload_n 0, 1) := by decide +kernel
theorem dX2_turn_58 : decode cX2_turn 58 = .ok (.getfield 26, 3) := by decide +kernel
theorem dX2_turn_61 : decode cX2_turn 61 = .ok (.iload_n 3, 1) := by decide +kernel
theorem dX2_turn_62 : decode cX2_turn 62 = .ok (.iaload, 1) := by decide +kernel
theorem dX2_turn_63 : decode cX2_turn 63 = .ok (.iconst 1, 1) := by decide +kernel
theorem dX2_turn_64 : decode cX2_turn 64 = .ok (.if_icmp .ne 7, 3) := by decide +kernel
theorem dX2_turn_67 : decode cX2_turn 67 = .ok (.iconst 1, 1) := by decide +kernel
theorem dX2_turn_68 : decode cX2_turn 68 = .ok (.goto 4, 3) := by decide +kernel
theorem dX2_turn_71 : decode cX2_turn 71 = .ok (.iconst 0, 1) := by decide +kernel
theorem dX2_turn_72 : decode cX2_turn 72 = .ok (.ireturn, 1) := by decide +kernel
set_option maxRecDepth 20000 in
theorem ggX2_setHopper_X2_isFrom : GoodIn wsX2_setHopper wsX2_isFrom := goodIn_r _ [7] (by decide +kernel) (by decide +kernel)
set_option maxRecDepth 20000 in
theorem gX2_setHopper_X2_isFrom : GoodIn wsX2_setHopper (va_wsS RX2 38 yX2_isFrom wsX2_isFrom) := goodIn_app (goodIn_of _ (by decide +kernel)) ggX2_setHopper_X2_isFrom
set_option maxRecDepth 20000 in
theorem ggX2_setHopper_X2_isColumn : GoodIn wsX2_setHopper wsX2_isColumn := goodIn_r _ [11, 12, 4, 5, 6, 7, 17, 18, 19, 20, 21, 22, 23, 24, 25, 26] (by decide +kernel) (by decide +kernel)
set_option maxRecDepth 20000 in
theorem gX2_setHopper_X2_isColumn : GoodIn wsX2_setHopper (wsV RX2 46 RX2 yX2_isColumn wsX2_isColumn) := goodIn_app (goodIn_of _ (by decide +kernel)) ggX2_setHopper_X2_isColumn
set_option maxRecDepth 20000 in
theorem ggX2_setHopper_X2_no : GoodIn wsX2_setHopper wsX2_no := goodIn_r _ [16, 1, 17, 18, 19, 20, 21, 22, 23, 24, 25, 26] (by decide +kernel) (by decide +kernel)
set_option maxRecDepth 20000 in
theorem gX2_setHopper_X2_no : GoodIn wsX2_setHopper (wsV RX2 71 RX2 yX2_no wsX2_no) := goodIn_app (goodIn_of _ (by decide +kernel)) ggX2_setHopper_X2_no
theorem dX2_setHopper_0 : decode cX2_setHopper 0 = .ok (.aload_n 0, 1) := by decide +kernel
theorem dX2_setHopper_1 : decode cX2_setHopper 1 = .ok (.iconst 0, 1) := by decide +kernel
theorem dX2_setHopper_2 : decode cX2_setHopper 2 = .ok (.putfield 35, 3) := by decide +kernel
theorem dX2_setHopper_5 : decode cX2_setHopper 5 = .ok (.iload_n 1, 1) := by decide +kernel
theorem dX2_setHopper_6 : decode cX2_setHopper 6 = .ok (.iconst 0, 1) := by decide +kernel
theorem dX2_setHopper_7 : decode cX2_setHopper 7 = .ok (.iconst 1, 1) := by decide +kernel
theorem dX2_setHopper_8 : decode cX2_setHopper 8 = .ok (.invokestatic 38, 3) := by decide +kernel
theorem dX2_setHopper_11 : decode cX2_setHopper 11 = .ok (.ifCond .eq 11, 3) := by decide +kernel
theorem dX2_setHopper_14 : decode cX2_setHopper 14 = .ok (.aload_n 0, 1) := by decide +kernel
theorem dX2_setHopper_15 : decode cX2_setHopper 15 = .ok (.iload_n 2, 1) := by decide +kernel
theorem dX2_setHopper_16 : decode cX2_setHopper 16 = .ok (.invokevirtual 46, 3) := by decide +kernel
theorem dX2_setHopper_19 : decode cX2_setHopper 19 = .ok (.ifCond .ne 9, 3) := by decide +kernel
theorem dX2_setHopper_22 : decode cX2_setHopper 22 = .ok (.aload_n 0, 1) := by decide +kernel
theorem dX2_setHopper_23 : decode cX2_setHopper 23 = .ok (.iconst 1, 1) := by decide +kernel
theorem dX2_setHopper_24 : decode cX2_setHopper 24 = .ok (.invokevirtual 71, 3) := by decide +kernel
theorem dX2_setHopper_27 : decode cX2_setHopper 27 = .ok (.ireturn, 1) := by decide +kernel
theorem dX2_setHopper_28 : decode cX2_setHopper 28 = .ok (.iload_n 3, 1) := by decide +kernel
theorem dX2_setHopper_29 : decode cX2_setHopper 29 = .ok (.iconst 0, 1) := by decide +kernel
theorem dX2_setHopper_30 : decode cX2_setHopper 30 = .ok (.bipush 99, 2) := by decide +kernel
theorem dX2_setHopper_32 : decode cX2_setHopper 32 = .ok (.invokestatic 38, 3) := by decide +kernel
theorem dX2_setHopper_35 : decode cX2_setHopper 35 = .ok (.ifCond .ne 9, 3) := by decide +kernel
theorem dX2_setHopper_38 : decode cX2_setHopper 38 = .ok (.aload_n 0, 1) := by decide +kernel
theorem dX2_setHopper_39 : decode cX2_setHopper 39 = .ok (.iconst 2, 1) := by decide +kernel
theorem dX2_setHopper_40 : decode cX2_setHopper 40 = .ok (.invokevirtual 71, 3) := by decide +kernel
theorem dX2_setHopper_43 : decode cX2_setHopper 43 = .ok (.ireturn, 1) := by decide +kernel
theorem dX2_setHopper_44 : decode cX2_setHopper 44 = .ok (.aload_n 0, 1) := by decide +kernel
theorem dX2_setHopper_45 : decode cX2_setHopper 45 = .ok (.getfield 26, 3) := by decide +kernel
theorem dX2_setHopper_48 : decode cX2_setHopper 48 = .ok (.bipush 81, 2) := by decide +kernel
theorem dX2_setHopper_50 : decode cX2_setHopper 50 = .ok (.iload_n 1, 1) := by decide +kernel
theorem dX2_setHopper_51 : decode cX2_setHopper 51 = .ok (.iadd, 1) := by decide +kernel
theorem dX2_setHopper_52 : decode cX2_setHopper 52 = .ok (.iaload, 1) := by decide +kernel
theorem dX2_setHopper_53 : decode cX2_setHopper 53 = .ok (.istore 4, 2) := by decide +kernel
theorem dX2_setHopper_55 : decode cX2_setHopper 55 = .ok (.aload_n 0, 1) := by decide +kernel
theorem dX2_setHopper_56 : decode cX2_setHopper 56 = .ok (.getfield 26, 3) := by decide +kernel
theorem dX2_setHopper_59 : decode cX2_setHopper 59 = .ok (.bipush 81, 2) := by decide +kernel
theorem dX2_setHopper_61 : decode cX2_setHopper 61 = .ok (.iload_n 1, 1) := by decide +kernel
theorem dX2_setHopper_62 : decode cX2_setHopper 62 = .ok (.iadd, 1) := by decide +kernel
theorem dX2_setHopper_63 : decode cX2_setHopper 63 = .ok (.iload_n 3, 1) := by decide +kernel
theorem dX2_setHopper_64 : decode cX2_setHopper 64 = .ok (.iastore, 1) := by decide +kernel
theorem dX2_setHopper_65 : decode cX2_setHopper 65 = .ok (.aload_n 0, 1) := by decide +kernel
theorem dX2_setHopper_66 : decode cX2_setHopper 66 = .ok (.getfield 23, 3) := by decide +kernel
theorem dX2_setHopper_69 : decode cX2_setHopper 69 = .ok (.iload_n 1, 1) := by decide +kernel
theorem dX2_setHopper_70 : decode cX2_setHopper 70 = .ok (.iload_n 2, 1) := by decide +kernel
theorem dX2_setHopper_71 : decode cX2_setHopper 71 = .ok (.iastore, 1) := by decide +kernel
theorem dX2_setHopper_72 : decode cX2_setHopper 72 = .ok (.iload 4, 2) := by decide +kernel
theorem dX2_setHopper_74 : decode cX2_setHopper 74 = .ok (.ireturn, 1) := by decide +kernel
set_option maxRecDepth 20000 in
theorem ggX2_drop_X2_isColumn : GoodIn wsX2_drop wsX2_isColumn := goodIn_r _ [6, 7, 8, 9, 5, 10, 29, 30, 31, 32, 33, 34, 35, 36, 37, 38] (by decide +kernel) (by decide +kernel)
set_option maxRecDepth 20000 in
theorem gX2_drop_X2_isColumn : GoodIn wsX2_drop (wsV RX2 46 RX2 yX2_isColumn wsX2_isColumn) := goodIn_app (goodIn_of _ (by decide +kernel)) ggX2_drop_X2_isColumn
set_option maxRecDepth 20000 in
theorem ggX2_drop_X2_fall : GoodIn wsX2_drop wsX2_fall := goodIn_r _ [14, 15, 16, 17, 18, 19, 20, 21, 5, 22, 23, 24, 2, 3, 4, 6, 7, 8, 9, 10, 29, 30, 31, 32, 33, 34, 35, 36, 37, 38] (by decide +kernel) (by decide +kernel)
set_option maxRecDepth 20000 in
theorem gX2_drop_X2_fall : GoodIn wsX2_drop (wsV RX2 62 RX2 yX2_fall wsX2_fall) := goodIn_app (goodIn_of _ (by decide +kernel)) ggX2_drop_X2_fall
set_option maxRecDepth 20000 in
theorem ggX2_drop_X2_no : GoodIn wsX2_drop wsX2_no := goodIn_r _ [28, 1, 29, 30, 31, 32, 33, 34, 35, 36, 37, 38] (by decide +kernel) (by decide +kernel)
set_option maxRecDepth 20000 in
theorem gX2_drop_X2_no : GoodIn wsX2_drop (wsV RX2 71 RX2 yX2_no wsX2_no) := goodIn_app (goodIn_of _ (by decide +kernel)) ggX2_drop_X2_no
theorem dX2_drop_0 : decode cX2_drop 0 = .ok (.aload_n 0, 1) := by decide +kernel
theorem dX2_drop_1 : decode cX2_drop 1 = .ok (.iconst 0, 1) := by decide +kernel
theorem dX2_drop_2 : decode cX2_drop 2 = .ok (.putfield 35, 3) := by decide +kernel
theorem dX2_drop_5 : decode cX2_drop 5 = .ok (.aload_n 0, 1) := by decide +kernel
theorem dX2_drop_6 : decode cX2_drop 6 = .ok (.iload_n 1, 1) := by decide +kernel
theorem dX2_drop_7 : decode cX2_drop 7 = .ok (.invokevirtual 46, 3) := by decide +kernel
theorem dX2_drop_10 : decode cX2_drop 10 = .ok (.ifCond .eq 11, 3) := by decide +kernel
theorem dX2_drop_13 : decode cX2_drop 13 = .ok (.aload_n 0, 1) := by decide +kernel
theorem dX2_drop_14 : decode cX2_drop 14 = .ok (.iload_n 1, 1) := by decide +kernel
theorem dX2_drop_15 : decode cX2_drop 15 = .ok (.invokevirtual 62, 3) := by decide +kernel
theorem dX2_drop_18 : decode cX2_drop 18 = .ok (.goto 8, 3) := by decide +kernel
theorem dX2_drop_21 : decode cX2_drop 21 = .ok (.aload_n 0, 1) := by decide +kernel
theorem dX2_drop_22 : decode cX2_drop 22 = .ok (.iconst 1, 1) := by decide +kernel
theorem dX2_drop_23 : decode cX2_drop 23 = .ok (.invokevirtual 71, 3) := by decide +kernel
theorem dX2_drop_26 : decode cX2_drop 26 = .ok (.ireturn, 1) := by decide +kernel
set_option maxRecDepth 20000 in
theorem ggX2_run_X2_isFrom : GoodIn wsX2_run wsX2_isFrom := goodIn_r _ [5] (by decide +kernel) (by decide +kernel)
set_option maxRecDepth 20000 in
theorem gX2_run_X2_isFrom : GoodIn wsX2_run (va_wsS RX2 38 yX2_isFrom wsX2_isFrom) := goodIn_app (goodIn_of _ (by decide +kernel)) ggX2_run_X2_isFrom
set_option maxRecDepth 20000 in
theorem ggX2_run_X2_no : GoodIn wsX2_run wsX2_no := goodIn_r _ [9, 1, 38, 39, 40, 41, 42, 43, 44, 45, 46, 47] (by decide +kernel) (by decide +kernel)
set_option maxRecDepth 20000 in
theorem gX2_run_X2_no : GoodIn wsX2_run (wsV RX2 71 RX2 yX2_no wsX2_no) := goodIn_app (goodIn_of _ (by decide +kernel)) ggX2_run_X2_no
set_option maxRecDepth 20000 in
theorem ggX2_run_X2_runFrom : GoodIn wsX2_run wsX2_runFrom := goodIn_r _ [13, 14, 15, 16, 17, 18, 19, 4, 20, 21, 22, 23, 24, 25, 26, 27, 28, 29, 30, 31, 32, 33, 2, 3, 5, 34, 35, 36, 37, 38, 39, 40, 41, 42, 43, 44, 45, 46, 47] (by decide +kernel) (by decide +kernel)
set_option maxRecDepth 20000 in
theorem gX2_run_X2_runFrom : GoodIn wsX2_run (wsV RX2 85 RX2 yX2_runFrom wsX2_runFrom) := goodIn_app (goodIn_of _ (by decide +kernel)) ggX2_run_X2_runFrom
theorem dX2_run_0 : decode cX2_run 0 = .ok (.aload_n 0, 1) := by decide +kernel
theorem dX2_run_1 : decode cX2_run 1 = .ok (.iconst 0, 1) := by decide +kernel
theorem dX2_run_2 : decode cX2_run 2 = .ok (.putfield 35, 3) := by decide +kernel
theorem dX2_run_5 : decode cX2_run 5 = .ok (.iload_n 1, 1) := by decide +kernel
theorem dX2_run_6 : decode cX2_run 6 = .ok (.iconst 0, 1) := by decide +kernel
theorem dX2_run_7 : decode cX2_run 7 = .ok (.iconst 1, 1) := by decide +kernel
theorem dX2_run_8 : decode cX2_run 8 = .ok (.invokestatic 38, 3) := by decide +kernel
theorem dX2_run_11 : decode cX2_run 11 = .ok (.ifCond .ne 9, 3) := by decide +kernel
theorem dX2_run_14 : decode cX2_run 14 = .ok (.aload_n 0, 1) := by decide +kernel
theorem dX2_run_15 : decode cX2_run 15 = .ok (.iconst 1, 1) := by decide +kernel
theorem dX2_run_16 : decode cX2_run 16 = .ok (.invokevirtual 71, 3) := by decide +kernel
theorem dX2_run_19 : decode cX2_run 19 = .ok (.ireturn, 1) := by decide +kernel
theorem dX2_run_20 : decode cX2_run 20 = .ok (.iload_n 2, 1) := by decide +kernel
theorem dX2_run_21 : decode cX2_run 21 = .ok (.iconst 1, 1) := by decide +kernel
theorem dX2_run_22 : decode cX2_run 22 = .ok (.bipush 99, 2) := by decide +kernel
theorem dX2_run_24 : decode cX2_run 24 = .ok (.invokestatic 38, 3) := by decide +kernel
theorem dX2_run_27 : decode cX2_run 27 = .ok (.ifCond .eq 12, 3) := by decide +kernel
theorem dX2_run_30 : decode cX2_run 30 = .ok (.aload_n 0, 1) := by decide +kernel
theorem dX2_run_31 : decode cX2_run 31 = .ok (.iload_n 1, 1) := by decide +kernel
theorem dX2_run_32 : decode cX2_run 32 = .ok (.iload_n 2, 1) := by decide +kernel
theorem dX2_run_33 : decode cX2_run 33 = .ok (.invokevirtual 85, 3) := by decide +kernel
theorem dX2_run_36 : decode cX2_run 36 = .ok (.goto 8, 3) := by decide +kernel
theorem dX2_run_39 : decode cX2_run 39 = .ok (.aload_n 0, 1) := by decide +kernel
theorem dX2_run_40 : decode cX2_run 40 = .ok (.iconst 2, 1) := by decide +kernel
theorem dX2_run_41 : decode cX2_run 41 = .ok (.invokevirtual 71, 3) := by decide +kernel
theorem dX2_run_44 : decode cX2_run 44 = .ok (.ireturn, 1) := by decide +kernel
theorem dX2_inBins_0 : decode cX2_inBins 0 = .ok (.iconst 0, 1) := by decide +kernel
theorem dX2_inBins_1 : decode cX2_inBins 1 = .ok (.istore_n 1, 1) := by decide +kernel
theorem dX2_inBins_2 : decode cX2_inBins 2 = .ok (.iconst 0, 1) := by decide +kernel
theorem dX2_inBins_3 : decode cX2_inBins 3 = .ok (.istore_n 2, 1) := by decide +kernel
theorem dX2_inBins_4 : decode cX2_inBins 4 = .ok (.iload_n 2, 1) := by decide +kernel
theorem dX2_inBins_5 : decode cX2_inBins 5 = .ok (.aload_n 0, 1) := by decide +kernel
theorem dX2_inBins_6 : decode cX2_inBins 6 = .ok (.getfield 9, 3) := by decide +kernel
theorem dX2_inBins_9 : decode cX2_inBins 9 = .ok (.if_icmp .ge 21, 3) := by decide +kernel
theorem dX2_inBins_12 : decode cX2_inBins 12 = .ok (.iload_n 1, 1) := by decide +kernel
theorem dX2_inBins_13 : decode cX2_inBins 13 = .ok (.aload_n 0, 1) := by decide +kernel
theorem dX2_inBins_14 : decode cX2_inBins 14 = .ok (.getfield 26, 3) := by decide +kernel
theorem dX2_inBins_17 : decode cX2_inBins 17 = .ok (.bipush 72, 2) := by decide +kernel
theorem dX2_inBins_19 : decode cX2_inBins 19 = .ok (.iload_n 2, 1) := by decide +kernel
theorem dX2_inBins_20 : decode cX2_inBins 20 = .ok (.iadd, 1) := by decide +kernel
theorem dX2_inBins_21 : decode cX2_inBins 21 = .ok (.iaload, 1) := by decide +kernel
theorem dX2_inBins_22 : decode cX2_inBins 22 = .ok (.iadd, 1) := by decide +kernel
theorem dX2_inBins_23 : decode cX2_inBins 23 = .ok (.istore_n 1, 1) := by decide +kernel
theorem dX2_inBins_24 : decode cX2_inBins 24 = .ok (.iinc 2 1, 3) := by decide +kernel
theorem dX2_inBins_27 : decode cX2_inBins 27 = .ok (.goto (-23), 3) := by decide +kernel
theorem dX2_inBins_30 : decode cX2_inBins 30 = .ok (.iload_n 1, 1) := by decide +kernel
theorem dX2_inBins_31 : decode cX2_inBins 31 = .ok (.ireturn, 1) := by decide +kernel
set_option maxRecDepth 20000 in
theorem ggX2_emptyBins_X2_inBins : GoodIn wsX2_emptyBins wsX2_inBins := goodIn_r _ [7, 1, 2, 13, 14, 15, 16, 17, 18, 19, 20, 21, 22] (by decide +kernel) (by decide +kernel)
set_option maxRecDepth 20000 in
theorem gX2_emptyBins_X2_inBins : GoodIn wsX2_emptyBins (wsV RX2 88 RX2 yX2_inBins wsX2_inBins) := goodIn_app (goodIn_of _ (by decide +kernel)) ggX2_emptyBins_X2_inBins
set_option maxRecDepth 20000 in
theorem ggX2_emptyBins_X2_ok : GoodIn wsX2_emptyBins wsX2_ok := goodIn_r _ [11, 12, 13, 14, 15, 16, 17, 18, 19, 20, 21, 22] (by decide +kernel) (by decide +kernel)
set_option maxRecDepth 20000 in
theorem gX2_emptyBins_X2_ok : GoodIn wsX2_emptyBins (wsV RX2 92 RX2 yX2_ok wsX2_ok) := goodIn_app (goodIn_of _ (by decide +kernel)) ggX2_emptyBins_X2_ok
theorem dX2_emptyBins_0 : decode cX2_emptyBins 0 = .ok (.aload_n 0, 1) := by decide +kernel
theorem dX2_emptyBins_1 : decode cX2_emptyBins 1 = .ok (.invokevirtual 88, 3) := by decide +kernel
theorem dX2_emptyBins_4 : decode cX2_emptyBins 4 = .ok (.istore_n 1, 1) := by decide +kernel
theorem dX2_emptyBins_5 : decode cX2_emptyBins 5 = .ok (.iconst 0, 1) := by decide +kernel
theorem dX2_emptyBins_6 : decode cX2_emptyBins 6 = .ok (.istore_n 2, 1) := by decide +kernel
theorem dX2_emptyBins_7 : decode cX2_emptyBins 7 = .ok (.iload_n 2, 1) := by decide +kernel
theorem dX2_emptyBins_8 : decode cX2_emptyBins 8 = .ok (.aload_n 0, 1) := by decide +kernel
theorem dX2_emptyBins_9 : decode cX2_emptyBins 9 = .ok (.getfield 9, 3) := by decide +kernel
theorem dX2_emptyBins_12 : decode cX2_emptyBins 12 = .ok (.if_icmp .ge 19, 3) := by decide +kernel
theorem dX2_emptyBins_15 : decode cX2_emptyBins 15 = .ok (.aload_n 0, 1) := by decide +kernel
theorem dX2_emptyBins_16 : decode cX2_emptyBins 16 = .ok (.getfield 26, 3) := by decide +kernel
theorem dX2_emptyBins_19 : decode cX2_emptyBins 19 = .ok (.bipush 72, 2) := by decide +kernel
theorem dX2_emptyBins_21 : decode cX2_emptyBins 21 = .ok (.iload_n 2, 1) := by decide +kernel
theorem dX2_emptyBins_22 : decode cX2_emptyBins 22 = .ok (.iadd, 1) := by decide +kernel
theorem dX2_emptyBins_23 : decode cX2_emptyBins 23 = .ok (.iconst 0, 1) := by decide +kernel
theorem dX2_emptyBins_24 : decode cX2_emptyBins 24 = .ok (.iastore, 1) := by decide +kernel
theorem dX2_emptyBins_25 : decode cX2_emptyBins 25 = .ok (.iinc 2 1, 3) := by decide +kernel
theorem dX2_emptyBins_28 : decode cX2_emptyBins 28 = .ok (.goto (-21), 3) := by decide +kernel
theorem dX2_emptyBins_31 : decode cX2_emptyBins 31 = .ok (.aload_n 0, 1) := by decide +kernel
theorem dX2_emptyBins_32 : decode cX2_emptyBins 32 = .ok (.iload_n 1, 1) := by decide +kernel
theorem dX2_emptyBins_33 : decode cX2_emptyBins 33 = .ok (.invokevirtual 92, 3) := by decide +kernel
theorem dX2_emptyBins_36 : decode cX2_emptyBins 36 = .ok (.ireturn, 1) := by decide +kernel
set_option maxRecDepth 20000 in
theorem ggX2_columns_X2_ok : GoodIn wsX2_columns wsX2_ok := goodIn_r _ [6, 7, 8, 9, 10, 11, 12, 13, 14, 15, 16, 17] (by decide +kernel) (by decide +kernel)
set_option maxRecDepth 20000 in
theorem gX2_columns_X2_ok : GoodIn wsX2_columns (wsV RX2 92 RX2 yX2_ok wsX2_ok) := goodIn_app (goodIn_of _ (by decide +kernel)) ggX2_columns_X2_ok
theorem dX2_columns_0 : decode cX2_columns 0 = .ok (.aload_n 0, 1) := by decide +kernel
theorem dX2_columns_1 : decode cX2_columns 1 = .ok (.aload_n 0, 1) := by decide +kernel
theorem dX2_columns_2 : decode cX2_columns 2 = .ok (.getfield 9, 3) := by decide +kernel
theorem dX2_columns_5 : decode cX2_columns 5 = .ok (.invokevirtual 92, 3) := by decide +kernel
theorem dX2_columns_8 : decode cX2_columns 8 = .ok (.ireturn, 1) := by decide +kernel
set_option maxRecDepth 20000 in
theorem ggX2_rows_X2_ok : GoodIn wsX2_rows wsX2_ok := goodIn_r _ [6, 7, 8, 9, 10, 11, 12, 13, 14, 15, 16, 17] (by decide +kernel) (by decide +kernel)
set_option maxRecDepth 20000 in
theorem gX2_rows_X2_ok : GoodIn wsX2_rows (wsV RX2 92 RX2 yX2_ok wsX2_ok) := goodIn_app (goodIn_of _ (by decide +kernel)) ggX2_rows_X2_ok
theorem dX2_rows_0 : decode cX2_rows 0 = .ok (.aload_n 0, 1) := by decide +kernel
theorem dX2_rows_1 : decode cX2_rows 1 = .ok (.aload_n 0, 1) := by decide +kernel
theorem dX2_rows_2 : decode cX2_rows 2 = .ok (.getfield 13, 3) := by decide +kernel
theorem dX2_rows_5 : decode cX2_rows 5 = .ok (.invokevirtual 92, 3) := by decide +kernel
theorem dX2_rows_8 : decode cX2_rows 8 = .ok (.ireturn, 1) := by decide +kernel
set_option maxRecDepth 20000 in
theorem ggX2_partAt_X2_isPlace : GoodIn wsX2_partAt wsX2_isPlace := goodIn_r _ [7, 8, 9, 10, 6, 11, 12, 13, 14, 15, 16, 17, 18, 19, 20, 25, 26, 27, 28, 29, 30, 31, 32, 33, 34] (by decide +kernel) (by decide +kernel)
set_option maxRecDepth 20000 in
theorem gX2_partAt_X2_isPlace : GoodIn wsX2_partAt (wsV RX2 74 RX2 yX2_isPlace wsX2_isPlace) := goodIn_app (goodIn_of _ (by decide +kernel)) ggX2_partAt_X2_isPlace
set_option maxRecDepth 20000 in
theorem ggX2_partAt_X2_no : GoodIn wsX2_partAt wsX2_no := goodIn_r _ [24, 1, 25, 26, 27, 28, 29, 30, 31, 32, 33, 34] (by decide +kernel) (by decide +kernel)
set_option maxRecDepth 20000 in
theorem gX2_partAt_X2_no : GoodIn wsX2_partAt (wsV RX2 71 RX2 yX2_no wsX2_no) := goodIn_app (goodIn_of _ (by decide +kernel)) ggX2_partAt_X2_no
theorem dX2_partAt_0 : decode cX2_partAt 0 = .ok (.aload_n 0, 1) := by decide +kernel
theorem dX2_partAt_1 : decode cX2_partAt 1 = .ok (.iconst 0, 1) := by decide +kernel
theorem dX2_partAt_2 : decode cX2_partAt 2 = .ok (.putfield 35, 3) := by decide +kernel
theorem dX2_partAt_5 : decode cX2_partAt 5 = .ok (.aload_n 0, 1) := by decide +kernel
theorem dX2_partAt_6 : decode cX2_partAt 6 = .ok (.iload_n 1, 1) := by decide +kernel
theorem dX2_partAt_7 : decode cX2_partAt 7 = .ok (.iload_n 2, 1) := by decide +kernel
theorem dX2_partAt_8 : decode cX2_partAt 8 = .ok (.invokevirtual 74, 3) := by decide +kernel
theorem dX2_partAt_11 : decode cX2_partAt 11 = .ok (.ifCond .eq 17, 3) := by decide +kernel
theorem dX2_partAt_14 : decode cX2_partAt 14 = .ok (.aload_n 0, 1) := by decide +kernel
theorem dX2_partAt_15 : decode cX2_partAt 15 = .ok (.getfield 16, 3) := by decide +kernel
theorem dX2_partAt_18 : decode cX2_partAt 18 = .ok (.bipush 9, 2) := by decide +kernel
theorem dX2_partAt_20 : decode cX2_partAt 20 = .ok (.iload_n 1, 1) := by decide +kernel
theorem dX2_partAt_21 : decode cX2_partAt 21 = .ok (.imul, 1) := by decide +kernel
theorem dX2_partAt_22 : decode cX2_partAt 22 = .ok (.iload_n 2, 1) := by decide +kernel
theorem dX2_partAt_23 : decode cX2_partAt 23 = .ok (.iadd, 1) := by decide +kernel
theorem dX2_partAt_24 : decode cX2_partAt 24 = .ok (.iaload, 1) := by decide +kernel
theorem dX2_partAt_25 : decode cX2_partAt 25 = .ok (.goto 8, 3) := by decide +kernel
theorem dX2_partAt_28 : decode cX2_partAt 28 = .ok (.aload_n 0, 1) := by decide +kernel
theorem dX2_partAt_29 : decode cX2_partAt 29 = .ok (.iconst 1, 1) := by decide +kernel
theorem dX2_partAt_30 : decode cX2_partAt 30 = .ok (.invokevirtual 71, 3) := by decide +kernel
theorem dX2_partAt_33 : decode cX2_partAt 33 = .ok (.ireturn, 1) := by decide +kernel
theorem dX2_isRight_0 : decode cX2_isRight 0 = .ok (.aload_n 0, 1) := by decide +kernel
theorem dX2_isRight_1 : decode cX2_isRight 1 = .ok (.getfield 16, 3) := by decide +kernel
theorem dX2_isRight_4 : decode cX2_isRight 4 = .ok (.bipush 9, 2) := by decide +kernel
theorem dX2_isRight_6 : decode cX2_isRight 6 = .ok (.iload_n 1, 1) := by decide +kernel
theorem dX2_isRight_7 : decode cX2_isRight 7 = .ok (.imul, 1) := by decide +kernel
theorem dX2_isRight_8 : decode cX2_isRight 8 = .ok (.iload_n 2, 1) := by decide +kernel
theorem dX2_isRight_9 : decode cX2_isRight 9 = .ok (.iadd, 1) := by decide +kernel
theorem dX2_isRight_10 : decode cX2_isRight 10 = .ok (.iaload, 1) := by decide +kernel
theorem dX2_isRight_11 : decode cX2_isRight 11 = .ok (.iconst 3, 1) := by decide +kernel
theorem dX2_isRight_12 : decode cX2_isRight 12 = .ok (.if_icmp .ne 22, 3) := by decide +kernel
theorem dX2_isRight_15 : decode cX2_isRight 15 = .ok (.aload_n 0, 1) := by decide +kernel
theorem dX2_isRight_16 : decode cX2_isRight 16 = .ok (.getfield 26, 3) := by decide +kernel
theorem dX2_isRight_19 : decode cX2_isRight 19 = .ok (.bipush 9, 2) := by decide +kernel
theorem dX2_isRight_21 : decode cX2_isRight 21 = .ok (.iload_n 1, 1) := by decide +kernel
theorem dX2_isRight_22 : decode cX2_isRight 22 = .ok (.imul, 1) := by decide +kernel
theorem dX2_isRight_23 : decode cX2_isRight 23 = .ok (.iload_n 2, 1) := by decide +kernel
theorem dX2_isRight_24 : decode cX2_isRight 24 = .ok (.iadd, 1) := by decide +kernel
theorem dX2_isRight_25 : decode cX2_isRight 25 = .ok (.iaload, 1) := by decide +kernel
theorem dX2_isRight_26 : decode cX2_isRight 26 = .ok (.iconst 1, 1) := by decide +kernel
theorem dX2_isRight_27 : decode cX2_isRight 27 = .ok (.if_icmp .ne 7, 3) := by decide +kernel
theorem dX2_isRight_30 : decode cX2_isRight 30 = .ok (.iconst 1, 1) := by decide +kernel
theorem dX2_isRight_31 : decode cX2_isRight 31 = .ok (.goto 4, 3) := by decide +kernel
theorem dX2_isRight_34 : decode cX2_isRight 34 = .ok (.iconst 0, 1) := by decide +kernel
theorem dX2_isRight_35 : decode cX2_isRight 35 = .ok (.ireturn, 1) := by decide +kernel
set_option maxRecDepth 20000 in
theorem ggX2_leadsRight_X2_isPlace : GoodIn wsX2_leadsRight wsX2_isPlace := goodIn_r _ [6, 7, 8, 9, 5, 10, 11, 12, 13, 14, 15, 16, 17, 18, 19, 30, 31, 32, 33, 34, 35, 36, 37, 38, 39] (by decide +kernel) (by decide +kernel)
set_option maxRecDepth 20000 in
theorem gX2_leadsRight_X2_isPlace : GoodIn wsX2_leadsRight (wsV RX2 74 RX2 yX2_isPlace wsX2_isPlace) := goodIn_app (goodIn_of _ (by decide +kernel)) ggX2_leadsRight_X2_isPlace
set_option maxRecDepth 20000 in
theorem ggX2_leadsRight_X2_isRight : GoodIn wsX2_leadsRight wsX2_isRight := goodIn_r _ [23, 24, 25, 30, 31, 32, 33, 34, 35, 36, 37, 38, 39] (by decide +kernel) (by decide +kernel)
set_option maxRecDepth 20000 in
theorem gX2_leadsRight_X2_isRight : GoodIn wsX2_leadsRight (wsV RX2 95 RX2 yX2_isRight wsX2_isRight) := goodIn_app (goodIn_of _ (by decide +kernel)) ggX2_leadsRight_X2_isRight
set_option maxRecDepth 20000 in
theorem ggX2_leadsRight_X2_isNot : GoodIn wsX2_leadsRight wsX2_isNot := goodIn_r _ [29, 1, 30, 31, 32, 33, 34, 35, 36, 37, 38, 39] (by decide +kernel) (by decide +kernel)
set_option maxRecDepth 20000 in
theorem gX2_leadsRight_X2_isNot : GoodIn wsX2_leadsRight (wsV RX2 82 RX2 yX2_isNot wsX2_isNot) := goodIn_app (goodIn_of _ (by decide +kernel)) ggX2_leadsRight_X2_isNot
theorem dX2_leadsRight_0 : decode cX2_leadsRight 0 = .ok (.aload_n 0, 1) := by decide +kernel
theorem dX2_leadsRight_1 : decode cX2_leadsRight 1 = .ok (.iconst 0, 1) := by decide +kernel
theorem dX2_leadsRight_2 : decode cX2_leadsRight 2 = .ok (.putfield 35, 3) := by decide +kernel
theorem dX2_leadsRight_5 : decode cX2_leadsRight 5 = .ok (.aload_n 0, 1) := by decide +kernel
theorem dX2_leadsRight_6 : decode cX2_leadsRight 6 = .ok (.iload_n 1, 1) := by decide +kernel
theorem dX2_leadsRight_7 : decode cX2_leadsRight 7 = .ok (.iload_n 2, 1) := by decide +kernel
theorem dX2_leadsRight_8 : decode cX2_leadsRight 8 = .ok (.invokevirtual 74, 3) := by decide +kernel
theorem dX2_leadsRight_11 : decode cX2_leadsRight 11 = .ok (.ifCond .eq 12, 3) := by decide +kernel
theorem dX2_leadsRight_14 : decode cX2_leadsRight 14 = .ok (.aload_n 0, 1) := by decide +kernel
theorem dX2_leadsRight_15 : decode cX2_leadsRight 15 = .ok (.iload_n 1, 1) := by decide +kernel
theorem dX2_leadsRight_16 : decode cX2_leadsRight 16 = .ok (.iload_n 2, 1) := by decide +kernel
theorem dX2_leadsRight_17 : decode cX2_leadsRight 17 = .ok (.invokevirtual 95, 3) := by decide +kernel
theorem dX2_leadsRight_20 : decode cX2_leadsRight 20 = .ok (.goto 8, 3) := by decide +kernel
theorem dX2_leadsRight_23 : decode cX2_leadsRight 23 = .ok (.aload_n 0, 1) := by decide +kernel
theorem dX2_leadsRight_24 : decode cX2_leadsRight 24 = .ok (.iconst 1, 1) := by decide +kernel
theorem dX2_leadsRight_25 : decode cX2_leadsRight 25 = .ok (.invokevirtual 82, 3) := by decide +kernel
theorem dX2_leadsRight_28 : decode cX2_leadsRight 28 = .ok (.ireturn, 1) := by decide +kernel
theorem dX2_counted_0 : decode cX2_counted 0 = .ok (.aload_n 0, 1) := by decide +kernel
theorem dX2_counted_1 : decode cX2_counted 1 = .ok (.getfield 16, 3) := by decide +kernel
theorem dX2_counted_4 : decode cX2_counted 4 = .ok (.bipush 9, 2) := by decide +kernel
theorem dX2_counted_6 : decode cX2_counted 6 = .ok (.iload_n 1, 1) := by decide +kernel
theorem dX2_counted_7 : decode cX2_counted 7 = .ok (.imul, 1) := by decide +kernel
theorem dX2_counted_8 : decode cX2_counted 8 = .ok (.iload_n 2, 1) := by decide +kernel
theorem dX2_counted_9 : decode cX2_counted 9 = .ok (.iadd, 1) := by decide +kernel
theorem dX2_counted_10 : decode cX2_counted 10 = .ok (.iaload, 1) := by decide +kernel
theorem dX2_counted_11 : decode cX2_counted 11 = .ok (.iconst 5, 1) := by decide +kernel
theorem dX2_counted_12 : decode cX2_counted 12 = .ok (.if_icmp .ne 17, 3) := by decide +kernel
theorem dX2_counted_15 : decode cX2_counted 15 = .ok (.aload_n 0, 1) := by decide +kernel
theorem dX2_counted_16 : decode cX2_counted 16 = .ok (.getfield 26, 3) := by decide +kernel
theorem dX2_counted_19 : decode cX2_counted 19 = .ok (.bipush 9, 2) := by decide +kernel
theorem dX2_counted_21 : decode cX2_counted 21 = .ok (.iload_n 1, 1) := by decide +kernel
theorem dX2_counted_22 : decode cX2_counted 22 = .ok (.imul, 1) := by decide +kernel
theorem dX2_counted_23 : decode cX2_counted 23 = .ok (.iload_n 2, 1) := by decide +kernel
theorem dX2_counted_24 : decode cX2_counted 24 = .ok (.iadd, 1) := by decide +kernel
theorem dX2_counted_25 : decode cX2_counted 25 = .ok (.iaload, 1) := by decide +kernel
theorem dX2_counted_26 : decode cX2_counted 26 = .ok (.goto 4, 3) := by decide +kernel
theorem dX2_counted_29 : decode cX2_counted 29 = .ok (.iconst 0, 1) := by decide +kernel
theorem dX2_counted_30 : decode cX2_counted 30 = .ok (.ireturn, 1) := by decide +kernel
set_option maxRecDepth 20000 in
theorem ggX2_countAt_X2_isPlace : GoodIn wsX2_countAt wsX2_isPlace := goodIn_r _ [6, 7, 8, 9, 5, 10, 11, 12, 13, 14, 15, 16, 17, 18, 19, 30, 31, 32, 33, 34, 35, 36, 37, 38, 39] (by decide +kernel) (by decide +kernel)
set_option maxRecDepth 20000 in
theorem gX2_countAt_X2_isPlace : GoodIn wsX2_countAt (wsV RX2 74 RX2 yX2_isPlace wsX2_isPlace) := goodIn_app (goodIn_of _ (by decide +kernel)) ggX2_countAt_X2_isPlace
set_option maxRecDepth 20000 in
theorem ggX2_countAt_X2_counted : GoodIn wsX2_countAt wsX2_counted := goodIn_r _ [23, 24, 25, 30, 31, 32, 33, 34, 35, 36, 37, 38, 39] (by decide +kernel) (by decide +kernel)
set_option maxRecDepth 20000 in
theorem gX2_countAt_X2_counted : GoodIn wsX2_countAt (wsV RX2 98 RX2 yX2_counted wsX2_counted) := goodIn_app (goodIn_of _ (by decide +kernel)) ggX2_countAt_X2_counted
set_option maxRecDepth 20000 in
theorem ggX2_countAt_X2_no : GoodIn wsX2_countAt wsX2_no := goodIn_r _ [29, 1, 30, 31, 32, 33, 34, 35, 36, 37, 38, 39] (by decide +kernel) (by decide +kernel)
set_option maxRecDepth 20000 in
theorem gX2_countAt_X2_no : GoodIn wsX2_countAt (wsV RX2 71 RX2 yX2_no wsX2_no) := goodIn_app (goodIn_of _ (by decide +kernel)) ggX2_countAt_X2_no
theorem dX2_countAt_0 : decode cX2_countAt 0 = .ok (.aload_n 0, 1) := by decide +kernel
theorem dX2_countAt_1 : decode cX2_countAt 1 = .ok (.iconst 0, 1) := by decide +kernel
theorem dX2_countAt_2 : decode cX2_countAt 2 = .ok (.putfield 35, 3) := by decide +kernel
theorem dX2_countAt_5 : decode cX2_countAt 5 = .ok (.aload_n 0, 1) := by decide +kernel
theorem dX2_countAt_6 : decode cX2_countAt 6 = .ok (.iload_n 1, 1) := by decide +kernel
theorem dX2_countAt_7 : decode cX2_countAt 7 = .ok (.iload_n 2, 1) := by decide +kernel
theorem dX2_countAt_8 : decode cX2_countAt 8 = .ok (.invokevirtual 74, 3) := by decide +kernel
theorem dX2_countAt_11 : decode cX2_countAt 11 = .ok (.ifCond .eq 12, 3) := by decide +kernel
theorem dX2_countAt_14 : decode cX2_countAt 14 = .ok (.aload_n 0, 1) := by decide +kernel
theorem dX2_countAt_15 : decode cX2_countAt 15 = .ok (.iload_n 1, 1) := by decide +kernel
theorem dX2_countAt_16 : decode cX2_countAt 16 = .ok (.iload_n 2, 1) := by decide +kernel
theorem dX2_countAt_17 : decode cX2_countAt 17 = .ok (.invokevirtual 98, 3) := by decide +kernel
theorem dX2_countAt_20 : decode cX2_countAt 20 = .ok (.goto 8, 3) := by decide +kernel
theorem dX2_countAt_23 : decode cX2_countAt 23 = .ok (.aload_n 0, 1) := by decide +kernel
theorem dX2_countAt_24 : decode cX2_countAt 24 = .ok (.iconst 1, 1) := by decide +kernel
theorem dX2_countAt_25 : decode cX2_countAt 25 = .ok (.invokevirtual 71, 3) := by decide +kernel
theorem dX2_countAt_28 : decode cX2_countAt 28 = .ok (.ireturn, 1) := by decide +kernel
set_option maxRecDepth 20000 in
theorem ggX2_binOf_X2_isColumn : GoodIn wsX2_binOf wsX2_isColumn := goodIn_r _ [7, 8, 9, 10, 6, 11, 16, 17, 18, 19, 20, 21, 22, 23, 24, 25] (by decide +kernel) (by decide +kernel)
set_option maxRecDepth 20000 in
theorem gX2_binOf_X2_isColumn : GoodIn wsX2_binOf (wsV RX2 46 RX2 yX2_isColumn wsX2_isColumn) := goodIn_app (goodIn_of _ (by decide +kernel)) ggX2_binOf_X2_isColumn
set_option maxRecDepth 20000 in
theorem ggX2_binOf_X2_no : GoodIn wsX2_binOf wsX2_no := goodIn_r _ [15, 1, 16, 17, 18, 19, 20, 21, 22, 23, 24, 25] (by decide +kernel) (by decide +kernel)
set_option maxRecDepth 20000 in
theorem gX2_binOf_X2_no : GoodIn wsX2_binOf (wsV RX2 71 RX2 yX2_no wsX2_no) := goodIn_app (goodIn_of _ (by decide +kernel)) ggX2_binOf_X2_no
theorem dX2_binOf_0 : decode cX2_binOf 0 = .ok (.aload_n 0, 1) := by decide +kernel
theorem dX2_binOf_1 : decode cX2_binOf 1 = .ok (.iconst 0, 1) := by decide +kernel
theorem dX2_binOf_2 : decode cX2_binOf 2 = .ok (.putfield 35, 3) := by decide +kernel
theorem dX2_binOf_5 : decode cX2_binOf 5 = .ok (.aload_n 0, 1) := by decide +kernel
theorem dX2_binOf_6 : decode cX2_binOf 6 = .ok (.iload_n 1, 1) := by decide +kernel
theorem dX2_binOf_7 : decode cX2_binOf 7 = .ok (.invokevirtual 46, 3) := by decide +kernel
theorem dX2_binOf_10 : decode cX2_binOf 10 = .ok (.ifCond .eq 15, 3) := by decide +kernel
theorem dX2_binOf_13 : decode cX2_binOf 13 = .ok (.aload_n 0, 1) := by decide +kernel
theorem dX2_binOf_14 : decode cX2_binOf 14 = .ok (.getfield 26, 3) := by decide +kernel
theorem dX2_binOf_17 : decode cX2_binOf 17 = .ok (.bipush 72, 2) := by decide +kernel
theorem dX2_binOf_19 : decode cX2_binOf 19 = .ok (.iload_n 1, 1) := by decide +kernel
theorem dX2_binOf_20 : decode cX2_binOf 20 = .ok (.iadd, 1) := by decide +kernel
theorem dX2_binOf_21 : decode cX2_binOf 21 = .ok (.iaload, 1) := by decide +kernel
theorem dX2_binOf_22 : decode cX2_binOf 22 = .ok (.goto 8, 3) := by decide +kernel
theorem dX2_binOf_25 : decode cX2_binOf 25 = .ok (.aload_n 0, 1) := by decide +kernel
theorem dX2_binOf_26 : decode cX2_binOf 26 = .ok (.iconst 1, 1) := by decide +kernel
theorem dX2_binOf_27 : decode cX2_binOf 27 = .ok (.invokevirtual 71, 3) := by decide +kernel
theorem dX2_binOf_30 : decode cX2_binOf 30 = .ok (.ireturn, 1) := by decide +kernel
set_option maxRecDepth 20000 in
theorem ggX2_lost_X2_ok : GoodIn wsX2_lost wsX2_ok := goodIn_r _ [6, 7, 8, 9, 10, 11, 12, 13, 14, 15, 16, 17] (by decide +kernel) (by decide +kernel)
set_option maxRecDepth 20000 in
theorem gX2_lost_X2_ok : GoodIn wsX2_lost (wsV RX2 92 RX2 yX2_ok wsX2_ok) := goodIn_app (goodIn_of _ (by decide +kernel)) ggX2_lost_X2_ok
theorem dX2_lost_0 : decode cX2_lost 0 = .ok (.aload_n 0, 1) := by decide +kernel
theorem dX2_lost_1 : decode cX2_lost 1 = .ok (.aload_n 0, 1) := by decide +kernel
theorem dX2_lost_2 : decode cX2_lost 2 = .ok (.getfield 26, 3) := by decide +kernel
theorem dX2_lost_5 : decode cX2_lost 5 = .ok (.bipush 83, 2) := by decide +kernel
theorem dX2_lost_7 : decode cX2_lost 7 = .ok (.iaload, 1) := by decide +kernel
theorem dX2_lost_8 : decode cX2_lost 8 = .ok (.invokevirtual 92, 3) := by decide +kernel
theorem dX2_lost_11 : decode cX2_lost 11 = .ok (.ireturn, 1) := by decide +kernel
set_option maxRecDepth 20000 in
theorem ggX2_marblesIn_X2_isFrom : GoodIn wsX2_marblesIn wsX2_isFrom := goodIn_r _ [6] (by decide +kernel) (by decide +kernel)
set_option maxRecDepth 20000 in
theorem gX2_marblesIn_X2_isFrom : GoodIn wsX2_marblesIn (va_wsS RX2 38 yX2_isFrom wsX2_isFrom) := goodIn_app (goodIn_of _ (by decide +kernel)) ggX2_marblesIn_X2_isFrom
set_option maxRecDepth 20000 in
theorem ggX2_marblesIn_X2_no : GoodIn wsX2_marblesIn wsX2_no := goodIn_r _ [10, 1, 11, 12, 13, 14, 15, 16, 17, 18, 19, 20] (by decide +kernel) (by decide +kernel)
set_option maxRecDepth 20000 in
theorem gX2_marblesIn_X2_no : GoodIn wsX2_marblesIn (wsV RX2 71 RX2 yX2_no wsX2_no) := goodIn_app (goodIn_of _ (by decide +kernel)) ggX2_marblesIn_X2_no
theorem dX2_marblesIn_0 : decode cX2_marblesIn 0 = .ok (.aload_n 0, 1) := by decide +kernel
theorem dX2_marblesIn_1 : decode cX2_marblesIn 1 = .ok (.iconst 0, 1) := by decide +kernel
theorem dX2_marblesIn_2 : decode cX2_marblesIn 2 = .ok (.putfield 35, 3) := by decide +kernel
theorem dX2_marblesIn_5 : decode cX2_marblesIn 5 = .ok (.iload_n 1, 1) := by decide +kernel
theorem dX2_marblesIn_6 : decode cX2_marblesIn 6 = .ok (.iconst 0, 1) := by decide +kernel
theorem dX2_marblesIn_7 : decode cX2_marblesIn 7 = .ok (.iconst 1, 1) := by decide +kernel
theorem dX2_marblesIn_8 : decode cX2_marblesIn 8 = .ok (.invokestatic 38, 3) := by decide +kernel
theorem dX2_marblesIn_11 : decode cX2_marblesIn 11 = .ok (.ifCond .eq 15, 3) := by decide +kernel
theorem dX2_marblesIn_14 : decode cX2_marblesIn 14 = .ok (.aload_n 0, 1) := by decide +kernel
theorem dX2_marblesIn_15 : decode cX2_marblesIn 15 = .ok (.getfield 26, 3) := by decide +kernel
theorem dX2_marblesIn_18 : decode cX2_marblesIn 18 = .ok (.bipush 81, 2) := by decide +kernel
theorem dX2_marblesIn_20 : decode cX2_marblesIn 20 = .ok (.iload_n 1, 1) := by decide +kernel
theorem dX2_marblesIn_21 : decode cX2_marblesIn 21 = .ok (.iadd, 1) := by decide +kernel
theorem dX2_marblesIn_22 : decode cX2_marblesIn 22 = .ok (.iaload, 1) := by decide +kernel
theorem dX2_marblesIn_23 : decode cX2_marblesIn 23 = .ok (.goto 8, 3) := by decide +kernel
theorem dX2_marblesIn_26 : decode cX2_marblesIn 26 = .ok (.aload_n 0, 1) := by decide +kernel
theorem dX2_marblesIn_27 : decode cX2_marblesIn 27 = .ok (.iconst 1, 1) := by decide +kernel
theorem dX2_marblesIn_28 : decode cX2_marblesIn 28 = .ok (.invokevirtual 71, 3) := by decide +kernel
theorem dX2_marblesIn_31 : decode cX2_marblesIn 31 = .ok (.ireturn, 1) := by decide +kernel
set_option maxRecDepth 20000 in
theorem ggX2_columnOf_X2_isFrom : GoodIn wsX2_columnOf wsX2_isFrom := goodIn_r _ [6] (by decide +kernel) (by decide +kernel)
set_option maxRecDepth 20000 in
theorem gX2_columnOf_X2_isFrom : GoodIn wsX2_columnOf (va_wsS RX2 38 yX2_isFrom wsX2_isFrom) := goodIn_app (goodIn_of _ (by decide +kernel)) ggX2_columnOf_X2_isFrom
set_option maxRecDepth 20000 in
theorem ggX2_columnOf_X2_no : GoodIn wsX2_columnOf wsX2_no := goodIn_r _ [10, 1, 11, 12, 13, 14, 15, 16, 17, 18, 19, 20] (by decide +kernel) (by decide +kernel)
set_option maxRecDepth 20000 in
theorem gX2_columnOf_X2_no : GoodIn wsX2_columnOf (wsV RX2 71 RX2 yX2_no wsX2_no) := goodIn_app (goodIn_of _ (by decide +kernel)) ggX2_columnOf_X2_no
theorem dX2_columnOf_0 : decode cX2_columnOf 0 = .ok (.aload_n 0, 1) := by decide +kernel
theorem dX2_columnOf_1 : decode cX2_columnOf 1 = .ok (.iconst 0, 1) := by decide +kernel
theorem dX2_columnOf_2 : decode cX2_columnOf 2 = .ok (.putfield 35, 3) := by decide +kernel
theorem dX2_columnOf_5 : decode cX2_columnOf 5 = .ok (.iload_n 1, 1) := by decide +kernel
theorem dX2_columnOf_6 : decode cX2_columnOf 6 = .ok (.iconst 0, 1) := by decide +kernel
theorem dX2_columnOf_7 : decode cX2_columnOf 7 = .ok (.iconst 1, 1) := by decide +kernel
theorem dX2_columnOf_8 : decode cX2_columnOf 8 = .ok (.invokestatic 38, 3) := by decide +kernel
theorem dX2_columnOf_11 : decode cX2_columnOf 11 = .ok (.ifCond .eq 12, 3) := by decide +kernel
theorem dX2_columnOf_14 : decode cX2_columnOf 14 = .ok (.aload_n 0, 1) := by decide +kernel
theorem dX2_columnOf_15 : decode cX2_columnOf 15 = .ok (.getfield 23, 3) := by decide +kernel
theorem dX2_columnOf_18 : decode cX2_columnOf 18 = .ok (.iload_n 1, 1) := by decide +kernel
theorem dX2_columnOf_19 : decode cX2_columnOf 19 = .ok (.iaload, 1) := by decide +kernel
theorem dX2_columnOf_20 : decode cX2_columnOf 20 = .ok (.goto 8, 3) := by decide +kernel
theorem dX2_columnOf_23 : decode cX2_columnOf 23 = .ok (.aload_n 0, 1) := by decide +kernel
theorem dX2_columnOf_24 : decode cX2_columnOf 24 = .ok (.iconst 1, 1) := by decide +kernel
theorem dX2_columnOf_25 : decode cX2_columnOf 25 = .ok (.invokevirtual 71, 3) := by decide +kernel
theorem dX2_columnOf_28 : decode cX2_columnOf 28 = .ok (.ireturn, 1) := by decide +kernel
theorem dX2_togglesNow_0 : decode cX2_togglesNow 0 = .ok (.iconst 0, 1) := by decide +kernel
theorem dX2_togglesNow_1 : decode cX2_togglesNow 1 = .ok (.istore_n 1, 1) := by decide +kernel
theorem dX2_togglesNow_2 : decode cX2_togglesNow 2 = .ok (.iconst 0, 1) := by decide +kernel
theorem dX2_togglesNow_3 : decode cX2_togglesNow 3 = .ok (.istore_n 2, 1) := by decide +kernel
theorem dX2_togglesNow_4 : decode cX2_togglesNow 4 = .ok (.iload_n 2, 1) := by decide +kernel
theorem dX2_togglesNow_5 : decode cX2_togglesNow 5 = .ok (.bipush 72, 2) := by decide +kernel
theorem dX2_togglesNow_7 : decode cX2_togglesNow 7 = .ok (.if_icmp .ge 27, 3) := by decide +kernel
theorem dX2_togglesNow_10 : decode cX2_togglesNow 10 = .ok (.iload_n 1, 1) := by decide +kernel
theorem dX2_togglesNow_11 : decode cX2_togglesNow 11 = .ok (.aload_n 0, 1) := by decide +kernel
theorem dX2_togglesNow_12 : decode cX2_togglesNow 12 = .ok (.getfield 16, 3) := by decide +kernel
theorem dX2_togglesNow_15 : decode cX2_togglesNow 15 = .ok (.iload_n 2, 1) := by decide +kernel
theorem dX2_togglesNow_16 : decode cX2_togglesNow 16 = .ok (.iaload, 1) := by decide +kernel
theorem dX2_togglesNow_17 : decode cX2_togglesNow 17 = .ok (.iconst 3, 1) := by decide +kernel
theorem dX2_togglesNow_18 : decode cX2_togglesNow 18 = .ok (.if_icmp .ne 7, 3) := by decide +kernel
theorem dX2_togglesNow_21 : decode cX2_togglesNow 21 = .ok (.iconst 1, 1) := by decide +kernel
theorem dX2_togglesNow_22 : decode cX2_togglesNow 22 = .ok (.goto 4, 3) := by decide +kernel
theorem dX2_togglesNow_25 : decode cX2_togglesNow 25 = .ok (.iconst 0, 1) := by decide +kernel
theorem dX2_togglesNow_26 : decode cX2_togglesNow 26 = .ok (.iadd, 1) := by decide +kernel
theorem dX2_togglesNow_27 : decode cX2_togglesNow 27 = .ok (.istore_n 1, 1) := by decide +kernel
theorem dX2_togglesNow_28 : decode cX2_togglesNow 28 = .ok (.iinc 2 1, 3) := by decide +kernel
theorem dX2_togglesNow_31 : decode cX2_togglesNow 31 = .ok (.goto (-27), 3) := by decide +kernel
theorem dX2_togglesNow_34 : decode cX2_togglesNow 34 = .ok (.iload_n 1, 1) := by decide +kernel
theorem dX2_togglesNow_35 : decode cX2_togglesNow 35 = .ok (.ireturn, 1) := by decide +kernel
set_option maxRecDepth 20000 in
theorem ggX2_toggles_X2_togglesNow : GoodIn wsX2_toggles wsX2_togglesNow := goodIn_r _ [5, 6, 12, 13, 14, 15, 16, 17, 18, 19, 20, 21] (by decide +kernel) (by decide +kernel)
set_option maxRecDepth 20000 in
theorem gX2_toggles_X2_togglesNow : GoodIn wsX2_toggles (wsV RX2 101 RX2 yX2_togglesNow wsX2_togglesNow) := goodIn_app (goodIn_of _ (by decide +kernel)) ggX2_toggles_X2_togglesNow
set_option maxRecDepth 20000 in
theorem ggX2_toggles_X2_ok : GoodIn wsX2_toggles wsX2_ok := goodIn_r _ [10, 11, 12, 13, 14, 15, 16, 17, 18, 19, 20, 21] (by decide +kernel) (by decide +kernel)
set_option maxRecDepth 20000 in
theorem gX2_toggles_X2_ok : GoodIn wsX2_toggles (wsV RX2 92 RX2 yX2_ok wsX2_ok) := goodIn_app (goodIn_of _ (by decide +kernel)) ggX2_toggles_X2_ok
theorem dX2_toggles_0 : decode cX2_toggles 0 = .ok (.aload_n 0, 1) := by decide +kernel
theorem dX2_toggles_1 : decode cX2_toggles 1 = .ok (.aload_n 0, 1) := by decide +kernel
theorem dX2_toggles_2 : decode cX2_toggles 2 = .ok (.invokevirtual 101, 3) := by decide +kernel
theorem dX2_toggles_5 : decode cX2_toggles 5 = .ok (.invokevirtual 92, 3) := by decide +kernel
theorem dX2_toggles_8 : decode cX2_toggles 8 = .ok (.ireturn, 1) := by decide +kernel
set_option maxRecDepth 20000 in
theorem ggX2_number_X2_isRight : GoodIn wsX2_number wsX2_isRight := goodIn_r _ [7, 2, 8, 9, 10, 11, 12, 13, 14, 15, 16, 17, 18] (by decide +kernel) (by decide +kernel)
set_option maxRecDepth 20000 in
theorem gX2_number_X2_isRight : GoodIn wsX2_number (wsV RX2 95 RX2 yX2_isRight wsX2_isRight) := goodIn_app (goodIn_of _ (by decide +kernel)) ggX2_number_X2_isRight
theorem dX2_number_0 : decode cX2_number 0 = .ok (.iconst 0, 1) := by decide +kernel
theorem dX2_number_1 : decode cX2_number 1 = .ok (.istore_n 2, 1) := by decide +kernel
theorem dX2_number_2 : decode cX2_number 2 = .ok (.iconst 1, 1) := by decide +kernel
theorem dX2_number_3 : decode cX2_number 3 = .ok (.istore_n 3, 1) := by decide +kernel
theorem dX2_number_4 : decode cX2_number 4 = .ok (.iconst 0, 1) := by decide +kernel
theorem dX2_number_5 : decode cX2_number 5 = .ok (.istore 4, 2) := by decide +kernel
theorem dX2_number_7 : decode cX2_number 7 = .ok (.iload 4, 2) := by decide +kernel
theorem dX2_number_9 : decode cX2_number 9 = .ok (.aload_n 0, 1) := by decide +kernel
theorem dX2_number_10 : decode cX2_number 10 = .ok (.getfield 9, 3) := by decide +kernel
theorem dX2_number_13 : decode cX2_number 13 = .ok (.if_icmp .ge 50, 3) := by decide +kernel
theorem dX2_number_16 : decode cX2_number 16 = .ok (.aload_n 0, 1) := by decide +kernel
theorem dX2_number_17 : decode cX2_number 17 = .ok (.getfield 16, 3) := by decide +kernel
theorem dX2_number_20 : decode cX2_number 20 = .ok (.bipush 9, 2) := by decide +kernel
theorem dX2_number_22 : decode cX2_number 22 = .ok (.iload_n 1, 1) := by decide +kernel
theorem dX2_number_23 : decode cX2_number 23 = .ok (.imul, 1) := by decide +kernel
theorem dX2_number_24 : decode cX2_number 24 = .ok (.iload 4, 2) := by decide +kernel
theorem dX2_number_26 : decode cX2_number 26 = .ok (.iadd, 1) := by decide +kernel
theorem dX2_number_27 : decode cX2_number 27 = .ok (.iaload, 1) := by decide +kernel
theorem dX2_number_28 : decode cX2_number 28 = .ok (.iconst 3, 1) := by decide +kernel
theorem dX2_number_29 : decode cX2_number 29 = .ok (.if_icmp .eq 6, 3) := by decide +kernel
theorem dX2_number_32 : decode cX2_number 32 = .ok (.goto 25, 3) := by decide +kernel
theorem dX2_number_35 : decode cX2_number 35 = .ok (.iload_n 2, 1) := by decide +kernel
theorem dX2_number_36 : decode cX2_number 36 = .ok (.aload_n 0, 1) := by decide +kernel
theorem dX2_number_37 : decode cX2_number 37 = .ok (.iload_n 1, 1) := by decide +kernel
theorem dX2_number_38 : decode cX2_number 38 = .ok (.iload 4, 2) := by decide +kernel
theorem dX2_number_40 : decode cX2_number 40 = .ok (.invokevirtual 95, 3) := by decide +kernel
theorem dX2_number_43 : decode cX2_number 43 = .ok (.ifCond .eq 7, 3) := by decide +kernel
theorem dX2_number_46 : decode cX2_number 46 = .ok (.iload_n 3, 1) := by decide +kernel
theorem dX2_number_47 : decode cX2_number 47 = .ok (.goto 4, 3) := by decide +kernel
theorem dX2_number_50 : decode cX2_number 50 = .ok (.iconst 0, 1) := by decide +kernel
theorem dX2_number_51 : decode cX2_number 51 = .ok (.iadd, 1) := by decide +kernel
theorem dX2_number_52 : decode cX2_number 52 = .ok (.istore_n 2, 1) := by decide +kernel
theorem dX2_number_53 : decode cX2_number 53 = .ok (.iload_n 3, 1) := by decide +kernel
theorem dX2_number_54 : decode cX2_number 54 = .ok (.iconst 2, 1) := by decide +kernel
theorem dX2_number_55 : decode cX2_number 55 = .ok (.imul, 1) := by decide +kernel
theorem dX2_number_56 : decode cX2_number 56 = .ok (.istore_n 3, 1) := by decide +kernel
theorem dX2_number_57 : decode cX2_number 57 = .ok (.iinc 4 1, 3) := by decide +kernel
theorem dX2_number_60 : decode cX2_number 60 = .ok (.goto (-53), 3) := by decide +kernel
theorem dX2_number_63 : decode cX2_number 63 = .ok (.iload_n 2, 1) := by decide +kernel
theorem dX2_number_64 : decode cX2_number 64 = .ok (.ireturn, 1) := by decide +kernel
set_option maxRecDepth 20000 in
theorem ggX2_numberIn_X2_isRow : GoodIn wsX2_numberIn wsX2_isRow := goodIn_r _ [6, 7, 8, 9, 5, 10, 26, 27, 28, 29, 30, 31, 32, 33, 34, 35] (by decide +kernel) (by decide +kernel)
set_option maxRecDepth 20000 in
theorem gX2_numberIn_X2_isRow : GoodIn wsX2_numberIn (wsV RX2 42 RX2 yX2_isRow wsX2_isRow) := goodIn_app (goodIn_of _ (by decide +kernel)) ggX2_numberIn_X2_isRow
set_option maxRecDepth 20000 in
theorem ggX2_numberIn_X2_number : GoodIn wsX2_numberIn wsX2_number := goodIn_r _ [14, 15, 16, 17, 18, 19, 5, 20, 21, 26, 27, 28, 29, 30, 31, 32, 33, 34, 35] (by decide +kernel) (by decide +kernel)
set_option maxRecDepth 20000 in
theorem gX2_numberIn_X2_number : GoodIn wsX2_numberIn (wsV RX2 104 RX2 yX2_number wsX2_number) := goodIn_app (goodIn_of _ (by decide +kernel)) ggX2_numberIn_X2_number
set_option maxRecDepth 20000 in
theorem ggX2_numberIn_X2_no : GoodIn wsX2_numberIn wsX2_no := goodIn_r _ [25, 1, 26, 27, 28, 29, 30, 31, 32, 33, 34, 35] (by decide +kernel) (by decide +kernel)
set_option maxRecDepth 20000 in
theorem gX2_numberIn_X2_no : GoodIn wsX2_numberIn (wsV RX2 71 RX2 yX2_no wsX2_no) := goodIn_app (goodIn_of _ (by decide +kernel)) ggX2_numberIn_X2_no
theorem dX2_numberIn_0 : decode cX2_numberIn 0 = .ok (.aload_n 0, 1) := by decide +kernel
theorem dX2_numberIn_1 : decode cX2_numberIn 1 = .ok (.iconst 0, 1) := by decide +kernel
theorem dX2_numberIn_2 : decode cX2_numberIn 2 = .ok (.putfield 35, 3) := by decide +kernel
theorem dX2_numberIn_5 : decode cX2_numberIn 5 = .ok (.aload_n 0, 1) := by decide +kernel
theorem dX2_numberIn_6 : decode cX2_numberIn 6 = .ok (.iload_n 1, 1) := by decide +kernel
theorem dX2_numberIn_7 : decode cX2_numberIn 7 = .ok (.invokevirtual 42, 3) := by decide +kernel
theorem dX2_numberIn_10 : decode cX2_numberIn 10 = .ok (.ifCond .eq 11, 3) := by decide +kernel
theorem dX2_numberIn_13 : decode cX2_numberIn 13 = .ok (.aload_n 0, 1) := by decide +kernel
theorem dX2_numberIn_14 : decode cX2_numberIn 14 = .ok (.iload_n 1, 1) := by decide +kernel
theorem dX2_numberIn_15 : decode cX2_numberIn 15 = .ok (.invokevirtual 104, 3) := by decide +kernel
theorem dX2_numberIn_18 : decode cX2_numberIn 18 = .ok (.goto 8, 3) := by decide +kernel
theorem dX2_numberIn_21 : decode cX2_numberIn 21 = .ok (.aload_n 0, 1) := by decide +kernel
theorem dX2_numberIn_22 : decode cX2_numberIn 22 = .ok (.iconst 1, 1) := by decide +kernel
theorem dX2_numberIn_23 : decode cX2_numberIn 23 = .ok (.invokevirtual 71, 3) := by decide +kernel
theorem dX2_numberIn_26 : decode cX2_numberIn 26 = .ok (.ireturn, 1) := by decide +kernel
set_option maxRecDepth 20000 in
theorem ggX2_look_X2_keep : GoodIn wsX2_look wsX2_keep := goodIn_r _ [5, 6, 7, 8, 9, 10, 11, 37, 38, 39, 40, 41, 42, 43, 44, 45, 46] (by decide +kernel) (by decide +kernel)
set_option maxRecDepth 20000 in
theorem gX2_look_X2_keep : GoodIn wsX2_look (wsV RX2 107 RX2 yX2_keep wsX2_keep) := goodIn_app (goodIn_of _ (by decide +kernel)) ggX2_look_X2_keep
set_option maxRecDepth 20000 in
theorem ggX2_look_X2_fall : GoodIn wsX2_look wsX2_fall := goodIn_r _ [15, 16, 17, 18, 6, 19, 20, 21, 4, 22, 23, 24, 25, 26, 27, 28, 29, 30, 31, 32, 37, 38, 39, 40, 41, 42, 43, 44, 45, 46] (by decide +kernel) (by decide +kernel)
set_option maxRecDepth 20000 in
theorem gX2_look_X2_fall : GoodIn wsX2_look (wsV RX2 62 RX2 yX2_fall wsX2_fall) := goodIn_app (goodIn_of _ (by decide +kernel)) ggX2_look_X2_fall
set_option maxRecDepth 20000 in
theorem ggX2_look_X2_bringBack : GoodIn wsX2_look wsX2_bringBack := goodIn_r _ [36, 7, 6, 8, 9, 10, 11, 37, 38, 39, 40, 41, 42, 43, 44, 45, 46] (by decide +kernel) (by decide +kernel)
set_option maxRecDepth 20000 in
theorem gX2_look_X2_bringBack : GoodIn wsX2_look (wsV RX2 110 RX2 yX2_bringBack wsX2_bringBack) := goodIn_app (goodIn_of _ (by decide +kernel)) ggX2_look_X2_bringBack
theorem dX2_look_0 : decode cX2_look 0 = .ok (.aload_n 0, 1) := by decide +kernel
theorem dX2_look_1 : decode cX2_look 1 = .ok (.invokevirtual 107, 3) := by decide +kernel
theorem dX2_look_4 : decode cX2_look 4 = .ok (.iconst (-1), 1) := by decide +kernel
theorem dX2_look_5 : decode cX2_look 5 = .ok (.istore_n 3, 1) := by decide +kernel
theorem dX2_look_6 : decode cX2_look 6 = .ok (.iconst 0, 1) := by decide +kernel
theorem dX2_look_7 : decode cX2_look 7 = .ok (.istore 4, 2) := by decide +kernel
theorem dX2_look_9 : decode cX2_look 9 = .ok (.iload 4, 2) := by decide +kernel
theorem dX2_look_11 : decode cX2_look 11 = .ok (.iload_n 2, 1) := by decide +kernel
theorem dX2_look_12 : decode cX2_look 12 = .ok (.if_icmp .ge 15, 3) := by decide +kernel
theorem dX2_look_15 : decode cX2_look 15 = .ok (.aload_n 0, 1) := by decide +kernel
theorem dX2_look_16 : decode cX2_look 16 = .ok (.iload_n 1, 1) := by decide +kernel
theorem dX2_look_17 : decode cX2_look 17 = .ok (.invokevirtual 62, 3) := by decide +kernel
theorem dX2_look_20 : decode cX2_look 20 = .ok (.istore_n 3, 1) := by decide +kernel
theorem dX2_look_21 : decode cX2_look 21 = .ok (.iinc 4 1, 3) := by decide +kernel
theorem dX2_look_24 : decode cX2_look 24 = .ok (.goto (-15), 3) := by decide +kernel
theorem dX2_look_27 : decode cX2_look 27 = .ok (.aload_n 0, 1) := by decide +kernel
theorem dX2_look_28 : decode cX2_look 28 = .ok (.invokevirtual 110, 3) := by decide +kernel
theorem dX2_look_31 : decode cX2_look 31 = .ok (.iload_n 3, 1) := by decide +kernel
theorem dX2_look_32 : decode cX2_look 32 = .ok (.ireturn, 1) := by decide +kernel
set_option maxRecDepth 20000 in
theorem ggX2_wouldLand_X2_isColumn : GoodIn wsX2_wouldLand wsX2_isColumn := goodIn_r _ [6, 7, 8, 9, 5, 10, 46, 47, 48, 49, 50, 51, 52, 53, 54, 55] (by decide +kernel) (by decide +kernel)
set_option maxRecDepth 20000 in
theorem gX2_wouldLand_X2_isColumn : GoodIn wsX2_wouldLand (wsV RX2 46 RX2 yX2_isColumn wsX2_isColumn) := goodIn_app (goodIn_of _ (by decide +kernel)) ggX2_wouldLand_X2_isColumn
set_option maxRecDepth 20000 in
theorem ggX2_wouldLand_X2_look : GoodIn wsX2_wouldLand wsX2_look := goodIn_r _ [14, 15, 16, 17, 5, 18, 19, 20, 21, 22, 23, 24, 25, 26, 27, 28, 29, 30, 31, 32, 33, 34, 35, 36, 37, 2, 3, 4, 6, 7, 8, 9, 10, 38, 39, 40, 41, 46, 47, 48, 49, 50, 51, 52, 53, 54, 55] (by decide +kernel) (by decide +kernel)
set_option maxRecDepth 20000 in
theorem gX2_wouldLand_X2_look : GoodIn wsX2_wouldLand (wsV RX2 113 RX2 yX2_look wsX2_look) := goodIn_app (goodIn_of _ (by decide +kernel)) ggX2_wouldLand_X2_look
set_option maxRecDepth 20000 in
theorem ggX2_wouldLand_X2_no : GoodIn wsX2_wouldLand wsX2_no := goodIn_r _ [45, 1, 46, 47, 48, 49, 50, 51, 52, 53, 54, 55] (by decide +kernel) (by decide +kernel)
set_option maxRecDepth 20000 in
theorem gX2_wouldLand_X2_no : GoodIn wsX2_wouldLand (wsV RX2 71 RX2 yX2_no wsX2_no) := goodIn_app (goodIn_of _ (by decide +kernel)) ggX2_wouldLand_X2_no
theorem dX2_wouldLand_0 : decode cX2_wouldLand 0 = .ok (.aload_n 0, 1) := by decide +kernel
theorem dX2_wouldLand_1 : decode cX2_wouldLand 1 = .ok (.iconst 0, 1) := by decide +kernel
theorem dX2_wouldLand_2 : decode cX2_wouldLand 2 = .ok (.putfield 35, 3) := by decide +kernel
theorem dX2_wouldLand_5 : decode cX2_wouldLand 5 = .ok (.aload_n 0, 1) := by decide +kernel
theorem dX2_wouldLand_6 : decode cX2_wouldLand 6 = .ok (.iload_n 1, 1) := by decide +kernel
theorem dX2_wouldLand_7 : decode cX2_wouldLand 7 = .ok (.invokevirtual 46, 3) := by decide +kernel
theorem dX2_wouldLand_10 : decode cX2_wouldLand 10 = .ok (.ifCond .eq 12, 3) := by decide +kernel
theorem dX2_wouldLand_13 : decode cX2_wouldLand 13 = .ok (.aload_n 0, 1) := by decide +kernel
theorem dX2_wouldLand_14 : decode cX2_wouldLand 14 = .ok (.iload_n 1, 1) := by decide +kernel
theorem dX2_wouldLand_15 : decode cX2_wouldLand 15 = .ok (.iconst 1, 1) := by decide +kernel
theorem dX2_wouldLand_16 : decode cX2_wouldLand 16 = .ok (.invokevirtual 113, 3) := by decide +kernel
theorem dX2_wouldLand_19 : decode cX2_wouldLand 19 = .ok (.goto 8, 3) := by decide +kernel
theorem dX2_wouldLand_22 : decode cX2_wouldLand 22 = .ok (.aload_n 0, 1) := by decide +kernel
theorem dX2_wouldLand_23 : decode cX2_wouldLand 23 = .ok (.iconst 1, 1) := by decide +kernel
theorem dX2_wouldLand_24 : decode cX2_wouldLand 24 = .ok (.invokevirtual 71, 3) := by decide +kernel
theorem dX2_wouldLand_27 : decode cX2_wouldLand 27 = .ok (.ireturn, 1) := by decide +kernel
set_option maxRecDepth 20000 in
theorem ggX2_wouldBeIn_X2_isColumn : GoodIn wsX2_wouldBeIn wsX2_isColumn := goodIn_r _ [7, 8, 9, 10, 6, 11, 50, 51, 52, 53, 54, 55, 56, 57, 58, 59] (by decide +kernel) (by decide +kernel)
set_option maxRecDepth 20000 in
theorem gX2_wouldBeIn_X2_isColumn : GoodIn wsX2_wouldBeIn (wsV RX2 46 RX2 yX2_isColumn wsX2_isColumn) := goodIn_app (goodIn_of _ (by decide +kernel)) ggX2_wouldBeIn_X2_isColumn
set_option maxRecDepth 20000 in
theorem ggX2_wouldBeIn_X2_isRow : GoodIn wsX2_wouldBeIn wsX2_isRow := goodIn_r _ [15, 16, 9, 10, 6, 11, 50, 51, 52, 53, 54, 55, 56, 57, 58, 59] (by decide +kernel) (by decide +kernel)
set_option maxRecDepth 20000 in
theorem gX2_wouldBeIn_X2_isRow : GoodIn wsX2_wouldBeIn (wsV RX2 42 RX2 yX2_isRow wsX2_isRow) := goodIn_app (goodIn_of _ (by decide +kernel)) ggX2_wouldBeIn_X2_isRow
set_option maxRecDepth 20000 in
theorem ggX2_wouldBeIn_X2_no : GoodIn wsX2_wouldBeIn wsX2_no := goodIn_r _ [20, 1, 50, 51, 52, 53, 54, 55, 56, 57, 58, 59] (by decide +kernel) (by decide +kernel)
set_option maxRecDepth 20000 in
theorem gX2_wouldBeIn_X2_no : GoodIn wsX2_wouldBeIn (wsV RX2 71 RX2 yX2_no wsX2_no) := goodIn_app (goodIn_of _ (by decide +kernel)) ggX2_wouldBeIn_X2_no
set_option maxRecDepth 20000 in
theorem ggX2_wouldBeIn_X2_look : GoodIn wsX2_wouldBeIn wsX2_look := goodIn_r _ [24, 25, 26, 27, 6, 28, 29, 30, 31, 32, 33, 34, 35, 36, 37, 38, 39, 2, 16, 40, 41, 42, 43, 44, 45, 3, 4, 5, 7, 8, 9, 10, 11, 46, 47, 48, 49, 50, 51, 52, 53, 54, 55, 56, 57, 58, 59] (by decide +kernel) (by decide +kernel)
set_option maxRecDepth 20000 in
theorem gX2_wouldBeIn_X2_look : GoodIn wsX2_wouldBeIn (wsV RX2 113 RX2 yX2_look wsX2_look) := goodIn_app (goodIn_of _ (by decide +kernel)) ggX2_wouldBeIn_X2_look
theorem dX2_wouldBeIn_0 : decode cX2_wouldBeIn 0 = .ok (.aload_n 0, 1) := by decide +kernel
theorem dX2_wouldBeIn_1 : decode cX2_wouldBeIn 1 = .ok (.iconst 0, 1) := by decide +kernel
theorem dX2_wouldBeIn_2 : decode cX2_wouldBeIn 2 = .ok (.putfield 35, 3) := by decide +kernel
theorem dX2_wouldBeIn_5 : decode cX2_wouldBeIn 5 = .ok (.aload_n 0, 1) := by decide +kernel
theorem dX2_wouldBeIn_6 : decode cX2_wouldBeIn 6 = .ok (.iload_n 1, 1) := by decide +kernel
theorem dX2_wouldBeIn_7 : decode cX2_wouldBeIn 7 = .ok (.invokevirtual 46, 3) := by decide +kernel
theorem dX2_wouldBeIn_10 : decode cX2_wouldBeIn 10 = .ok (.ifCond .eq 11, 3) := by decide +kernel
theorem dX2_wouldBeIn_13 : decode cX2_wouldBeIn 13 = .ok (.aload_n 0, 1) := by decide +kernel
theorem dX2_wouldBeIn_14 : decode cX2_wouldBeIn 14 = .ok (.iload_n 2, 1) := by decide +kernel
theorem dX2_wouldBeIn_15 : decode cX2_wouldBeIn 15 = .ok (.invokevirtual 42, 3) := by decide +kernel
theorem dX2_wouldBeIn_18 : decode cX2_wouldBeIn 18 = .ok (.ifCond .ne 9, 3) := by decide +kernel
theorem dX2_wouldBeIn_21 : decode cX2_wouldBeIn 21 = .ok (.aload_n 0, 1) := by decide +kernel
theorem dX2_wouldBeIn_22 : decode cX2_wouldBeIn 22 = .ok (.iconst 1, 1) := by decide +kernel
theorem dX2_wouldBeIn_23 : decode cX2_wouldBeIn 23 = .ok (.invokevirtual 71, 3) := by decide +kernel
theorem dX2_wouldBeIn_26 : decode cX2_wouldBeIn 26 = .ok (.ireturn, 1) := by decide +kernel
theorem dX2_wouldBeIn_27 : decode cX2_wouldBeIn 27 = .ok (.aload_n 0, 1) := by decide +kernel
theorem dX2_wouldBeIn_28 : decode cX2_wouldBeIn 28 = .ok (.iload_n 1, 1) := by decide +kernel
theorem dX2_wouldBeIn_29 : decode cX2_wouldBeIn 29 = .ok (.iconst 1, 1) := by decide +kernel
theorem dX2_wouldBeIn_30 : decode cX2_wouldBeIn 30 = .ok (.invokevirtual 113, 3) := by decide +kernel
theorem dX2_wouldBeIn_33 : decode cX2_wouldBeIn 33 = .ok (.pop, 1) := by decide +kernel
theorem dX2_wouldBeIn_34 : decode cX2_wouldBeIn 34 = .ok (.aload_n 0, 1) := by decide +kernel
theorem dX2_wouldBeIn_35 : decode cX2_wouldBeIn 35 = .ok (.getfield 32, 3) := by decide +kernel
theorem dX2_wouldBeIn_38 : decode cX2_wouldBeIn 38 = .ok (.iload_n 2, 1) := by decide +kernel
theorem dX2_wouldBeIn_39 : decode cX2_wouldBeIn 39 = .ok (.iaload, 1) := by decide +kernel
theorem dX2_wouldBeIn_40 : decode cX2_wouldBeIn 40 = .ok (.ireturn, 1) := by decide +kernel
set_option maxRecDepth 20000 in
theorem ggX2_turnedBy_X2_look : GoodIn wsX2_turnedBy wsX2_look := goodIn_r _ [6, 7, 8, 9, 5, 10, 11, 12, 13, 14, 15, 16, 17, 18, 19, 20, 1, 21, 22, 23, 24, 25, 26, 27, 28, 29, 30, 31, 32, 33, 34, 35, 36, 37, 38, 39, 40, 41, 42, 43, 44, 45, 46, 47, 48, 49, 50] (by decide +kernel) (by decide +kernel)
set_option maxRecDepth 20000 in
theorem gX2_turnedBy_X2_look : GoodIn wsX2_turnedBy (wsV RX2 113 RX2 yX2_look wsX2_look) := goodIn_app (goodIn_of _ (by decide +kernel)) ggX2_turnedBy_X2_look
theorem dX2_turnedBy_0 : decode cX2_turnedBy 0 = .ok (.aload_n 0, 1) := by decide +kernel
theorem dX2_turnedBy_1 : decode cX2_turnedBy 1 = .ok (.iload_n 1, 1) := by decide +kernel
theorem dX2_turnedBy_2 : decode cX2_turnedBy 2 = .ok (.iconst 1, 1) := by decide +kernel
theorem dX2_turnedBy_3 : decode cX2_turnedBy 3 = .ok (.invokevirtual 113, 3) := by decide +kernel
theorem dX2_turnedBy_6 : decode cX2_turnedBy 6 = .ok (.pop, 1) := by decide +kernel
theorem dX2_turnedBy_7 : decode cX2_turnedBy 7 = .ok (.aload_n 0, 1) := by decide +kernel
theorem dX2_turnedBy_8 : decode cX2_turnedBy 8 = .ok (.getfield 55, 3) := by decide +kernel
theorem dX2_turnedBy_11 : decode cX2_turnedBy 11 = .ok (.ireturn, 1) := by decide +kernel
set_option maxRecDepth 20000 in
theorem ggX2_wouldTurn_X2_isColumn : GoodIn wsX2_wouldTurn wsX2_isColumn := goodIn_r _ [6, 7, 8, 9, 5, 10, 50, 51, 52, 53, 54, 55, 56, 57, 58, 59] (by decide +kernel) (by decide +kernel)
set_option maxRecDepth 20000 in
theorem gX2_wouldTurn_X2_isColumn : GoodIn wsX2_wouldTurn (wsV RX2 46 RX2 yX2_isColumn wsX2_isColumn) := goodIn_app (goodIn_of _ (by decide +kernel)) ggX2_wouldTurn_X2_isColumn
set_option maxRecDepth 20000 in
theorem ggX2_wouldTurn_X2_turnedBy : GoodIn wsX2_wouldTurn wsX2_turnedBy := goodIn_r _ [14, 15, 16, 17, 18, 5, 19, 20, 21, 22, 23, 24, 25, 26, 27, 28, 29, 30, 31, 32, 33, 34, 35, 36, 37, 38, 39, 40, 41, 2, 3, 4, 6, 7, 8, 9, 10, 42, 43, 44, 45, 50, 51, 52, 53, 54, 55, 56, 57, 58, 59] (by decide +kernel) (by decide +kernel)
set_option maxRecDepth 20000 in
theorem gX2_wouldTurn_X2_turnedBy : GoodIn wsX2_wouldTurn (wsV RX2 116 RX2 yX2_turnedBy wsX2_turnedBy) := goodIn_app (goodIn_of _ (by decide +kernel)) ggX2_wouldTurn_X2_turnedBy
set_option maxRecDepth 20000 in
theorem ggX2_wouldTurn_X2_no : GoodIn wsX2_wouldTurn wsX2_no := goodIn_r _ [49, 1, 50, 51, 52, 53, 54, 55, 56, 57, 58, 59] (by decide +kernel) (by decide +kernel)
set_option maxRecDepth 20000 in
theorem gX2_wouldTurn_X2_no : GoodIn wsX2_wouldTurn (wsV RX2 71 RX2 yX2_no wsX2_no) := goodIn_app (goodIn_of _ (by decide +kernel)) ggX2_wouldTurn_X2_no
theorem dX2_wouldTurn_0 : decode cX2_wouldTurn 0 = .ok (.aload_n 0, 1) := by decide +kernel
theorem dX2_wouldTurn_1 : decode cX2_wouldTurn 1 = .ok (.iconst 0, 1) := by decide +kernel
theorem dX2_wouldTurn_2 : decode cX2_wouldTurn 2 = .ok (.putfield 35, 3) := by decide +kernel
theorem dX2_wouldTurn_5 : decode cX2_wouldTurn 5 = .ok (.aload_n 0, 1) := by decide +kernel
theorem dX2_wouldTurn_6 : decode cX2_wouldTurn 6 = .ok (.iload_n 1, 1) := by decide +kernel
theorem dX2_wouldTurn_7 : decode cX2_wouldTurn 7 = .ok (.invokevirtual 46, 3) := by decide +kernel
theorem dX2_wouldTurn_10 : decode cX2_wouldTurn 10 = .ok (.ifCond .eq 11, 3) := by decide +kernel
theorem dX2_wouldTurn_13 : decode cX2_wouldTurn 13 = .ok (.aload_n 0, 1) := by decide +kernel
theorem dX2_wouldTurn_14 : decode cX2_wouldTurn 14 = .ok (.iload_n 1, 1) := by decide +kernel
theorem dX2_wouldTurn_15 : decode cX2_wouldTurn 15 = .ok (.invokevirtual 116, 3) := by decide +kernel
theorem dX2_wouldTurn_18 : decode cX2_wouldTurn 18 = .ok (.goto 8, 3) := by decide +kernel
theorem dX2_wouldTurn_21 : decode cX2_wouldTurn 21 = .ok (.aload_n 0, 1) := by decide +kernel
theorem dX2_wouldTurn_22 : decode cX2_wouldTurn 22 = .ok (.iconst 1, 1) := by decide +kernel
theorem dX2_wouldTurn_23 : decode cX2_wouldTurn 23 = .ok (.invokevirtual 71, 3) := by decide +kernel
theorem dX2_wouldTurn_26 : decode cX2_wouldTurn 26 = .ok (.ireturn, 1) := by decide +kernel
set_option maxRecDepth 20000 in
theorem ggX2_lastLands_X2_isColumn : GoodIn wsX2_lastLands wsX2_isColumn := goodIn_r _ [6, 7, 8, 9, 5, 10, 46, 47, 48, 49, 50, 51, 52, 53, 54, 55] (by decide +kernel) (by decide +kernel)
set_option maxRecDepth 20000 in
theorem gX2_lastLands_X2_isColumn : GoodIn wsX2_lastLands (wsV RX2 46 RX2 yX2_isColumn wsX2_isColumn) := goodIn_app (goodIn_of _ (by decide +kernel)) ggX2_lastLands_X2_isColumn
set_option maxRecDepth 20000 in
theorem ggX2_lastLands_X2_no : GoodIn wsX2_lastLands wsX2_no := goodIn_r _ [14, 1, 46, 47, 48, 49, 50, 51, 52, 53, 54, 55] (by decide +kernel) (by decide +kernel)
set_option maxRecDepth 20000 in
theorem gX2_lastLands_X2_no : GoodIn wsX2_lastLands (wsV RX2 71 RX2 yX2_no wsX2_no) := goodIn_app (goodIn_of _ (by decide +kernel)) ggX2_lastLands_X2_no
set_option maxRecDepth 20000 in
theorem ggX2_lastLands_X2_isFrom : GoodIn wsX2_lastLands wsX2_isFrom := goodIn_r _ [10] (by decide +kernel) (by decide +kernel)
set_option maxRecDepth 20000 in
theorem gX2_lastLands_X2_isFrom : GoodIn wsX2_lastLands (va_wsS RX2 38 yX2_isFrom wsX2_isFrom) := goodIn_app (goodIn_of _ (by decide +kernel)) ggX2_lastLands_X2_isFrom
set_option maxRecDepth 20000 in
theorem ggX2_lastLands_X2_look : GoodIn wsX2_lastLands wsX2_look := goodIn_r _ [18, 19, 20, 21, 5, 22, 23, 24, 25, 26, 27, 28, 29, 30, 31, 32, 33, 34, 35, 36, 37, 38, 39, 40, 41, 2, 3, 4, 6, 7, 8, 9, 10, 42, 43, 44, 45, 46, 47, 48, 49, 50, 51, 52, 53, 54, 55] (by decide +kernel) (by decide +kernel)
set_option maxRecDepth 20000 in
theorem gX2_lastLands_X2_look : GoodIn wsX2_lastLands (wsV RX2 113 RX2 yX2_look wsX2_look) := goodIn_app (goodIn_of _ (by decide +kernel)) ggX2_lastLands_X2_look
theorem dX2_lastLands_0 : decode cX2_lastLands 0 = .ok (.aload_n 0, 1) := by decide +kernel
theorem dX2_lastLands_1 : decode cX2_lastLands 1 = .ok (.iconst 0, 1) := by decide +kernel
theorem dX2_lastLands_2 : decode cX2_lastLands 2 = .ok (.putfield 35, 3) := by decide +kernel
theorem dX2_lastLands_5 : decode cX2_lastLands 5 = .ok (.aload_n 0, 1) := by decide +kernel
theorem dX2_lastLands_6 : decode cX2_lastLands 6 = .ok (.iload_n 1, 1) := by decide +kernel
theorem dX2_lastLands_7 : decode cX2_lastLands 7 = .ok (.invokevirtual 46, 3) := by decide +kernel
theorem dX2_lastLands_10 : decode cX2_lastLands 10 = .ok (.ifCond .ne 9, 3) := by decide +kernel
theorem dX2_lastLands_13 : decode cX2_lastLands 13 = .ok (.aload_n 0, 1) := by decide +kernel
theorem dX2_lastLands_14 : decode cX2_lastLands 14 = .ok (.iconst 1, 1) := by decide +kernel
theorem dX2_lastLands_15 : decode cX2_lastLands 15 = .ok (.invokevirtual 71, 3) := by decide +kernel
theorem dX2_lastLands_18 : decode cX2_lastLands 18 = .ok (.ireturn, 1) := by decide +kernel
theorem dX2_lastLands_19 : decode cX2_lastLands 19 = .ok (.iload_n 2, 1) := by decide +kernel
theorem dX2_lastLands_20 : decode cX2_lastLands 20 = .ok (.iconst 1, 1) := by decide +kernel
theorem dX2_lastLands_21 : decode cX2_lastLands 21 = .ok (.bipush 60, 2) := by decide +kernel
theorem dX2_lastLands_23 : decode cX2_lastLands 23 = .ok (.invokestatic 38, 3) := by decide +kernel
theorem dX2_lastLands_26 : decode cX2_lastLands 26 = .ok (.ifCond .eq 12, 3) := by decide +kernel
theorem dX2_lastLands_29 : decode cX2_lastLands 29 = .ok (.aload_n 0, 1) := by decide +kernel
theorem dX2_lastLands_30 : decode cX2_lastLands 30 = .ok (.iload_n 1, 1) := by decide +kernel
theorem dX2_lastLands_31 : decode cX2_lastLands 31 = .ok (.iload_n 2, 1) := by decide +kernel
theorem dX2_lastLands_32 : decode cX2_lastLands 32 = .ok (.invokevirtual 113, 3) := by decide +kernel
theorem dX2_lastLands_35 : decode cX2_lastLands 35 = .ok (.goto 8, 3) := by decide +kernel
theorem dX2_lastLands_38 : decode cX2_lastLands 38 = .ok (.aload_n 0, 1) := by decide +kernel
theorem dX2_lastLands_39 : decode cX2_lastLands 39 = .ok (.iconst 2, 1) := by decide +kernel
theorem dX2_lastLands_40 : decode cX2_lastLands 40 = .ok (.invokevirtual 71, 3) := by decide +kernel
theorem dX2_lastLands_43 : decode cX2_lastLands 43 = .ok (.ireturn, 1) := by decide +kernel
theorem dX2_isAsKept_0 : decode cX2_isAsKept 0 = .ok (.iconst 0, 1) := by decide +kernel
theorem dX2_isAsKept_1 : decode cX2_isAsKept 1 = .ok (.istore_n 1, 1) := by decide +kernel
theorem dX2_isAsKept_2 : decode cX2_isAsKept 2 = .ok (.iload_n 1, 1) := by decide +kernel
theorem dX2_isAsKept_3 : decode cX2_isAsKept 3 = .ok (.bipush 72, 2) := by decide +kernel
theorem dX2_isAsKept_5 : decode cX2_isAsKept 5 = .ok (.if_icmp .ge 26, 3) := by decide +kernel
theorem dX2_isAsKept_8 : decode cX2_isAsKept 8 = .ok (.aload_n 0, 1) := by decide +kernel
theorem dX2_isAsKept_9 : decode cX2_isAsKept 9 = .ok (.getfield 26, 3) := by decide +kernel
theorem dX2_isAsKept_12 : decode cX2_isAsKept 12 = .ok (.iload_n 1, 1) := by decide +kernel
theorem dX2_isAsKept_13 : decode cX2_isAsKept 13 = .ok (.iaload, 1) := by decide +kernel
theorem dX2_isAsKept_14 : decode cX2_isAsKept 14 = .ok (.aload_n 0, 1) := by decide +kernel
theorem dX2_isAsKept_15 : decode cX2_isAsKept 15 = .ok (.getfield 29, 3) := by decide +kernel
theorem dX2_isAsKept_18 : decode cX2_isAsKept 18 = .ok (.iload_n 1, 1) := by decide +kernel
theorem dX2_isAsKept_19 : decode cX2_isAsKept 19 = .ok (.iaload, 1) := by decide +kernel
theorem dX2_isAsKept_20 : decode cX2_isAsKept 20 = .ok (.if_icmp .eq 5, 3) := by decide +kernel
theorem dX2_isAsKept_23 : decode cX2_isAsKept 23 = .ok (.iconst 0, 1) := by decide +kernel
theorem dX2_isAsKept_24 : decode cX2_isAsKept 24 = .ok (.ireturn, 1) := by decide +kernel
theorem dX2_isAsKept_25 : decode cX2_isAsKept 25 = .ok (.iinc 1 1, 3) := by decide +kernel
theorem dX2_isAsKept_28 : decode cX2_isAsKept 28 = .ok (.goto (-26), 3) := by decide +kernel
theorem dX2_isAsKept_31 : decode cX2_isAsKept 31 = .ok (.iconst 1, 1) := by decide +kernel
theorem dX2_isAsKept_32 : decode cX2_isAsKept 32 = .ok (.ireturn, 1) := by decide +kernel
set_option maxRecDepth 20000 in
theorem ggX2_asBefore_X2_keep : GoodIn wsX2_asBefore wsX2_keep := goodIn_r _ [5, 6, 7, 8, 9, 10, 11, 41, 42, 43, 44, 45, 46, 47, 48, 49, 50] (by decide +kernel) (by decide +kernel)
set_option maxRecDepth 20000 in
theorem gX2_asBefore_X2_keep : GoodIn wsX2_asBefore (wsV RX2 107 RX2 yX2_keep wsX2_keep) := goodIn_app (goodIn_of _ (by decide +kernel)) ggX2_asBefore_X2_keep
set_option maxRecDepth 20000 in
theorem ggX2_asBefore_X2_fall : GoodIn wsX2_asBefore wsX2_fall := goodIn_r _ [15, 16, 17, 18, 6, 19, 20, 21, 4, 22, 23, 24, 25, 26, 27, 28, 29, 30, 31, 32, 41, 42, 43, 44, 45, 46, 47, 48, 49, 50] (by decide +kernel) (by decide +kernel)
set_option maxRecDepth 20000 in
theorem gX2_asBefore_X2_fall : GoodIn wsX2_asBefore (wsV RX2 62 RX2 yX2_fall wsX2_fall) := goodIn_app (goodIn_of _ (by decide +kernel)) ggX2_asBefore_X2_fall
set_option maxRecDepth 20000 in
theorem ggX2_asBefore_X2_isAsKept : GoodIn wsX2_asBefore wsX2_isAsKept := goodIn_r _ [36, 6, 7, 41, 42, 43, 44, 45, 46, 47, 48, 49, 50] (by decide +kernel) (by decide +kernel)
set_option maxRecDepth 20000 in
theorem gX2_asBefore_X2_isAsKept : GoodIn wsX2_asBefore (wsV RX2 119 RX2 yX2_isAsKept wsX2_isAsKept) := goodIn_app (goodIn_of _ (by decide +kernel)) ggX2_asBefore_X2_isAsKept
set_option maxRecDepth 20000 in
theorem ggX2_asBefore_X2_bringBack : GoodIn wsX2_asBefore wsX2_bringBack := goodIn_r _ [40, 7, 6, 8, 9, 10, 11, 41, 42, 43, 44, 45, 46, 47, 48, 49, 50] (by decide +kernel) (by decide +kernel)
set_option maxRecDepth 20000 in
theorem gX2_asBefore_X2_bringBack : GoodIn wsX2_asBefore (wsV RX2 110 RX2 yX2_bringBack wsX2_bringBack) := goodIn_app (goodIn_of _ (by decide +kernel)) ggX2_asBefore_X2_bringBack
theorem dX2_asBefore_0 : decode cX2_asBefore 0 = .ok (.aload_n 0, 1) := by decide +kernel
theorem dX2_asBefore_1 : decode cX2_asBefore 1 = .ok (.invokevirtual 107, 3) := by decide +kernel
theorem dX2_asBefore_4 : decode cX2_asBefore 4 = .ok (.iconst (-1), 1) := by decide +kernel
theorem dX2_asBefore_5 : decode cX2_asBefore 5 = .ok (.istore_n 2, 1) := by decide +kernel
theorem dX2_asBefore_6 : decode cX2_asBefore 6 = .ok (.iconst 1, 1) := by decide +kernel
theorem dX2_asBefore_7 : decode cX2_asBefore 7 = .ok (.istore_n 3, 1) := by decide +kernel
theorem dX2_asBefore_8 : decode cX2_asBefore 8 = .ok (.iload_n 3, 1) := by decide +kernel
theorem dX2_asBefore_9 : decode cX2_asBefore 9 = .ok (.bipush 60, 2) := by decide +kernel
theorem dX2_asBefore_11 : decode cX2_asBefore 11 = .ok (.if_icmp .gt 28, 3) := by decide +kernel
theorem dX2_asBefore_14 : decode cX2_asBefore 14 = .ok (.iload_n 2, 1) := by decide +kernel
theorem dX2_asBefore_15 : decode cX2_asBefore 15 = .ok (.ifCond .ge 24, 3) := by decide +kernel
theorem dX2_asBefore_18 : decode cX2_asBefore 18 = .ok (.aload_n 0, 1) := by decide +kernel
theorem dX2_asBefore_19 : decode cX2_asBefore 19 = .ok (.iload_n 1, 1) := by decide +kernel
theorem dX2_asBefore_20 : decode cX2_asBefore 20 = .ok (.invokevirtual 62, 3) := by decide +kernel
theorem dX2_asBefore_23 : decode cX2_asBefore 23 = .ok (.pop, 1) := by decide +kernel
theorem dX2_asBefore_24 : decode cX2_asBefore 24 = .ok (.aload_n 0, 1) := by decide +kernel
theorem dX2_asBefore_25 : decode cX2_asBefore 25 = .ok (.invokevirtual 119, 3) := by decide +kernel
theorem dX2_asBefore_28 : decode cX2_asBefore 28 = .ok (.ifCond .eq 5, 3) := by decide +kernel
theorem dX2_asBefore_31 : decode cX2_asBefore 31 = .ok (.iload_n 3, 1) := by decide +kernel
theorem dX2_asBefore_32 : decode cX2_asBefore 32 = .ok (.istore_n 2, 1) := by decide +kernel
theorem dX2_asBefore_33 : decode cX2_asBefore 33 = .ok (.iinc 3 1, 3) := by decide +kernel
theorem dX2_asBefore_36 : decode cX2_asBefore 36 = .ok (.goto (-28), 3) := by decide +kernel
theorem dX2_asBefore_39 : decode cX2_asBefore 39 = .ok (.aload_n 0, 1) := by decide +kernel
theorem dX2_asBefore_40 : decode cX2_asBefore 40 = .ok (.invokevirtual 110, 3) := by decide +kernel
theorem dX2_asBefore_43 : decode cX2_asBefore 43 = .ok (.iload_n 2, 1) := by decide +kernel
theorem dX2_asBefore_44 : decode cX2_asBefore 44 = .ok (.ireturn, 1) := by decide +kernel
set_option maxRecDepth 20000 in
theorem ggX2_asBeforeIn_X2_isColumn : GoodIn wsX2_asBeforeIn wsX2_isColumn := goodIn_r _ [6, 7, 8, 9, 5, 10, 50, 51, 52, 53, 54, 55, 56, 57, 58, 59] (by decide +kernel) (by decide +kernel)
set_option maxRecDepth 20000 in
theorem gX2_asBeforeIn_X2_isColumn : GoodIn wsX2_asBeforeIn (wsV RX2 46 RX2 yX2_isColumn wsX2_isColumn) := goodIn_app (goodIn_of _ (by decide +kernel)) ggX2_asBeforeIn_X2_isColumn
set_option maxRecDepth 20000 in
theorem ggX2_asBeforeIn_X2_asBefore : GoodIn wsX2_asBeforeIn wsX2_asBefore := goodIn_r _ [14, 15, 16, 17, 5, 18, 19, 20, 21, 22, 23, 24, 25, 26, 27, 28, 29, 30, 31, 32, 33, 34, 35, 36, 37, 2, 3, 4, 6, 7, 8, 9, 10, 38, 39, 40, 41, 42, 43, 44, 45, 50, 51, 52, 53, 54, 55, 56, 57, 58, 59] (by decide +kernel) (by decide +kernel)
set_option maxRecDepth 20000 in
theorem gX2_asBeforeIn_X2_asBefore : GoodIn wsX2_asBeforeIn (wsV RX2 123 RX2 yX2_asBefore wsX2_asBefore) := goodIn_app (goodIn_of _ (by decide +kernel)) ggX2_asBeforeIn_X2_asBefore
set_option maxRecDepth 20000 in
theorem ggX2_asBeforeIn_X2_no : GoodIn wsX2_asBeforeIn wsX2_no := goodIn_r _ [49, 1, 50, 51, 52, 53, 54, 55, 56, 57, 58, 59] (by decide +kernel) (by decide +kernel)
set_option maxRecDepth 20000 in
theorem gX2_asBeforeIn_X2_no : GoodIn wsX2_asBeforeIn (wsV RX2 71 RX2 yX2_no wsX2_no) := goodIn_app (goodIn_of _ (by decide +kernel)) ggX2_asBeforeIn_X2_no
theorem dX2_asBeforeIn_0 : decode cX2_asBeforeIn 0 = .ok (.aload_n 0, 1) := by decide +kernel
theorem dX2_asBeforeIn_1 : decode cX2_asBeforeIn 1 = .ok (.iconst 0, 1) := by decide +kernel
theorem dX2_asBeforeIn_2 : decode cX2_asBeforeIn 2 = .ok (.putfield 35, 3) := by decide +kernel
theorem dX2_asBeforeIn_5 : decode cX2_asBeforeIn 5 = .ok (.aload_n 0, 1) := by decide +kernel
theorem dX2_asBeforeIn_6 : decode cX2_asBeforeIn 6 = .ok (.iload_n 1, 1) := by decide +kernel
theorem dX2_asBeforeIn_7 : decode cX2_asBeforeIn 7 = .ok (.invokevirtual 46, 3) := by decide +kernel
theorem dX2_asBeforeIn_10 : decode cX2_asBeforeIn 10 = .ok (.ifCond .eq 11, 3) := by decide +kernel
theorem dX2_asBeforeIn_13 : decode cX2_asBeforeIn 13 = .ok (.aload_n 0, 1) := by decide +kernel
theorem dX2_asBeforeIn_14 : decode cX2_asBeforeIn 14 = .ok (.iload_n 1, 1) := by decide +kernel
theorem dX2_asBeforeIn_15 : decode cX2_asBeforeIn 15 = .ok (.invokevirtual 123, 3) := by decide +kernel
theorem dX2_asBeforeIn_18 : decode cX2_asBeforeIn 18 = .ok (.goto 8, 3) := by decide +kernel
theorem dX2_asBeforeIn_21 : decode cX2_asBeforeIn 21 = .ok (.aload_n 0, 1) := by decide +kernel
theorem dX2_asBeforeIn_22 : decode cX2_asBeforeIn 22 = .ok (.iconst 1, 1) := by decide +kernel
theorem dX2_asBeforeIn_23 : decode cX2_asBeforeIn 23 = .ok (.invokevirtual 71, 3) := by decide +kernel
theorem dX2_asBeforeIn_26 : decode cX2_asBeforeIn 26 = .ok (.ireturn, 1) := by decide +kernel
set_option maxRecDepth 20000 in
theorem ggX2_runs_X2_keep : GoodIn wsX2_runs wsX2_keep := goodIn_r _ [5, 6, 7, 8, 9, 10, 11, 46, 47, 48, 49, 50, 51, 52, 53, 54, 55] (by decide +kernel) (by decide +kernel)
set_option maxRecDepth 20000 in
theorem gX2_runs_X2_keep : GoodIn wsX2_runs (wsV RX2 107 RX2 yX2_keep wsX2_keep) := goodIn_app (goodIn_of _ (by decide +kernel)) ggX2_runs_X2_keep
set_option maxRecDepth 20000 in
theorem ggX2_runs_X2_runFrom : GoodIn wsX2_runs wsX2_runFrom := goodIn_r _ [15, 6, 16, 17, 18, 19, 20, 4, 21, 22, 23, 24, 25, 26, 27, 28, 29, 30, 31, 32, 33, 34, 35, 36, 37, 38, 39, 40, 41, 46, 47, 48, 49, 50, 51, 52, 53, 54, 55] (by decide +kernel) (by decide +kernel)
set_option maxRecDepth 20000 in
theorem gX2_runs_X2_runFrom : GoodIn wsX2_runs (wsV RX2 85 RX2 yX2_runFrom wsX2_runFrom) := goodIn_app (goodIn_of _ (by decide +kernel)) ggX2_runs_X2_runFrom
set_option maxRecDepth 20000 in
theorem ggX2_runs_X2_bringBack : GoodIn wsX2_runs wsX2_bringBack := goodIn_r _ [45, 7, 6, 8, 9, 10, 11, 46, 47, 48, 49, 50, 51, 52, 53, 54, 55] (by decide +kernel) (by decide +kernel)
set_option maxRecDepth 20000 in
theorem gX2_runs_X2_bringBack : GoodIn wsX2_runs (wsV RX2 110 RX2 yX2_bringBack wsX2_bringBack) := goodIn_app (goodIn_of _ (by decide +kernel)) ggX2_runs_X2_bringBack
theorem dX2_runs_0 : decode cX2_runs 0 = .ok (.aload_n 0, 1) := by decide +kernel
theorem dX2_runs_1 : decode cX2_runs 1 = .ok (.invokevirtual 107, 3) := by decide +kernel
theorem dX2_runs_4 : decode cX2_runs 4 = .ok (.aload_n 0, 1) := by decide +kernel
theorem dX2_runs_5 : decode cX2_runs 5 = .ok (.iload_n 1, 1) := by decide +kernel
theorem dX2_runs_6 : decode cX2_runs 6 = .ok (.bipush 99, 2) := by decide +kernel
theorem dX2_runs_8 : decode cX2_runs 8 = .ok (.invokevirtual 85, 3) := by decide +kernel
theorem dX2_runs_11 : decode cX2_runs 11 = .ok (.istore_n 2, 1) := by decide +kernel
theorem dX2_runs_12 : decode cX2_runs 12 = .ok (.aload_n 0, 1) := by decide +kernel
theorem dX2_runs_13 : decode cX2_runs 13 = .ok (.invokevirtual 110, 3) := by decide +kernel
theorem dX2_runs_16 : decode cX2_runs 16 = .ok (.iload_n 2, 1) := by decide +kernel
theorem dX2_runs_17 : decode cX2_runs 17 = .ok (.ireturn, 1) := by decide +kernel
set_option maxRecDepth 20000 in
theorem ggX2_wouldRun_X2_isFrom : GoodIn wsX2_wouldRun wsX2_isFrom := goodIn_r _ [5] (by decide +kernel) (by decide +kernel)
set_option maxRecDepth 20000 in
theorem gX2_wouldRun_X2_isFrom : GoodIn wsX2_wouldRun (va_wsS RX2 38 yX2_isFrom wsX2_isFrom) := goodIn_app (goodIn_of _ (by decide +kernel)) ggX2_wouldRun_X2_isFrom
set_option maxRecDepth 20000 in
theorem ggX2_wouldRun_X2_runs : GoodIn wsX2_wouldRun wsX2_runs := goodIn_r _ [9, 10, 11, 12, 4, 13, 14, 15, 16, 17, 18, 19, 20, 21, 22, 23, 24, 25, 26, 27, 28, 29, 30, 31, 32, 33, 34, 35, 36, 37, 38, 39, 40, 41, 42, 2, 3, 5, 43, 44, 45, 46, 47, 48, 49, 50, 55, 56, 57, 58, 59, 60, 61, 62, 63, 64] (by decide +kernel) (by decide +kernel)
set_option maxRecDepth 20000 in
theorem gX2_wouldRun_X2_runs : GoodIn wsX2_wouldRun (wsV RX2 126 RX2 yX2_runs wsX2_runs) := goodIn_app (goodIn_of _ (by decide +kernel)) ggX2_wouldRun_X2_runs
set_option maxRecDepth 20000 in
theorem ggX2_wouldRun_X2_no : GoodIn wsX2_wouldRun wsX2_no := goodIn_r _ [54, 1, 55, 56, 57, 58, 59, 60, 61, 62, 63, 64] (by decide +kernel) (by decide +kernel)
set_option maxRecDepth 20000 in
theorem gX2_wouldRun_X2_no : GoodIn wsX2_wouldRun (wsV RX2 71 RX2 yX2_no wsX2_no) := goodIn_app (goodIn_of _ (by decide +kernel)) ggX2_wouldRun_X2_no
theorem dX2_wouldRun_0 : decode cX2_wouldRun 0 = .ok (.aload_n 0, 1) := by decide +kernel
theorem dX2_wouldRun_1 : decode cX2_wouldRun 1 = .ok (.iconst 0, 1) := by decide +kernel
theorem dX2_wouldRun_2 : decode cX2_wouldRun 2 = .ok (.putfield 35, 3) := by decide +kernel
theorem dX2_wouldRun_5 : decode cX2_wouldRun 5 = .ok (.iload_n 1, 1) := by decide +kernel
theorem dX2_wouldRun_6 : decode cX2_wouldRun 6 = .ok (.iconst 0, 1) := by decide +kernel
theorem dX2_wouldRun_7 : decode cX2_wouldRun 7 = .ok (.iconst 1, 1) := by decide +kernel
theorem dX2_wouldRun_8 : decode cX2_wouldRun 8 = .ok (.invokestatic 38, 3) := by decide +kernel
theorem dX2_wouldRun_11 : decode cX2_wouldRun 11 = .ok (.ifCond .eq 11, 3) := by decide +kernel
theorem dX2_wouldRun_14 : decode cX2_wouldRun 14 = .ok (.aload_n 0, 1) := by decide +kernel
theorem dX2_wouldRun_15 : decode cX2_wouldRun 15 = .ok (.iload_n 1, 1) := by decide +kernel
theorem dX2_wouldRun_16 : decode cX2_wouldRun 16 = .ok (.invokevirtual 126, 3) := by decide +kernel
theorem dX2_wouldRun_19 : decode cX2_wouldRun 19 = .ok (.goto 8, 3) := by decide +kernel
theorem dX2_wouldRun_22 : decode cX2_wouldRun 22 = .ok (.aload_n 0, 1) := by decide +kernel
theorem dX2_wouldRun_23 : decode cX2_wouldRun 23 = .ok (.iconst 1, 1) := by decide +kernel
theorem dX2_wouldRun_24 : decode cX2_wouldRun 24 = .ok (.invokevirtual 71, 3) := by decide +kernel
theorem dX2_wouldRun_27 : decode cX2_wouldRun 27 = .ok (.ireturn, 1) := by decide +kernel
set_option maxRecDepth 20000 in
theorem ggX2_best_X2_turnedBy : GoodIn wsX2_best wsX2_turnedBy := goodIn_r _ [6, 7, 8, 9, 10, 5, 11, 12, 13, 14, 15, 16, 17, 18, 19, 20, 21, 22, 23, 24, 25, 26, 27, 28, 29, 30, 31, 32, 33, 34, 35, 36, 37, 1, 38, 39, 40, 41, 42, 43, 44, 45, 46, 47, 48, 49, 50, 51, 52, 53, 54] (by decide +kernel) (by decide +kernel)
set_option maxRecDepth 20000 in
theorem gX2_best_X2_turnedBy : GoodIn wsX2_best (wsV RX2 116 RX2 yX2_turnedBy wsX2_turnedBy) := goodIn_app (goodIn_of _ (by decide +kernel)) ggX2_best_X2_turnedBy
theorem dX2_best_0 : decode cX2_best 0 = .ok (.iconst 0, 1) := by decide +kernel
theorem dX2_best_1 : decode cX2_best 1 = .ok (.istore_n 1, 1) := by decide +kernel
theorem dX2_best_2 : decode cX2_best 2 = .ok (.iconst (-1), 1) := by decide +kernel
theorem dX2_best_3 : decode cX2_best 3 = .ok (.istore_n 2, 1) := by decide +kernel
theorem dX2_best_4 : decode cX2_best 4 = .ok (.iconst 0, 1) := by decide +kernel
theorem dX2_best_5 : decode cX2_best 5 = .ok (.istore_n 3, 1) := by decide +kernel
theorem dX2_best_6 : decode cX2_best 6 = .ok (.iload_n 3, 1) := by decide +kernel
theorem dX2_best_7 : decode cX2_best 7 = .ok (.aload_n 0, 1) := by decide +kernel
theorem dX2_best_8 : decode cX2_best 8 = .ok (.getfield 9, 3) := by decide +kernel
theorem dX2_best_11 : decode cX2_best 11 = .ok (.if_icmp .ge 30, 3) := by decide +kernel
theorem dX2_best_14 : decode cX2_best 14 = .ok (.aload_n 0, 1) := by decide +kernel
theorem dX2_best_15 : decode cX2_best 15 = .ok (.iload_n 3, 1) := by decide +kernel
theorem dX2_best_16 : decode cX2_best 16 = .ok (.invokevirtual 116, 3) := by decide +kernel
theorem dX2_best_19 : decode cX2_best 19 = .ok (.istore 4, 2) := by decide +kernel
theorem dX2_best_21 : decode cX2_best 21 = .ok (.iload 4, 2) := by decide +kernel
theorem dX2_best_23 : decode cX2_best 23 = .ok (.iload_n 2, 1) := by decide +kernel
theorem dX2_best_24 : decode cX2_best 24 = .ok (.if_icmp .gt 6, 3) := by decide +kernel
theorem dX2_best_27 : decode cX2_best 27 = .ok (.goto 8, 3) := by decide +kernel
theorem dX2_best_30 : decode cX2_best 30 = .ok (.iload_n 3, 1) := by decide +kernel
theorem dX2_best_31 : decode cX2_best 31 = .ok (.istore_n 1, 1) := by decide +kernel
theorem dX2_best_32 : decode cX2_best 32 = .ok (.iload 4, 2) := by decide +kernel
theorem dX2_best_34 : decode cX2_best 34 = .ok (.istore_n 2, 1) := by decide +kernel
theorem dX2_best_35 : decode cX2_best 35 = .ok (.iinc 3 1, 3) := by decide +kernel
theorem dX2_best_38 : decode cX2_best 38 = .ok (.goto (-32), 3) := by decide +kernel
theorem dX2_best_41 : decode cX2_best 41 = .ok (.iload_n 1, 1) := by decide +kernel
theorem dX2_best_42 : decode cX2_best 42 = .ok (.ireturn, 1) := by decide +kernel
set_option maxRecDepth 20000 in
theorem ggX2_bestColumn_X2_best : GoodIn wsX2_bestColumn wsX2_best := goodIn_r _ [5, 6, 7, 8, 9, 4, 10, 11, 12, 13, 14, 15, 16, 17, 18, 19, 20, 21, 22, 23, 24, 25, 26, 27, 28, 29, 30, 31, 32, 33, 34, 35, 36, 37, 38, 39, 40, 41, 42, 43, 44, 45, 46, 47, 48, 54, 55, 56, 57, 58, 59, 60, 61, 62, 63] (by decide +kernel) (by decide +kernel)
set_option maxRecDepth 20000 in
theorem gX2_bestColumn_X2_best : GoodIn wsX2_bestColumn (wsV RX2 129 RX2 yX2_best wsX2_best) := goodIn_app (goodIn_of _ (by decide +kernel)) ggX2_bestColumn_X2_best
set_option maxRecDepth 20000 in
theorem ggX2_bestColumn_X2_ok : GoodIn wsX2_bestColumn wsX2_ok := goodIn_r _ [52, 53, 54, 55, 56, 57, 58, 59, 60, 61, 62, 63] (by decide +kernel) (by decide +kernel)
set_option maxRecDepth 20000 in
theorem gX2_bestColumn_X2_ok : GoodIn wsX2_bestColumn (wsV RX2 92 RX2 yX2_ok wsX2_ok) := goodIn_app (goodIn_of _ (by decide +kernel)) ggX2_bestColumn_X2_ok
theorem dX2_bestColumn_0 : decode cX2_bestColumn 0 = .ok (.aload_n 0, 1) := by decide +kernel
theorem dX2_bestColumn_1 : decode cX2_bestColumn 1 = .ok (.aload_n 0, 1) := by decide +kernel
theorem dX2_bestColumn_2 : decode cX2_bestColumn 2 = .ok (.invokevirtual 129, 3) := by decide +kernel
theorem dX2_bestColumn_5 : decode cX2_bestColumn 5 = .ok (.invokevirtual 92, 3) := by decide +kernel
theorem dX2_bestColumn_8 : decode cX2_bestColumn 8 = .ok (.ireturn, 1) := by decide +kernel
set_option maxRecDepth 20000 in
theorem ggX2_meanInBins_X2_inBins : GoodIn wsX2_meanInBins wsX2_inBins := goodIn_r _ [7, 2, 8, 9, 10, 11, 12, 13, 14, 15, 16, 17, 18] (by decide +kernel) (by decide +kernel)
set_option maxRecDepth 20000 in
theorem gX2_meanInBins_X2_inBins : GoodIn wsX2_meanInBins (wsV RX2 88 RX2 yX2_inBins wsX2_inBins) := goodIn_app (goodIn_of _ (by decide +kernel)) ggX2_meanInBins_X2_inBins
theorem dX2_meanInBins_0 : decode cX2_meanInBins 0 = .ok (.aload_n 0, 1) := by decide +kernel
theorem dX2_meanInBins_1 : decode cX2_meanInBins 1 = .ok (.iconst 0, 1) := by decide +kernel
theorem dX2_meanInBins_2 : decode cX2_meanInBins 2 = .ok (.putfield 35, 3) := by decide +kernel
theorem dX2_meanInBins_5 : decode cX2_meanInBins 5 = .ok (.aload_n 0, 1) := by decide +kernel
theorem dX2_meanInBins_6 : decode cX2_meanInBins 6 = .ok (.invokevirtual 88, 3) := by decide +kernel
theorem dX2_meanInBins_9 : decode cX2_meanInBins 9 = .ok (.i2d, 1) := by decide +kernel
theorem dX2_meanInBins_10 : decode cX2_meanInBins 10 = .ok (.aload_n 0, 1) := by decide +kernel
theorem dX2_meanInBins_11 : decode cX2_meanInBins 11 = .ok (.getfield 9, 3) := by decide +kernel
theorem dX2_meanInBins_14 : decode cX2_meanInBins 14 = .ok (.i2d, 1) := by decide +kernel
theorem dX2_meanInBins_15 : decode cX2_meanInBins 15 = .ok (.ddiv, 1) := by decide +kernel
theorem dX2_meanInBins_16 : decode cX2_meanInBins 16 = .ok (.dreturn, 1) := by decide +kernel
set_option maxRecDepth 20000 in
theorem ggX2_digest_X2_togglesNow : GoodIn wsX2_digest wsX2_togglesNow := goodIn_r _ [14, 9, 90, 91, 92, 93, 94, 95, 96, 97, 98, 99] (by decide +kernel) (by decide +kernel)
set_option maxRecDepth 20000 in
theorem gX2_digest_X2_togglesNow : GoodIn wsX2_digest (wsV RX2 101 RX2 yX2_togglesNow wsX2_togglesNow) := goodIn_app (goodIn_of _ (by decide +kernel)) ggX2_digest_X2_togglesNow
set_option maxRecDepth 20000 in
theorem ggX2_digest_X2_best : GoodIn wsX2_digest wsX2_best := goodIn_r _ [18, 3, 19, 20, 21, 13, 22, 23, 24, 25, 26, 27, 28, 29, 30, 31, 5, 32, 33, 34, 35, 36, 37, 38, 39, 40, 41, 4, 42, 43, 44, 45, 9, 46, 47, 48, 49, 50, 51, 52, 53, 54, 55, 56, 57, 90, 91, 92, 93, 94, 95, 96, 97, 98, 99] (by decide +kernel) (by decide +kernel)
set_option maxRecDepth 20000 in
theorem gX2_digest_X2_best : GoodIn wsX2_digest (wsV RX2 129 RX2 yX2_best wsX2_best) := goodIn_app (goodIn_of _ (by decide +kernel)) ggX2_digest_X2_best
set_option maxRecDepth 20000 in
theorem ggX2_digest_X2_runs : GoodIn wsX2_digest wsX2_runs := goodIn_r _ [61, 28, 29, 30, 13, 31, 5, 32, 33, 34, 35, 36, 62, 63, 64, 65, 8, 3, 37, 38, 39, 40, 23, 41, 4, 42, 43, 44, 45, 9, 46, 47, 48, 49, 50, 51, 52, 53, 66, 67, 68, 69, 54, 55, 56, 57, 90, 91, 92, 93, 94, 95, 96, 97, 98, 99] (by decide +kernel) (by decide +kernel)
set_option maxRecDepth 20000 in
theorem gX2_digest_X2_runs : GoodIn wsX2_digest (wsV RX2 126 RX2 yX2_runs wsX2_runs) := goodIn_app (goodIn_of _ (by decide +kernel)) ggX2_digest_X2_runs
set_option maxRecDepth 20000 in
theorem ggX2_digest_X2_number : GoodIn wsX2_digest wsX2_number := goodIn_r _ [73, 3, 9, 74, 75, 76, 13, 77, 5, 90, 91, 92, 93, 94, 95, 96, 97, 98, 99] (by decide +kernel) (by decide +kernel)
set_option maxRecDepth 20000 in
theorem gX2_digest_X2_number : GoodIn wsX2_digest (wsV RX2 104 RX2 yX2_number wsX2_number) := goodIn_app (goodIn_of _ (by decide +kernel)) ggX2_digest_X2_number
set_option maxRecDepth 20000 in
theorem ggX2_digest_X2_isRight : GoodIn wsX2_digest wsX2_isRight := goodIn_r _ [77, 9, 5, 90, 91, 92, 93, 94, 95, 96, 97, 98, 99] (by decide +kernel) (by decide +kernel)
set_option maxRecDepth 20000 in
theorem gX2_digest_X2_isRight : GoodIn wsX2_digest (wsV RX2 95 RX2 yX2_isRight wsX2_isRight) := goodIn_app (goodIn_of _ (by decide +kernel)) ggX2_digest_X2_isRight
set_option maxRecDepth 20000 in
theorem ggX2_digest_X2_counted : GoodIn wsX2_digest wsX2_counted := goodIn_r _ [81, 9, 5, 90, 91, 92, 93, 94, 95, 96, 97, 98, 99] (by decide +kernel) (by decide +kernel)
set_option maxRecDepth 20000 in
theorem gX2_digest_X2_counted : GoodIn wsX2_digest (wsV RX2 98 RX2 yX2_counted wsX2_counted) := goodIn_app (goodIn_of _ (by decide +kernel)) ggX2_digest_X2_counted
set_option maxRecDepth 20000 in
theorem ggX2_digest_X2_look : GoodIn wsX2_digest wsX2_look := goodIn_r _ [27, 28, 29, 30, 13, 31, 5, 32, 33, 34, 35, 36, 37, 38, 39, 40, 23, 41, 4, 42, 43, 44, 45, 9, 46, 47, 48, 49, 50, 3, 51, 52, 53, 54, 55, 56, 57, 90, 91, 92, 93, 94, 95, 96, 97, 98, 99] (by decide +kernel) (by decide +kernel)
set_option maxRecDepth 20000 in
theorem gX2_digest_X2_look : GoodIn wsX2_digest (wsV RX2 113 RX2 yX2_look wsX2_look) := goodIn_app (goodIn_of _ (by decide +kernel)) ggX2_digest_X2_look
set_option maxRecDepth 20000 in
theorem ggX2_digest_X2_turnedBy : GoodIn wsX2_digest wsX2_turnedBy := goodIn_r _ [22, 23, 24, 25, 26, 13, 27, 28, 29, 30, 31, 5, 32, 33, 34, 35, 36, 37, 38, 39, 40, 41, 4, 42, 43, 44, 45, 9, 46, 47, 48, 49, 50, 3, 51, 52, 53, 54, 55, 56, 57, 90, 91, 92, 93, 94, 95, 96, 97, 98, 99] (by decide +kernel) (by decide +kernel)
set_option maxRecDepth 20000 in
theorem gX2_digest_X2_turnedBy : GoodIn wsX2_digest (wsV RX2 116 RX2 yX2_turnedBy wsX2_turnedBy) := goodIn_app (goodIn_of _ (by decide +kernel)) ggX2_digest_X2_turnedBy
set_option maxRecDepth 20000 in
theorem ggX2_digest_X2_asBefore : GoodIn wsX2_digest wsX2_asBefore := goodIn_r _ [85, 28, 29, 30, 13, 31, 5, 32, 33, 34, 35, 36, 37, 38, 39, 40, 23, 41, 4, 42, 43, 44, 45, 9, 46, 47, 48, 49, 50, 3, 51, 52, 53, 86, 87, 88, 89, 54, 55, 56, 57, 90, 91, 92, 93, 94, 95, 96, 97, 98, 99] (by decide +kernel) (by decide +kernel)
set_option maxRecDepth 20000 in
theorem gX2_digest_X2_asBefore : GoodIn wsX2_digest (wsV RX2 123 RX2 yX2_asBefore wsX2_asBefore) := goodIn_app (goodIn_of _ (by decide +kernel)) ggX2_digest_X2_asBefore
theorem dX2_digest_0 : decode cX2_digest 0 = .ok (.aload_n 0, 1) := by decide +kernel
theorem dX2_digest_1 : decode cX2_digest 1 = .ok (.iconst 0, 1) := by decide +kernel
theorem dX2_digest_2 : decode cX2_digest 2 = .ok (.putfield 35, 3) := by decide +kernel
theorem dX2_digest_5 : decode cX2_digest 5 = .ok (.iconst 5, 1) := by decide +kernel
theorem dX2_digest_6 : decode cX2_digest 6 = .ok (.newarray .int, 2) := by decide +kernel
theorem dX2_digest_8 : decode cX2_digest 8 = .ok (.dup, 1) := by decide +kernel
theorem dX2_digest_9 : decode cX2_digest 9 = .ok (.iconst 0, 1) := by decide +kernel
theorem dX2_digest_10 : decode cX2_digest 10 = .ok (.aload_n 0, 1) := by decide +kernel
theorem dX2_digest_11 : decode cX2_digest 11 = .ok (.getfield 9, 3) := by decide +kernel
theorem dX2_digest_14 : decode cX2_digest 14 = .ok (.iastore, 1) := by decide +kernel
theorem dX2_digest_15 : decode cX2_digest 15 = .ok (.dup, 1) := by decide +kernel
theorem dX2_digest_16 : decode cX2_digest 16 = .ok (.iconst 1, 1) := by decide +kernel
theorem dX2_digest_17 : decode cX2_digest 17 = .ok (.aload_n 0, 1) := by decide +kernel
theorem dX2_digest_18 : decode cX2_digest 18 = .ok (.getfield 13, 3) := by decide +kernel
theorem dX2_digest_21 : decode cX2_digest 21 = .ok (.iastore, 1) := by decide +kernel
theorem dX2_digest_22 : decode cX2_digest 22 = .ok (.dup, 1) := by decide +kernel
theorem dX2_digest_23 : decode cX2_digest 23 = .ok (.iconst 2, 1) := by decide +kernel
theorem dX2_digest_24 : decode cX2_digest 24 = .ok (.aload_n 0, 1) := by decide +kernel
theorem dX2_digest_25 : decode cX2_digest 25 = .ok (.getfield 26, 3) := by decide +kernel
theorem dX2_digest_28 : decode cX2_digest 28 = .ok (.bipush 83, 2) := by decide +kernel
theorem dX2_digest_30 : decode cX2_digest 30 = .ok (.iaload, 1) := by decide +kernel
theorem dX2_digest_31 : decode cX2_digest 31 = .ok (.iastore, 1) := by decide +kernel
theorem dX2_digest_32 : decode cX2_digest 32 = .ok (.dup, 1) := by decide +kernel
theorem dX2_digest_33 : decode cX2_digest 33 = .ok (.iconst 3, 1) := by decide +kernel
theorem dX2_digest_34 : decode cX2_digest 34 = .ok (.aload_n 0, 1) := by decide +kernel
theorem dX2_digest_35 : decode cX2_digest 35 = .ok (.invokevirtual 101, 3) := by decide +kernel
theorem dX2_digest_38 : decode cX2_digest 38 = .ok (.iastore, 1) := by decide +kernel
theorem dX2_digest_39 : decode cX2_digest 39 = .ok (.dup, 1) := by decide +kernel
theorem dX2_digest_40 : decode cX2_digest 40 = .ok (.iconst 4, 1) := by decide +kernel
theorem dX2_digest_41 : decode cX2_digest 41 = .ok (.aload_n 0, 1) := by decide +kernel
theorem dX2_digest_42 : decode cX2_digest 42 = .ok (.invokevirtual 129, 3) := by decide +kernel
theorem dX2_digest_45 : decode cX2_digest 45 = .ok (.iastore, 1) := by decide +kernel
theorem dX2_digest_46 : decode cX2_digest 46 = .ok (.astore_n 1, 1) := by decide +kernel
theorem dX2_digest_47 : decode cX2_digest 47 = .ok (.ldc2_w 132, 3) := by decide +kernel
theorem dX2_digest_50 : decode cX2_digest 50 = .ok (.lstore_n 2, 1) := by decide +kernel
theorem dX2_digest_51 : decode cX2_digest 51 = .ok (.aload_n 1, 1) := by decide +kernel
theorem dX2_digest_52 : decode cX2_digest 52 = .ok (.astore 4, 2) := by decide +kernel
theorem dX2_digest_54 : decode cX2_digest 54 = .ok (.aload 4, 2) := by decide +kernel
theorem dX2_digest_56 : decode cX2_digest 56 = .ok (.arraylength, 1) := by decide +kernel
theorem dX2_digest_57 : decode cX2_digest 57 = .ok (.istore 5, 2) := by decide +kernel
theorem dX2_digest_59 : decode cX2_digest 59 = .ok (.iconst 0, 1) := by decide +kernel
theorem dX2_digest_60 : decode cX2_digest 60 = .ok (.istore 6, 2) := by decide +kernel
theorem dX2_digest_62 : decode cX2_digest 62 = .ok (.iload 6, 2) := by decide +kernel
theorem dX2_digest_64 : decode cX2_digest 64 = .ok (.iload 5, 2) := by decide +kernel
theorem dX2_digest_66 : decode cX2_digest 66 = .ok (.if_icmp .ge 26, 3) := by decide +kernel
theorem dX2_digest_69 : decode cX2_digest 69 = .ok (.aload 4, 2) := by decide +kernel
theorem dX2_digest_71 : decode cX2_digest 71 = .ok (.iload 6, 2) := by decide +kernel
theorem dX2_digest_73 : decode cX2_digest 73 = .ok (.iaload, 1) := by decide +kernel
theorem dX2_digest_74 : decode cX2_digest 74 = .ok (.istore 7, 2) := by decide +kernel
theorem dX2_digest_76 : decode cX2_digest 76 = .ok (.lload_n 2, 1) := by decide +kernel
theorem dX2_digest_77 : decode cX2_digest 77 = .ok (.ldc2_w 134, 3) := by decide +kernel
theorem dX2_digest_80 : decode cX2_digest 80 = .ok (.lmul, 1) := by decide +kernel
theorem dX2_digest_81 : decode cX2_digest 81 = .ok (.iload 7, 2) := by decide +kernel
theorem dX2_digest_83 : decode cX2_digest 83 = .ok (.i2l, 1) := by decide +kernel
theorem dX2_digest_84 : decode cX2_digest 84 = .ok (.ladd, 1) := by decide +kernel
theorem dX2_digest_85 : decode cX2_digest 85 = .ok (.lstore_n 2, 1) := by decide +kernel
theorem dX2_digest_86 : decode cX2_digest 86 = .ok (.iinc 6 1, 3) := by decide +kernel
theorem dX2_digest_89 : decode cX2_digest 89 = .ok (.goto (-27), 3) := by decide +kernel
theorem dX2_digest_92 : decode cX2_digest 92 = .ok (.iconst 0, 1) := by decide +kernel
theorem dX2_digest_93 : decode cX2_digest 93 = .ok (.istore 4, 2) := by decide +kernel
theorem dX2_digest_95 : decode cX2_digest 95 = .ok (.iload 4, 2) := by decide +kernel
theorem dX2_digest_97 : decode cX2_digest 97 = .ok (.iconst 2, 1) := by decide +kernel
theorem dX2_digest_98 : decode cX2_digest 98 = .ok (.if_icmp .ge 52, 3) := by decide +kernel
theorem dX2_digest_101 : decode cX2_digest 101 = .ok (.lload_n 2, 1) := by decide +kernel
theorem dX2_digest_102 : decode cX2_digest 102 = .ok (.ldc2_w 134, 3) := by decide +kernel
theorem dX2_digest_105 : decode cX2_digest 105 = .ok (.lmul, 1) := by decide +kernel
theorem dX2_digest_106 : decode cX2_digest 106 = .ok (.aload_n 0, 1) := by decide +kernel
theorem dX2_digest_107 : decode cX2_digest 107 = .ok (.getfield 26, 3) := by decide +kernel
theorem dX2_digest_110 : decode cX2_digest 110 = .ok (.bipush 81, 2) := by decide +kernel
theorem dX2_digest_112 : decode cX2_digest 112 = .ok (.iload 4, 2) := by decide +kernel
theorem dX2_digest_114 : decode cX2_digest 114 = .ok (.iadd, 1) := by decide +kernel
theorem dX2_digest_115 : decode cX2_digest 115 = .ok (.iaload, 1) := by decide +kernel
theorem dX2_digest_116 : decode cX2_digest 116 = .ok (.i2l, 1) := by decide +kernel
theorem dX2_digest_117 : decode cX2_digest 117 = .ok (.ladd, 1) := by decide +kernel
theorem dX2_digest_118 : decode cX2_digest 118 = .ok (.ldc2_w 134, 3) := by decide +kernel
theorem dX2_digest_121 : decode cX2_digest 121 = .ok (.lmul, 1) := by decide +kernel
theorem dX2_digest_122 : decode cX2_digest 122 = .ok (.aload_n 0, 1) := by decide +kernel
theorem dX2_digest_123 : decode cX2_digest 123 = .ok (.getfield 23, 3) := by decide +kernel
theorem dX2_digest_126 : decode cX2_digest 126 = .ok (.iload 4, 2) := by decide +kernel
theorem dX2_digest_128 : decode cX2_digest 128 = .ok (.iaload, 1) := by decide +kernel
theorem dX2_digest_129 : decode cX2_digest 129 = .ok (.i2l, 1) := by decide +kernel
theorem dX2_digest_130 : decode cX2_digest 130 = .ok (.ladd, 1) := by decide +kernel
theorem dX2_digest_131 : decode cX2_digest 131 = .ok (.ldc2_w 134, 3) := by decide +kernel
theorem dX2_digest_134 : decode cX2_digest 134 = .ok (.lmul, 1) := by decide +kernel
theorem dX2_digest_135 : decode cX2_digest 135 = .ok (.aload_n 0, 1) := by decide +kernel
theorem dX2_digest_136 : decode cX2_digest 136 = .ok (.iload 4, 2) := by decide +kernel
theorem dX2_digest_138 : decode cX2_digest 138 = .ok (.invokevirtual 126, 3) := by decide +kernel
theorem dX2_digest_141 : decode cX2_digest 141 = .ok (.i2l, 1) := by decide +kernel
theorem dX2_digest_142 : decode cX2_digest 142 = .ok (.ladd, 1) := by decide +kernel
theorem dX2_digest_143 : decode cX2_digest 143 = .ok (.lstore_n 2, 1) := by decide +kernel
theorem dX2_digest_144 : decode cX2_digest 144 = .ok (.iinc 4 1, 3) := by decide +kernel
theorem dX2_digest_147 : decode cX2_digest 147 = .ok (.goto (-52), 3) := by decide +kernel
theorem dX2_digest_150 : decode cX2_digest 150 = .ok (.iconst 0, 1) := by decide +kernel
theorem dX2_digest_151 : decode cX2_digest 151 = .ok (.istore 4, 2) := by decide +kernel
theorem dX2_digest_153 : decode cX2_digest 153 = .ok (.iload 4, 2) := by decide +kernel
theorem dX2_digest_155 : decode cX2_digest 155 = .ok (.aload_n 0, 1) := by decide +kernel
theorem dX2_digest_156 : decode cX2_digest 156 = .ok (.getfield 13, 3) := by decide +kernel
theorem dX2_digest_159 : decode cX2_digest 159 = .ok (.if_icmp .ge 98, 3) := by decide +kernel
theorem dX2_digest_162 : decode cX2_digest 162 = .ok (.lload_n 2, 1) := by decide +kernel
theorem dX2_digest_163 : decode cX2_digest 163 = .ok (.ldc2_w 134, 3) := by decide +kernel
theorem dX2_digest_166 : decode cX2_digest 166 = .ok (.lmul, 1) := by decide +kernel
theorem dX2_digest_167 : decode cX2_digest 167 = .ok (.aload_n 0, 1) := by decide +kernel
theorem dX2_digest_168 : decode cX2_digest 168 = .ok (.iload 4, 2) := by decide +kernel
theorem dX2_digest_170 : decode cX2_digest 170 = .ok (.invokevirtual 104, 3) := by decide +kernel
theorem dX2_digest_173 : decode cX2_digest 173 = .ok (.i2l, 1) := by decide +kernel
theorem dX2_digest_174 : decode cX2_digest 174 = .ok (.ladd, 1) := by decide +kernel
theorem dX2_digest_175 : decode cX2_digest 175 = .ok (.lstore_n 2, 1) := by decide +kernel
theorem dX2_digest_176 : decode cX2_digest 176 = .ok (.iconst 0, 1) := by decide +kernel
theorem dX2_digest_177 : decode cX2_digest 177 = .ok (.istore 5, 2) := by decide +kernel
theorem dX2_digest_179 : decode cX2_digest 179 = .ok (.iload 5, 2) := by decide +kernel
theorem dX2_digest_181 : decode cX2_digest 181 = .ok (.aload_n 0, 1) := by decide +kernel
theorem dX2_digest_182 : decode cX2_digest 182 = .ok (.getfield 9, 3) := by decide +kernel
theorem dX2_digest_185 : decode cX2_digest 185 = .ok (.if_icmp .ge 66, 3) := by decide +kernel
theorem dX2_digest_188 : decode cX2_digest 188 = .ok (.lload_n 2, 1) := by decide +kernel
theorem dX2_digest_189 : decode cX2_digest 189 = .ok (.ldc2_w 134, 3) := by decide +kernel
theorem dX2_digest_192 : decode cX2_digest 192 = .ok (.lmul, 1) := by decide +kernel
theorem dX2_digest_193 : decode cX2_digest 193 = .ok (.aload_n 0, 1) := by decide +kernel
theorem dX2_digest_194 : decode cX2_digest 194 = .ok (.getfield 16, 3) := by decide +kernel
theorem dX2_digest_197 : decode cX2_digest 197 = .ok (.bipush 9, 2) := by decide +kernel
theorem dX2_digest_199 : decode cX2_digest 199 = .ok (.iload 4, 2) := by decide +kernel
theorem dX2_digest_201 : decode cX2_digest 201 = .ok (.imul, 1) := by decide +kernel
theorem dX2_digest_202 : decode cX2_digest 202 = .ok (.iload 5, 2) := by decide +kernel
theorem dX2_digest_204 : decode cX2_digest 204 = .ok (.iadd, 1) := by decide +kernel
theorem dX2_digest_205 : decode cX2_digest 205 = .ok (.iaload, 1) := by decide +kernel
theorem dX2_digest_206 : decode cX2_digest 206 = .ok (.i2l, 1) := by decide +kernel
theorem dX2_digest_207 : decode cX2_digest 207 = .ok (.ladd, 1) := by decide +kernel
theorem dX2_digest_208 : decode cX2_digest 208 = .ok (.ldc2_w 134, 3) := by decide +kernel
theorem dX2_digest_211 : decode cX2_digest 211 = .ok (.lmul, 1) := by decide +kernel
theorem dX2_digest_212 : decode cX2_digest 212 = .ok (.aload_n 0, 1) := by decide +kernel
theorem dX2_digest_213 : decode cX2_digest 213 = .ok (.iload 4, 2) := by decide +kernel
theorem dX2_digest_215 : decode cX2_digest 215 = .ok (.iload 5, 2) := by decide +kernel
theorem dX2_digest_217 : decode cX2_digest 217 = .ok (.invokevirtual 95, 3) := by decide +kernel
theorem dX2_digest_220 : decode cX2_digest 220 = .ok (.ifCond .eq 7, 3) := by decide +kernel
theorem dX2_digest_223 : decode cX2_digest 223 = .ok (.iconst 1, 1) := by decide +kernel
theorem dX2_digest_224 : decode cX2_digest 224 = .ok (.goto 4, 3) := by decide +kernel
theorem dX2_digest_227 : decode cX2_digest 227 = .ok (.iconst 0, 1) := by decide +kernel
theorem dX2_digest_228 : decode cX2_digest 228 = .ok (.i2l, 1) := by decide +kernel
theorem dX2_digest_229 : decode cX2_digest 229 = .ok (.ladd, 1) := by decide +kernel
theorem dX2_digest_230 : decode cX2_digest 230 = .ok (.ldc2_w 134, 3) := by decide +kernel
theorem dX2_digest_233 : decode cX2_digest 233 = .ok (.lmul, 1) := by decide +kernel
theorem dX2_digest_234 : decode cX2_digest 234 = .ok (.aload_n 0, 1) := by decide +kernel
theorem dX2_digest_235 : decode cX2_digest 235 = .ok (.iload 4, 2) := by decide +kernel
theorem dX2_digest_237 : decode cX2_digest 237 = .ok (.iload 5, 2) := by decide +kernel
theorem dX2_digest_239 : decode cX2_digest 239 = .ok (.invokevirtual 98, 3) := by decide +kernel
theorem dX2_digest_242 : decode cX2_digest 242 = .ok (.i2l, 1) := by decide +kernel
theorem dX2_digest_243 : decode cX2_digest 243 = .ok (.ladd, 1) := by decide +kernel
theorem dX2_digest_244 : decode cX2_digest 244 = .ok (.lstore_n 2, 1) := by decide +kernel
theorem dX2_digest_245 : decode cX2_digest 245 = .ok (.iinc 5 1, 3) := by decide +kernel
theorem dX2_digest_248 : decode cX2_digest 248 = .ok (.goto (-69), 3) := by decide +kernel
theorem dX2_digest_251 : decode cX2_digest 251 = .ok (.iinc 4 1, 3) := by decide +kernel
theorem dX2_digest_254 : decode cX2_digest 254 = .ok (.goto (-101), 3) := by decide +kernel
theorem dX2_digest_257 : decode cX2_digest 257 = .ok (.iconst 0, 1) := by decide +kernel
theorem dX2_digest_258 : decode cX2_digest 258 = .ok (.istore 4, 2) := by decide +kernel
theorem dX2_digest_260 : decode cX2_digest 260 = .ok (.iload 4, 2) := by decide +kernel
theorem dX2_digest_262 : decode cX2_digest 262 = .ok (.aload_n 0, 1) := by decide +kernel
theorem dX2_digest_263 : decode cX2_digest 263 = .ok (.getfield 9, 3) := by decide +kernel
theorem dX2_digest_266 : decode cX2_digest 266 = .ok (.if_icmp .ge 97, 3) := by decide +kernel
theorem dX2_digest_269 : decode cX2_digest 269 = .ok (.iconst 4, 1) := by decide +kernel
theorem dX2_digest_270 : decode cX2_digest 270 = .ok (.newarray .int, 2) := by decide +kernel
theorem dX2_digest_272 : decode cX2_digest 272 = .ok (.dup, 1) := by decide +kernel
theorem dX2_digest_273 : decode cX2_digest 273 = .ok (.iconst 0, 1) := by decide +kernel
theorem dX2_digest_274 : decode cX2_digest 274 = .ok (.aload_n 0, 1) := by decide +kernel
theorem dX2_digest_275 : decode cX2_digest 275 = .ok (.getfield 26, 3) := by decide +kernel
theorem dX2_digest_278 : decode cX2_digest 278 = .ok (.bipush 72, 2) := by decide +kernel
theorem dX2_digest_280 : decode cX2_digest 280 = .ok (.iload 4, 2) := by decide +kernel
theorem dX2_digest_282 : decode cX2_digest 282 = .ok (.iadd, 1) := by decide +kernel
theorem dX2_digest_283 : decode cX2_digest 283 = .ok (.iaload, 1) := by decide +kernel
theorem dX2_digest_284 : decode cX2_digest 284 = .ok (.iastore, 1) := by decide +kernel
theorem dX2_digest_285 : decode cX2_digest 285 = .ok (.dup, 1) := by decide +kernel
theorem dX2_digest_286 : decode cX2_digest 286 = .ok (.iconst 1, 1) := by decide +kernel
theorem dX2_digest_287 : decode cX2_digest 287 = .ok (.aload_n 0, 1) := by decide +kernel
theorem dX2_digest_288 : decode cX2_digest 288 = .ok (.iload 4, 2) := by decide +kernel
theorem dX2_digest_290 : decode cX2_digest 290 = .ok (.iconst 1, 1) := by decide +kernel
theorem dX2_digest_291 : decode cX2_digest 291 = .ok (.invokevirtual 113, 3) := by decide +kernel
theorem dX2_digest_294 : decode cX2_digest 294 = .ok (.iastore, 1) := by decide +kernel
theorem dX2_digest_295 : decode cX2_digest 295 = .ok (.dup, 1) := by decide +kernel
theorem dX2_digest_296 : decode cX2_digest 296 = .ok (.iconst 2, 1) := by decide +kernel
theorem dX2_digest_297 : decode cX2_digest 297 = .ok (.aload_n 0, 1) := by decide +kernel
theorem dX2_digest_298 : decode cX2_digest 298 = .ok (.iload 4, 2) := by decide +kernel
theorem dX2_digest_300 : decode cX2_digest 300 = .ok (.invokevirtual 116, 3) := by decide +kernel
theorem dX2_digest_303 : decode cX2_digest 303 = .ok (.iastore, 1) := by decide +kernel
theorem dX2_digest_304 : decode cX2_digest 304 = .ok (.dup, 1) := by decide +kernel
theorem dX2_digest_305 : decode cX2_digest 305 = .ok (.iconst 3, 1) := by decide +kernel
theorem dX2_digest_306 : decode cX2_digest 306 = .ok (.aload_n 0, 1) := by decide +kernel
theorem dX2_digest_307 : decode cX2_digest 307 = .ok (.iload 4, 2) := by decide +kernel
theorem dX2_digest_309 : decode cX2_digest 309 = .ok (.invokevirtual 123, 3) := by decide +kernel
theorem dX2_digest_312 : decode cX2_digest 312 = .ok (.iastore, 1) := by decide +kernel
theorem dX2_digest_313 : decode cX2_digest 313 = .ok (.astore 5, 2) := by decide +kernel
theorem dX2_digest_315 : decode cX2_digest 315 = .ok (.aload 5, 2) := by decide +kernel
theorem dX2_digest_317 : decode cX2_digest 317 = .ok (.astore 6, 2) := by decide +kernel
theorem dX2_digest_319 : decode cX2_digest 319 = .ok (.aload 6, 2) := by decide +kernel
theorem dX2_digest_321 : decode cX2_digest 321 = .ok (.arraylength, 1) := by decide +kernel
theorem dX2_digest_322 : decode cX2_digest 322 = .ok (.istore 7, 2) := by decide +kernel
theorem dX2_digest_324 : decode cX2_digest 324 = .ok (.iconst 0, 1) := by decide +kernel
theorem dX2_digest_325 : decode cX2_digest 325 = .ok (.istore 8, 2) := by decide +kernel
theorem dX2_digest_327 : decode cX2_digest 327 = .ok (.iload 8, 2) := by decide +kernel
theorem dX2_digest_329 : decode cX2_digest 329 = .ok (.iload 7, 2) := by decide +kernel
theorem dX2_digest_331 : decode cX2_digest 331 = .ok (.if_icmp .ge 26, 3) := by decide +kernel
theorem dX2_digest_334 : decode cX2_digest 334 = .ok (.aload 6, 2) := by decide +kernel
theorem dX2_digest_336 : decode cX2_digest 336 = .ok (.iload 8, 2) := by decide +kernel
theorem dX2_digest_338 : decode cX2_digest 338 = .ok (.iaload, 1) := by decide +kernel
theorem dX2_digest_339 : decode cX2_digest 339 = .ok (.istore 9, 2) := by decide +kernel
theorem dX2_digest_341 : decode cX2_digest 341 = .ok (.lload_n 2, 1) := by decide +kernel
theorem dX2_digest_342 : decode cX2_digest 342 = .ok (.ldc2_w 134, 3) := by decide +kernel
theorem dX2_digest_345 : decode cX2_digest 345 = .ok (.lmul, 1) := by decide +kernel
theorem dX2_digest_346 : decode cX2_digest 346 = .ok (.iload 9, 2) := by decide +kernel
theorem dX2_digest_348 : decode cX2_digest 348 = .ok (.i2l, 1) := by decide +kernel
theorem dX2_digest_349 : decode cX2_digest 349 = .ok (.ladd, 1) := by decide +kernel
theorem dX2_digest_350 : decode cX2_digest 350 = .ok (.lstore_n 2, 1) := by decide +kernel
theorem dX2_digest_351 : decode cX2_digest 351 = .ok (.iinc 8 1, 3) := by decide +kernel
theorem dX2_digest_354 : decode cX2_digest 354 = .ok (.goto (-27), 3) := by decide +kernel
theorem dX2_digest_357 : decode cX2_digest 357 = .ok (.iinc 4 1, 3) := by decide +kernel
theorem dX2_digest_360 : decode cX2_digest 360 = .ok (.goto (-100), 3) := by decide +kernel
theorem dX2_digest_363 : decode cX2_digest 363 = .ok (.lload_n 2, 1) := by decide +kernel
theorem dX2_digest_364 : decode cX2_digest 364 = .ok (.lreturn, 1) := by decide +kernel
end
section
set_option maxRecDepth 20000 in
theorem ggL_lay_X1_lay : GoodIn wsL_lay wsX1_lay := goodIn_ca (goodIn_r _ [6, 7, 8, 9, 5, 10, 11, 12, 13, 14, 15, 16, 17, 18, 19, 20, 21, 22, 23, 24, 25, 26, 27, 28, 29, 30, 31, 32, 33, 34, 35, 36, 37, 38, 39, 40, 41, 42, 43, 44, 45, 46] (by decide +kernel) (by decide +kernel)) (goodIn_sub (fun _ h => List.mem_cons_of_mem _ (List.mem_append_right _ h)) (by decide +kernel))
set_option maxRecDepth 20000 in
theorem gL_lay_X1_lay : GoodIn wsL_lay (wsV RL 7 RX1 yX1_lay wsX1_lay) := goodIn_app (goodIn_of _ (by decide +kernel)) ggL_lay_X1_lay
theorem dL_lay_0 : decode cL_lay 0 = .ok (.aload_n 3, 1) := by decide +kernel
theorem dL_lay_1 : decode cL_lay 1 = .ok (.iconst 0, 1) := by decide +kernel
theorem dL_lay_2 : decode cL_lay 2 = .ok (.aload_n 0, 1) := by decide +kernel
theorem dL_lay_3 : decode cL_lay 3 = .ok (.iload_n 1, 1) := by decide +kernel
theorem dL_lay_4 : decode cL_lay 4 = .ok (.iload_n 2, 1) := by decide +kernel
theorem dL_lay_5 : decode cL_lay 5 = .ok (.invokevirtual 7, 3) := by decide +kernel
theorem dL_lay_8 : decode cL_lay 8 = .ok (.i2l, 1) := by decide +kernel
theorem dL_lay_9 : decode cL_lay 9 = .ok (.lastore, 1) := by decide +kernel
theorem dL_lay_10 : decode cL_lay 10 = .ok (.goto 7, 3) := by decide +kernel
theorem dL_lay_13 : decode cL_lay 13 = .ok (.astore 4, 2) := by decide +kernel
theorem dL_lay_15 : decode cL_lay 15 = .ok (.iconst 1, 1) := by decide +kernel
theorem dL_lay_16 : decode cL_lay 16 = .ok (.ireturn, 1) := by decide +kernel
theorem dL_lay_17 : decode cL_lay 17 = .ok (.iconst 0, 1) := by decide +kernel
theorem dL_lay_18 : decode cL_lay 18 = .ok (.ireturn, 1) := by decide +kernel
set_option maxRecDepth 20000 in
theorem ggL_put_X1_put : GoodIn wsL_put wsX1_put := goodIn_ca (goodIn_ca (goodIn_r _ [7, 8, 9, 10, 11, 6, 12, 13, 14, 15, 16, 17, 18, 19, 20, 21, 22, 23, 24, 25, 26, 27, 28, 29, 30, 31, 32, 33, 34, 35, 36, 37, 38, 39, 40, 41, 42, 43, 44, 45, 46, 47, 48, 49, 50, 51, 52, 53, 54, 55, 56, 57, 58, 59, 60, 61, 62, 63, 64, 65, 66, 67, 68] (by decide +kernel) (by decide +kernel)) (goodIn_sub (fun _ h => List.mem_cons_of_mem _ (List.mem_append_left _ (List.mem_append_right _ h))) (by decide +kernel))) (goodIn_sub (fun _ h => List.mem_cons_of_mem _ (List.mem_append_right _ h)) (by decide +kernel))
set_option maxRecDepth 20000 in
theorem gL_put_X1_put : GoodIn wsL_put (wsV RL 15 RX1 yX1_put wsX1_put) := goodIn_app (goodIn_of _ (by decide +kernel)) ggL_put_X1_put
theorem dL_put_0 : decode cL_put 0 = .ok (.aload 4, 2) := by decide +kernel
theorem dL_put_2 : decode cL_put 2 = .ok (.iconst 0, 1) := by decide +kernel
theorem dL_put_3 : decode cL_put 3 = .ok (.aload_n 0, 1) := by decide +kernel
theorem dL_put_4 : decode cL_put 4 = .ok (.iload_n 1, 1) := by decide +kernel
theorem dL_put_5 : decode cL_put 5 = .ok (.iload_n 2, 1) := by decide +kernel
theorem dL_put_6 : decode cL_put 6 = .ok (.iload_n 3, 1) := by decide +kernel
theorem dL_put_7 : decode cL_put 7 = .ok (.invokevirtual 15, 3) := by decide +kernel
theorem dL_put_10 : decode cL_put 10 = .ok (.i2l, 1) := by decide +kernel
theorem dL_put_11 : decode cL_put 11 = .ok (.lastore, 1) := by decide +kernel
theorem dL_put_12 : decode cL_put 12 = .ok (.goto 11, 3) := by decide +kernel
theorem dL_put_15 : decode cL_put 15 = .ok (.astore 5, 2) := by decide +kernel
theorem dL_put_17 : decode cL_put 17 = .ok (.iconst 1, 1) := by decide +kernel
theorem dL_put_18 : decode cL_put 18 = .ok (.ireturn, 1) := by decide +kernel
theorem dL_put_19 : decode cL_put 19 = .ok (.astore 5, 2) := by decide +kernel
theorem dL_put_21 : decode cL_put 21 = .ok (.iconst 2, 1) := by decide +kernel
theorem dL_put_22 : decode cL_put 22 = .ok (.ireturn, 1) := by decide +kernel
theorem dL_put_23 : decode cL_put 23 = .ok (.iconst 0, 1) := by decide +kernel
theorem dL_put_24 : decode cL_put 24 = .ok (.ireturn, 1) := by decide +kernel
set_option maxRecDepth 20000 in
theorem ggL_putCounter_X1_putCounter : GoodIn wsL_putCounter wsX1_putCounter := goodIn_ca (goodIn_ca (goodIn_r _ [7, 8, 9, 10, 11, 6, 12, 13, 14, 15, 16, 17, 18, 19, 20, 21, 22, 23, 24, 25, 26, 27, 28, 29, 30, 31, 32, 33, 34, 35, 36, 37, 38, 39, 40, 41, 42, 43, 44, 45, 46, 47, 48, 49, 50, 51, 52, 53, 54, 55, 56, 57, 58, 59, 60, 61, 62, 63, 64, 65, 66, 67, 68] (by decide +kernel) (by decide +kernel)) (goodIn_sub (fun _ h => List.mem_cons_of_mem _ (List.mem_append_left _ (List.mem_append_right _ h))) (by decide +kernel))) (goodIn_sub (fun _ h => List.mem_cons_of_mem _ (List.mem_append_right _ h)) (by decide +kernel))
set_option maxRecDepth 20000 in
theorem gL_putCounter_X1_putCounter : GoodIn wsL_putCounter (wsV RL 21 RX1 yX1_putCounter wsX1_putCounter) := goodIn_app (goodIn_of _ (by decide +kernel)) ggL_putCounter_X1_putCounter
theorem dL_putCounter_0 : decode cL_putCounter 0 = .ok (.aload 4, 2) := by decide +kernel
theorem dL_putCounter_2 : decode cL_putCounter 2 = .ok (.iconst 0, 1) := by decide +kernel
theorem dL_putCounter_3 : decode cL_putCounter 3 = .ok (.aload_n 0, 1) := by decide +kernel
theorem dL_putCounter_4 : decode cL_putCounter 4 = .ok (.iload_n 1, 1) := by decide +kernel
theorem dL_putCounter_5 : decode cL_putCounter 5 = .ok (.iload_n 2, 1) := by decide +kernel
theorem dL_putCounter_6 : decode cL_putCounter 6 = .ok (.iload_n 3, 1) := by decide +kernel
theorem dL_putCounter_7 : decode cL_putCounter 7 = .ok (.invokevirtual 21, 3) := by decide +kernel
theorem dL_putCounter_10 : decode cL_putCounter 10 = .ok (.i2l, 1) := by decide +kernel
theorem dL_putCounter_11 : decode cL_putCounter 11 = .ok (.lastore, 1) := by decide +kernel
theorem dL_putCounter_12 : decode cL_putCounter 12 = .ok (.goto 11, 3) := by decide +kernel
theorem dL_putCounter_15 : decode cL_putCounter 15 = .ok (.astore 5, 2) := by decide +kernel
theorem dL_putCounter_17 : decode cL_putCounter 17 = .ok (.iconst 1, 1) := by decide +kernel
theorem dL_putCounter_18 : decode cL_putCounter 18 = .ok (.ireturn, 1) := by decide +kernel
theorem dL_putCounter_19 : decode cL_putCounter 19 = .ok (.astore 5, 2) := by decide +kernel
theorem dL_putCounter_21 : decode cL_putCounter 21 = .ok (.iconst 2, 1) := by decide +kernel
theorem dL_putCounter_22 : decode cL_putCounter 22 = .ok (.ireturn, 1) := by decide +kernel
theorem dL_putCounter_23 : decode cL_putCounter 23 = .ok (.iconst 0, 1) := by decide +kernel
theorem dL_putCounter_24 : decode cL_putCounter 24 = .ok (.ireturn, 1) := by decide +kernel
set_option maxRecDepth 20000 in
theorem ggL_turn_X1_turn : GoodIn wsL_turn wsX1_turn := goodIn_ca (goodIn_ca (goodIn_r _ [7, 8, 9, 10, 11, 12, 13, 6, 14, 15, 16, 17, 18, 19, 20, 21, 22, 23, 24, 25, 26, 27, 28, 29, 30, 31, 32, 33, 34, 35, 36, 37, 38, 39, 40, 41, 42, 43, 44, 45, 46, 47, 48, 49, 50, 51, 52, 53, 54, 55, 56, 57, 58, 59, 60, 61, 62, 63, 64, 65, 66, 67, 68, 69, 70] (by decide +kernel) (by decide +kernel)) (goodIn_sub (fun _ h => List.mem_cons_of_mem _ (List.mem_append_left _ (List.mem_append_right _ h))) (by decide +kernel))) (goodIn_sub (fun _ h => List.mem_cons_of_mem _ (List.mem_append_right _ h)) (by decide +kernel))
set_option maxRecDepth 20000 in
theorem gL_turn_X1_turn : GoodIn wsL_turn (wsV RL 24 RX1 yX1_turn wsX1_turn) := goodIn_app (goodIn_of _ (by decide +kernel)) ggL_turn_X1_turn
theorem dL_turn_0 : decode cL_turn 0 = .ok (.aload_n 3, 1) := by decide +kernel
theorem dL_turn_1 : decode cL_turn 1 = .ok (.iconst 0, 1) := by decide +kernel
theorem dL_turn_2 : decode cL_turn 2 = .ok (.aload_n 0, 1) := by decide +kernel
theorem dL_turn_3 : decode cL_turn 3 = .ok (.iload_n 1, 1) := by decide +kernel
theorem dL_turn_4 : decode cL_turn 4 = .ok (.iload_n 2, 1) := by decide +kernel
theorem dL_turn_5 : decode cL_turn 5 = .ok (.invokevirtual 24, 3) := by decide +kernel
theorem dL_turn_8 : decode cL_turn 8 = .ok (.ifCond .eq 7, 3) := by decide +kernel
theorem dL_turn_11 : decode cL_turn 11 = .ok (.lconst 1, 1) := by decide +kernel
theorem dL_turn_12 : decode cL_turn 12 = .ok (.goto 4, 3) := by decide +kernel
theorem dL_turn_15 : decode cL_turn 15 = .ok (.lconst 0, 1) := by decide +kernel
theorem dL_turn_16 : decode cL_turn 16 = .ok (.lastore, 1) := by decide +kernel
theorem dL_turn_17 : decode cL_turn 17 = .ok (.goto 11, 3) := by decide +kernel
theorem dL_turn_20 : decode cL_turn 20 = .ok (.astore 4, 2) := by decide +kernel
theorem dL_turn_22 : decode cL_turn 22 = .ok (.iconst 1, 1) := by decide +kernel
theorem dL_turn_23 : decode cL_turn 23 = .ok (.ireturn, 1) := by decide +kernel
theorem dL_turn_24 : decode cL_turn 24 = .ok (.astore 4, 2) := by decide +kernel
theorem dL_turn_26 : decode cL_turn 26 = .ok (.iconst 2, 1) := by decide +kernel
theorem dL_turn_27 : decode cL_turn 27 = .ok (.ireturn, 1) := by decide +kernel
theorem dL_turn_28 : decode cL_turn 28 = .ok (.iconst 0, 1) := by decide +kernel
theorem dL_turn_29 : decode cL_turn 29 = .ok (.ireturn, 1) := by decide +kernel
set_option maxRecDepth 20000 in
theorem ggL_setHopper_X1_setHopper : GoodIn wsL_setHopper wsX1_setHopper := goodIn_ca (goodIn_ca (goodIn_r _ [7, 8, 9, 10, 6, 11, 12, 13, 14, 15, 16, 17, 18, 19, 20, 21, 22, 23, 24, 25, 26, 27, 28, 29, 30, 31, 32, 33, 34, 35, 36, 37, 38, 39, 40, 41, 42, 43, 44, 45, 46, 47, 48, 49] (by decide +kernel) (by decide +kernel)) (goodIn_sub (fun _ h => List.mem_cons_of_mem _ (List.mem_append_left _ (List.mem_append_right _ h))) (by decide +kernel))) (goodIn_sub (fun _ h => List.mem_cons_of_mem _ (List.mem_append_right _ h)) (by decide +kernel))
set_option maxRecDepth 20000 in
theorem gL_setHopper_X1_setHopper : GoodIn wsL_setHopper (wsV RL 30 RX1 yX1_setHopper wsX1_setHopper) := goodIn_app (goodIn_of _ (by decide +kernel)) ggL_setHopper_X1_setHopper
theorem dL_setHopper_0 : decode cL_setHopper 0 = .ok (.aload 4, 2) := by decide +kernel
theorem dL_setHopper_2 : decode cL_setHopper 2 = .ok (.iconst 0, 1) := by decide +kernel
theorem dL_setHopper_3 : decode cL_setHopper 3 = .ok (.aload_n 0, 1) := by decide +kernel
theorem dL_setHopper_4 : decode cL_setHopper 4 = .ok (.iload_n 1, 1) := by decide +kernel
theorem dL_setHopper_5 : decode cL_setHopper 5 = .ok (.iload_n 2, 1) := by decide +kernel
theorem dL_setHopper_6 : decode cL_setHopper 6 = .ok (.iload_n 3, 1) := by decide +kernel
theorem dL_setHopper_7 : decode cL_setHopper 7 = .ok (.invokevirtual 30, 3) := by decide +kernel
theorem dL_setHopper_10 : decode cL_setHopper 10 = .ok (.i2l, 1) := by decide +kernel
theorem dL_setHopper_11 : decode cL_setHopper 11 = .ok (.lastore, 1) := by decide +kernel
theorem dL_setHopper_12 : decode cL_setHopper 12 = .ok (.goto 11, 3) := by decide +kernel
theorem dL_setHopper_15 : decode cL_setHopper 15 = .ok (.astore 5, 2) := by decide +kernel
theorem dL_setHopper_17 : decode cL_setHopper 17 = .ok (.iconst 1, 1) := by decide +kernel
theorem dL_setHopper_18 : decode cL_setHopper 18 = .ok (.ireturn, 1) := by decide +kernel
theorem dL_setHopper_19 : decode cL_setHopper 19 = .ok (.astore 5, 2) := by decide +kernel
theorem dL_setHopper_21 : decode cL_setHopper 21 = .ok (.iconst 2, 1) := by decide +kernel
theorem dL_setHopper_22 : decode cL_setHopper 22 = .ok (.ireturn, 1) := by decide +kernel
theorem dL_setHopper_23 : decode cL_setHopper 23 = .ok (.iconst 0, 1) := by decide +kernel
theorem dL_setHopper_24 : decode cL_setHopper 24 = .ok (.ireturn, 1) := by decide +kernel
set_option maxRecDepth 20000 in
theorem ggL_drop_X1_drop : GoodIn wsL_drop wsX1_drop := goodIn_ca (goodIn_r _ [6, 7, 8, 9, 10, 5, 11, 12, 13, 14, 15, 16, 17, 18, 19, 20, 21, 22, 23, 24, 25, 26, 27, 28, 29, 30, 31, 32, 33, 34, 35, 36, 37, 38, 39, 40, 41, 42, 43, 44, 45, 46, 47, 48, 49, 50, 51, 52, 53, 54, 55, 56, 57] (by decide +kernel) (by decide +kernel)) (goodIn_sub (fun _ h => List.mem_cons_of_mem _ (List.mem_append_right _ h)) (by decide +kernel))
set_option maxRecDepth 20000 in
theorem gL_drop_X1_drop : GoodIn wsL_drop (wsV RL 33 RX1 yX1_drop wsX1_drop) := goodIn_app (goodIn_of _ (by decide +kernel)) ggL_drop_X1_drop
theorem dL_drop_0 : decode cL_drop 0 = .ok (.aload_n 2, 1) := by decide +kernel
theorem dL_drop_1 : decode cL_drop 1 = .ok (.iconst 0, 1) := by decide +kernel
theorem dL_drop_2 : decode cL_drop 2 = .ok (.aload_n 0, 1) := by decide +kernel
theorem dL_drop_3 : decode cL_drop 3 = .ok (.iload_n 1, 1) := by decide +kernel
theorem dL_drop_4 : decode cL_drop 4 = .ok (.invokevirtual 33, 3) := by decide +kernel
theorem dL_drop_7 : decode cL_drop 7 = .ok (.i2l, 1) := by decide +kernel
theorem dL_drop_8 : decode cL_drop 8 = .ok (.lastore, 1) := by decide +kernel
theorem dL_drop_9 : decode cL_drop 9 = .ok (.goto 6, 3) := by decide +kernel
theorem dL_drop_12 : decode cL_drop 12 = .ok (.astore_n 3, 1) := by decide +kernel
theorem dL_drop_13 : decode cL_drop 13 = .ok (.iconst 1, 1) := by decide +kernel
theorem dL_drop_14 : decode cL_drop 14 = .ok (.ireturn, 1) := by decide +kernel
theorem dL_drop_15 : decode cL_drop 15 = .ok (.iconst 0, 1) := by decide +kernel
theorem dL_drop_16 : decode cL_drop 16 = .ok (.ireturn, 1) := by decide +kernel
set_option maxRecDepth 20000 in
theorem ggL_run_X1_run : GoodIn wsL_run wsX1_run := goodIn_ca (goodIn_ca (goodIn_r _ [7, 8, 9, 10, 6, 11, 12, 13, 14, 15, 16, 17, 18, 19, 20, 21, 22, 23, 24, 25, 26, 27, 28, 29, 30, 31, 32, 33, 34, 35, 36, 37, 38, 39, 40, 41, 42, 43, 44, 45, 46, 47, 48, 49, 50, 51, 52, 53, 54, 55, 56, 57, 58, 59, 60, 61, 62, 63, 64, 65, 66, 67, 68, 69, 70, 71] (by decide +kernel) (by decide +kernel)) (goodIn_sub (fun _ h => List.mem_cons_of_mem _ (List.mem_append_left _ (List.mem_append_right _ h))) (by decide +kernel))) (goodIn_sub (fun _ h => List.mem_cons_of_mem _ (List.mem_append_right _ h)) (by decide +kernel))
set_option maxRecDepth 20000 in
theorem gL_run_X1_run : GoodIn wsL_run (wsV RL 37 RX1 yX1_run wsX1_run) := goodIn_app (goodIn_of _ (by decide +kernel)) ggL_run_X1_run
theorem dL_run_0 : decode cL_run 0 = .ok (.aload_n 3, 1) := by decide +kernel
theorem dL_run_1 : decode cL_run 1 = .ok (.iconst 0, 1) := by decide +kernel
theorem dL_run_2 : decode cL_run 2 = .ok (.aload_n 0, 1) := by decide +kernel
theorem dL_run_3 : decode cL_run 3 = .ok (.iload_n 1, 1) := by decide +kernel
theorem dL_run_4 : decode cL_run 4 = .ok (.iload_n 2, 1) := by decide +kernel
theorem dL_run_5 : decode cL_run 5 = .ok (.invokevirtual 37, 3) := by decide +kernel
theorem dL_run_8 : decode cL_run 8 = .ok (.i2l, 1) := by decide +kernel
theorem dL_run_9 : decode cL_run 9 = .ok (.lastore, 1) := by decide +kernel
theorem dL_run_10 : decode cL_run 10 = .ok (.goto 11, 3) := by decide +kernel
theorem dL_run_13 : decode cL_run 13 = .ok (.astore 4, 2) := by decide +kernel
theorem dL_run_15 : decode cL_run 15 = .ok (.iconst 1, 1) := by decide +kernel
theorem dL_run_16 : decode cL_run 16 = .ok (.ireturn, 1) := by decide +kernel
theorem dL_run_17 : decode cL_run 17 = .ok (.astore 4, 2) := by decide +kernel
theorem dL_run_19 : decode cL_run 19 = .ok (.iconst 2, 1) := by decide +kernel
theorem dL_run_20 : decode cL_run 20 = .ok (.ireturn, 1) := by decide +kernel
theorem dL_run_21 : decode cL_run 21 = .ok (.iconst 0, 1) := by decide +kernel
theorem dL_run_22 : decode cL_run 22 = .ok (.ireturn, 1) := by decide +kernel
set_option maxRecDepth 20000 in
theorem ggL_partAt_X1_partAt : GoodIn wsL_partAt wsX1_partAt := goodIn_ca (goodIn_r _ [6, 7, 8, 9, 10, 5, 11, 12, 13, 14, 15, 16, 17, 18, 19, 20, 21, 22, 23, 24, 25, 26, 27, 28, 29, 30, 31, 32, 33, 34, 35, 36, 37, 38, 39, 40, 41, 42, 43, 44, 45, 46, 47, 48, 49, 50, 51, 52, 53, 54] (by decide +kernel) (by decide +kernel)) (goodIn_sub (fun _ h => List.mem_cons_of_mem _ (List.mem_append_right _ h)) (by decide +kernel))
set_option maxRecDepth 20000 in
theorem gL_partAt_X1_partAt : GoodIn wsL_partAt (wsV RL 40 RX1 yX1_partAt wsX1_partAt) := goodIn_app (goodIn_of _ (by decide +kernel)) ggL_partAt_X1_partAt
theorem dL_partAt_0 : decode cL_partAt 0 = .ok (.aload_n 3, 1) := by decide +kernel
theorem dL_partAt_1 : decode cL_partAt 1 = .ok (.iconst 0, 1) := by decide +kernel
theorem dL_partAt_2 : decode cL_partAt 2 = .ok (.aload_n 0, 1) := by decide +kernel
theorem dL_partAt_3 : decode cL_partAt 3 = .ok (.iload_n 1, 1) := by decide +kernel
theorem dL_partAt_4 : decode cL_partAt 4 = .ok (.iload_n 2, 1) := by decide +kernel
theorem dL_partAt_5 : decode cL_partAt 5 = .ok (.invokevirtual 40, 3) := by decide +kernel
theorem dL_partAt_8 : decode cL_partAt 8 = .ok (.i2l, 1) := by decide +kernel
theorem dL_partAt_9 : decode cL_partAt 9 = .ok (.lastore, 1) := by decide +kernel
theorem dL_partAt_10 : decode cL_partAt 10 = .ok (.goto 7, 3) := by decide +kernel
theorem dL_partAt_13 : decode cL_partAt 13 = .ok (.astore 4, 2) := by decide +kernel
theorem dL_partAt_15 : decode cL_partAt 15 = .ok (.iconst 1, 1) := by decide +kernel
theorem dL_partAt_16 : decode cL_partAt 16 = .ok (.ireturn, 1) := by decide +kernel
theorem dL_partAt_17 : decode cL_partAt 17 = .ok (.iconst 0, 1) := by decide +kernel
theorem dL_partAt_18 : decode cL_partAt 18 = .ok (.ireturn, 1) := by decide +kernel
set_option maxRecDepth 20000 in
theorem ggL_leadsRight_X1_leadsRight : GoodIn wsL_leadsRight wsX1_leadsRight := goodIn_ca (goodIn_r _ [6, 7, 8, 9, 10, 5, 11, 12, 13, 14, 15, 16, 17, 18, 19, 20, 21, 22, 23, 24, 25, 26, 27, 28, 29, 30, 31, 32, 33, 34, 35, 36, 37, 38, 39, 40, 41, 42, 43, 44, 45, 46, 47, 48, 49, 50, 51, 52, 53, 54, 55, 56, 57, 58, 59] (by decide +kernel) (by decide +kernel)) (goodIn_sub (fun _ h => List.mem_cons_of_mem _ (List.mem_append_right _ h)) (by decide +kernel))
set_option maxRecDepth 20000 in
theorem gL_leadsRight_X1_leadsRight : GoodIn wsL_leadsRight (wsV RL 43 RX1 yX1_leadsRight wsX1_leadsRight) := goodIn_app (goodIn_of _ (by decide +kernel)) ggL_leadsRight_X1_leadsRight
theorem dL_leadsRight_0 : decode cL_leadsRight 0 = .ok (.aload_n 3, 1) := by decide +kernel
theorem dL_leadsRight_1 : decode cL_leadsRight 1 = .ok (.iconst 0, 1) := by decide +kernel
theorem dL_leadsRight_2 : decode cL_leadsRight 2 = .ok (.aload_n 0, 1) := by decide +kernel
theorem dL_leadsRight_3 : decode cL_leadsRight 3 = .ok (.iload_n 1, 1) := by decide +kernel
theorem dL_leadsRight_4 : decode cL_leadsRight 4 = .ok (.iload_n 2, 1) := by decide +kernel
theorem dL_leadsRight_5 : decode cL_leadsRight 5 = .ok (.invokevirtual 43, 3) := by decide +kernel
theorem dL_leadsRight_8 : decode cL_leadsRight 8 = .ok (.ifCond .eq 7, 3) := by decide +kernel
theorem dL_leadsRight_11 : decode cL_leadsRight 11 = .ok (.lconst 1, 1) := by decide +kernel
theorem dL_leadsRight_12 : decode cL_leadsRight 12 = .ok (.goto 4, 3) := by decide +kernel
theorem dL_leadsRight_15 : decode cL_leadsRight 15 = .ok (.lconst 0, 1) := by decide +kernel
theorem dL_leadsRight_16 : decode cL_leadsRight 16 = .ok (.lastore, 1) := by decide +kernel
theorem dL_leadsRight_17 : decode cL_leadsRight 17 = .ok (.goto 7, 3) := by decide +kernel
theorem dL_leadsRight_20 : decode cL_leadsRight 20 = .ok (.astore 4, 2) := by decide +kernel
theorem dL_leadsRight_22 : decode cL_leadsRight 22 = .ok (.iconst 1, 1) := by decide +kernel
theorem dL_leadsRight_23 : decode cL_leadsRight 23 = .ok (.ireturn, 1) := by decide +kernel
theorem dL_leadsRight_24 : decode cL_leadsRight 24 = .ok (.iconst 0, 1) := by decide +kernel
theorem dL_leadsRight_25 : decode cL_leadsRight 25 = .ok (.ireturn, 1) := by decide +kernel
set_option maxRecDepth 20000 in
theorem ggL_countAt_X1_countAt : GoodIn wsL_countAt wsX1_countAt := goodIn_ca (goodIn_r _ [6, 7, 8, 9, 10, 5, 11, 12, 13, 14, 15, 16, 17, 18, 19, 20, 21, 22, 23, 24, 25, 26, 27, 28, 29, 30, 31, 32, 33, 34, 35, 36, 37, 38, 39, 40, 41, 42, 43, 44, 45, 46, 47, 48, 49, 50, 51, 52, 53, 54, 55, 56, 57, 58, 59] (by decide +kernel) (by decide +kernel)) (goodIn_sub (fun _ h => List.mem_cons_of_mem _ (List.mem_append_right _ h)) (by decide +kernel))
set_option maxRecDepth 20000 in
theorem gL_countAt_X1_countAt : GoodIn wsL_countAt (wsV RL 46 RX1 yX1_countAt wsX1_countAt) := goodIn_app (goodIn_of _ (by decide +kernel)) ggL_countAt_X1_countAt
theorem dL_countAt_0 : decode cL_countAt 0 = .ok (.aload_n 3, 1) := by decide +kernel
theorem dL_countAt_1 : decode cL_countAt 1 = .ok (.iconst 0, 1) := by decide +kernel
theorem dL_countAt_2 : decode cL_countAt 2 = .ok (.aload_n 0, 1) := by decide +kernel
theorem dL_countAt_3 : decode cL_countAt 3 = .ok (.iload_n 1, 1) := by decide +kernel
theorem dL_countAt_4 : decode cL_countAt 4 = .ok (.iload_n 2, 1) := by decide +kernel
theorem dL_countAt_5 : decode cL_countAt 5 = .ok (.invokevirtual 46, 3) := by decide +kernel
theorem dL_countAt_8 : decode cL_countAt 8 = .ok (.i2l, 1) := by decide +kernel
theorem dL_countAt_9 : decode cL_countAt 9 = .ok (.lastore, 1) := by decide +kernel
theorem dL_countAt_10 : decode cL_countAt 10 = .ok (.goto 7, 3) := by decide +kernel
theorem dL_countAt_13 : decode cL_countAt 13 = .ok (.astore 4, 2) := by decide +kernel
theorem dL_countAt_15 : decode cL_countAt 15 = .ok (.iconst 1, 1) := by decide +kernel
theorem dL_countAt_16 : decode cL_countAt 16 = .ok (.ireturn, 1) := by decide +kernel
theorem dL_countAt_17 : decode cL_countAt 17 = .ok (.iconst 0, 1) := by decide +kernel
theorem dL_countAt_18 : decode cL_countAt 18 = .ok (.ireturn, 1) := by decide +kernel
set_option maxRecDepth 20000 in
theorem ggL_binOf_X1_binOf : GoodIn wsL_binOf wsX1_binOf := goodIn_ca (goodIn_r _ [6, 7, 8, 9, 10, 11, 5, 12, 13, 14, 15, 16, 17, 18, 19, 20, 21, 22, 23, 24, 25, 26, 27, 28, 29, 30, 31, 32, 33, 34] (by decide +kernel) (by decide +kernel)) (goodIn_sub (fun _ h => List.mem_cons_of_mem _ (List.mem_append_right _ h)) (by decide +kernel))
set_option maxRecDepth 20000 in
theorem gL_binOf_X1_binOf : GoodIn wsL_binOf (wsV RL 49 RX1 yX1_binOf wsX1_binOf) := goodIn_app (goodIn_of _ (by decide +kernel)) ggL_binOf_X1_binOf
theorem dL_binOf_0 : decode cL_binOf 0 = .ok (.aload_n 2, 1) := by decide +kernel
theorem dL_binOf_1 : decode cL_binOf 1 = .ok (.iconst 0, 1) := by decide +kernel
theorem dL_binOf_2 : decode cL_binOf 2 = .ok (.aload_n 0, 1) := by decide +kernel
theorem dL_binOf_3 : decode cL_binOf 3 = .ok (.iload_n 1, 1) := by decide +kernel
theorem dL_binOf_4 : decode cL_binOf 4 = .ok (.invokevirtual 49, 3) := by decide +kernel
theorem dL_binOf_7 : decode cL_binOf 7 = .ok (.i2l, 1) := by decide +kernel
theorem dL_binOf_8 : decode cL_binOf 8 = .ok (.lastore, 1) := by decide +kernel
theorem dL_binOf_9 : decode cL_binOf 9 = .ok (.goto 6, 3) := by decide +kernel
theorem dL_binOf_12 : decode cL_binOf 12 = .ok (.astore_n 3, 1) := by decide +kernel
theorem dL_binOf_13 : decode cL_binOf 13 = .ok (.iconst 1, 1) := by decide +kernel
theorem dL_binOf_14 : decode cL_binOf 14 = .ok (.ireturn, 1) := by decide +kernel
theorem dL_binOf_15 : decode cL_binOf 15 = .ok (.iconst 0, 1) := by decide +kernel
theorem dL_binOf_16 : decode cL_binOf 16 = .ok (.ireturn, 1) := by decide +kernel
set_option maxRecDepth 20000 in
theorem ggL_marblesIn_X1_marblesIn : GoodIn wsL_marblesIn wsX1_marblesIn := goodIn_ca (goodIn_r _ [6, 7, 8, 9, 10, 5, 11, 12, 13, 14, 15, 16, 17, 18, 19, 20, 21, 22, 23, 24, 25, 26, 27] (by decide +kernel) (by decide +kernel)) (goodIn_sub (fun _ h => List.mem_cons_of_mem _ (List.mem_append_right _ h)) (by decide +kernel))
set_option maxRecDepth 20000 in
theorem gL_marblesIn_X1_marblesIn : GoodIn wsL_marblesIn (wsV RL 52 RX1 yX1_marblesIn wsX1_marblesIn) := goodIn_app (goodIn_of _ (by decide +kernel)) ggL_marblesIn_X1_marblesIn
theorem dL_marblesIn_0 : decode cL_marblesIn 0 = .ok (.aload_n 2, 1) := by decide +kernel
theorem dL_marblesIn_1 : decode cL_marblesIn 1 = .ok (.iconst 0, 1) := by decide +kernel
theorem dL_marblesIn_2 : decode cL_marblesIn 2 = .ok (.aload_n 0, 1) := by decide +kernel
theorem dL_marblesIn_3 : decode cL_marblesIn 3 = .ok (.iload_n 1, 1) := by decide +kernel
theorem dL_marblesIn_4 : decode cL_marblesIn 4 = .ok (.invokevirtual 52, 3) := by decide +kernel
theorem dL_marblesIn_7 : decode cL_marblesIn 7 = .ok (.i2l, 1) := by decide +kernel
theorem dL_marblesIn_8 : decode cL_marblesIn 8 = .ok (.lastore, 1) := by decide +kernel
theorem dL_marblesIn_9 : decode cL_marblesIn 9 = .ok (.goto 6, 3) := by decide +kernel
theorem dL_marblesIn_12 : decode cL_marblesIn 12 = .ok (.astore_n 3, 1) := by decide +kernel
theorem dL_marblesIn_13 : decode cL_marblesIn 13 = .ok (.iconst 1, 1) := by decide +kernel
theorem dL_marblesIn_14 : decode cL_marblesIn 14 = .ok (.ireturn, 1) := by decide +kernel
theorem dL_marblesIn_15 : decode cL_marblesIn 15 = .ok (.iconst 0, 1) := by decide +kernel
theorem dL_marblesIn_16 : decode cL_marblesIn 16 = .ok (.ireturn, 1) := by decide +kernel
set_option maxRecDepth 20000 in
theorem ggL_columnOf_X1_columnOf : GoodIn wsL_columnOf wsX1_columnOf := goodIn_ca (goodIn_r _ [6, 7, 8, 9, 10, 5, 11, 12, 13, 14, 15, 16, 17, 18, 19, 20, 21, 22, 23, 24, 25, 26, 27] (by decide +kernel) (by decide +kernel)) (goodIn_sub (fun _ h => List.mem_cons_of_mem _ (List.mem_append_right _ h)) (by decide +kernel))
set_option maxRecDepth 20000 in
theorem gL_columnOf_X1_columnOf : GoodIn wsL_columnOf (wsV RL 55 RX1 yX1_columnOf wsX1_columnOf) := goodIn_app (goodIn_of _ (by decide +kernel)) ggL_columnOf_X1_columnOf
theorem dL_columnOf_0 : decode cL_columnOf 0 = .ok (.aload_n 2, 1) := by decide +kernel
theorem dL_columnOf_1 : decode cL_columnOf 1 = .ok (.iconst 0, 1) := by decide +kernel
theorem dL_columnOf_2 : decode cL_columnOf 2 = .ok (.aload_n 0, 1) := by decide +kernel
theorem dL_columnOf_3 : decode cL_columnOf 3 = .ok (.iload_n 1, 1) := by decide +kernel
theorem dL_columnOf_4 : decode cL_columnOf 4 = .ok (.invokevirtual 55, 3) := by decide +kernel
theorem dL_columnOf_7 : decode cL_columnOf 7 = .ok (.i2l, 1) := by decide +kernel
theorem dL_columnOf_8 : decode cL_columnOf 8 = .ok (.lastore, 1) := by decide +kernel
theorem dL_columnOf_9 : decode cL_columnOf 9 = .ok (.goto 6, 3) := by decide +kernel
theorem dL_columnOf_12 : decode cL_columnOf 12 = .ok (.astore_n 3, 1) := by decide +kernel
theorem dL_columnOf_13 : decode cL_columnOf 13 = .ok (.iconst 1, 1) := by decide +kernel
theorem dL_columnOf_14 : decode cL_columnOf 14 = .ok (.ireturn, 1) := by decide +kernel
theorem dL_columnOf_15 : decode cL_columnOf 15 = .ok (.iconst 0, 1) := by decide +kernel
theorem dL_columnOf_16 : decode cL_columnOf 16 = .ok (.ireturn, 1) := by decide +kernel
set_option maxRecDepth 20000 in
theorem ggL_numberIn_X1_numberIn : GoodIn wsL_numberIn wsX1_numberIn := goodIn_ca (goodIn_r _ [6, 7, 8, 9, 10, 5, 11, 12, 13, 14, 15, 16, 17, 18, 19, 20, 21, 22, 23, 24, 25, 26, 27, 28, 29, 30, 31, 32, 33, 34, 35, 36, 37, 38, 39, 40, 41, 42, 43, 44, 45, 46, 47, 48, 49, 50, 51] (by decide +kernel) (by decide +kernel)) (goodIn_sub (fun _ h => List.mem_cons_of_mem _ (List.mem_append_right _ h)) (by decide +kernel))
set_option maxRecDepth 20000 in
theorem gL_numberIn_X1_numberIn : GoodIn wsL_numberIn (wsV RL 58 RX1 yX1_numberIn wsX1_numberIn) := goodIn_app (goodIn_of _ (by decide +kernel)) ggL_numberIn_X1_numberIn
theorem dL_numberIn_0 : decode cL_numberIn 0 = .ok (.aload_n 2, 1) := by decide +kernel
theorem dL_numberIn_1 : decode cL_numberIn 1 = .ok (.iconst 0, 1) := by decide +kernel
theorem dL_numberIn_2 : decode cL_numberIn 2 = .ok (.aload_n 0, 1) := by decide +kernel
theorem dL_numberIn_3 : decode cL_numberIn 3 = .ok (.iload_n 1, 1) := by decide +kernel
theorem dL_numberIn_4 : decode cL_numberIn 4 = .ok (.invokevirtual 58, 3) := by decide +kernel
theorem dL_numberIn_7 : decode cL_numberIn 7 = .ok (.i2l, 1) := by decide +kernel
theorem dL_numberIn_8 : decode cL_numberIn 8 = .ok (.lastore, 1) := by decide +kernel
theorem dL_numberIn_9 : decode cL_numberIn 9 = .ok (.goto 6, 3) := by decide +kernel
theorem dL_numberIn_12 : decode cL_numberIn 12 = .ok (.astore_n 3, 1) := by decide +kernel
theorem dL_numberIn_13 : decode cL_numberIn 13 = .ok (.iconst 1, 1) := by decide +kernel
theorem dL_numberIn_14 : decode cL_numberIn 14 = .ok (.ireturn, 1) := by decide +kernel
theorem dL_numberIn_15 : decode cL_numberIn 15 = .ok (.iconst 0, 1) := by decide +kernel
theorem dL_numberIn_16 : decode cL_numberIn 16 = .ok (.ireturn, 1) := by decide +kernel
set_option maxRecDepth 20000 in
theorem ggL_wouldLand_X1_wouldLand : GoodIn wsL_wouldLand wsX1_wouldLand := goodIn_ca (goodIn_r _ [6, 7, 8, 9, 10, 11, 5, 12, 13, 14, 15, 16, 17, 18, 19, 20, 21, 22, 23, 24, 25, 26, 27, 28, 29, 30, 31, 32, 33, 34, 35, 36, 37, 38, 39, 40, 41, 42, 43, 44, 45, 46, 47, 48, 49, 50, 51, 52, 53, 54, 55, 56, 57, 58, 59, 60, 61, 62, 63, 64, 65, 66, 67] (by decide +kernel) (by decide +kernel)) (goodIn_sub (fun _ h => List.mem_cons_of_mem _ (List.mem_append_right _ h)) (by decide +kernel))
set_option maxRecDepth 20000 in
theorem gL_wouldLand_X1_wouldLand : GoodIn wsL_wouldLand (wsV RL 61 RX1 yX1_wouldLand wsX1_wouldLand) := goodIn_app (goodIn_of _ (by decide +kernel)) ggL_wouldLand_X1_wouldLand
theorem dL_wouldLand_0 : decode cL_wouldLand 0 = .ok (.aload_n 2, 1) := by decide +kernel
theorem dL_wouldLand_1 : decode cL_wouldLand 1 = .ok (.iconst 0, 1) := by decide +kernel
theorem dL_wouldLand_2 : decode cL_wouldLand 2 = .ok (.aload_n 0, 1) := by decide +kernel
theorem dL_wouldLand_3 : decode cL_wouldLand 3 = .ok (.iload_n 1, 1) := by decide +kernel
theorem dL_wouldLand_4 : decode cL_wouldLand 4 = .ok (.invokevirtual 61, 3) := by decide +kernel
theorem dL_wouldLand_7 : decode cL_wouldLand 7 = .ok (.i2l, 1) := by decide +kernel
theorem dL_wouldLand_8 : decode cL_wouldLand 8 = .ok (.lastore, 1) := by decide +kernel
theorem dL_wouldLand_9 : decode cL_wouldLand 9 = .ok (.goto 6, 3) := by decide +kernel
theorem dL_wouldLand_12 : decode cL_wouldLand 12 = .ok (.astore_n 3, 1) := by decide +kernel
theorem dL_wouldLand_13 : decode cL_wouldLand 13 = .ok (.iconst 1, 1) := by decide +kernel
theorem dL_wouldLand_14 : decode cL_wouldLand 14 = .ok (.ireturn, 1) := by decide +kernel
theorem dL_wouldLand_15 : decode cL_wouldLand 15 = .ok (.iconst 0, 1) := by decide +kernel
theorem dL_wouldLand_16 : decode cL_wouldLand 16 = .ok (.ireturn, 1) := by decide +kernel
set_option maxRecDepth 20000 in
theorem ggL_wouldBeIn_X1_wouldBeIn : GoodIn wsL_wouldBeIn wsX1_wouldBeIn := goodIn_ca (goodIn_r _ [6, 7, 8, 9, 10, 11, 5, 12, 13, 14, 15, 16, 17, 18, 19, 20, 21, 22, 23, 24, 25, 26, 27, 28, 29, 30, 31, 32, 33, 34, 35, 36, 37, 38, 39, 40, 41, 42, 43, 44, 45, 46, 47, 48, 49, 50, 51, 52, 53, 54, 55, 56, 57, 58, 59, 60, 61, 62, 63, 64, 65, 66, 67, 68, 69, 70, 71] (by decide +kernel) (by decide +kernel)) (goodIn_sub (fun _ h => List.mem_cons_of_mem _ (List.mem_append_right _ h)) (by decide +kernel))
set_option maxRecDepth 20000 in
theorem gL_wouldBeIn_X1_wouldBeIn : GoodIn wsL_wouldBeIn (wsV RL 64 RX1 yX1_wouldBeIn wsX1_wouldBeIn) := goodIn_app (goodIn_of _ (by decide +kernel)) ggL_wouldBeIn_X1_wouldBeIn
theorem dL_wouldBeIn_0 : decode cL_wouldBeIn 0 = .ok (.aload_n 3, 1) := by decide +kernel
theorem dL_wouldBeIn_1 : decode cL_wouldBeIn 1 = .ok (.iconst 0, 1) := by decide +kernel
theorem dL_wouldBeIn_2 : decode cL_wouldBeIn 2 = .ok (.aload_n 0, 1) := by decide +kernel
theorem dL_wouldBeIn_3 : decode cL_wouldBeIn 3 = .ok (.iload_n 1, 1) := by decide +kernel
theorem dL_wouldBeIn_4 : decode cL_wouldBeIn 4 = .ok (.iload_n 2, 1) := by decide +kernel
theorem dL_wouldBeIn_5 : decode cL_wouldBeIn 5 = .ok (.invokevirtual 64, 3) := by decide +kernel
theorem dL_wouldBeIn_8 : decode cL_wouldBeIn 8 = .ok (.i2l, 1) := by decide +kernel
theorem dL_wouldBeIn_9 : decode cL_wouldBeIn 9 = .ok (.lastore, 1) := by decide +kernel
theorem dL_wouldBeIn_10 : decode cL_wouldBeIn 10 = .ok (.goto 7, 3) := by decide +kernel
theorem dL_wouldBeIn_13 : decode cL_wouldBeIn 13 = .ok (.astore 4, 2) := by decide +kernel
theorem dL_wouldBeIn_15 : decode cL_wouldBeIn 15 = .ok (.iconst 1, 1) := by decide +kernel
theorem dL_wouldBeIn_16 : decode cL_wouldBeIn 16 = .ok (.ireturn, 1) := by decide +kernel
theorem dL_wouldBeIn_17 : decode cL_wouldBeIn 17 = .ok (.iconst 0, 1) := by decide +kernel
theorem dL_wouldBeIn_18 : decode cL_wouldBeIn 18 = .ok (.ireturn, 1) := by decide +kernel
set_option maxRecDepth 20000 in
theorem ggL_wouldTurn_X1_wouldTurn : GoodIn wsL_wouldTurn wsX1_wouldTurn := goodIn_ca (goodIn_r _ [6, 7, 8, 9, 10, 11, 5, 12, 13, 14, 15, 16, 17, 18, 19, 20, 21, 22, 23, 24, 25, 26, 27, 28, 29, 30, 31, 32, 33, 34, 35, 36, 37, 38, 39, 40, 41, 42, 43, 44, 45, 46, 47, 48, 49, 50, 51, 52, 53, 54, 55, 56, 57, 58, 59, 60, 61, 62, 63, 64, 65, 66, 67, 68, 69, 70, 71, 72, 73, 74, 75, 76, 77, 78, 79] (by decide +kernel) (by decide +kernel)) (goodIn_sub (fun _ h => List.mem_cons_of_mem _ (List.mem_append_right _ h)) (by decide +kernel))
set_option maxRecDepth 20000 in
theorem gL_wouldTurn_X1_wouldTurn : GoodIn wsL_wouldTurn (wsV RL 67 RX1 yX1_wouldTurn wsX1_wouldTurn) := goodIn_app (goodIn_of _ (by decide +kernel)) ggL_wouldTurn_X1_wouldTurn
theorem dL_wouldTurn_0 : decode cL_wouldTurn 0 = .ok (.aload_n 2, 1) := by decide +kernel
theorem dL_wouldTurn_1 : decode cL_wouldTurn 1 = .ok (.iconst 0, 1) := by decide +kernel
theorem dL_wouldTurn_2 : decode cL_wouldTurn 2 = .ok (.aload_n 0, 1) := by decide +kernel
theorem dL_wouldTurn_3 : decode cL_wouldTurn 3 = .ok (.iload_n 1, 1) := by decide +kernel
theorem dL_wouldTurn_4 : decode cL_wouldTurn 4 = .ok (.invokevirtual 67, 3) := by decide +kernel
theorem dL_wouldTurn_7 : decode cL_wouldTurn 7 = .ok (.i2l, 1) := by decide +kernel
theorem dL_wouldTurn_8 : decode cL_wouldTurn 8 = .ok (.lastore, 1) := by decide +kernel
theorem dL_wouldTurn_9 : decode cL_wouldTurn 9 = .ok (.goto 6, 3) := by decide +kernel
theorem dL_wouldTurn_12 : decode cL_wouldTurn 12 = .ok (.astore_n 3, 1) := by decide +kernel
theorem dL_wouldTurn_13 : decode cL_wouldTurn 13 = .ok (.iconst 1, 1) := by decide +kernel
theorem dL_wouldTurn_14 : decode cL_wouldTurn 14 = .ok (.ireturn, 1) := by decide +kernel
theorem dL_wouldTurn_15 : decode cL_wouldTurn 15 = .ok (.iconst 0, 1) := by decide +kernel
theorem dL_wouldTurn_16 : decode cL_wouldTurn 16 = .ok (.ireturn, 1) := by decide +kernel
set_option maxRecDepth 20000 in
theorem ggL_lastLands_X1_lastLands : GoodIn wsL_lastLands wsX1_lastLands := goodIn_ca (goodIn_ca (goodIn_r _ [7, 8, 9, 10, 11, 12, 6, 13, 14, 15, 16, 17, 18, 19, 20, 21, 22, 23, 24, 25, 26, 27, 28, 29, 30, 31, 32, 33, 34, 35, 36, 37, 38, 39, 40, 41, 42, 43, 44, 45, 46, 47, 48, 49, 50, 51, 52, 53, 54, 55, 56, 57, 58, 59, 60, 61, 62, 63, 64, 65, 66, 67, 68, 69, 70, 71, 72, 73] (by decide +kernel) (by decide +kernel)) (goodIn_sub (fun _ h => List.mem_cons_of_mem _ (List.mem_append_left _ (List.mem_append_right _ h))) (by decide +kernel))) (goodIn_sub (fun _ h => List.mem_cons_of_mem _ (List.mem_append_right _ h)) (by decide +kernel))
set_option maxRecDepth 20000 in
theorem gL_lastLands_X1_lastLands : GoodIn wsL_lastLands (wsV RL 70 RX1 yX1_lastLands wsX1_lastLands) := goodIn_app (goodIn_of _ (by decide +kernel)) ggL_lastLands_X1_lastLands
theorem dL_lastLands_0 : decode cL_lastLands 0 = .ok (.aload_n 3, 1) := by decide +kernel
theorem dL_lastLands_1 : decode cL_lastLands 1 = .ok (.iconst 0, 1) := by decide +kernel
theorem dL_lastLands_2 : decode cL_lastLands 2 = .ok (.aload_n 0, 1) := by decide +kernel
theorem dL_lastLands_3 : decode cL_lastLands 3 = .ok (.iload_n 1, 1) := by decide +kernel
theorem dL_lastLands_4 : decode cL_lastLands 4 = .ok (.iload_n 2, 1) := by decide +kernel
theorem dL_lastLands_5 : decode cL_lastLands 5 = .ok (.invokevirtual 70, 3) := by decide +kernel
theorem dL_lastLands_8 : decode cL_lastLands 8 = .ok (.i2l, 1) := by decide +kernel
theorem dL_lastLands_9 : decode cL_lastLands 9 = .ok (.lastore, 1) := by decide +kernel
theorem dL_lastLands_10 : decode cL_lastLands 10 = .ok (.goto 11, 3) := by decide +kernel
theorem dL_lastLands_13 : decode cL_lastLands 13 = .ok (.astore 4, 2) := by decide +kernel
theorem dL_lastLands_15 : decode cL_lastLands 15 = .ok (.iconst 1, 1) := by decide +kernel
theorem dL_lastLands_16 : decode cL_lastLands 16 = .ok (.ireturn, 1) := by decide +kernel
theorem dL_lastLands_17 : decode cL_lastLands 17 = .ok (.astore 4, 2) := by decide +kernel
theorem dL_lastLands_19 : decode cL_lastLands 19 = .ok (.iconst 2, 1) := by decide +kernel
theorem dL_lastLands_20 : decode cL_lastLands 20 = .ok (.ireturn, 1) := by decide +kernel
theorem dL_lastLands_21 : decode cL_lastLands 21 = .ok (.iconst 0, 1) := by decide +kernel
theorem dL_lastLands_22 : decode cL_lastLands 22 = .ok (.ireturn, 1) := by decide +kernel
set_option maxRecDepth 20000 in
theorem ggL_asBeforeIn_X1_asBeforeIn : GoodIn wsL_asBeforeIn wsX1_asBeforeIn := goodIn_ca (goodIn_r _ [6, 7, 8, 9, 10, 11, 5, 12, 13, 14, 15, 16, 17, 18, 19, 20, 21, 22, 23, 24, 25, 26, 27, 28, 29, 30, 31, 32, 33, 34, 35, 36, 37, 38, 39, 40, 41, 42, 43, 44, 45, 46, 47, 48, 49, 50, 51, 52, 53, 54, 55, 56, 57, 58, 59, 60, 61, 62, 63, 64, 65, 66, 67, 68, 69, 70, 71] (by decide +kernel) (by decide +kernel)) (goodIn_sub (fun _ h => List.mem_cons_of_mem _ (List.mem_append_right _ h)) (by decide +kernel))
set_option maxRecDepth 20000 in
theorem gL_asBeforeIn_X1_asBeforeIn : GoodIn wsL_asBeforeIn (wsV RL 73 RX1 yX1_asBeforeIn wsX1_asBeforeIn) := goodIn_app (goodIn_of _ (by decide +kernel)) ggL_asBeforeIn_X1_asBeforeIn
theorem dL_asBeforeIn_0 : decode cL_asBeforeIn 0 = .ok (.aload_n 2, 1) := by decide +kernel
theorem dL_asBeforeIn_1 : decode cL_asBeforeIn 1 = .ok (.iconst 0, 1) := by decide +kernel
theorem dL_asBeforeIn_2 : decode cL_asBeforeIn 2 = .ok (.aload_n 0, 1) := by decide +kernel
theorem dL_asBeforeIn_3 : decode cL_asBeforeIn 3 = .ok (.iload_n 1, 1) := by decide +kernel
theorem dL_asBeforeIn_4 : decode cL_asBeforeIn 4 = .ok (.invokevirtual 73, 3) := by decide +kernel
theorem dL_asBeforeIn_7 : decode cL_asBeforeIn 7 = .ok (.i2l, 1) := by decide +kernel
theorem dL_asBeforeIn_8 : decode cL_asBeforeIn 8 = .ok (.lastore, 1) := by decide +kernel
theorem dL_asBeforeIn_9 : decode cL_asBeforeIn 9 = .ok (.goto 6, 3) := by decide +kernel
theorem dL_asBeforeIn_12 : decode cL_asBeforeIn 12 = .ok (.astore_n 3, 1) := by decide +kernel
theorem dL_asBeforeIn_13 : decode cL_asBeforeIn 13 = .ok (.iconst 1, 1) := by decide +kernel
theorem dL_asBeforeIn_14 : decode cL_asBeforeIn 14 = .ok (.ireturn, 1) := by decide +kernel
theorem dL_asBeforeIn_15 : decode cL_asBeforeIn 15 = .ok (.iconst 0, 1) := by decide +kernel
theorem dL_asBeforeIn_16 : decode cL_asBeforeIn 16 = .ok (.ireturn, 1) := by decide +kernel
set_option maxRecDepth 20000 in
theorem ggL_wouldRun_X1_wouldRun : GoodIn wsL_wouldRun wsX1_wouldRun := goodIn_ca (goodIn_r _ [6, 7, 8, 9, 10, 5, 11, 12, 13, 14, 15, 16, 17, 18, 19, 20, 21, 22, 23, 24, 25, 26, 27, 28, 29, 30, 31, 32, 33, 34, 35, 36, 37, 38, 39, 40, 41, 42, 43, 44, 45, 46, 47, 48, 49, 50, 51, 52, 53, 54, 55, 56, 57, 58, 59, 60, 61, 62, 63, 64, 65, 66, 67, 68, 69, 70, 71, 72, 73] (by decide +kernel) (by decide +kernel)) (goodIn_sub (fun _ h => List.mem_cons_of_mem _ (List.mem_append_right _ h)) (by decide +kernel))
set_option maxRecDepth 20000 in
theorem gL_wouldRun_X1_wouldRun : GoodIn wsL_wouldRun (wsV RL 76 RX1 yX1_wouldRun wsX1_wouldRun) := goodIn_app (goodIn_of _ (by decide +kernel)) ggL_wouldRun_X1_wouldRun
theorem dL_wouldRun_0 : decode cL_wouldRun 0 = .ok (.aload_n 2, 1) := by decide +kernel
theorem dL_wouldRun_1 : decode cL_wouldRun 1 = .ok (.iconst 0, 1) := by decide +kernel
theorem dL_wouldRun_2 : decode cL_wouldRun 2 = .ok (.aload_n 0, 1) := by decide +kernel
theorem dL_wouldRun_3 : decode cL_wouldRun 3 = .ok (.iload_n 1, 1) := by decide +kernel
theorem dL_wouldRun_4 : decode cL_wouldRun 4 = .ok (.invokevirtual 76, 3) := by decide +kernel
theorem dL_wouldRun_7 : decode cL_wouldRun 7 = .ok (.i2l, 1) := by decide +kernel
theorem dL_wouldRun_8 : decode cL_wouldRun 8 = .ok (.lastore, 1) := by decide +kernel
theorem dL_wouldRun_9 : decode cL_wouldRun 9 = .ok (.goto 6, 3) := by decide +kernel
theorem dL_wouldRun_12 : decode cL_wouldRun 12 = .ok (.astore_n 3, 1) := by decide +kernel
theorem dL_wouldRun_13 : decode cL_wouldRun 13 = .ok (.iconst 1, 1) := by decide +kernel
theorem dL_wouldRun_14 : decode cL_wouldRun 14 = .ok (.ireturn, 1) := by decide +kernel
theorem dL_wouldRun_15 : decode cL_wouldRun 15 = .ok (.iconst 0, 1) := by decide +kernel
theorem dL_wouldRun_16 : decode cL_wouldRun 16 = .ok (.ireturn, 1) := by decide +kernel
end
section
set_option maxRecDepth 20000 in
theorem ggL_law_X1_init : GoodIn wsL_law wsX1_init := goodIn_r _ [9, 10, 11, 12, 13, 14, 15, 16, 17, 18, 19, 20, 21, 22, 23, 24, 25, 26, 27, 28, 29, 30, 31, 32, 33, 34, 35, 36, 37, 38, 39, 40, 41, 42, 43, 44, 2, 45, 611, 612, 613, 614, 615, 616, 617, 618, 619, 599, 600] (by decide +kernel) (by decide +kernel)
set_option maxRecDepth 20000 in
theorem gL_law_X1_init : GoodIn wsL_law (wsX1_init) := ggL_law_X1_init
set_option maxRecDepth 20000 in
theorem ggL_law_X2_init : GoodIn wsL_law wsX2_init := goodIn_r _ [48, 49, 11, 12, 50, 51, 22, 52, 53, 54, 55, 56, 57, 601, 602, 603, 604, 605, 606, 607, 608, 609, 610] (by decide +kernel) (by decide +kernel)
set_option maxRecDepth 20000 in
theorem gL_law_X2_init : GoodIn wsL_law (wsX2_init) := ggL_law_X2_init
set_option maxRecDepth 20000 in
theorem ggL_law_L_lay : GoodIn wsL_law wsL_lay := goodIn_ca (goodIn_r _ [61, 62, 63, 64, 65, 2, 66, 16, 67, 68, 69, 70, 71, 72, 30, 31, 15, 32, 33, 34, 35, 23, 24, 25, 27, 36, 37, 38, 39, 40, 41, 42, 43, 26, 44, 45, 599, 600, 611, 612, 613, 614, 615, 616, 617, 618, 619] (by decide +kernel) (by decide +kernel)) (goodIn_sub (fun _ h => List.mem_append_left _ (List.mem_append_left _ (List.mem_append_right _ h))) (by decide +kernel))
set_option maxRecDepth 20000 in
theorem gL_law_L_lay : GoodIn wsL_law (va_wsS RL 83 yL_lay wsL_lay) := goodIn_app (goodIn_of _ (by decide +kernel)) ggL_law_L_lay
set_option maxRecDepth 20000 in
theorem ggL_law_X2_lay : GoodIn wsL_law wsX2_lay := goodIn_r _ [76, 77, 50, 51, 52, 55, 54, 78, 79, 5, 80, 81, 82, 83, 84, 601, 602, 603, 604, 605, 606, 607, 608, 609, 610] (by decide +kernel) (by decide +kernel)
set_option maxRecDepth 20000 in
theorem gL_law_X2_lay : GoodIn wsL_law (wsV RL 88 RX2 yX2_lay wsX2_lay) := goodIn_app (goodIn_of _ (by decide +kernel)) ggL_law_X2_lay
set_option maxRecDepth 20000 in
theorem ggL_law_X2_thrown : GoodIn wsL_law wsX2_thrown := goodIn_r _ [88, 77, 601, 602, 603, 604, 605, 606, 607, 608, 609, 610] (by decide +kernel) (by decide +kernel)
set_option maxRecDepth 20000 in
theorem gL_law_X2_thrown : GoodIn wsL_law (wsV RL 89 RX2 yX2_thrown wsX2_thrown) := goodIn_app (goodIn_of _ (by decide +kernel)) ggL_law_X2_thrown
set_option maxRecDepth 20000 in
theorem ggL_law_L_put : GoodIn wsL_law wsL_put := goodIn_ca (goodIn_ca (goodIn_r _ [91, 92, 62, 93, 94, 95, 2, 96, 16, 97, 98, 99, 100, 101, 102, 103, 104, 105, 106, 107, 108, 109, 15, 110, 34, 111, 112, 113, 114, 115, 116, 117, 118, 33, 67, 68, 69, 70, 71, 119, 120, 121, 122, 23, 24, 25, 123, 124, 125, 126, 127, 128, 129, 130, 131, 132, 44, 45, 599, 600, 611, 612, 613, 614, 615, 616, 617, 618, 619] (by decide +kernel) (by decide +kernel)) (goodIn_sub (fun _ h => List.mem_append_left _ (List.mem_append_right _ h)) (by decide +kernel))) (goodIn_sub (fun _ h => List.mem_append_left _ (List.mem_append_left _ (List.mem_append_right _ h))) (by decide +kernel))
set_option maxRecDepth 20000 in
theorem gL_law_L_put : GoodIn wsL_law (va_wsS RL 93 yL_put wsL_put) := goodIn_app (goodIn_of _ (by decide +kernel)) ggL_law_L_put
set_option maxRecDepth 20000 in
theorem ggL_law_X2_put : GoodIn wsL_law wsX2_put := goodIn_r _ [136, 77, 137, 138, 139, 5, 140, 141, 142, 143, 144, 51, 78, 79, 80, 145, 146, 147, 148, 50, 81, 82, 83, 84, 149, 150, 151, 152, 52, 55, 601, 602, 603, 604, 605, 606, 607, 608, 609, 610] (by decide +kernel) (by decide +kernel)
set_option maxRecDepth 20000 in
theorem gL_law_X2_put : GoodIn wsL_law (wsV RL 96 RX2 yX2_put wsX2_put) := goodIn_app (goodIn_of _ (by decide +kernel)) ggL_law_X2_put
set_option maxRecDepth 20000 in
theorem ggL_law_L_putCounter : GoodIn wsL_law wsL_putCounter := goodIn_ca (goodIn_ca (goodIn_r _ [155, 92, 62, 156, 157, 158, 2, 159, 16, 97, 98, 99, 100, 101, 102, 103, 104, 105, 106, 107, 108, 109, 15, 110, 34, 111, 112, 113, 114, 115, 116, 117, 118, 33, 67, 68, 69, 70, 71, 119, 120, 121, 122, 23, 24, 25, 123, 124, 125, 126, 127, 128, 129, 130, 131, 132, 44, 45, 599, 600, 611, 612, 613, 614, 615, 616, 617, 618, 619] (by decide +kernel) (by decide +kernel)) (goodIn_sub (fun _ h => List.mem_append_left _ (List.mem_append_right _ h)) (by decide +kernel))) (goodIn_sub (fun _ h => List.mem_append_left _ (List.mem_append_left _ (List.mem_append_right _ h))) (by decide +kernel))
set_option maxRecDepth 20000 in
theorem gL_law_L_putCounter : GoodIn wsL_law (va_wsS RL 97 yL_putCounter wsL_putCounter) := goodIn_app (goodIn_of _ (by decide +kernel)) ggL_law_L_putCounter
set_option maxRecDepth 20000 in
theorem ggL_law_X2_putCounter : GoodIn wsL_law wsX2_putCounter := goodIn_r _ [163, 77, 53, 137, 138, 139, 5, 140, 141, 142, 143, 144, 51, 78, 79, 80, 145, 146, 147, 148, 50, 81, 82, 83, 84, 149, 150, 151, 152, 52, 55, 601, 602, 603, 604, 605, 606, 607, 608, 609, 610] (by decide +kernel) (by decide +kernel)
set_option maxRecDepth 20000 in
theorem gL_law_X2_putCounter : GoodIn wsL_law (wsV RL 99 RX2 yX2_putCounter wsX2_putCounter) := goodIn_app (goodIn_of _ (by decide +kernel)) ggL_law_X2_putCounter
set_option maxRecDepth 20000 in
theorem ggL_law_L_turn : GoodIn wsL_law wsL_turn := goodIn_ca (goodIn_ca (goodIn_r _ [166, 92, 167, 168, 169, 170, 2, 171, 172, 173, 16, 97, 98, 99, 100, 101, 102, 103, 104, 105, 106, 107, 108, 109, 15, 110, 34, 111, 112, 113, 114, 115, 116, 117, 118, 33, 174, 124, 125, 126, 175, 128, 129, 130, 23, 131, 132, 176, 177, 178, 179, 25, 180, 181, 182, 183, 127, 44, 45, 184, 599, 600, 611, 612, 613, 614, 615, 616, 617, 618, 619] (by decide +kernel) (by decide +kernel)) (goodIn_sub (fun _ h => List.mem_append_right _ h) (by decide +kernel))) (goodIn_sub (fun _ h => List.mem_append_left _ (List.mem_append_right _ h)) (by decide +kernel))
set_option maxRecDepth 20000 in
theorem gL_law_L_turn : GoodIn wsL_law (va_wsS RL 100 yL_turn wsL_turn) := goodIn_app (goodIn_of _ (by decide +kernel)) ggL_law_L_turn
set_option maxRecDepth 20000 in
theorem ggL_law_X2_turn : GoodIn wsL_law wsX2_turn := goodIn_r _ [188, 77, 52, 55, 137, 138, 139, 5, 140, 141, 142, 143, 144, 51, 78, 79, 80, 145, 146, 147, 148, 50, 189, 190, 191, 192, 601, 602, 603, 604, 605, 606, 607, 608, 609, 610] (by decide +kernel) (by decide +kernel)
set_option maxRecDepth 20000 in
theorem gL_law_X2_turn : GoodIn wsL_law (wsV RL 102 RX2 yX2_turn wsX2_turn) := goodIn_app (goodIn_of _ (by decide +kernel)) ggL_law_X2_turn
set_option maxRecDepth 20000 in
theorem ggL_law_L_setHopper : GoodIn wsL_law wsL_setHopper := goodIn_ca (goodIn_ca (goodIn_r _ [195, 92, 62, 196, 197, 198, 2, 199, 16, 200, 201, 202, 105, 106, 111, 112, 113, 114, 115, 116, 117, 15, 118, 33, 67, 68, 69, 70, 71, 203, 204, 205, 206, 28, 27, 131, 132, 44, 45, 599, 600, 611, 612, 613, 614, 615, 616, 617, 618, 619] (by decide +kernel) (by decide +kernel)) (goodIn_sub (fun _ h => List.mem_append_left _ (List.mem_append_right _ h)) (by decide +kernel))) (goodIn_sub (fun _ h => List.mem_append_left _ (List.mem_append_left _ (List.mem_append_right _ h))) (by decide +kernel))
set_option maxRecDepth 20000 in
theorem gL_law_L_setHopper : GoodIn wsL_law (va_wsS RL 103 yL_setHopper wsL_setHopper) := goodIn_app (goodIn_of _ (by decide +kernel)) ggL_law_L_setHopper
set_option maxRecDepth 20000 in
theorem ggL_law_X2_setHopper : GoodIn wsL_law wsX2_setHopper := goodIn_r _ [210, 77, 55, 54, 78, 79, 5, 80, 145, 146, 147, 148, 50, 81, 82, 83, 84, 601, 602, 603, 604, 605, 606, 607, 608, 609, 610] (by decide +kernel) (by decide +kernel)
set_option maxRecDepth 20000 in
theorem gL_law_X2_setHopper : GoodIn wsL_law (wsV RL 105 RX2 yX2_setHopper wsX2_setHopper) := goodIn_app (goodIn_of _ (by decide +kernel)) ggL_law_X2_setHopper
set_option maxRecDepth 20000 in
theorem ggL_law_L_drop : GoodIn wsL_law wsL_drop := goodIn_ca (goodIn_r _ [213, 92, 214, 215, 216, 2, 217, 16, 111, 112, 113, 114, 105, 106, 115, 116, 117, 15, 118, 33, 218, 219, 220, 221, 34, 35, 26, 222, 223, 224, 225, 123, 124, 125, 126, 226, 227, 228, 229, 23, 25, 24, 131, 132, 44, 45, 230, 599, 600, 611, 612, 613, 614, 615, 616, 617, 618, 619] (by decide +kernel) (by decide +kernel)) (goodIn_sub (fun _ h => List.mem_append_left _ (List.mem_append_right _ h)) (by decide +kernel))
set_option maxRecDepth 20000 in
theorem gL_law_L_drop : GoodIn wsL_law (va_wsS RL 106 yL_drop wsL_drop) := goodIn_app (goodIn_of _ (by decide +kernel)) ggL_law_L_drop
set_option maxRecDepth 20000 in
theorem ggL_law_X2_drop : GoodIn wsL_law wsX2_drop := goodIn_r _ [234, 77, 145, 146, 147, 5, 148, 50, 78, 79, 80, 235, 236, 237, 238, 239, 57, 51, 55, 240, 241, 242, 243, 52, 53, 81, 82, 83, 84, 601, 602, 603, 604, 605, 606, 607, 608, 609, 610] (by decide +kernel) (by decide +kernel)
set_option maxRecDepth 20000 in
theorem gL_law_X2_drop : GoodIn wsL_law (wsV RL 109 RX2 yX2_drop wsX2_drop) := goodIn_app (goodIn_of _ (by decide +kernel)) ggL_law_X2_drop
set_option maxRecDepth 20000 in
theorem ggL_law_L_run : GoodIn wsL_law wsL_run := goodIn_ca (goodIn_ca (goodIn_r _ [246, 92, 62, 247, 248, 249, 2, 250, 16, 200, 201, 202, 105, 106, 67, 68, 69, 70, 71, 251, 252, 253, 15, 254, 28, 27, 131, 132, 44, 45, 255, 219, 220, 221, 34, 35, 26, 222, 223, 224, 225, 123, 124, 125, 126, 33, 226, 227, 228, 229, 23, 25, 24, 230, 116, 117, 118, 256, 257, 258, 259, 599, 600, 611, 612, 613, 614, 615, 616, 617, 618, 619] (by decide +kernel) (by decide +kernel)) (goodIn_sub (fun _ h => List.mem_append_left _ (List.mem_append_right _ h)) (by decide +kernel))) (goodIn_sub (fun _ h => List.mem_append_left _ (List.mem_append_left _ (List.mem_append_right _ h))) (by decide +kernel))
set_option maxRecDepth 20000 in
theorem gL_law_L_run : GoodIn wsL_law (va_wsS RL 110 yL_run wsL_run) := goodIn_app (goodIn_of _ (by decide +kernel)) ggL_law_L_run
set_option maxRecDepth 20000 in
theorem ggL_law_X2_run : GoodIn wsL_law wsX2_run := goodIn_r _ [263, 77, 78, 79, 5, 80, 81, 82, 83, 84, 264, 265, 266, 267, 55, 54, 50, 235, 236, 237, 238, 239, 57, 51, 240, 241, 242, 243, 52, 53, 145, 146, 147, 148, 268, 269, 270, 271, 601, 602, 603, 604, 605, 606, 607, 608, 609, 610] (by decide +kernel) (by decide +kernel)
set_option maxRecDepth 20000 in
theorem gL_law_X2_run : GoodIn wsL_law (wsV RL 112 RX2 yX2_run wsX2_run) := goodIn_app (goodIn_of _ (by decide +kernel)) ggL_law_X2_run
set_option maxRecDepth 20000 in
theorem ggL_law_X1_emptyBins : GoodIn wsL_law wsX1_emptyBins := goodIn_r _ [275, 16, 276, 277, 278, 15, 279, 26, 280, 41, 42, 43, 36, 37, 38, 39, 599, 600, 611, 612, 613, 614, 615, 616, 617, 618, 619] (by decide +kernel) (by decide +kernel)
set_option maxRecDepth 20000 in
theorem gL_law_X1_emptyBins : GoodIn wsL_law (wsV RL 113 RX1 yX1_emptyBins wsX1_emptyBins) := goodIn_app (goodIn_of _ (by decide +kernel)) ggL_law_X1_emptyBins
set_option maxRecDepth 20000 in
theorem ggL_law_X2_emptyBins : GoodIn wsL_law wsX2_emptyBins := goodIn_r _ [284, 50, 55, 285, 286, 287, 5, 288, 289, 290, 291, 292, 77, 601, 602, 603, 604, 605, 606, 607, 608, 609, 610] (by decide +kernel) (by decide +kernel)
set_option maxRecDepth 20000 in
theorem gL_law_X2_emptyBins : GoodIn wsL_law (wsV RL 116 RX2 yX2_emptyBins wsX2_emptyBins) := goodIn_app (goodIn_of _ (by decide +kernel)) ggL_law_X2_emptyBins
set_option maxRecDepth 20000 in
theorem ggL_law_X1_columns : GoodIn wsL_law wsX1_columns := goodIn_r _ [296, 16, 297, 599, 600, 611, 612, 613, 614, 615, 616, 617, 618, 619] (by decide +kernel) (by decide +kernel)
set_option maxRecDepth 20000 in
theorem gL_law_X1_columns : GoodIn wsL_law (wsV RL 117 RX1 yX1_columns wsX1_columns) := goodIn_app (goodIn_of _ (by decide +kernel)) ggL_law_X1_columns
set_option maxRecDepth 20000 in
theorem ggL_law_X2_columns : GoodIn wsL_law wsX2_columns := goodIn_r _ [301, 50, 289, 290, 291, 5, 292, 77, 601, 602, 603, 604, 605, 606, 607, 608, 609, 610] (by decide +kernel) (by decide +kernel)
set_option maxRecDepth 20000 in
theorem gL_law_X2_columns : GoodIn wsL_law (wsV RL 120 RX2 yX2_columns wsX2_columns) := goodIn_app (goodIn_of _ (by decide +kernel)) ggL_law_X2_columns
set_option maxRecDepth 20000 in
theorem ggL_law_X1_rows : GoodIn wsL_law wsX1_rows := goodIn_r _ [305, 16, 306, 599, 600, 611, 612, 613, 614, 615, 616, 617, 618, 619] (by decide +kernel) (by decide +kernel)
set_option maxRecDepth 20000 in
theorem gL_law_X1_rows : GoodIn wsL_law (wsV RL 121 RX1 yX1_rows wsX1_rows) := goodIn_app (goodIn_of _ (by decide +kernel)) ggL_law_X1_rows
set_option maxRecDepth 20000 in
theorem ggL_law_X2_rows : GoodIn wsL_law wsX2_rows := goodIn_r _ [310, 51, 289, 290, 291, 5, 292, 77, 601, 602, 603, 604, 605, 606, 607, 608, 609, 610] (by decide +kernel) (by decide +kernel)
set_option maxRecDepth 20000 in
theorem gL_law_X2_rows : GoodIn wsL_law (wsV RL 124 RX2 yX2_rows wsX2_rows) := goodIn_app (goodIn_of _ (by decide +kernel)) ggL_law_X2_rows
set_option maxRecDepth 20000 in
theorem ggL_law_L_partAt : GoodIn wsL_law wsL_partAt := goodIn_ca (goodIn_r _ [313, 92, 314, 315, 316, 2, 317, 16, 97, 98, 99, 100, 101, 102, 103, 104, 105, 106, 107, 108, 109, 15, 110, 34, 111, 112, 113, 114, 115, 116, 117, 118, 33, 174, 124, 125, 126, 175, 128, 129, 130, 23, 131, 132, 599, 600, 611, 612, 613, 614, 615, 616, 617, 618, 619] (by decide +kernel) (by decide +kernel)) (goodIn_sub (fun _ h => List.mem_append_left _ (List.mem_append_right _ h)) (by decide +kernel))
set_option maxRecDepth 20000 in
theorem gL_law_L_partAt : GoodIn wsL_law (va_wsS RL 125 yL_partAt wsL_partAt) := goodIn_app (goodIn_of _ (by decide +kernel)) ggL_law_L_partAt
set_option maxRecDepth 20000 in
theorem ggL_law_X2_partAt : GoodIn wsL_law wsX2_partAt := goodIn_r _ [321, 77, 52, 137, 138, 139, 5, 140, 141, 142, 143, 144, 51, 78, 79, 80, 145, 146, 147, 148, 50, 81, 82, 83, 84, 601, 602, 603, 604, 605, 606, 607, 608, 609, 610] (by decide +kernel) (by decide +kernel)
set_option maxRecDepth 20000 in
theorem gL_law_X2_partAt : GoodIn wsL_law (wsV RL 127 RX2 yX2_partAt wsX2_partAt) := goodIn_app (goodIn_of _ (by decide +kernel)) ggL_law_X2_partAt
set_option maxRecDepth 20000 in
theorem ggL_law_L_leadsRight : GoodIn wsL_law wsL_leadsRight := goodIn_ca (goodIn_r _ [324, 92, 325, 326, 327, 2, 328, 16, 97, 98, 99, 100, 101, 102, 103, 104, 105, 106, 107, 108, 109, 15, 110, 34, 111, 112, 113, 114, 115, 116, 117, 118, 33, 174, 124, 125, 126, 184, 181, 182, 183, 25, 127, 128, 129, 130, 23, 131, 132, 599, 600, 611, 612, 613, 614, 615, 616, 617, 618, 619] (by decide +kernel) (by decide +kernel)) (goodIn_sub (fun _ h => List.mem_append_left _ (List.mem_append_right _ h)) (by decide +kernel))
set_option maxRecDepth 20000 in
theorem gL_law_L_leadsRight : GoodIn wsL_law (va_wsS RL 128 yL_leadsRight wsL_leadsRight) := goodIn_app (goodIn_of _ (by decide +kernel)) ggL_law_L_leadsRight
set_option maxRecDepth 20000 in
theorem ggL_law_X2_leadsRight : GoodIn wsL_law wsX2_leadsRight := goodIn_r _ [332, 77, 137, 138, 139, 5, 140, 141, 142, 143, 144, 51, 78, 79, 80, 145, 146, 147, 148, 50, 333, 334, 335, 336, 52, 55, 189, 190, 191, 192, 601, 602, 603, 604, 605, 606, 607, 608, 609, 610] (by decide +kernel) (by decide +kernel)
set_option maxRecDepth 20000 in
theorem gL_law_X2_leadsRight : GoodIn wsL_law (wsV RL 130 RX2 yX2_leadsRight wsX2_leadsRight) := goodIn_app (goodIn_of _ (by decide +kernel)) ggL_law_X2_leadsRight
set_option maxRecDepth 20000 in
theorem ggL_law_L_countAt : GoodIn wsL_law wsL_countAt := goodIn_ca (goodIn_r _ [339, 92, 340, 341, 342, 2, 343, 16, 97, 98, 99, 100, 101, 102, 103, 104, 105, 106, 107, 108, 109, 15, 110, 34, 111, 112, 113, 114, 115, 116, 117, 118, 33, 174, 124, 125, 126, 344, 345, 346, 347, 25, 127, 128, 129, 130, 23, 131, 132, 599, 600, 611, 612, 613, 614, 615, 616, 617, 618, 619] (by decide +kernel) (by decide +kernel)) (goodIn_sub (fun _ h => List.mem_append_left _ (List.mem_append_right _ h)) (by decide +kernel))
set_option maxRecDepth 20000 in
theorem gL_law_L_countAt : GoodIn wsL_law (va_wsS RL 131 yL_countAt wsL_countAt) := goodIn_app (goodIn_of _ (by decide +kernel)) ggL_law_L_countAt
set_option maxRecDepth 20000 in
theorem ggL_law_X2_countAt : GoodIn wsL_law wsX2_countAt := goodIn_r _ [351, 77, 137, 138, 139, 5, 140, 141, 142, 143, 144, 51, 78, 79, 80, 145, 146, 147, 148, 50, 352, 353, 354, 355, 52, 55, 81, 82, 83, 84, 601, 602, 603, 604, 605, 606, 607, 608, 609, 610] (by decide +kernel) (by decide +kernel)
set_option maxRecDepth 20000 in
theorem gL_law_X2_countAt : GoodIn wsL_law (wsV RL 133 RX2 yX2_countAt wsX2_countAt) := goodIn_app (goodIn_of _ (by decide +kernel)) ggL_law_X2_countAt
set_option maxRecDepth 20000 in
theorem ggL_law_L_binOf : GoodIn wsL_law wsL_binOf := goodIn_ca (goodIn_r _ [358, 92, 359, 360, 361, 2, 362, 16, 363, 111, 112, 113, 114, 105, 106, 115, 116, 117, 15, 118, 33, 364, 131, 132, 599, 600, 611, 612, 613, 614, 615, 616, 617, 618, 619] (by decide +kernel) (by decide +kernel)) (goodIn_sub (fun _ h => List.mem_append_left _ (List.mem_append_right _ h)) (by decide +kernel))
set_option maxRecDepth 20000 in
theorem gL_law_L_binOf : GoodIn wsL_law (va_wsS RL 134 yL_binOf wsL_binOf) := goodIn_app (goodIn_of _ (by decide +kernel)) ggL_law_L_binOf
set_option maxRecDepth 20000 in
theorem ggL_law_X2_binOf : GoodIn wsL_law wsX2_binOf := goodIn_r _ [368, 77, 55, 145, 146, 147, 5, 148, 50, 78, 79, 80, 81, 82, 83, 84, 601, 602, 603, 604, 605, 606, 607, 608, 609, 610] (by decide +kernel) (by decide +kernel)
set_option maxRecDepth 20000 in
theorem gL_law_X2_binOf : GoodIn wsL_law (wsV RL 136 RX2 yX2_binOf wsX2_binOf) := goodIn_app (goodIn_of _ (by decide +kernel)) ggL_law_X2_binOf
set_option maxRecDepth 20000 in
theorem ggL_law_X1_lost : GoodIn wsL_law wsX1_lost := goodIn_r _ [372, 16, 373, 599, 600, 611, 612, 613, 614, 615, 616, 617, 618, 619] (by decide +kernel) (by decide +kernel)
set_option maxRecDepth 20000 in
theorem gL_law_X1_lost : GoodIn wsL_law (wsV RL 137 RX1 yX1_lost wsX1_lost) := goodIn_app (goodIn_of _ (by decide +kernel)) ggL_law_X1_lost
set_option maxRecDepth 20000 in
theorem ggL_law_X2_lost : GoodIn wsL_law wsX2_lost := goodIn_r _ [377, 55, 289, 290, 291, 5, 292, 77, 601, 602, 603, 604, 605, 606, 607, 608, 609, 610] (by decide +kernel) (by decide +kernel)
set_option maxRecDepth 20000 in
theorem gL_law_X2_lost : GoodIn wsL_law (wsV RL 140 RX2 yX2_lost wsX2_lost) := goodIn_app (goodIn_of _ (by decide +kernel)) ggL_law_X2_lost
set_option maxRecDepth 20000 in
theorem ggL_law_L_marblesIn : GoodIn wsL_law wsL_marblesIn := goodIn_ca (goodIn_r _ [380, 92, 381, 382, 383, 2, 384, 16, 385, 200, 201, 202, 105, 106, 364, 131, 132, 599, 600, 611, 612, 613, 614, 615, 616, 617, 618, 619] (by decide +kernel) (by decide +kernel)) (goodIn_sub (fun _ h => List.mem_append_left _ (List.mem_append_right _ h)) (by decide +kernel))
set_option maxRecDepth 20000 in
theorem gL_law_L_marblesIn : GoodIn wsL_law (va_wsS RL 141 yL_marblesIn wsL_marblesIn) := goodIn_app (goodIn_of _ (by decide +kernel)) ggL_law_L_marblesIn
set_option maxRecDepth 20000 in
theorem ggL_law_X2_marblesIn : GoodIn wsL_law wsX2_marblesIn := goodIn_r _ [389, 77, 55, 78, 79, 5, 80, 81, 82, 83, 84, 601, 602, 603, 604, 605, 606, 607, 608, 609, 610] (by decide +kernel) (by decide +kernel)
set_option maxRecDepth 20000 in
theorem gL_law_X2_marblesIn : GoodIn wsL_law (wsV RL 143 RX2 yX2_marblesIn wsX2_marblesIn) := goodIn_app (goodIn_of _ (by decide +kernel)) ggL_law_X2_marblesIn
set_option maxRecDepth 20000 in
theorem ggL_law_L_columnOf : GoodIn wsL_law wsL_columnOf := goodIn_ca (goodIn_r _ [392, 92, 393, 394, 395, 2, 396, 16, 397, 200, 201, 202, 105, 106, 364, 131, 132, 599, 600, 611, 612, 613, 614, 615, 616, 617, 618, 619] (by decide +kernel) (by decide +kernel)) (goodIn_sub (fun _ h => List.mem_append_left _ (List.mem_append_right _ h)) (by decide +kernel))
set_option maxRecDepth 20000 in
theorem gL_law_L_columnOf : GoodIn wsL_law (va_wsS RL 144 yL_columnOf wsL_columnOf) := goodIn_app (goodIn_of _ (by decide +kernel)) ggL_law_L_columnOf
set_option maxRecDepth 20000 in
theorem ggL_law_X2_columnOf : GoodIn wsL_law wsX2_columnOf := goodIn_r _ [401, 77, 54, 78, 79, 5, 80, 81, 82, 83, 84, 601, 602, 603, 604, 605, 606, 607, 608, 609, 610] (by decide +kernel) (by decide +kernel)
set_option maxRecDepth 20000 in
theorem gL_law_X2_columnOf : GoodIn wsL_law (wsV RL 146 RX2 yX2_columnOf wsX2_columnOf) := goodIn_app (goodIn_of _ (by decide +kernel)) ggL_law_X2_columnOf
set_option maxRecDepth 20000 in
theorem ggL_law_X1_toggles : GoodIn wsL_law wsX1_toggles := goodIn_r _ [405, 16, 406, 407, 408, 15, 409, 23, 599, 600, 611, 612, 613, 614, 615, 616, 617, 618, 619] (by decide +kernel) (by decide +kernel)
set_option maxRecDepth 20000 in
theorem gL_law_X1_toggles : GoodIn wsL_law (wsV RL 147 RX1 yX1_toggles wsX1_toggles) := goodIn_app (goodIn_of _ (by decide +kernel)) ggL_law_X1_toggles
set_option maxRecDepth 20000 in
theorem ggL_law_X2_toggles : GoodIn wsL_law wsX2_toggles := goodIn_r _ [413, 414, 415, 416, 5, 417, 52, 289, 290, 291, 292, 77, 601, 602, 603, 604, 605, 606, 607, 608, 609, 610] (by decide +kernel) (by decide +kernel)
set_option maxRecDepth 20000 in
theorem gL_law_X2_toggles : GoodIn wsL_law (wsV RL 150 RX2 yX2_toggles wsX2_toggles) := goodIn_app (goodIn_of _ (by decide +kernel)) ggL_law_X2_toggles
set_option maxRecDepth 20000 in
theorem ggL_law_L_numberIn : GoodIn wsL_law wsL_numberIn := goodIn_ca (goodIn_r _ [420, 92, 421, 422, 423, 2, 424, 16, 101, 102, 103, 104, 105, 106, 107, 108, 109, 15, 110, 34, 425, 426, 427, 428, 33, 123, 124, 125, 126, 127, 128, 129, 130, 23, 131, 132, 180, 181, 182, 183, 25, 599, 600, 611, 612, 613, 614, 615, 616, 617, 618, 619] (by decide +kernel) (by decide +kernel)) (goodIn_sub (fun _ h => List.mem_append_left _ (List.mem_append_right _ h)) (by decide +kernel))
set_option maxRecDepth 20000 in
theorem gL_law_L_numberIn : GoodIn wsL_law (va_wsS RL 151 yL_numberIn wsL_numberIn) := goodIn_app (goodIn_of _ (by decide +kernel)) ggL_law_L_numberIn
set_option maxRecDepth 20000 in
theorem ggL_law_X2_numberIn : GoodIn wsL_law wsX2_numberIn := goodIn_r _ [432, 77, 141, 142, 143, 5, 144, 51, 78, 79, 80, 433, 434, 435, 436, 50, 52, 333, 334, 335, 336, 55, 81, 82, 83, 84, 601, 602, 603, 604, 605, 606, 607, 608, 609, 610] (by decide +kernel) (by decide +kernel)
set_option maxRecDepth 20000 in
theorem gL_law_X2_numberIn : GoodIn wsL_law (wsV RL 153 RX2 yX2_numberIn wsX2_numberIn) := goodIn_app (goodIn_of _ (by decide +kernel)) ggL_law_X2_numberIn
set_option maxRecDepth 20000 in
theorem ggL_law_L_wouldLand : GoodIn wsL_law wsL_wouldLand := goodIn_ca (goodIn_r _ [439, 92, 440, 441, 442, 2, 443, 17, 16, 111, 112, 113, 114, 105, 106, 115, 116, 117, 15, 118, 33, 444, 445, 446, 447, 34, 35, 23, 24, 25, 26, 27, 28, 448, 449, 450, 44, 45, 218, 219, 220, 221, 222, 223, 224, 225, 123, 124, 125, 126, 226, 227, 228, 229, 131, 132, 230, 599, 600, 611, 612, 613, 614, 615, 616, 617, 618, 619] (by decide +kernel) (by decide +kernel)) (goodIn_sub (fun _ h => List.mem_append_left _ (List.mem_append_right _ h)) (by decide +kernel))
set_option maxRecDepth 20000 in
theorem gL_law_L_wouldLand : GoodIn wsL_law (va_wsS RL 154 yL_wouldLand wsL_wouldLand) := goodIn_app (goodIn_of _ (by decide +kernel)) ggL_law_L_wouldLand
set_option maxRecDepth 20000 in
theorem ggL_law_X2_wouldLand : GoodIn wsL_law wsX2_wouldLand := goodIn_r _ [454, 77, 145, 146, 147, 5, 148, 50, 78, 79, 80, 455, 456, 457, 458, 459, 460, 461, 462, 55, 56, 463, 464, 465, 466, 235, 236, 237, 238, 239, 57, 51, 240, 241, 242, 243, 52, 53, 467, 468, 469, 470, 81, 82, 83, 84, 601, 602, 603, 604, 605, 606, 607, 608, 609, 610] (by decide +kernel) (by decide +kernel)
set_option maxRecDepth 20000 in
theorem gL_law_X2_wouldLand : GoodIn wsL_law (wsV RL 156 RX2 yX2_wouldLand wsX2_wouldLand) := goodIn_app (goodIn_of _ (by decide +kernel)) ggL_law_X2_wouldLand
set_option maxRecDepth 20000 in
theorem ggL_law_L_wouldBeIn : GoodIn wsL_law wsL_wouldBeIn := goodIn_ca (goodIn_r _ [473, 92, 474, 475, 476, 2, 477, 17, 16, 111, 112, 113, 114, 105, 106, 115, 116, 117, 15, 118, 33, 101, 102, 103, 104, 107, 108, 109, 110, 34, 444, 445, 446, 447, 35, 23, 24, 25, 26, 27, 28, 448, 449, 450, 44, 45, 478, 223, 224, 225, 123, 124, 125, 126, 226, 227, 228, 229, 131, 132, 230, 599, 600, 611, 612, 613, 614, 615, 616, 617, 618, 619] (by decide +kernel) (by decide +kernel)) (goodIn_sub (fun _ h => List.mem_append_left _ (List.mem_append_right _ h)) (by decide +kernel))
set_option maxRecDepth 20000 in
theorem gL_law_L_wouldBeIn : GoodIn wsL_law (va_wsS RL 157 yL_wouldBeIn wsL_wouldBeIn) := goodIn_app (goodIn_of _ (by decide +kernel)) ggL_law_L_wouldBeIn
set_option maxRecDepth 20000 in
theorem ggL_law_X2_wouldBeIn : GoodIn wsL_law wsX2_wouldBeIn := goodIn_r _ [482, 77, 57, 145, 146, 147, 5, 148, 50, 78, 79, 80, 141, 142, 143, 144, 51, 81, 82, 83, 84, 455, 456, 457, 458, 459, 460, 461, 462, 55, 56, 463, 464, 465, 466, 235, 236, 237, 238, 239, 240, 241, 242, 243, 52, 53, 467, 468, 469, 470, 601, 602, 603, 604, 605, 606, 607, 608, 609, 610] (by decide +kernel) (by decide +kernel)
set_option maxRecDepth 20000 in
theorem gL_law_X2_wouldBeIn : GoodIn wsL_law (wsV RL 159 RX2 yX2_wouldBeIn wsX2_wouldBeIn) := goodIn_app (goodIn_of _ (by decide +kernel)) ggL_law_X2_wouldBeIn
set_option maxRecDepth 20000 in
theorem ggL_law_L_wouldTurn : GoodIn wsL_law wsL_wouldTurn := goodIn_ca (goodIn_r _ [485, 92, 486, 487, 488, 2, 489, 17, 16, 111, 112, 113, 114, 105, 106, 115, 116, 117, 15, 118, 33, 444, 445, 446, 447, 34, 35, 23, 24, 25, 26, 27, 28, 448, 449, 450, 44, 45, 218, 219, 220, 221, 222, 223, 224, 225, 123, 124, 125, 126, 226, 227, 228, 229, 131, 132, 230, 490, 491, 492, 493, 180, 181, 182, 183, 127, 128, 129, 130, 599, 600, 611, 612, 613, 614, 615, 616, 617, 618, 619] (by decide +kernel) (by decide +kernel)) (goodIn_sub (fun _ h => List.mem_append_left _ (List.mem_append_right _ h)) (by decide +kernel))
set_option maxRecDepth 20000 in
theorem gL_law_L_wouldTurn : GoodIn wsL_law (va_wsS RL 160 yL_wouldTurn wsL_wouldTurn) := goodIn_app (goodIn_of _ (by decide +kernel)) ggL_law_L_wouldTurn
set_option maxRecDepth 20000 in
theorem ggL_law_X2_wouldTurn : GoodIn wsL_law wsX2_wouldTurn := goodIn_r _ [497, 77, 145, 146, 147, 5, 148, 50, 78, 79, 80, 498, 499, 500, 501, 239, 455, 456, 457, 458, 459, 460, 461, 462, 55, 56, 463, 464, 465, 466, 235, 236, 237, 238, 57, 51, 240, 241, 242, 243, 52, 53, 467, 468, 469, 470, 81, 82, 83, 84, 601, 602, 603, 604, 605, 606, 607, 608, 609, 610] (by decide +kernel) (by decide +kernel)
set_option maxRecDepth 20000 in
theorem gL_law_X2_wouldTurn : GoodIn wsL_law (wsV RL 162 RX2 yX2_wouldTurn wsX2_wouldTurn) := goodIn_app (goodIn_of _ (by decide +kernel)) ggL_law_X2_wouldTurn
set_option maxRecDepth 20000 in
theorem ggL_law_L_lastLands : GoodIn wsL_law wsL_lastLands := goodIn_ca (goodIn_ca (goodIn_r _ [504, 92, 62, 505, 506, 507, 2, 508, 17, 16, 111, 112, 113, 114, 105, 106, 115, 116, 117, 15, 118, 33, 67, 68, 69, 70, 71, 444, 445, 446, 447, 34, 35, 23, 24, 25, 26, 27, 28, 448, 449, 450, 44, 45, 218, 219, 220, 221, 222, 223, 224, 225, 123, 124, 125, 126, 226, 227, 228, 229, 131, 132, 230, 599, 600, 611, 612, 613, 614, 615, 616, 617, 618, 619] (by decide +kernel) (by decide +kernel)) (goodIn_sub (fun _ h => List.mem_append_left _ (List.mem_append_right _ h)) (by decide +kernel))) (goodIn_sub (fun _ h => List.mem_append_left _ (List.mem_append_left _ (List.mem_append_right _ h))) (by decide +kernel))
set_option maxRecDepth 20000 in
theorem gL_law_L_lastLands : GoodIn wsL_law (va_wsS RL 163 yL_lastLands wsL_lastLands) := goodIn_app (goodIn_of _ (by decide +kernel)) ggL_law_L_lastLands
set_option maxRecDepth 20000 in
theorem ggL_law_X2_lastLands : GoodIn wsL_law wsX2_lastLands := goodIn_r _ [512, 77, 145, 146, 147, 5, 148, 50, 78, 79, 80, 81, 82, 83, 84, 455, 456, 457, 458, 459, 460, 461, 462, 55, 56, 463, 464, 465, 466, 235, 236, 237, 238, 239, 57, 51, 240, 241, 242, 243, 52, 53, 467, 468, 469, 470, 601, 602, 603, 604, 605, 606, 607, 608, 609, 610] (by decide +kernel) (by decide +kernel)
set_option maxRecDepth 20000 in
theorem gL_law_X2_lastLands : GoodIn wsL_law (wsV RL 165 RX2 yX2_lastLands wsX2_lastLands) := goodIn_app (goodIn_of _ (by decide +kernel)) ggL_law_X2_lastLands
set_option maxRecDepth 20000 in
theorem ggL_law_L_asBeforeIn : GoodIn wsL_law wsL_asBeforeIn := goodIn_ca (goodIn_r _ [515, 92, 516, 517, 518, 2, 519, 17, 16, 111, 112, 113, 114, 105, 106, 115, 116, 117, 15, 118, 33, 444, 445, 446, 447, 34, 35, 23, 24, 25, 26, 27, 28, 448, 449, 450, 44, 45, 218, 219, 220, 221, 222, 223, 224, 225, 123, 124, 125, 126, 226, 227, 228, 229, 131, 132, 230, 520, 521, 522, 523, 599, 600, 611, 612, 613, 614, 615, 616, 617, 618, 619] (by decide +kernel) (by decide +kernel)) (goodIn_sub (fun _ h => List.mem_append_left _ (List.mem_append_right _ h)) (by decide +kernel))
set_option maxRecDepth 20000 in
theorem gL_law_L_asBeforeIn : GoodIn wsL_law (va_wsS RL 166 yL_asBeforeIn wsL_asBeforeIn) := goodIn_app (goodIn_of _ (by decide +kernel)) ggL_law_L_asBeforeIn
set_option maxRecDepth 20000 in
theorem ggL_law_X2_asBeforeIn : GoodIn wsL_law wsX2_asBeforeIn := goodIn_r _ [527, 77, 145, 146, 147, 5, 148, 50, 78, 79, 80, 528, 529, 530, 531, 459, 460, 461, 462, 55, 56, 463, 464, 465, 466, 235, 236, 237, 238, 239, 57, 51, 240, 241, 242, 243, 52, 53, 532, 533, 534, 535, 467, 468, 469, 470, 81, 82, 83, 84, 601, 602, 603, 604, 605, 606, 607, 608, 609, 610] (by decide +kernel) (by decide +kernel)
set_option maxRecDepth 20000 in
theorem gL_law_X2_asBeforeIn : GoodIn wsL_law (wsV RL 168 RX2 yX2_asBeforeIn wsX2_asBeforeIn) := goodIn_app (goodIn_of _ (by decide +kernel)) ggL_law_X2_asBeforeIn
set_option maxRecDepth 20000 in
theorem ggL_law_L_wouldRun : GoodIn wsL_law wsL_wouldRun := goodIn_ca (goodIn_r _ [538, 92, 539, 540, 541, 2, 542, 17, 16, 200, 201, 202, 105, 106, 444, 445, 446, 15, 447, 33, 34, 35, 23, 24, 25, 26, 27, 28, 448, 449, 450, 44, 45, 251, 252, 253, 254, 131, 132, 255, 219, 220, 221, 222, 223, 224, 225, 123, 124, 125, 126, 226, 227, 228, 229, 230, 116, 117, 118, 256, 257, 258, 259, 599, 600, 611, 612, 613, 614, 615, 616, 617, 618, 619] (by decide +kernel) (by decide +kernel)) (goodIn_sub (fun _ h => List.mem_append_left _ (List.mem_append_right _ h)) (by decide +kernel))
set_option maxRecDepth 20000 in
theorem gL_law_L_wouldRun : GoodIn wsL_law (va_wsS RL 169 yL_wouldRun wsL_wouldRun) := goodIn_app (goodIn_of _ (by decide +kernel)) ggL_law_L_wouldRun
set_option maxRecDepth 20000 in
theorem ggL_law_X2_wouldRun : GoodIn wsL_law wsX2_wouldRun := goodIn_r _ [546, 77, 78, 79, 5, 80, 547, 548, 549, 550, 459, 460, 461, 462, 55, 56, 463, 464, 465, 466, 264, 265, 266, 267, 54, 50, 235, 236, 237, 238, 239, 57, 51, 240, 241, 242, 243, 52, 53, 145, 146, 147, 148, 268, 269, 270, 271, 467, 468, 469, 470, 81, 82, 83, 84, 601, 602, 603, 604, 605, 606, 607, 608, 609, 610] (by decide +kernel) (by decide +kernel)
set_option maxRecDepth 20000 in
theorem gL_law_X2_wouldRun : GoodIn wsL_law (wsV RL 171 RX2 yX2_wouldRun wsX2_wouldRun) := goodIn_app (goodIn_of _ (by decide +kernel)) ggL_law_X2_wouldRun
set_option maxRecDepth 20000 in
theorem ggL_law_X1_bestColumn : GoodIn wsL_law wsX1_bestColumn := goodIn_ca (goodIn_r _ [554, 555, 294, 295, 2, 296, 16, 297, 556, 487, 488, 489, 17, 111, 112, 113, 114, 105, 106, 115, 116, 117, 15, 118, 33, 444, 445, 446, 447, 34, 35, 23, 24, 25, 26, 27, 28, 448, 449, 450, 44, 45, 218, 219, 220, 221, 222, 223, 224, 225, 123, 124, 125, 126, 226, 227, 228, 229, 131, 132, 230, 490, 491, 492, 493, 180, 181, 182, 183, 127, 128, 129, 130, 599, 600, 611, 612, 613, 614, 615, 616, 617, 618, 619] (by decide +kernel) (by decide +kernel)) (goodIn_sub (fun _ h => List.mem_append_left _ (List.mem_append_right _ h)) (by decide +kernel))
set_option maxRecDepth 20000 in
theorem gL_law_X1_bestColumn : GoodIn wsL_law (wsV RL 172 RX1 yX1_bestColumn wsX1_bestColumn) := goodIn_app (goodIn_of _ (by decide +kernel)) ggL_law_X1_bestColumn
set_option maxRecDepth 20000 in
theorem ggL_law_X2_bestColumn : GoodIn wsL_law wsX2_bestColumn := goodIn_r _ [560, 561, 562, 563, 5, 564, 50, 498, 499, 500, 501, 239, 455, 456, 457, 458, 459, 460, 461, 462, 55, 56, 463, 464, 465, 466, 235, 236, 237, 238, 57, 51, 240, 241, 242, 243, 52, 53, 145, 146, 147, 148, 78, 79, 80, 467, 468, 469, 470, 289, 290, 291, 292, 77, 601, 602, 603, 604, 605, 606, 607, 608, 609, 610] (by decide +kernel) (by decide +kernel)
set_option maxRecDepth 20000 in
theorem gL_law_X2_bestColumn : GoodIn wsL_law (wsV RL 175 RX2 yX2_bestColumn wsX2_bestColumn) := goodIn_app (goodIn_of _ (by decide +kernel)) ggL_law_X2_bestColumn
set_option maxRecDepth 20000 in
theorem ggL_law_X1_meanInBins : GoodIn wsL_law wsX1_meanInBins := goodIn_r _ [568, 16, 555, 294, 295, 2, 296, 297, 276, 277, 278, 15, 279, 26, 599, 600, 611, 612, 613, 614, 615, 616, 617, 618, 619] (by decide +kernel) (by decide +kernel)
set_option maxRecDepth 20000 in
theorem gL_law_X1_meanInBins : GoodIn wsL_law (wsV RL 176 RX1 yX1_meanInBins wsX1_meanInBins) := goodIn_app (goodIn_of _ (by decide +kernel)) ggL_law_X1_meanInBins
set_option maxRecDepth 20000 in
theorem ggL_law_X2_meanInBins : GoodIn wsL_law wsX2_meanInBins := goodIn_r _ [572, 77, 50, 285, 286, 287, 5, 288, 55, 601, 602, 603, 604, 605, 606, 607, 608, 609, 610] (by decide +kernel) (by decide +kernel)
set_option maxRecDepth 20000 in
theorem gL_law_X2_meanInBins : GoodIn wsL_law (wsV RL 180 RX2 yX2_meanInBins wsX2_meanInBins) := goodIn_app (goodIn_of _ (by decide +kernel)) ggL_law_X2_meanInBins
set_option maxRecDepth 20000 in
theorem ggL_law_X1_digest : GoodIn wsL_law wsX1_digest := goodIn_ca (goodIn_r _ [576, 577, 578, 555, 294, 295, 2, 296, 16, 297, 579, 303, 304, 305, 306, 580, 370, 371, 372, 373, 581, 403, 404, 405, 406, 407, 408, 15, 409, 23, 582, 552, 553, 554, 556, 487, 488, 489, 17, 111, 112, 113, 114, 105, 106, 115, 116, 117, 118, 33, 444, 445, 446, 447, 34, 35, 24, 25, 26, 27, 28, 448, 449, 450, 44, 45, 218, 219, 220, 221, 222, 223, 224, 225, 123, 124, 125, 126, 226, 227, 228, 229, 131, 132, 230, 490, 491, 492, 493, 180, 181, 182, 183, 127, 128, 129, 130, 583, 382, 383, 384, 385, 200, 201, 202, 364, 584, 394, 395, 396, 397, 585, 540, 541, 542, 251, 252, 253, 254, 255, 256, 257, 258, 259, 586, 422, 423, 424, 101, 102, 103, 104, 107, 108, 109, 110, 425, 426, 427, 428, 587, 315, 316, 317, 97, 98, 99, 100, 174, 175, 588, 326, 327, 328, 184, 589, 341, 342, 343, 344, 345, 346, 347, 590, 360, 361, 362, 363, 591, 441, 442, 443, 592, 517, 518, 519, 520, 521, 522, 523, 599, 600, 611, 612, 613, 614, 615, 616, 617, 618, 619] (by decide +kernel) (by decide +kernel)) (goodIn_sub (fun _ h => List.mem_append_left _ (List.mem_append_right _ h)) (by decide +kernel))
set_option maxRecDepth 20000 in
theorem gL_law_X1_digest : GoodIn wsL_law (wsV RL 181 RX1 yX1_digest wsX1_digest) := goodIn_app (goodIn_of _ (by decide +kernel)) ggL_law_X1_digest
set_option maxRecDepth 20000 in
theorem ggL_law_X2_digest : GoodIn wsL_law wsX2_digest := goodIn_r _ [596, 77, 22, 50, 51, 55, 597, 598, 54, 52, 414, 415, 416, 5, 417, 561, 562, 563, 564, 498, 499, 500, 501, 239, 455, 456, 457, 458, 459, 460, 461, 462, 56, 463, 464, 465, 466, 235, 236, 237, 238, 57, 240, 241, 242, 243, 53, 145, 146, 147, 148, 78, 79, 80, 467, 468, 469, 470, 547, 548, 549, 550, 264, 265, 266, 267, 268, 269, 270, 271, 433, 434, 435, 436, 333, 334, 335, 336, 352, 353, 354, 355, 528, 529, 530, 531, 532, 533, 534, 535, 601, 602, 603, 604, 605, 606, 607, 608, 609, 610] (by decide +kernel) (by decide +kernel)
set_option maxRecDepth 20000 in
theorem gL_law_X2_digest : GoodIn wsL_law (wsV RL 185 RX2 yX2_digest wsX2_digest) := goodIn_app (goodIn_of _ (by decide +kernel)) ggL_law_X2_digest
theorem dL_law_0 : decode cL_law 0 = .ok (.new 8, 3) := by decide +kernel
theorem dL_law_3 : decode cL_law 3 = .ok (.dup, 1) := by decide +kernel
theorem dL_law_4 : decode cL_law 4 = .ok (.invokespecial 79, 3) := by decide +kernel
theorem dL_law_7 : decode cL_law 7 = .ok (.astore_n 1, 1) := by decide +kernel
theorem dL_law_8 : decode cL_law 8 = .ok (.new 80, 3) := by decide +kernel
theorem dL_law_11 : decode cL_law 11 = .ok (.dup, 1) := by decide +kernel
theorem dL_law_12 : decode cL_law 12 = .ok (.invokespecial 82, 3) := by decide +kernel
theorem dL_law_15 : decode cL_law 15 = .ok (.astore_n 2, 1) := by decide +kernel
theorem dL_law_16 : decode cL_law 16 = .ok (.iconst 1, 1) := by decide +kernel
theorem dL_law_17 : decode cL_law 17 = .ok (.newarray .long, 2) := by decide +kernel
theorem dL_law_19 : decode cL_law 19 = .ok (.astore_n 3, 1) := by decide +kernel
theorem dL_law_20 : decode cL_law 20 = .ok (.iconst 0, 1) := by decide +kernel
theorem dL_law_21 : decode cL_law 21 = .ok (.istore 4, 2) := by decide +kernel
theorem dL_law_23 : decode cL_law 23 = .ok (.iload 4, 2) := by decide +kernel
theorem dL_law_25 : decode cL_law 25 = .ok (.aload_n 0, 1) := by decide +kernel
theorem dL_law_26 : decode cL_law 26 = .ok (.arraylength, 1) := by decide +kernel
theorem dL_law_27 : decode cL_law 27 = .ok (.iconst 4, 1) := by decide +kernel
theorem dL_law_28 : decode cL_law 28 = .ok (.isub, 1) := by decide +kernel
theorem dL_law_29 : decode cL_law 29 = .ok (.if_icmp .gt 1576, 3) := by decide +kernel
theorem dL_law_32 : decode cL_law 32 = .ok (.aload_n 0, 1) := by decide +kernel
theorem dL_law_33 : decode cL_law 33 = .ok (.iload 4, 2) := by decide +kernel
theorem dL_law_35 : decode cL_law 35 = .ok (.iaload, 1) := by decide +kernel
theorem dL_law_36 : decode cL_law 36 = .ok (.bipush 31, 2) := by decide +kernel
theorem dL_law_38 : decode cL_law 38 = .ok (.iand, 1) := by decide +kernel
theorem dL_law_39 : decode cL_law 39 = .ok (.tableswitch 1560 0 27 #[125, 193, 273, 353, 428, 508, 564, 632, 645, 658, 671, 739, 814, 882, 938, 951, 1007, 1063, 1076, 1132, 1188, 1256, 1312, 1380, 1436, 1492, 1505, 1546], 125) := by decide +kernel
theorem dL_law_164 : decode cL_law 164 = .ok (.aload_n 1, 1) := by decide +kernel
theorem dL_law_165 : decode cL_law 165 = .ok (.aload_n 0, 1) := by decide +kernel
theorem dL_law_166 : decode cL_law 166 = .ok (.iload 4, 2) := by decide +kernel
theorem dL_law_168 : decode cL_law 168 = .ok (.iconst 1, 1) := by decide +kernel
theorem dL_law_169 : decode cL_law 169 = .ok (.iadd, 1) := by decide +kernel
theorem dL_law_170 : decode cL_law 170 = .ok (.iaload, 1) := by decide +kernel
theorem dL_law_171 : decode cL_law 171 = .ok (.aload_n 0, 1) := by decide +kernel
theorem dL_law_172 : decode cL_law 172 = .ok (.iload 4, 2) := by decide +kernel
theorem dL_law_174 : decode cL_law 174 = .ok (.iconst 2, 1) := by decide +kernel
theorem dL_law_175 : decode cL_law 175 = .ok (.iadd, 1) := by decide +kernel
theorem dL_law_176 : decode cL_law 176 = .ok (.iaload, 1) := by decide +kernel
theorem dL_law_177 : decode cL_law 177 = .ok (.aload_n 3, 1) := by decide +kernel
theorem dL_law_178 : decode cL_law 178 = .ok (.invokestatic 83, 3) := by decide +kernel
theorem dL_law_181 : decode cL_law 181 = .ok (.istore 5, 2) := by decide +kernel
theorem dL_law_183 : decode cL_law 183 = .ok (.aload_n 2, 1) := by decide +kernel
theorem dL_law_184 : decode cL_law 184 = .ok (.aload_n 0, 1) := by decide +kernel
theorem dL_law_185 : decode cL_law 185 = .ok (.iload 4, 2) := by decide +kernel
theorem dL_law_187 : decode cL_law 187 = .ok (.iconst 1, 1) := by decide +kernel
theorem dL_law_188 : decode cL_law 188 = .ok (.iadd, 1) := by decide +kernel
theorem dL_law_189 : decode cL_law 189 = .ok (.iaload, 1) := by decide +kernel
theorem dL_law_190 : decode cL_law 190 = .ok (.aload_n 0, 1) := by decide +kernel
theorem dL_law_191 : decode cL_law 191 = .ok (.iload 4, 2) := by decide +kernel
theorem dL_law_193 : decode cL_law 193 = .ok (.iconst 2, 1) := by decide +kernel
theorem dL_law_194 : decode cL_law 194 = .ok (.iadd, 1) := by decide +kernel
theorem dL_law_195 : decode cL_law 195 = .ok (.iaload, 1) := by decide +kernel
theorem dL_law_196 : decode cL_law 196 = .ok (.invokevirtual 88, 3) := by decide +kernel
theorem dL_law_199 : decode cL_law 199 = .ok (.istore 6, 2) := by decide +kernel
theorem dL_law_201 : decode cL_law 201 = .ok (.aload_n 2, 1) := by decide +kernel
theorem dL_law_202 : decode cL_law 202 = .ok (.invokevirtual 89, 3) := by decide +kernel
theorem dL_law_205 : decode cL_law 205 = .ok (.iload 5, 2) := by decide +kernel
theorem dL_law_207 : decode cL_law 207 = .ok (.if_icmp .eq 5, 3) := by decide +kernel
theorem dL_law_210 : decode cL_law 210 = .ok (.iconst 0, 1) := by decide +kernel
theorem dL_law_211 : decode cL_law 211 = .ok (.ireturn, 1) := by decide +kernel
theorem dL_law_212 : decode cL_law 212 = .ok (.iload 5, 2) := by decide +kernel
theorem dL_law_214 : decode cL_law 214 = .ok (.ifCond .ne 15, 3) := by decide +kernel
theorem dL_law_217 : decode cL_law 217 = .ok (.aload_n 3, 1) := by decide +kernel
theorem dL_law_218 : decode cL_law 218 = .ok (.iconst 0, 1) := by decide +kernel
theorem dL_law_219 : decode cL_law 219 = .ok (.laload, 1) := by decide +kernel
theorem dL_law_220 : decode cL_law 220 = .ok (.iload 6, 2) := by decide +kernel
theorem dL_law_222 : decode cL_law 222 = .ok (.i2l, 1) := by decide +kernel
theorem dL_law_223 : decode cL_law 223 = .ok (.lcmp, 1) := by decide +kernel
theorem dL_law_224 : decode cL_law 224 = .ok (.ifCond .eq 5, 3) := by decide +kernel
theorem dL_law_227 : decode cL_law 227 = .ok (.iconst 0, 1) := by decide +kernel
theorem dL_law_228 : decode cL_law 228 = .ok (.ireturn, 1) := by decide +kernel
theorem dL_law_229 : decode cL_law 229 = .ok (.goto 1370, 3) := by decide +kernel
theorem dL_law_232 : decode cL_law 232 = .ok (.aload_n 1, 1) := by decide +kernel
theorem dL_law_233 : decode cL_law 233 = .ok (.aload_n 0, 1) := by decide +kernel
theorem dL_law_234 : decode cL_law 234 = .ok (.iload 4, 2) := by decide +kernel
theorem dL_law_236 : decode cL_law 236 = .ok (.iconst 1, 1) := by decide +kernel
theorem dL_law_237 : decode cL_law 237 = .ok (.iadd, 1) := by decide +kernel
theorem dL_law_238 : decode cL_law 238 = .ok (.iaload, 1) := by decide +kernel
theorem dL_law_239 : decode cL_law 239 = .ok (.aload_n 0, 1) := by decide +kernel
theorem dL_law_240 : decode cL_law 240 = .ok (.iload 4, 2) := by decide +kernel
theorem dL_law_242 : decode cL_law 242 = .ok (.iconst 2, 1) := by decide +kernel
theorem dL_law_243 : decode cL_law 243 = .ok (.iadd, 1) := by decide +kernel
theorem dL_law_244 : decode cL_law 244 = .ok (.iaload, 1) := by decide +kernel
theorem dL_law_245 : decode cL_law 245 = .ok (.aload_n 0, 1) := by decide +kernel
theorem dL_law_246 : decode cL_law 246 = .ok (.iload 4, 2) := by decide +kernel
theorem dL_law_248 : decode cL_law 248 = .ok (.iconst 3, 1) := by decide +kernel
theorem dL_law_249 : decode cL_law 249 = .ok (.iadd, 1) := by decide +kernel
theorem dL_law_250 : decode cL_law 250 = .ok (.iaload, 1) := by decide +kernel
theorem dL_law_251 : decode cL_law 251 = .ok (.aload_n 3, 1) := by decide +kernel
theorem dL_law_252 : decode cL_law 252 = .ok (.invokestatic 93, 3) := by decide +kernel
theorem dL_law_255 : decode cL_law 255 = .ok (.istore 5, 2) := by decide +kernel
theorem dL_law_257 : decode cL_law 257 = .ok (.aload_n 2, 1) := by decide +kernel
theorem dL_law_258 : decode cL_law 258 = .ok (.aload_n 0, 1) := by decide +kernel
theorem dL_law_259 : decode cL_law 259 = .ok (.iload 4, 2) := by decide +kernel
theorem dL_law_261 : decode cL_law 261 = .ok (.iconst 1, 1) := by decide +kernel
theorem dL_law_262 : decode cL_law 262 = .ok (.iadd, 1) := by decide +kernel
theorem dL_law_263 : decode cL_law 263 = .ok (.iaload, 1) := by decide +kernel
theorem dL_law_264 : decode cL_law 264 = .ok (.aload_n 0, 1) := by decide +kernel
theorem dL_law_265 : decode cL_law 265 = .ok (.iload 4, 2) := by decide +kernel
theorem dL_law_267 : decode cL_law 267 = .ok (.iconst 2, 1) := by decide +kernel
theorem dL_law_268 : decode cL_law 268 = .ok (.iadd, 1) := by decide +kernel
theorem dL_law_269 : decode cL_law 269 = .ok (.iaload, 1) := by decide +kernel
theorem dL_law_270 : decode cL_law 270 = .ok (.aload_n 0, 1) := by decide +kernel
theorem dL_law_271 : decode cL_law 271 = .ok (.iload 4, 2) := by decide +kernel
theorem dL_law_273 : decode cL_law 273 = .ok (.iconst 3, 1) := by decide +kernel
theorem dL_law_274 : decode cL_law 274 = .ok (.iadd, 1) := by decide +kernel
theorem dL_law_275 : decode cL_law 275 = .ok (.iaload, 1) := by decide +kernel
theorem dL_law_276 : decode cL_law 276 = .ok (.invokevirtual 96, 3) := by decide +kernel
theorem dL_law_279 : decode cL_law 279 = .ok (.istore 6, 2) := by decide +kernel
theorem dL_law_281 : decode cL_law 281 = .ok (.aload_n 2, 1) := by decide +kernel
theorem dL_law_282 : decode cL_law 282 = .ok (.invokevirtual 89, 3) := by decide +kernel
theorem dL_law_285 : decode cL_law 285 = .ok (.iload 5, 2) := by decide +kernel
theorem dL_law_287 : decode cL_law 287 = .ok (.if_icmp .eq 5, 3) := by decide +kernel
theorem dL_law_290 : decode cL_law 290 = .ok (.iconst 0, 1) := by decide +kernel
theorem dL_law_291 : decode cL_law 291 = .ok (.ireturn, 1) := by decide +kernel
theorem dL_law_292 : decode cL_law 292 = .ok (.iload 5, 2) := by decide +kernel
theorem dL_law_294 : decode cL_law 294 = .ok (.ifCond .ne 15, 3) := by decide +kernel
theorem dL_law_297 : decode cL_law 297 = .ok (.aload_n 3, 1) := by decide +kernel
theorem dL_law_298 : decode cL_law 298 = .ok (.iconst 0, 1) := by decide +kernel
theorem dL_law_299 : decode cL_law 299 = .ok (.laload, 1) := by decide +kernel
theorem dL_law_300 : decode cL_law 300 = .ok (.iload 6, 2) := by decide +kernel
theorem dL_law_302 : decode cL_law 302 = .ok (.i2l, 1) := by decide +kernel
theorem dL_law_303 : decode cL_law 303 = .ok (.lcmp, 1) := by decide +kernel
theorem dL_law_304 : decode cL_law 304 = .ok (.ifCond .eq 5, 3) := by decide +kernel
theorem dL_law_307 : decode cL_law 307 = .ok (.iconst 0, 1) := by decide +kernel
theorem dL_law_308 : decode cL_law 308 = .ok (.ireturn, 1) := by decide +kernel
theorem dL_law_309 : decode cL_law 309 = .ok (.goto 1290, 3) := by decide +kernel
theorem dL_law_312 : decode cL_law 312 = .ok (.aload_n 1, 1) := by decide +kernel
theorem dL_law_313 : decode cL_law 313 = .ok (.aload_n 0, 1) := by decide +kernel
theorem dL_law_314 : decode cL_law 314 = .ok (.iload 4, 2) := by decide +kernel
theorem dL_law_316 : decode cL_law 316 = .ok (.iconst 1, 1) := by decide +kernel
theorem dL_law_317 : decode cL_law 317 = .ok (.iadd, 1) := by decide +kernel
theorem dL_law_318 : decode cL_law 318 = .ok (.iaload, 1) := by decide +kernel
theorem dL_law_319 : decode cL_law 319 = .ok (.aload_n 0, 1) := by decide +kernel
theorem dL_law_320 : decode cL_law 320 = .ok (.iload 4, 2) := by decide +kernel
theorem dL_law_322 : decode cL_law 322 = .ok (.iconst 2, 1) := by decide +kernel
theorem dL_law_323 : decode cL_law 323 = .ok (.iadd, 1) := by decide +kernel
theorem dL_law_324 : decode cL_law 324 = .ok (.iaload, 1) := by decide +kernel
theorem dL_law_325 : decode cL_law 325 = .ok (.aload_n 0, 1) := by decide +kernel
theorem dL_law_326 : decode cL_law 326 = .ok (.iload 4, 2) := by decide +kernel
theorem dL_law_328 : decode cL_law 328 = .ok (.iconst 3, 1) := by decide +kernel
theorem dL_law_329 : decode cL_law 329 = .ok (.iadd, 1) := by decide +kernel
theorem dL_law_330 : decode cL_law 330 = .ok (.iaload, 1) := by decide +kernel
theorem dL_law_331 : decode cL_law 331 = .ok (.aload_n 3, 1) := by decide +kernel
theorem dL_law_332 : decode cL_law 332 = .ok (.invokestatic 97, 3) := by decide +kernel
theorem dL_law_335 : decode cL_law 335 = .ok (.istore 5, 2) := by decide +kernel
theorem dL_law_337 : decode cL_law 337 = .ok (.aload_n 2, 1) := by decide +kernel
theorem dL_law_338 : decode cL_law 338 = .ok (.aload_n 0, 1) := by decide +kernel
theorem dL_law_339 : decode cL_law 339 = .ok (.iload 4, 2) := by decide +kernel
theorem dL_law_341 : decode cL_law 341 = .ok (.iconst 1, 1) := by decide +kernel
theorem dL_law_342 : decode cL_law 342 = .ok (.iadd, 1) := by decide +kernel
theorem dL_law_343 : decode cL_law 343 = .ok (.iaload, 1) := by decide +kernel
theorem dL_law_344 : decode cL_law 344 = .ok (.aload_n 0, 1) := by decide +kernel
theorem dL_law_345 : decode cL_law 345 = .ok (.iload 4, 2) := by decide +kernel
theorem dL_law_347 : decode cL_law 347 = .ok (.iconst 2, 1) := by decide +kernel
theorem dL_law_348 : decode cL_law 348 = .ok (.iadd, 1) := by decide +kernel
theorem dL_law_349 : decode cL_law 349 = .ok (.iaload, 1) := by decide +kernel
theorem dL_law_350 : decode cL_law 350 = .ok (.aload_n 0, 1) := by decide +kernel
theorem dL_law_351 : decode cL_law 351 = .ok (.iload 4, 2) := by decide +kernel
theorem dL_law_353 : decode cL_law 353 = .ok (.iconst 3, 1) := by decide +kernel
theorem dL_law_354 : decode cL_law 354 = .ok (.iadd, 1) := by decide +kernel
theorem dL_law_355 : decode cL_law 355 = .ok (.iaload, 1) := by decide +kernel
theorem dL_law_356 : decode cL_law 356 = .ok (.invokevirtual 99, 3) := by decide +kernel
theorem dL_law_359 : decode cL_law 359 = .ok (.istore 6, 2) := by decide +kernel
theorem dL_law_361 : decode cL_law 361 = .ok (.aload_n 2, 1) := by decide +kernel
theorem dL_law_362 : decode cL_law 362 = .ok (.invokevirtual 89, 3) := by decide +kernel
end
section
theorem dL_law_365 : decode cL_law 365 = .ok (.iload 5, 2) := by decide +kernel
theorem dL_law_367 : decode cL_law 367 = .ok (.if_icmp .eq 5, 3) := by decide +kernel
theorem dL_law_370 : decode cL_law 370 = .ok (.iconst 0, 1) := by decide +kernel
theorem dL_law_371 : decode cL_law 371 = .ok (.ireturn, 1) := by decide +kernel
theorem dL_law_372 : decode cL_law 372 = .ok (.iload 5, 2) := by decide +kernel
theorem dL_law_374 : decode cL_law 374 = .ok (.ifCond .ne 15, 3) := by decide +kernel
theorem dL_law_377 : decode cL_law 377 = .ok (.aload_n 3, 1) := by decide +kernel
theorem dL_law_378 : decode cL_law 378 = .ok (.iconst 0, 1) := by decide +kernel
theorem dL_law_379 : decode cL_law 379 = .ok (.laload, 1) := by decide +kernel
theorem dL_law_380 : decode cL_law 380 = .ok (.iload 6, 2) := by decide +kernel
theorem dL_law_382 : decode cL_law 382 = .ok (.i2l, 1) := by decide +kernel
theorem dL_law_383 : decode cL_law 383 = .ok (.lcmp, 1) := by decide +kernel
theorem dL_law_384 : decode cL_law 384 = .ok (.ifCond .eq 5, 3) := by decide +kernel
theorem dL_law_387 : decode cL_law 387 = .ok (.iconst 0, 1) := by decide +kernel
theorem dL_law_388 : decode cL_law 388 = .ok (.ireturn, 1) := by decide +kernel
theorem dL_law_389 : decode cL_law 389 = .ok (.goto 1210, 3) := by decide +kernel
theorem dL_law_392 : decode cL_law 392 = .ok (.aload_n 1, 1) := by decide +kernel
theorem dL_law_393 : decode cL_law 393 = .ok (.aload_n 0, 1) := by decide +kernel
theorem dL_law_394 : decode cL_law 394 = .ok (.iload 4, 2) := by decide +kernel
theorem dL_law_396 : decode cL_law 396 = .ok (.iconst 1, 1) := by decide +kernel
theorem dL_law_397 : decode cL_law 397 = .ok (.iadd, 1) := by decide +kernel
theorem dL_law_398 : decode cL_law 398 = .ok (.iaload, 1) := by decide +kernel
theorem dL_law_399 : decode cL_law 399 = .ok (.aload_n 0, 1) := by decide +kernel
theorem dL_law_400 : decode cL_law 400 = .ok (.iload 4, 2) := by decide +kernel
theorem dL_law_402 : decode cL_law 402 = .ok (.iconst 2, 1) := by decide +kernel
theorem dL_law_403 : decode cL_law 403 = .ok (.iadd, 1) := by decide +kernel
theorem dL_law_404 : decode cL_law 404 = .ok (.iaload, 1) := by decide +kernel
theorem dL_law_405 : decode cL_law 405 = .ok (.aload_n 3, 1) := by decide +kernel
theorem dL_law_406 : decode cL_law 406 = .ok (.invokestatic 100, 3) := by decide +kernel
theorem dL_law_409 : decode cL_law 409 = .ok (.istore 5, 2) := by decide +kernel
theorem dL_law_411 : decode cL_law 411 = .ok (.aload_n 2, 1) := by decide +kernel
theorem dL_law_412 : decode cL_law 412 = .ok (.aload_n 0, 1) := by decide +kernel
theorem dL_law_413 : decode cL_law 413 = .ok (.iload 4, 2) := by decide +kernel
theorem dL_law_415 : decode cL_law 415 = .ok (.iconst 1, 1) := by decide +kernel
theorem dL_law_416 : decode cL_law 416 = .ok (.iadd, 1) := by decide +kernel
theorem dL_law_417 : decode cL_law 417 = .ok (.iaload, 1) := by decide +kernel
theorem dL_law_418 : decode cL_law 418 = .ok (.aload_n 0, 1) := by decide +kernel
theorem dL_law_419 : decode cL_law 419 = .ok (.iload 4, 2) := by decide +kernel
theorem dL_law_421 : decode cL_law 421 = .ok (.iconst 2, 1) := by decide +kernel
theorem dL_law_422 : decode cL_law 422 = .ok (.iadd, 1) := by decide +kernel
theorem dL_law_423 : decode cL_law 423 = .ok (.iaload, 1) := by decide +kernel
theorem dL_law_424 : decode cL_law 424 = .ok (.invokevirtual 102, 3) := by decide +kernel
theorem dL_law_427 : decode cL_law 427 = .ok (.istore 6, 2) := by decide +kernel
theorem dL_law_429 : decode cL_law 429 = .ok (.aload_n 2, 1) := by decide +kernel
theorem dL_law_430 : decode cL_law 430 = .ok (.invokevirtual 89, 3) := by decide +kernel
theorem dL_law_433 : decode cL_law 433 = .ok (.iload 5, 2) := by decide +kernel
theorem dL_law_435 : decode cL_law 435 = .ok (.if_icmp .eq 5, 3) := by decide +kernel
theorem dL_law_438 : decode cL_law 438 = .ok (.iconst 0, 1) := by decide +kernel
theorem dL_law_439 : decode cL_law 439 = .ok (.ireturn, 1) := by decide +kernel
theorem dL_law_440 : decode cL_law 440 = .ok (.iload 5, 2) := by decide +kernel
theorem dL_law_442 : decode cL_law 442 = .ok (.ifCond .ne 22, 3) := by decide +kernel
theorem dL_law_445 : decode cL_law 445 = .ok (.aload_n 3, 1) := by decide +kernel
theorem dL_law_446 : decode cL_law 446 = .ok (.iconst 0, 1) := by decide +kernel
theorem dL_law_447 : decode cL_law 447 = .ok (.laload, 1) := by decide +kernel
theorem dL_law_448 : decode cL_law 448 = .ok (.iload 6, 2) := by decide +kernel
theorem dL_law_450 : decode cL_law 450 = .ok (.ifCond .eq 7, 3) := by decide +kernel
theorem dL_law_453 : decode cL_law 453 = .ok (.lconst 1, 1) := by decide +kernel
theorem dL_law_454 : decode cL_law 454 = .ok (.goto 4, 3) := by decide +kernel
theorem dL_law_457 : decode cL_law 457 = .ok (.lconst 0, 1) := by decide +kernel
theorem dL_law_458 : decode cL_law 458 = .ok (.lcmp, 1) := by decide +kernel
theorem dL_law_459 : decode cL_law 459 = .ok (.ifCond .eq 5, 3) := by decide +kernel
theorem dL_law_462 : decode cL_law 462 = .ok (.iconst 0, 1) := by decide +kernel
theorem dL_law_463 : decode cL_law 463 = .ok (.ireturn, 1) := by decide +kernel
theorem dL_law_464 : decode cL_law 464 = .ok (.goto 1135, 3) := by decide +kernel
theorem dL_law_467 : decode cL_law 467 = .ok (.aload_n 1, 1) := by decide +kernel
theorem dL_law_468 : decode cL_law 468 = .ok (.aload_n 0, 1) := by decide +kernel
theorem dL_law_469 : decode cL_law 469 = .ok (.iload 4, 2) := by decide +kernel
theorem dL_law_471 : decode cL_law 471 = .ok (.iconst 1, 1) := by decide +kernel
theorem dL_law_472 : decode cL_law 472 = .ok (.iadd, 1) := by decide +kernel
theorem dL_law_473 : decode cL_law 473 = .ok (.iaload, 1) := by decide +kernel
theorem dL_law_474 : decode cL_law 474 = .ok (.aload_n 0, 1) := by decide +kernel
theorem dL_law_475 : decode cL_law 475 = .ok (.iload 4, 2) := by decide +kernel
theorem dL_law_477 : decode cL_law 477 = .ok (.iconst 2, 1) := by decide +kernel
theorem dL_law_478 : decode cL_law 478 = .ok (.iadd, 1) := by decide +kernel
theorem dL_law_479 : decode cL_law 479 = .ok (.iaload, 1) := by decide +kernel
theorem dL_law_480 : decode cL_law 480 = .ok (.aload_n 0, 1) := by decide +kernel
theorem dL_law_481 : decode cL_law 481 = .ok (.iload 4, 2) := by decide +kernel
theorem dL_law_483 : decode cL_law 483 = .ok (.iconst 3, 1) := by decide +kernel
theorem dL_law_484 : decode cL_law 484 = .ok (.iadd, 1) := by decide +kernel
theorem dL_law_485 : decode cL_law 485 = .ok (.iaload, 1) := by decide +kernel
theorem dL_law_486 : decode cL_law 486 = .ok (.aload_n 3, 1) := by decide +kernel
theorem dL_law_487 : decode cL_law 487 = .ok (.invokestatic 103, 3) := by decide +kernel
theorem dL_law_490 : decode cL_law 490 = .ok (.istore 5, 2) := by decide +kernel
theorem dL_law_492 : decode cL_law 492 = .ok (.aload_n 2, 1) := by decide +kernel
theorem dL_law_493 : decode cL_law 493 = .ok (.aload_n 0, 1) := by decide +kernel
theorem dL_law_494 : decode cL_law 494 = .ok (.iload 4, 2) := by decide +kernel
theorem dL_law_496 : decode cL_law 496 = .ok (.iconst 1, 1) := by decide +kernel
theorem dL_law_497 : decode cL_law 497 = .ok (.iadd, 1) := by decide +kernel
theorem dL_law_498 : decode cL_law 498 = .ok (.iaload, 1) := by decide +kernel
theorem dL_law_499 : decode cL_law 499 = .ok (.aload_n 0, 1) := by decide +kernel
theorem dL_law_500 : decode cL_law 500 = .ok (.iload 4, 2) := by decide +kernel
theorem dL_law_502 : decode cL_law 502 = .ok (.iconst 2, 1) := by decide +kernel
theorem dL_law_503 : decode cL_law 503 = .ok (.iadd, 1) := by decide +kernel
theorem dL_law_504 : decode cL_law 504 = .ok (.iaload, 1) := by decide +kernel
theorem dL_law_505 : decode cL_law 505 = .ok (.aload_n 0, 1) := by decide +kernel
theorem dL_law_506 : decode cL_law 506 = .ok (.iload 4, 2) := by decide +kernel
theorem dL_law_508 : decode cL_law 508 = .ok (.iconst 3, 1) := by decide +kernel
theorem dL_law_509 : decode cL_law 509 = .ok (.iadd, 1) := by decide +kernel
theorem dL_law_510 : decode cL_law 510 = .ok (.iaload, 1) := by decide +kernel
theorem dL_law_511 : decode cL_law 511 = .ok (.invokevirtual 105, 3) := by decide +kernel
theorem dL_law_514 : decode cL_law 514 = .ok (.istore 6, 2) := by decide +kernel
theorem dL_law_516 : decode cL_law 516 = .ok (.aload_n 2, 1) := by decide +kernel
theorem dL_law_517 : decode cL_law 517 = .ok (.invokevirtual 89, 3) := by decide +kernel
theorem dL_law_520 : decode cL_law 520 = .ok (.iload 5, 2) := by decide +kernel
theorem dL_law_522 : decode cL_law 522 = .ok (.if_icmp .eq 5, 3) := by decide +kernel
theorem dL_law_525 : decode cL_law 525 = .ok (.iconst 0, 1) := by decide +kernel
theorem dL_law_526 : decode cL_law 526 = .ok (.ireturn, 1) := by decide +kernel
theorem dL_law_527 : decode cL_law 527 = .ok (.iload 5, 2) := by decide +kernel
theorem dL_law_529 : decode cL_law 529 = .ok (.ifCond .ne 15, 3) := by decide +kernel
theorem dL_law_532 : decode cL_law 532 = .ok (.aload_n 3, 1) := by decide +kernel
theorem dL_law_533 : decode cL_law 533 = .ok (.iconst 0, 1) := by decide +kernel
theorem dL_law_534 : decode cL_law 534 = .ok (.laload, 1) := by decide +kernel
theorem dL_law_535 : decode cL_law 535 = .ok (.iload 6, 2) := by decide +kernel
theorem dL_law_537 : decode cL_law 537 = .ok (.i2l, 1) := by decide +kernel
theorem dL_law_538 : decode cL_law 538 = .ok (.lcmp, 1) := by decide +kernel
theorem dL_law_539 : decode cL_law 539 = .ok (.ifCond .eq 5, 3) := by decide +kernel
theorem dL_law_542 : decode cL_law 542 = .ok (.iconst 0, 1) := by decide +kernel
theorem dL_law_543 : decode cL_law 543 = .ok (.ireturn, 1) := by decide +kernel
theorem dL_law_544 : decode cL_law 544 = .ok (.goto 1055, 3) := by decide +kernel
theorem dL_law_547 : decode cL_law 547 = .ok (.aload_n 1, 1) := by decide +kernel
theorem dL_law_548 : decode cL_law 548 = .ok (.aload_n 0, 1) := by decide +kernel
theorem dL_law_549 : decode cL_law 549 = .ok (.iload 4, 2) := by decide +kernel
theorem dL_law_551 : decode cL_law 551 = .ok (.iconst 1, 1) := by decide +kernel
theorem dL_law_552 : decode cL_law 552 = .ok (.iadd, 1) := by decide +kernel
theorem dL_law_553 : decode cL_law 553 = .ok (.iaload, 1) := by decide +kernel
theorem dL_law_554 : decode cL_law 554 = .ok (.aload_n 3, 1) := by decide +kernel
theorem dL_law_555 : decode cL_law 555 = .ok (.invokestatic 106, 3) := by decide +kernel
theorem dL_law_558 : decode cL_law 558 = .ok (.istore 5, 2) := by decide +kernel
theorem dL_law_560 : decode cL_law 560 = .ok (.aload_n 2, 1) := by decide +kernel
theorem dL_law_561 : decode cL_law 561 = .ok (.aload_n 0, 1) := by decide +kernel
theorem dL_law_562 : decode cL_law 562 = .ok (.iload 4, 2) := by decide +kernel
theorem dL_law_564 : decode cL_law 564 = .ok (.iconst 1, 1) := by decide +kernel
theorem dL_law_565 : decode cL_law 565 = .ok (.iadd, 1) := by decide +kernel
theorem dL_law_566 : decode cL_law 566 = .ok (.iaload, 1) := by decide +kernel
theorem dL_law_567 : decode cL_law 567 = .ok (.invokevirtual 109, 3) := by decide +kernel
theorem dL_law_570 : decode cL_law 570 = .ok (.istore 6, 2) := by decide +kernel
theorem dL_law_572 : decode cL_law 572 = .ok (.aload_n 2, 1) := by decide +kernel
theorem dL_law_573 : decode cL_law 573 = .ok (.invokevirtual 89, 3) := by decide +kernel
theorem dL_law_576 : decode cL_law 576 = .ok (.iload 5, 2) := by decide +kernel
theorem dL_law_578 : decode cL_law 578 = .ok (.if_icmp .eq 5, 3) := by decide +kernel
theorem dL_law_581 : decode cL_law 581 = .ok (.iconst 0, 1) := by decide +kernel
theorem dL_law_582 : decode cL_law 582 = .ok (.ireturn, 1) := by decide +kernel
theorem dL_law_583 : decode cL_law 583 = .ok (.iload 5, 2) := by decide +kernel
theorem dL_law_585 : decode cL_law 585 = .ok (.ifCond .ne 15, 3) := by decide +kernel
theorem dL_law_588 : decode cL_law 588 = .ok (.aload_n 3, 1) := by decide +kernel
theorem dL_law_589 : decode cL_law 589 = .ok (.iconst 0, 1) := by decide +kernel
theorem dL_law_590 : decode cL_law 590 = .ok (.laload, 1) := by decide +kernel
theorem dL_law_591 : decode cL_law 591 = .ok (.iload 6, 2) := by decide +kernel
theorem dL_law_593 : decode cL_law 593 = .ok (.i2l, 1) := by decide +kernel
theorem dL_law_594 : decode cL_law 594 = .ok (.lcmp, 1) := by decide +kernel
theorem dL_law_595 : decode cL_law 595 = .ok (.ifCond .eq 5, 3) := by decide +kernel
theorem dL_law_598 : decode cL_law 598 = .ok (.iconst 0, 1) := by decide +kernel
theorem dL_law_599 : decode cL_law 599 = .ok (.ireturn, 1) := by decide +kernel
theorem dL_law_600 : decode cL_law 600 = .ok (.goto 999, 3) := by decide +kernel
theorem dL_law_603 : decode cL_law 603 = .ok (.aload_n 1, 1) := by decide +kernel
theorem dL_law_604 : decode cL_law 604 = .ok (.aload_n 0, 1) := by decide +kernel
theorem dL_law_605 : decode cL_law 605 = .ok (.iload 4, 2) := by decide +kernel
theorem dL_law_607 : decode cL_law 607 = .ok (.iconst 1, 1) := by decide +kernel
theorem dL_law_608 : decode cL_law 608 = .ok (.iadd, 1) := by decide +kernel
theorem dL_law_609 : decode cL_law 609 = .ok (.iaload, 1) := by decide +kernel
theorem dL_law_610 : decode cL_law 610 = .ok (.aload_n 0, 1) := by decide +kernel
theorem dL_law_611 : decode cL_law 611 = .ok (.iload 4, 2) := by decide +kernel
theorem dL_law_613 : decode cL_law 613 = .ok (.iconst 2, 1) := by decide +kernel
theorem dL_law_614 : decode cL_law 614 = .ok (.iadd, 1) := by decide +kernel
theorem dL_law_615 : decode cL_law 615 = .ok (.iaload, 1) := by decide +kernel
theorem dL_law_616 : decode cL_law 616 = .ok (.aload_n 3, 1) := by decide +kernel
theorem dL_law_617 : decode cL_law 617 = .ok (.invokestatic 110, 3) := by decide +kernel
theorem dL_law_620 : decode cL_law 620 = .ok (.istore 5, 2) := by decide +kernel
theorem dL_law_622 : decode cL_law 622 = .ok (.aload_n 2, 1) := by decide +kernel
theorem dL_law_623 : decode cL_law 623 = .ok (.aload_n 0, 1) := by decide +kernel
theorem dL_law_624 : decode cL_law 624 = .ok (.iload 4, 2) := by decide +kernel
theorem dL_law_626 : decode cL_law 626 = .ok (.iconst 1, 1) := by decide +kernel
theorem dL_law_627 : decode cL_law 627 = .ok (.iadd, 1) := by decide +kernel
theorem dL_law_628 : decode cL_law 628 = .ok (.iaload, 1) := by decide +kernel
theorem dL_law_629 : decode cL_law 629 = .ok (.aload_n 0, 1) := by decide +kernel
theorem dL_law_630 : decode cL_law 630 = .ok (.iload 4, 2) := by decide +kernel
theorem dL_law_632 : decode cL_law 632 = .ok (.iconst 2, 1) := by decide +kernel
theorem dL_law_633 : decode cL_law 633 = .ok (.iadd, 1) := by decide +kernel
theorem dL_law_634 : decode cL_law 634 = .ok (.iaload, 1) := by decide +kernel
theorem dL_law_635 : decode cL_law 635 = .ok (.invokevirtual 112, 3) := by decide +kernel
theorem dL_law_638 : decode cL_law 638 = .ok (.istore 6, 2) := by decide +kernel
theorem dL_law_640 : decode cL_law 640 = .ok (.aload_n 2, 1) := by decide +kernel
theorem dL_law_641 : decode cL_law 641 = .ok (.invokevirtual 89, 3) := by decide +kernel
theorem dL_law_644 : decode cL_law 644 = .ok (.iload 5, 2) := by decide +kernel
theorem dL_law_646 : decode cL_law 646 = .ok (.if_icmp .eq 5, 3) := by decide +kernel
theorem dL_law_649 : decode cL_law 649 = .ok (.iconst 0, 1) := by decide +kernel
theorem dL_law_650 : decode cL_law 650 = .ok (.ireturn, 1) := by decide +kernel
theorem dL_law_651 : decode cL_law 651 = .ok (.iload 5, 2) := by decide +kernel
theorem dL_law_653 : decode cL_law 653 = .ok (.ifCond .ne 15, 3) := by decide +kernel
theorem dL_law_656 : decode cL_law 656 = .ok (.aload_n 3, 1) := by decide +kernel
theorem dL_law_657 : decode cL_law 657 = .ok (.iconst 0, 1) := by decide +kernel
theorem dL_law_658 : decode cL_law 658 = .ok (.laload, 1) := by decide +kernel
theorem dL_law_659 : decode cL_law 659 = .ok (.iload 6, 2) := by decide +kernel
theorem dL_law_661 : decode cL_law 661 = .ok (.i2l, 1) := by decide +kernel
theorem dL_law_662 : decode cL_law 662 = .ok (.lcmp, 1) := by decide +kernel
theorem dL_law_663 : decode cL_law 663 = .ok (.ifCond .eq 5, 3) := by decide +kernel
theorem dL_law_666 : decode cL_law 666 = .ok (.iconst 0, 1) := by decide +kernel
theorem dL_law_667 : decode cL_law 667 = .ok (.ireturn, 1) := by decide +kernel
theorem dL_law_668 : decode cL_law 668 = .ok (.goto 931, 3) := by decide +kernel
theorem dL_law_671 : decode cL_law 671 = .ok (.aload_n 1, 1) := by decide +kernel
theorem dL_law_672 : decode cL_law 672 = .ok (.invokevirtual 113, 3) := by decide +kernel
theorem dL_law_675 : decode cL_law 675 = .ok (.aload_n 2, 1) := by decide +kernel
theorem dL_law_676 : decode cL_law 676 = .ok (.invokevirtual 116, 3) := by decide +kernel
theorem dL_law_679 : decode cL_law 679 = .ok (.if_icmp .eq 920, 3) := by decide +kernel
theorem dL_law_682 : decode cL_law 682 = .ok (.iconst 0, 1) := by decide +kernel
theorem dL_law_683 : decode cL_law 683 = .ok (.ireturn, 1) := by decide +kernel
theorem dL_law_684 : decode cL_law 684 = .ok (.aload_n 1, 1) := by decide +kernel
theorem dL_law_685 : decode cL_law 685 = .ok (.invokevirtual 117, 3) := by decide +kernel
theorem dL_law_688 : decode cL_law 688 = .ok (.aload_n 2, 1) := by decide +kernel
theorem dL_law_689 : decode cL_law 689 = .ok (.invokevirtual 120, 3) := by decide +kernel
theorem dL_law_692 : decode cL_law 692 = .ok (.if_icmp .eq 907, 3) := by decide +kernel
theorem dL_law_695 : decode cL_law 695 = .ok (.iconst 0, 1) := by decide +kernel
theorem dL_law_696 : decode cL_law 696 = .ok (.ireturn, 1) := by decide +kernel
theorem dL_law_697 : decode cL_law 697 = .ok (.aload_n 1, 1) := by decide +kernel
theorem dL_law_698 : decode cL_law 698 = .ok (.invokevirtual 121, 3) := by decide +kernel
theorem dL_law_701 : decode cL_law 701 = .ok (.aload_n 2, 1) := by decide +kernel
theorem dL_law_702 : decode cL_law 702 = .ok (.invokevirtual 124, 3) := by decide +kernel
theorem dL_law_705 : decode cL_law 705 = .ok (.if_icmp .eq 894, 3) := by decide +kernel
theorem dL_law_708 : decode cL_law 708 = .ok (.iconst 0, 1) := by decide +kernel
theorem dL_law_709 : decode cL_law 709 = .ok (.ireturn, 1) := by decide +kernel
theorem dL_law_710 : decode cL_law 710 = .ok (.aload_n 1, 1) := by decide +kernel
theorem dL_law_711 : decode cL_law 711 = .ok (.aload_n 0, 1) := by decide +kernel
theorem dL_law_712 : decode cL_law 712 = .ok (.iload 4, 2) := by decide +kernel
theorem dL_law_714 : decode cL_law 714 = .ok (.iconst 1, 1) := by decide +kernel
theorem dL_law_715 : decode cL_law 715 = .ok (.iadd, 1) := by decide +kernel
theorem dL_law_716 : decode cL_law 716 = .ok (.iaload, 1) := by decide +kernel
theorem dL_law_717 : decode cL_law 717 = .ok (.aload_n 0, 1) := by decide +kernel
theorem dL_law_718 : decode cL_law 718 = .ok (.iload 4, 2) := by decide +kernel
theorem dL_law_720 : decode cL_law 720 = .ok (.iconst 2, 1) := by decide +kernel
theorem dL_law_721 : decode cL_law 721 = .ok (.iadd, 1) := by decide +kernel
theorem dL_law_722 : decode cL_law 722 = .ok (.iaload, 1) := by decide +kernel
theorem dL_law_723 : decode cL_law 723 = .ok (.aload_n 3, 1) := by decide +kernel
theorem dL_law_724 : decode cL_law 724 = .ok (.invokestatic 125, 3) := by decide +kernel
theorem dL_law_727 : decode cL_law 727 = .ok (.istore 5, 2) := by decide +kernel
theorem dL_law_729 : decode cL_law 729 = .ok (.aload_n 2, 1) := by decide +kernel
theorem dL_law_730 : decode cL_law 730 = .ok (.aload_n 0, 1) := by decide +kernel
theorem dL_law_731 : decode cL_law 731 = .ok (.iload 4, 2) := by decide +kernel
theorem dL_law_733 : decode cL_law 733 = .ok (.iconst 1, 1) := by decide +kernel
theorem dL_law_734 : decode cL_law 734 = .ok (.iadd, 1) := by decide +kernel
theorem dL_law_735 : decode cL_law 735 = .ok (.iaload, 1) := by decide +kernel
theorem dL_law_736 : decode cL_law 736 = .ok (.aload_n 0, 1) := by decide +kernel
theorem dL_law_737 : decode cL_law 737 = .ok (.iload 4, 2) := by decide +kernel
theorem dL_law_739 : decode cL_law 739 = .ok (.iconst 2, 1) := by decide +kernel
theorem dL_law_740 : decode cL_law 740 = .ok (.iadd, 1) := by decide +kernel
theorem dL_law_741 : decode cL_law 741 = .ok (.iaload, 1) := by decide +kernel
theorem dL_law_742 : decode cL_law 742 = .ok (.invokevirtual 127, 3) := by decide +kernel
theorem dL_law_745 : decode cL_law 745 = .ok (.istore 6, 2) := by decide +kernel
theorem dL_law_747 : decode cL_law 747 = .ok (.aload_n 2, 1) := by decide +kernel
theorem dL_law_748 : decode cL_law 748 = .ok (.invokevirtual 89, 3) := by decide +kernel
theorem dL_law_751 : decode cL_law 751 = .ok (.iload 5, 2) := by decide +kernel
theorem dL_law_753 : decode cL_law 753 = .ok (.if_icmp .eq 5, 3) := by decide +kernel
theorem dL_law_756 : decode cL_law 756 = .ok (.iconst 0, 1) := by decide +kernel
theorem dL_law_757 : decode cL_law 757 = .ok (.ireturn, 1) := by decide +kernel
theorem dL_law_758 : decode cL_law 758 = .ok (.iload 5, 2) := by decide +kernel
theorem dL_law_760 : decode cL_law 760 = .ok (.ifCond .ne 15, 3) := by decide +kernel
theorem dL_law_763 : decode cL_law 763 = .ok (.aload_n 3, 1) := by decide +kernel
theorem dL_law_764 : decode cL_law 764 = .ok (.iconst 0, 1) := by decide +kernel
theorem dL_law_765 : decode cL_law 765 = .ok (.laload, 1) := by decide +kernel
theorem dL_law_766 : decode cL_law 766 = .ok (.iload 6, 2) := by decide +kernel
theorem dL_law_768 : decode cL_law 768 = .ok (.i2l, 1) := by decide +kernel
theorem dL_law_769 : decode cL_law 769 = .ok (.lcmp, 1) := by decide +kernel
theorem dL_law_770 : decode cL_law 770 = .ok (.ifCond .eq 5, 3) := by decide +kernel
theorem dL_law_773 : decode cL_law 773 = .ok (.iconst 0, 1) := by decide +kernel
theorem dL_law_774 : decode cL_law 774 = .ok (.ireturn, 1) := by decide +kernel
theorem dL_law_775 : decode cL_law 775 = .ok (.goto 824, 3) := by decide +kernel
theorem dL_law_778 : decode cL_law 778 = .ok (.aload_n 1, 1) := by decide +kernel
theorem dL_law_779 : decode cL_law 779 = .ok (.aload_n 0, 1) := by decide +kernel
theorem dL_law_780 : decode cL_law 780 = .ok (.iload 4, 2) := by decide +kernel
theorem dL_law_782 : decode cL_law 782 = .ok (.iconst 1, 1) := by decide +kernel
theorem dL_law_783 : decode cL_law 783 = .ok (.iadd, 1) := by decide +kernel
theorem dL_law_784 : decode cL_law 784 = .ok (.iaload, 1) := by decide +kernel
theorem dL_law_785 : decode cL_law 785 = .ok (.aload_n 0, 1) := by decide +kernel
theorem dL_law_786 : decode cL_law 786 = .ok (.iload 4, 2) := by decide +kernel
theorem dL_law_788 : decode cL_law 788 = .ok (.iconst 2, 1) := by decide +kernel
theorem dL_law_789 : decode cL_law 789 = .ok (.iadd, 1) := by decide +kernel
theorem dL_law_790 : decode cL_law 790 = .ok (.iaload, 1) := by decide +kernel
theorem dL_law_791 : decode cL_law 791 = .ok (.aload_n 3, 1) := by decide +kernel
theorem dL_law_792 : decode cL_law 792 = .ok (.invokestatic 128, 3) := by decide +kernel
theorem dL_law_795 : decode cL_law 795 = .ok (.istore 5, 2) := by decide +kernel
theorem dL_law_797 : decode cL_law 797 = .ok (.aload_n 2, 1) := by decide +kernel
theorem dL_law_798 : decode cL_law 798 = .ok (.aload_n 0, 1) := by decide +kernel
theorem dL_law_799 : decode cL_law 799 = .ok (.iload 4, 2) := by decide +kernel
theorem dL_law_801 : decode cL_law 801 = .ok (.iconst 1, 1) := by decide +kernel
theorem dL_law_802 : decode cL_law 802 = .ok (.iadd, 1) := by decide +kernel
theorem dL_law_803 : decode cL_law 803 = .ok (.iaload, 1) := by decide +kernel
theorem dL_law_804 : decode cL_law 804 = .ok (.aload_n 0, 1) := by decide +kernel
theorem dL_law_805 : decode cL_law 805 = .ok (.iload 4, 2) := by decide +kernel
theorem dL_law_807 : decode cL_law 807 = .ok (.iconst 2, 1) := by decide +kernel
theorem dL_law_808 : decode cL_law 808 = .ok (.iadd, 1) := by decide +kernel
theorem dL_law_809 : decode cL_law 809 = .ok (.iaload, 1) := by decide +kernel
theorem dL_law_810 : decode cL_law 810 = .ok (.invokevirtual 130, 3) := by decide +kernel
theorem dL_law_813 : decode cL_law 813 = .ok (.istore 6, 2) := by decide +kernel
theorem dL_law_815 : decode cL_law 815 = .ok (.aload_n 2, 1) := by decide +kernel
theorem dL_law_816 : decode cL_law 816 = .ok (.invokevirtual 89, 3) := by decide +kernel
theorem dL_law_819 : decode cL_law 819 = .ok (.iload 5, 2) := by decide +kernel
theorem dL_law_821 : decode cL_law 821 = .ok (.if_icmp .eq 5, 3) := by decide +kernel
theorem dL_law_824 : decode cL_law 824 = .ok (.iconst 0, 1) := by decide +kernel
theorem dL_law_825 : decode cL_law 825 = .ok (.ireturn, 1) := by decide +kernel
theorem dL_law_826 : decode cL_law 826 = .ok (.iload 5, 2) := by decide +kernel
theorem dL_law_828 : decode cL_law 828 = .ok (.ifCond .ne 22, 3) := by decide +kernel
theorem dL_law_831 : decode cL_law 831 = .ok (.aload_n 3, 1) := by decide +kernel
theorem dL_law_832 : decode cL_law 832 = .ok (.iconst 0, 1) := by decide +kernel
theorem dL_law_833 : decode cL_law 833 = .ok (.laload, 1) := by decide +kernel
theorem dL_law_834 : decode cL_law 834 = .ok (.iload 6, 2) := by decide +kernel
theorem dL_law_836 : decode cL_law 836 = .ok (.ifCond .eq 7, 3) := by decide +kernel
theorem dL_law_839 : decode cL_law 839 = .ok (.lconst 1, 1) := by decide +kernel
theorem dL_law_840 : decode cL_law 840 = .ok (.goto 4, 3) := by decide +kernel
theorem dL_law_843 : decode cL_law 843 = .ok (.lconst 0, 1) := by decide +kernel
theorem dL_law_844 : decode cL_law 844 = .ok (.lcmp, 1) := by decide +kernel
theorem dL_law_845 : decode cL_law 845 = .ok (.ifCond .eq 5, 3) := by decide +kernel
theorem dL_law_848 : decode cL_law 848 = .ok (.iconst 0, 1) := by decide +kernel
theorem dL_law_849 : decode cL_law 849 = .ok (.ireturn, 1) := by decide +kernel
theorem dL_law_850 : decode cL_law 850 = .ok (.goto 749, 3) := by decide +kernel
theorem dL_law_853 : decode cL_law 853 = .ok (.aload_n 1, 1) := by decide +kernel
theorem dL_law_854 : decode cL_law 854 = .ok (.aload_n 0, 1) := by decide +kernel
theorem dL_law_855 : decode cL_law 855 = .ok (.iload 4, 2) := by decide +kernel
theorem dL_law_857 : decode cL_law 857 = .ok (.iconst 1, 1) := by decide +kernel
theorem dL_law_858 : decode cL_law 858 = .ok (.iadd, 1) := by decide +kernel
theorem dL_law_859 : decode cL_law 859 = .ok (.iaload, 1) := by decide +kernel
theorem dL_law_860 : decode cL_law 860 = .ok (.aload_n 0, 1) := by decide +kernel
theorem dL_law_861 : decode cL_law 861 = .ok (.iload 4, 2) := by decide +kernel
theorem dL_law_863 : decode cL_law 863 = .ok (.iconst 2, 1) := by decide +kernel
theorem dL_law_864 : decode cL_law 864 = .ok (.iadd, 1) := by decide +kernel
theorem dL_law_865 : decode cL_law 865 = .ok (.iaload, 1) := by decide +kernel
theorem dL_law_866 : decode cL_law 866 = .ok (.aload_n 3, 1) := by decide +kernel
theorem dL_law_867 : decode cL_law 867 = .ok (.invokestatic 131, 3) := by decide +kernel
theorem dL_law_870 : decode cL_law 870 = .ok (.istore 5, 2) := by decide +kernel
theorem dL_law_872 : decode cL_law 872 = .ok (.aload_n 2, 1) := by decide +kernel
theorem dL_law_873 : decode cL_law 873 = .ok (.aload_n 0, 1) := by decide +kernel
theorem dL_law_874 : decode cL_law 874 = .ok (.iload 4, 2) := by decide +kernel
theorem dL_law_876 : decode cL_law 876 = .ok (.iconst 1, 1) := by decide +kernel
theorem dL_law_877 : decode cL_law 877 = .ok (.iadd, 1) := by decide +kernel
theorem dL_law_878 : decode cL_law 878 = .ok (.iaload, 1) := by decide +kernel
theorem dL_law_879 : decode cL_law 879 = .ok (.aload_n 0, 1) := by decide +kernel
theorem dL_law_880 : decode cL_law 880 = .ok (.iload 4, 2) := by decide +kernel
theorem dL_law_882 : decode cL_law 882 = .ok (.iconst 2, 1) := by decide +kernel
theorem dL_law_883 : decode cL_law 883 = .ok (.iadd, 1) := by decide +kernel
theorem dL_law_884 : decode cL_law 884 = .ok (.iaload, 1) := by decide +kernel
theorem dL_law_885 : decode cL_law 885 = .ok (.invokevirtual 133, 3) := by decide +kernel
theorem dL_law_888 : decode cL_law 888 = .ok (.istore 6, 2) := by decide +kernel
theorem dL_law_890 : decode cL_law 890 = .ok (.aload_n 2, 1) := by decide +kernel
theorem dL_law_891 : decode cL_law 891 = .ok (.invokevirtual 89, 3) := by decide +kernel
theorem dL_law_894 : decode cL_law 894 = .ok (.iload 5, 2) := by decide +kernel
theorem dL_law_896 : decode cL_law 896 = .ok (.if_icmp .eq 5, 3) := by decide +kernel
theorem dL_law_899 : decode cL_law 899 = .ok (.iconst 0, 1) := by decide +kernel
theorem dL_law_900 : decode cL_law 900 = .ok (.ireturn, 1) := by decide +kernel
theorem dL_law_901 : decode cL_law 901 = .ok (.iload 5, 2) := by decide +kernel
theorem dL_law_903 : decode cL_law 903 = .ok (.ifCond .ne 15, 3) := by decide +kernel
theorem dL_law_906 : decode cL_law 906 = .ok (.aload_n 3, 1) := by decide +kernel
theorem dL_law_907 : decode cL_law 907 = .ok (.iconst 0, 1) := by decide +kernel
theorem dL_law_908 : decode cL_law 908 = .ok (.laload, 1) := by decide +kernel
theorem dL_law_909 : decode cL_law 909 = .ok (.iload 6, 2) := by decide +kernel
theorem dL_law_911 : decode cL_law 911 = .ok (.i2l, 1) := by decide +kernel
theorem dL_law_912 : decode cL_law 912 = .ok (.lcmp, 1) := by decide +kernel
theorem dL_law_913 : decode cL_law 913 = .ok (.ifCond .eq 5, 3) := by decide +kernel
theorem dL_law_916 : decode cL_law 916 = .ok (.iconst 0, 1) := by decide +kernel
theorem dL_law_917 : decode cL_law 917 = .ok (.ireturn, 1) := by decide +kernel
theorem dL_law_918 : decode cL_law 918 = .ok (.goto 681, 3) := by decide +kernel
theorem dL_law_921 : decode cL_law 921 = .ok (.aload_n 1, 1) := by decide +kernel
theorem dL_law_922 : decode cL_law 922 = .ok (.aload_n 0, 1) := by decide +kernel
theorem dL_law_923 : decode cL_law 923 = .ok (.iload 4, 2) := by decide +kernel
theorem dL_law_925 : decode cL_law 925 = .ok (.iconst 1, 1) := by decide +kernel
theorem dL_law_926 : decode cL_law 926 = .ok (.iadd, 1) := by decide +kernel
theorem dL_law_927 : decode cL_law 927 = .ok (.iaload, 1) := by decide +kernel
theorem dL_law_928 : decode cL_law 928 = .ok (.aload_n 3, 1) := by decide +kernel
theorem dL_law_929 : decode cL_law 929 = .ok (.invokestatic 134, 3) := by decide +kernel
theorem dL_law_932 : decode cL_law 932 = .ok (.istore 5, 2) := by decide +kernel
theorem dL_law_934 : decode cL_law 934 = .ok (.aload_n 2, 1) := by decide +kernel
theorem dL_law_935 : decode cL_law 935 = .ok (.aload_n 0, 1) := by decide +kernel
theorem dL_law_936 : decode cL_law 936 = .ok (.iload 4, 2) := by decide +kernel
theorem dL_law_938 : decode cL_law 938 = .ok (.iconst 1, 1) := by decide +kernel
theorem dL_law_939 : decode cL_law 939 = .ok (.iadd, 1) := by decide +kernel
theorem dL_law_940 : decode cL_law 940 = .ok (.iaload, 1) := by decide +kernel
theorem dL_law_941 : decode cL_law 941 = .ok (.invokevirtual 136, 3) := by decide +kernel
theorem dL_law_944 : decode cL_law 944 = .ok (.istore 6, 2) := by decide +kernel
theorem dL_law_946 : decode cL_law 946 = .ok (.aload_n 2, 1) := by decide +kernel
theorem dL_law_947 : decode cL_law 947 = .ok (.invokevirtual 89, 3) := by decide +kernel
theorem dL_law_950 : decode cL_law 950 = .ok (.iload 5, 2) := by decide +kernel
theorem dL_law_952 : decode cL_law 952 = .ok (.if_icmp .eq 5, 3) := by decide +kernel
theorem dL_law_955 : decode cL_law 955 = .ok (.iconst 0, 1) := by decide +kernel
theorem dL_law_956 : decode cL_law 956 = .ok (.ireturn, 1) := by decide +kernel
theorem dL_law_957 : decode cL_law 957 = .ok (.iload 5, 2) := by decide +kernel
theorem dL_law_959 : decode cL_law 959 = .ok (.ifCond .ne 15, 3) := by decide +kernel
theorem dL_law_962 : decode cL_law 962 = .ok (.aload_n 3, 1) := by decide +kernel
theorem dL_law_963 : decode cL_law 963 = .ok (.iconst 0, 1) := by decide +kernel
theorem dL_law_964 : decode cL_law 964 = .ok (.laload, 1) := by decide +kernel
theorem dL_law_965 : decode cL_law 965 = .ok (.iload 6, 2) := by decide +kernel
theorem dL_law_967 : decode cL_law 967 = .ok (.i2l, 1) := by decide +kernel
theorem dL_law_968 : decode cL_law 968 = .ok (.lcmp, 1) := by decide +kernel
theorem dL_law_969 : decode cL_law 969 = .ok (.ifCond .eq 5, 3) := by decide +kernel
theorem dL_law_972 : decode cL_law 972 = .ok (.iconst 0, 1) := by decide +kernel
theorem dL_law_973 : decode cL_law 973 = .ok (.ireturn, 1) := by decide +kernel
theorem dL_law_974 : decode cL_law 974 = .ok (.goto 625, 3) := by decide +kernel
theorem dL_law_977 : decode cL_law 977 = .ok (.aload_n 1, 1) := by decide +kernel
theorem dL_law_978 : decode cL_law 978 = .ok (.invokevirtual 137, 3) := by decide +kernel
theorem dL_law_981 : decode cL_law 981 = .ok (.aload_n 2, 1) := by decide +kernel
theorem dL_law_982 : decode cL_law 982 = .ok (.invokevirtual 140, 3) := by decide +kernel
theorem dL_law_985 : decode cL_law 985 = .ok (.if_icmp .eq 614, 3) := by decide +kernel
theorem dL_law_988 : decode cL_law 988 = .ok (.iconst 0, 1) := by decide +kernel
theorem dL_law_989 : decode cL_law 989 = .ok (.ireturn, 1) := by decide +kernel
end
section
theorem dL_law_990 : decode cL_law 990 = .ok (.aload_n 1, 1) := by decide +kernel
theorem dL_law_991 : decode cL_law 991 = .ok (.aload_n 0, 1) := by decide +kernel
theorem dL_law_992 : decode cL_law 992 = .ok (.iload 4, 2) := by decide +kernel
theorem dL_law_994 : decode cL_law 994 = .ok (.iconst 1, 1) := by decide +kernel
theorem dL_law_995 : decode cL_law 995 = .ok (.iadd, 1) := by decide +kernel
theorem dL_law_996 : decode cL_law 996 = .ok (.iaload, 1) := by decide +kernel
theorem dL_law_997 : decode cL_law 997 = .ok (.aload_n 3, 1) := by decide +kernel
theorem dL_law_998 : decode cL_law 998 = .ok (.invokestatic 141, 3) := by decide +kernel
theorem dL_law_1001 : decode cL_law 1001 = .ok (.istore 5, 2) := by decide +kernel
theorem dL_law_1003 : decode cL_law 1003 = .ok (.aload_n 2, 1) := by decide +kernel
theorem dL_law_1004 : decode cL_law 1004 = .ok (.aload_n 0, 1) := by decide +kernel
theorem dL_law_1005 : decode cL_law 1005 = .ok (.iload 4, 2) := by decide +kernel
theorem dL_law_1007 : decode cL_law 1007 = .ok (.iconst 1, 1) := by decide +kernel
theorem dL_law_1008 : decode cL_law 1008 = .ok (.iadd, 1) := by decide +kernel
theorem dL_law_1009 : decode cL_law 1009 = .ok (.iaload, 1) := by decide +kernel
theorem dL_law_1010 : decode cL_law 1010 = .ok (.invokevirtual 143, 3) := by decide +kernel
theorem dL_law_1013 : decode cL_law 1013 = .ok (.istore 6, 2) := by decide +kernel
theorem dL_law_1015 : decode cL_law 1015 = .ok (.aload_n 2, 1) := by decide +kernel
theorem dL_law_1016 : decode cL_law 1016 = .ok (.invokevirtual 89, 3) := by decide +kernel
theorem dL_law_1019 : decode cL_law 1019 = .ok (.iload 5, 2) := by decide +kernel
theorem dL_law_1021 : decode cL_law 1021 = .ok (.if_icmp .eq 5, 3) := by decide +kernel
theorem dL_law_1024 : decode cL_law 1024 = .ok (.iconst 0, 1) := by decide +kernel
theorem dL_law_1025 : decode cL_law 1025 = .ok (.ireturn, 1) := by decide +kernel
theorem dL_law_1026 : decode cL_law 1026 = .ok (.iload 5, 2) := by decide +kernel
theorem dL_law_1028 : decode cL_law 1028 = .ok (.ifCond .ne 15, 3) := by decide +kernel
theorem dL_law_1031 : decode cL_law 1031 = .ok (.aload_n 3, 1) := by decide +kernel
theorem dL_law_1032 : decode cL_law 1032 = .ok (.iconst 0, 1) := by decide +kernel
theorem dL_law_1033 : decode cL_law 1033 = .ok (.laload, 1) := by decide +kernel
theorem dL_law_1034 : decode cL_law 1034 = .ok (.iload 6, 2) := by decide +kernel
theorem dL_law_1036 : decode cL_law 1036 = .ok (.i2l, 1) := by decide +kernel
theorem dL_law_1037 : decode cL_law 1037 = .ok (.lcmp, 1) := by decide +kernel
theorem dL_law_1038 : decode cL_law 1038 = .ok (.ifCond .eq 5, 3) := by decide +kernel
theorem dL_law_1041 : decode cL_law 1041 = .ok (.iconst 0, 1) := by decide +kernel
theorem dL_law_1042 : decode cL_law 1042 = .ok (.ireturn, 1) := by decide +kernel
theorem dL_law_1043 : decode cL_law 1043 = .ok (.goto 556, 3) := by decide +kernel
theorem dL_law_1046 : decode cL_law 1046 = .ok (.aload_n 1, 1) := by decide +kernel
theorem dL_law_1047 : decode cL_law 1047 = .ok (.aload_n 0, 1) := by decide +kernel
theorem dL_law_1048 : decode cL_law 1048 = .ok (.iload 4, 2) := by decide +kernel
theorem dL_law_1050 : decode cL_law 1050 = .ok (.iconst 1, 1) := by decide +kernel
theorem dL_law_1051 : decode cL_law 1051 = .ok (.iadd, 1) := by decide +kernel
theorem dL_law_1052 : decode cL_law 1052 = .ok (.iaload, 1) := by decide +kernel
theorem dL_law_1053 : decode cL_law 1053 = .ok (.aload_n 3, 1) := by decide +kernel
theorem dL_law_1054 : decode cL_law 1054 = .ok (.invokestatic 144, 3) := by decide +kernel
theorem dL_law_1057 : decode cL_law 1057 = .ok (.istore 5, 2) := by decide +kernel
theorem dL_law_1059 : decode cL_law 1059 = .ok (.aload_n 2, 1) := by decide +kernel
theorem dL_law_1060 : decode cL_law 1060 = .ok (.aload_n 0, 1) := by decide +kernel
theorem dL_law_1061 : decode cL_law 1061 = .ok (.iload 4, 2) := by decide +kernel
theorem dL_law_1063 : decode cL_law 1063 = .ok (.iconst 1, 1) := by decide +kernel
theorem dL_law_1064 : decode cL_law 1064 = .ok (.iadd, 1) := by decide +kernel
theorem dL_law_1065 : decode cL_law 1065 = .ok (.iaload, 1) := by decide +kernel
theorem dL_law_1066 : decode cL_law 1066 = .ok (.invokevirtual 146, 3) := by decide +kernel
theorem dL_law_1069 : decode cL_law 1069 = .ok (.istore 6, 2) := by decide +kernel
theorem dL_law_1071 : decode cL_law 1071 = .ok (.aload_n 2, 1) := by decide +kernel
theorem dL_law_1072 : decode cL_law 1072 = .ok (.invokevirtual 89, 3) := by decide +kernel
theorem dL_law_1075 : decode cL_law 1075 = .ok (.iload 5, 2) := by decide +kernel
theorem dL_law_1077 : decode cL_law 1077 = .ok (.if_icmp .eq 5, 3) := by decide +kernel
theorem dL_law_1080 : decode cL_law 1080 = .ok (.iconst 0, 1) := by decide +kernel
theorem dL_law_1081 : decode cL_law 1081 = .ok (.ireturn, 1) := by decide +kernel
theorem dL_law_1082 : decode cL_law 1082 = .ok (.iload 5, 2) := by decide +kernel
theorem dL_law_1084 : decode cL_law 1084 = .ok (.ifCond .ne 15, 3) := by decide +kernel
theorem dL_law_1087 : decode cL_law 1087 = .ok (.aload_n 3, 1) := by decide +kernel
theorem dL_law_1088 : decode cL_law 1088 = .ok (.iconst 0, 1) := by decide +kernel
theorem dL_law_1089 : decode cL_law 1089 = .ok (.laload, 1) := by decide +kernel
theorem dL_law_1090 : decode cL_law 1090 = .ok (.iload 6, 2) := by decide +kernel
theorem dL_law_1092 : decode cL_law 1092 = .ok (.i2l, 1) := by decide +kernel
theorem dL_law_1093 : decode cL_law 1093 = .ok (.lcmp, 1) := by decide +kernel
theorem dL_law_1094 : decode cL_law 1094 = .ok (.ifCond .eq 5, 3) := by decide +kernel
theorem dL_law_1097 : decode cL_law 1097 = .ok (.iconst 0, 1) := by decide +kernel
theorem dL_law_1098 : decode cL_law 1098 = .ok (.ireturn, 1) := by decide +kernel
theorem dL_law_1099 : decode cL_law 1099 = .ok (.goto 500, 3) := by decide +kernel
theorem dL_law_1102 : decode cL_law 1102 = .ok (.aload_n 1, 1) := by decide +kernel
theorem dL_law_1103 : decode cL_law 1103 = .ok (.invokevirtual 147, 3) := by decide +kernel
theorem dL_law_1106 : decode cL_law 1106 = .ok (.aload_n 2, 1) := by decide +kernel
theorem dL_law_1107 : decode cL_law 1107 = .ok (.invokevirtual 150, 3) := by decide +kernel
theorem dL_law_1110 : decode cL_law 1110 = .ok (.if_icmp .eq 489, 3) := by decide +kernel
theorem dL_law_1113 : decode cL_law 1113 = .ok (.iconst 0, 1) := by decide +kernel
theorem dL_law_1114 : decode cL_law 1114 = .ok (.ireturn, 1) := by decide +kernel
theorem dL_law_1115 : decode cL_law 1115 = .ok (.aload_n 1, 1) := by decide +kernel
theorem dL_law_1116 : decode cL_law 1116 = .ok (.aload_n 0, 1) := by decide +kernel
theorem dL_law_1117 : decode cL_law 1117 = .ok (.iload 4, 2) := by decide +kernel
theorem dL_law_1119 : decode cL_law 1119 = .ok (.iconst 1, 1) := by decide +kernel
theorem dL_law_1120 : decode cL_law 1120 = .ok (.iadd, 1) := by decide +kernel
theorem dL_law_1121 : decode cL_law 1121 = .ok (.iaload, 1) := by decide +kernel
theorem dL_law_1122 : decode cL_law 1122 = .ok (.aload_n 3, 1) := by decide +kernel
theorem dL_law_1123 : decode cL_law 1123 = .ok (.invokestatic 151, 3) := by decide +kernel
theorem dL_law_1126 : decode cL_law 1126 = .ok (.istore 5, 2) := by decide +kernel
theorem dL_law_1128 : decode cL_law 1128 = .ok (.aload_n 2, 1) := by decide +kernel
theorem dL_law_1129 : decode cL_law 1129 = .ok (.aload_n 0, 1) := by decide +kernel
theorem dL_law_1130 : decode cL_law 1130 = .ok (.iload 4, 2) := by decide +kernel
theorem dL_law_1132 : decode cL_law 1132 = .ok (.iconst 1, 1) := by decide +kernel
theorem dL_law_1133 : decode cL_law 1133 = .ok (.iadd, 1) := by decide +kernel
theorem dL_law_1134 : decode cL_law 1134 = .ok (.iaload, 1) := by decide +kernel
theorem dL_law_1135 : decode cL_law 1135 = .ok (.invokevirtual 153, 3) := by decide +kernel
theorem dL_law_1138 : decode cL_law 1138 = .ok (.istore 6, 2) := by decide +kernel
theorem dL_law_1140 : decode cL_law 1140 = .ok (.aload_n 2, 1) := by decide +kernel
theorem dL_law_1141 : decode cL_law 1141 = .ok (.invokevirtual 89, 3) := by decide +kernel
theorem dL_law_1144 : decode cL_law 1144 = .ok (.iload 5, 2) := by decide +kernel
theorem dL_law_1146 : decode cL_law 1146 = .ok (.if_icmp .eq 5, 3) := by decide +kernel
theorem dL_law_1149 : decode cL_law 1149 = .ok (.iconst 0, 1) := by decide +kernel
theorem dL_law_1150 : decode cL_law 1150 = .ok (.ireturn, 1) := by decide +kernel
theorem dL_law_1151 : decode cL_law 1151 = .ok (.iload 5, 2) := by decide +kernel
theorem dL_law_1153 : decode cL_law 1153 = .ok (.ifCond .ne 15, 3) := by decide +kernel
theorem dL_law_1156 : decode cL_law 1156 = .ok (.aload_n 3, 1) := by decide +kernel
theorem dL_law_1157 : decode cL_law 1157 = .ok (.iconst 0, 1) := by decide +kernel
theorem dL_law_1158 : decode cL_law 1158 = .ok (.laload, 1) := by decide +kernel
theorem dL_law_1159 : decode cL_law 1159 = .ok (.iload 6, 2) := by decide +kernel
theorem dL_law_1161 : decode cL_law 1161 = .ok (.i2l, 1) := by decide +kernel
theorem dL_law_1162 : decode cL_law 1162 = .ok (.lcmp, 1) := by decide +kernel
theorem dL_law_1163 : decode cL_law 1163 = .ok (.ifCond .eq 5, 3) := by decide +kernel
theorem dL_law_1166 : decode cL_law 1166 = .ok (.iconst 0, 1) := by decide +kernel
theorem dL_law_1167 : decode cL_law 1167 = .ok (.ireturn, 1) := by decide +kernel
theorem dL_law_1168 : decode cL_law 1168 = .ok (.goto 431, 3) := by decide +kernel
theorem dL_law_1171 : decode cL_law 1171 = .ok (.aload_n 1, 1) := by decide +kernel
theorem dL_law_1172 : decode cL_law 1172 = .ok (.aload_n 0, 1) := by decide +kernel
theorem dL_law_1173 : decode cL_law 1173 = .ok (.iload 4, 2) := by decide +kernel
theorem dL_law_1175 : decode cL_law 1175 = .ok (.iconst 1, 1) := by decide +kernel
theorem dL_law_1176 : decode cL_law 1176 = .ok (.iadd, 1) := by decide +kernel
theorem dL_law_1177 : decode cL_law 1177 = .ok (.iaload, 1) := by decide +kernel
theorem dL_law_1178 : decode cL_law 1178 = .ok (.aload_n 3, 1) := by decide +kernel
theorem dL_law_1179 : decode cL_law 1179 = .ok (.invokestatic 154, 3) := by decide +kernel
theorem dL_law_1182 : decode cL_law 1182 = .ok (.istore 5, 2) := by decide +kernel
theorem dL_law_1184 : decode cL_law 1184 = .ok (.aload_n 2, 1) := by decide +kernel
theorem dL_law_1185 : decode cL_law 1185 = .ok (.aload_n 0, 1) := by decide +kernel
theorem dL_law_1186 : decode cL_law 1186 = .ok (.iload 4, 2) := by decide +kernel
theorem dL_law_1188 : decode cL_law 1188 = .ok (.iconst 1, 1) := by decide +kernel
theorem dL_law_1189 : decode cL_law 1189 = .ok (.iadd, 1) := by decide +kernel
theorem dL_law_1190 : decode cL_law 1190 = .ok (.iaload, 1) := by decide +kernel
theorem dL_law_1191 : decode cL_law 1191 = .ok (.invokevirtual 156, 3) := by decide +kernel
theorem dL_law_1194 : decode cL_law 1194 = .ok (.istore 6, 2) := by decide +kernel
theorem dL_law_1196 : decode cL_law 1196 = .ok (.aload_n 2, 1) := by decide +kernel
theorem dL_law_1197 : decode cL_law 1197 = .ok (.invokevirtual 89, 3) := by decide +kernel
theorem dL_law_1200 : decode cL_law 1200 = .ok (.iload 5, 2) := by decide +kernel
theorem dL_law_1202 : decode cL_law 1202 = .ok (.if_icmp .eq 5, 3) := by decide +kernel
theorem dL_law_1205 : decode cL_law 1205 = .ok (.iconst 0, 1) := by decide +kernel
theorem dL_law_1206 : decode cL_law 1206 = .ok (.ireturn, 1) := by decide +kernel
theorem dL_law_1207 : decode cL_law 1207 = .ok (.iload 5, 2) := by decide +kernel
theorem dL_law_1209 : decode cL_law 1209 = .ok (.ifCond .ne 15, 3) := by decide +kernel
theorem dL_law_1212 : decode cL_law 1212 = .ok (.aload_n 3, 1) := by decide +kernel
theorem dL_law_1213 : decode cL_law 1213 = .ok (.iconst 0, 1) := by decide +kernel
theorem dL_law_1214 : decode cL_law 1214 = .ok (.laload, 1) := by decide +kernel
theorem dL_law_1215 : decode cL_law 1215 = .ok (.iload 6, 2) := by decide +kernel
theorem dL_law_1217 : decode cL_law 1217 = .ok (.i2l, 1) := by decide +kernel
theorem dL_law_1218 : decode cL_law 1218 = .ok (.lcmp, 1) := by decide +kernel
theorem dL_law_1219 : decode cL_law 1219 = .ok (.ifCond .eq 5, 3) := by decide +kernel
theorem dL_law_1222 : decode cL_law 1222 = .ok (.iconst 0, 1) := by decide +kernel
theorem dL_law_1223 : decode cL_law 1223 = .ok (.ireturn, 1) := by decide +kernel
theorem dL_law_1224 : decode cL_law 1224 = .ok (.goto 375, 3) := by decide +kernel
theorem dL_law_1227 : decode cL_law 1227 = .ok (.aload_n 1, 1) := by decide +kernel
theorem dL_law_1228 : decode cL_law 1228 = .ok (.aload_n 0, 1) := by decide +kernel
theorem dL_law_1229 : decode cL_law 1229 = .ok (.iload 4, 2) := by decide +kernel
theorem dL_law_1231 : decode cL_law 1231 = .ok (.iconst 1, 1) := by decide +kernel
theorem dL_law_1232 : decode cL_law 1232 = .ok (.iadd, 1) := by decide +kernel
theorem dL_law_1233 : decode cL_law 1233 = .ok (.iaload, 1) := by decide +kernel
theorem dL_law_1234 : decode cL_law 1234 = .ok (.aload_n 0, 1) := by decide +kernel
theorem dL_law_1235 : decode cL_law 1235 = .ok (.iload 4, 2) := by decide +kernel
theorem dL_law_1237 : decode cL_law 1237 = .ok (.iconst 2, 1) := by decide +kernel
theorem dL_law_1238 : decode cL_law 1238 = .ok (.iadd, 1) := by decide +kernel
theorem dL_law_1239 : decode cL_law 1239 = .ok (.iaload, 1) := by decide +kernel
theorem dL_law_1240 : decode cL_law 1240 = .ok (.aload_n 3, 1) := by decide +kernel
theorem dL_law_1241 : decode cL_law 1241 = .ok (.invokestatic 157, 3) := by decide +kernel
theorem dL_law_1244 : decode cL_law 1244 = .ok (.istore 5, 2) := by decide +kernel
theorem dL_law_1246 : decode cL_law 1246 = .ok (.aload_n 2, 1) := by decide +kernel
theorem dL_law_1247 : decode cL_law 1247 = .ok (.aload_n 0, 1) := by decide +kernel
theorem dL_law_1248 : decode cL_law 1248 = .ok (.iload 4, 2) := by decide +kernel
theorem dL_law_1250 : decode cL_law 1250 = .ok (.iconst 1, 1) := by decide +kernel
theorem dL_law_1251 : decode cL_law 1251 = .ok (.iadd, 1) := by decide +kernel
theorem dL_law_1252 : decode cL_law 1252 = .ok (.iaload, 1) := by decide +kernel
theorem dL_law_1253 : decode cL_law 1253 = .ok (.aload_n 0, 1) := by decide +kernel
theorem dL_law_1254 : decode cL_law 1254 = .ok (.iload 4, 2) := by decide +kernel
theorem dL_law_1256 : decode cL_law 1256 = .ok (.iconst 2, 1) := by decide +kernel
theorem dL_law_1257 : decode cL_law 1257 = .ok (.iadd, 1) := by decide +kernel
theorem dL_law_1258 : decode cL_law 1258 = .ok (.iaload, 1) := by decide +kernel
theorem dL_law_1259 : decode cL_law 1259 = .ok (.invokevirtual 159, 3) := by decide +kernel
theorem dL_law_1262 : decode cL_law 1262 = .ok (.istore 6, 2) := by decide +kernel
theorem dL_law_1264 : decode cL_law 1264 = .ok (.aload_n 2, 1) := by decide +kernel
theorem dL_law_1265 : decode cL_law 1265 = .ok (.invokevirtual 89, 3) := by decide +kernel
theorem dL_law_1268 : decode cL_law 1268 = .ok (.iload 5, 2) := by decide +kernel
theorem dL_law_1270 : decode cL_law 1270 = .ok (.if_icmp .eq 5, 3) := by decide +kernel
theorem dL_law_1273 : decode cL_law 1273 = .ok (.iconst 0, 1) := by decide +kernel
theorem dL_law_1274 : decode cL_law 1274 = .ok (.ireturn, 1) := by decide +kernel
theorem dL_law_1275 : decode cL_law 1275 = .ok (.iload 5, 2) := by decide +kernel
theorem dL_law_1277 : decode cL_law 1277 = .ok (.ifCond .ne 15, 3) := by decide +kernel
theorem dL_law_1280 : decode cL_law 1280 = .ok (.aload_n 3, 1) := by decide +kernel
theorem dL_law_1281 : decode cL_law 1281 = .ok (.iconst 0, 1) := by decide +kernel
theorem dL_law_1282 : decode cL_law 1282 = .ok (.laload, 1) := by decide +kernel
theorem dL_law_1283 : decode cL_law 1283 = .ok (.iload 6, 2) := by decide +kernel
theorem dL_law_1285 : decode cL_law 1285 = .ok (.i2l, 1) := by decide +kernel
theorem dL_law_1286 : decode cL_law 1286 = .ok (.lcmp, 1) := by decide +kernel
theorem dL_law_1287 : decode cL_law 1287 = .ok (.ifCond .eq 5, 3) := by decide +kernel
theorem dL_law_1290 : decode cL_law 1290 = .ok (.iconst 0, 1) := by decide +kernel
theorem dL_law_1291 : decode cL_law 1291 = .ok (.ireturn, 1) := by decide +kernel
theorem dL_law_1292 : decode cL_law 1292 = .ok (.goto 307, 3) := by decide +kernel
theorem dL_law_1295 : decode cL_law 1295 = .ok (.aload_n 1, 1) := by decide +kernel
theorem dL_law_1296 : decode cL_law 1296 = .ok (.aload_n 0, 1) := by decide +kernel
theorem dL_law_1297 : decode cL_law 1297 = .ok (.iload 4, 2) := by decide +kernel
theorem dL_law_1299 : decode cL_law 1299 = .ok (.iconst 1, 1) := by decide +kernel
theorem dL_law_1300 : decode cL_law 1300 = .ok (.iadd, 1) := by decide +kernel
theorem dL_law_1301 : decode cL_law 1301 = .ok (.iaload, 1) := by decide +kernel
theorem dL_law_1302 : decode cL_law 1302 = .ok (.aload_n 3, 1) := by decide +kernel
theorem dL_law_1303 : decode cL_law 1303 = .ok (.invokestatic 160, 3) := by decide +kernel
theorem dL_law_1306 : decode cL_law 1306 = .ok (.istore 5, 2) := by decide +kernel
theorem dL_law_1308 : decode cL_law 1308 = .ok (.aload_n 2, 1) := by decide +kernel
theorem dL_law_1309 : decode cL_law 1309 = .ok (.aload_n 0, 1) := by decide +kernel
theorem dL_law_1310 : decode cL_law 1310 = .ok (.iload 4, 2) := by decide +kernel
theorem dL_law_1312 : decode cL_law 1312 = .ok (.iconst 1, 1) := by decide +kernel
theorem dL_law_1313 : decode cL_law 1313 = .ok (.iadd, 1) := by decide +kernel
theorem dL_law_1314 : decode cL_law 1314 = .ok (.iaload, 1) := by decide +kernel
theorem dL_law_1315 : decode cL_law 1315 = .ok (.invokevirtual 162, 3) := by decide +kernel
theorem dL_law_1318 : decode cL_law 1318 = .ok (.istore 6, 2) := by decide +kernel
theorem dL_law_1320 : decode cL_law 1320 = .ok (.aload_n 2, 1) := by decide +kernel
theorem dL_law_1321 : decode cL_law 1321 = .ok (.invokevirtual 89, 3) := by decide +kernel
theorem dL_law_1324 : decode cL_law 1324 = .ok (.iload 5, 2) := by decide +kernel
theorem dL_law_1326 : decode cL_law 1326 = .ok (.if_icmp .eq 5, 3) := by decide +kernel
theorem dL_law_1329 : decode cL_law 1329 = .ok (.iconst 0, 1) := by decide +kernel
theorem dL_law_1330 : decode cL_law 1330 = .ok (.ireturn, 1) := by decide +kernel
theorem dL_law_1331 : decode cL_law 1331 = .ok (.iload 5, 2) := by decide +kernel
theorem dL_law_1333 : decode cL_law 1333 = .ok (.ifCond .ne 15, 3) := by decide +kernel
theorem dL_law_1336 : decode cL_law 1336 = .ok (.aload_n 3, 1) := by decide +kernel
theorem dL_law_1337 : decode cL_law 1337 = .ok (.iconst 0, 1) := by decide +kernel
theorem dL_law_1338 : decode cL_law 1338 = .ok (.laload, 1) := by decide +kernel
theorem dL_law_1339 : decode cL_law 1339 = .ok (.iload 6, 2) := by decide +kernel
theorem dL_law_1341 : decode cL_law 1341 = .ok (.i2l, 1) := by decide +kernel
theorem dL_law_1342 : decode cL_law 1342 = .ok (.lcmp, 1) := by decide +kernel
theorem dL_law_1343 : decode cL_law 1343 = .ok (.ifCond .eq 5, 3) := by decide +kernel
theorem dL_law_1346 : decode cL_law 1346 = .ok (.iconst 0, 1) := by decide +kernel
theorem dL_law_1347 : decode cL_law 1347 = .ok (.ireturn, 1) := by decide +kernel
theorem dL_law_1348 : decode cL_law 1348 = .ok (.goto 251, 3) := by decide +kernel
theorem dL_law_1351 : decode cL_law 1351 = .ok (.aload_n 1, 1) := by decide +kernel
theorem dL_law_1352 : decode cL_law 1352 = .ok (.aload_n 0, 1) := by decide +kernel
theorem dL_law_1353 : decode cL_law 1353 = .ok (.iload 4, 2) := by decide +kernel
theorem dL_law_1355 : decode cL_law 1355 = .ok (.iconst 1, 1) := by decide +kernel
theorem dL_law_1356 : decode cL_law 1356 = .ok (.iadd, 1) := by decide +kernel
theorem dL_law_1357 : decode cL_law 1357 = .ok (.iaload, 1) := by decide +kernel
theorem dL_law_1358 : decode cL_law 1358 = .ok (.aload_n 0, 1) := by decide +kernel
theorem dL_law_1359 : decode cL_law 1359 = .ok (.iload 4, 2) := by decide +kernel
theorem dL_law_1361 : decode cL_law 1361 = .ok (.iconst 2, 1) := by decide +kernel
theorem dL_law_1362 : decode cL_law 1362 = .ok (.iadd, 1) := by decide +kernel
theorem dL_law_1363 : decode cL_law 1363 = .ok (.iaload, 1) := by decide +kernel
theorem dL_law_1364 : decode cL_law 1364 = .ok (.aload_n 3, 1) := by decide +kernel
theorem dL_law_1365 : decode cL_law 1365 = .ok (.invokestatic 163, 3) := by decide +kernel
theorem dL_law_1368 : decode cL_law 1368 = .ok (.istore 5, 2) := by decide +kernel
theorem dL_law_1370 : decode cL_law 1370 = .ok (.aload_n 2, 1) := by decide +kernel
theorem dL_law_1371 : decode cL_law 1371 = .ok (.aload_n 0, 1) := by decide +kernel
theorem dL_law_1372 : decode cL_law 1372 = .ok (.iload 4, 2) := by decide +kernel
theorem dL_law_1374 : decode cL_law 1374 = .ok (.iconst 1, 1) := by decide +kernel
theorem dL_law_1375 : decode cL_law 1375 = .ok (.iadd, 1) := by decide +kernel
theorem dL_law_1376 : decode cL_law 1376 = .ok (.iaload, 1) := by decide +kernel
theorem dL_law_1377 : decode cL_law 1377 = .ok (.aload_n 0, 1) := by decide +kernel
theorem dL_law_1378 : decode cL_law 1378 = .ok (.iload 4, 2) := by decide +kernel
theorem dL_law_1380 : decode cL_law 1380 = .ok (.iconst 2, 1) := by decide +kernel
theorem dL_law_1381 : decode cL_law 1381 = .ok (.iadd, 1) := by decide +kernel
theorem dL_law_1382 : decode cL_law 1382 = .ok (.iaload, 1) := by decide +kernel
theorem dL_law_1383 : decode cL_law 1383 = .ok (.invokevirtual 165, 3) := by decide +kernel
theorem dL_law_1386 : decode cL_law 1386 = .ok (.istore 6, 2) := by decide +kernel
theorem dL_law_1388 : decode cL_law 1388 = .ok (.aload_n 2, 1) := by decide +kernel
theorem dL_law_1389 : decode cL_law 1389 = .ok (.invokevirtual 89, 3) := by decide +kernel
theorem dL_law_1392 : decode cL_law 1392 = .ok (.iload 5, 2) := by decide +kernel
theorem dL_law_1394 : decode cL_law 1394 = .ok (.if_icmp .eq 5, 3) := by decide +kernel
theorem dL_law_1397 : decode cL_law 1397 = .ok (.iconst 0, 1) := by decide +kernel
theorem dL_law_1398 : decode cL_law 1398 = .ok (.ireturn, 1) := by decide +kernel
theorem dL_law_1399 : decode cL_law 1399 = .ok (.iload 5, 2) := by decide +kernel
theorem dL_law_1401 : decode cL_law 1401 = .ok (.ifCond .ne 15, 3) := by decide +kernel
theorem dL_law_1404 : decode cL_law 1404 = .ok (.aload_n 3, 1) := by decide +kernel
theorem dL_law_1405 : decode cL_law 1405 = .ok (.iconst 0, 1) := by decide +kernel
theorem dL_law_1406 : decode cL_law 1406 = .ok (.laload, 1) := by decide +kernel
theorem dL_law_1407 : decode cL_law 1407 = .ok (.iload 6, 2) := by decide +kernel
theorem dL_law_1409 : decode cL_law 1409 = .ok (.i2l, 1) := by decide +kernel
theorem dL_law_1410 : decode cL_law 1410 = .ok (.lcmp, 1) := by decide +kernel
theorem dL_law_1411 : decode cL_law 1411 = .ok (.ifCond .eq 5, 3) := by decide +kernel
theorem dL_law_1414 : decode cL_law 1414 = .ok (.iconst 0, 1) := by decide +kernel
theorem dL_law_1415 : decode cL_law 1415 = .ok (.ireturn, 1) := by decide +kernel
theorem dL_law_1416 : decode cL_law 1416 = .ok (.goto 183, 3) := by decide +kernel
theorem dL_law_1419 : decode cL_law 1419 = .ok (.aload_n 1, 1) := by decide +kernel
theorem dL_law_1420 : decode cL_law 1420 = .ok (.aload_n 0, 1) := by decide +kernel
theorem dL_law_1421 : decode cL_law 1421 = .ok (.iload 4, 2) := by decide +kernel
theorem dL_law_1423 : decode cL_law 1423 = .ok (.iconst 1, 1) := by decide +kernel
theorem dL_law_1424 : decode cL_law 1424 = .ok (.iadd, 1) := by decide +kernel
theorem dL_law_1425 : decode cL_law 1425 = .ok (.iaload, 1) := by decide +kernel
theorem dL_law_1426 : decode cL_law 1426 = .ok (.aload_n 3, 1) := by decide +kernel
theorem dL_law_1427 : decode cL_law 1427 = .ok (.invokestatic 166, 3) := by decide +kernel
theorem dL_law_1430 : decode cL_law 1430 = .ok (.istore 5, 2) := by decide +kernel
theorem dL_law_1432 : decode cL_law 1432 = .ok (.aload_n 2, 1) := by decide +kernel
theorem dL_law_1433 : decode cL_law 1433 = .ok (.aload_n 0, 1) := by decide +kernel
theorem dL_law_1434 : decode cL_law 1434 = .ok (.iload 4, 2) := by decide +kernel
theorem dL_law_1436 : decode cL_law 1436 = .ok (.iconst 1, 1) := by decide +kernel
theorem dL_law_1437 : decode cL_law 1437 = .ok (.iadd, 1) := by decide +kernel
theorem dL_law_1438 : decode cL_law 1438 = .ok (.iaload, 1) := by decide +kernel
theorem dL_law_1439 : decode cL_law 1439 = .ok (.invokevirtual 168, 3) := by decide +kernel
theorem dL_law_1442 : decode cL_law 1442 = .ok (.istore 6, 2) := by decide +kernel
theorem dL_law_1444 : decode cL_law 1444 = .ok (.aload_n 2, 1) := by decide +kernel
theorem dL_law_1445 : decode cL_law 1445 = .ok (.invokevirtual 89, 3) := by decide +kernel
theorem dL_law_1448 : decode cL_law 1448 = .ok (.iload 5, 2) := by decide +kernel
theorem dL_law_1450 : decode cL_law 1450 = .ok (.if_icmp .eq 5, 3) := by decide +kernel
theorem dL_law_1453 : decode cL_law 1453 = .ok (.iconst 0, 1) := by decide +kernel
theorem dL_law_1454 : decode cL_law 1454 = .ok (.ireturn, 1) := by decide +kernel
theorem dL_law_1455 : decode cL_law 1455 = .ok (.iload 5, 2) := by decide +kernel
theorem dL_law_1457 : decode cL_law 1457 = .ok (.ifCond .ne 15, 3) := by decide +kernel
theorem dL_law_1460 : decode cL_law 1460 = .ok (.aload_n 3, 1) := by decide +kernel
theorem dL_law_1461 : decode cL_law 1461 = .ok (.iconst 0, 1) := by decide +kernel
theorem dL_law_1462 : decode cL_law 1462 = .ok (.laload, 1) := by decide +kernel
theorem dL_law_1463 : decode cL_law 1463 = .ok (.iload 6, 2) := by decide +kernel
theorem dL_law_1465 : decode cL_law 1465 = .ok (.i2l, 1) := by decide +kernel
theorem dL_law_1466 : decode cL_law 1466 = .ok (.lcmp, 1) := by decide +kernel
theorem dL_law_1467 : decode cL_law 1467 = .ok (.ifCond .eq 5, 3) := by decide +kernel
theorem dL_law_1470 : decode cL_law 1470 = .ok (.iconst 0, 1) := by decide +kernel
theorem dL_law_1471 : decode cL_law 1471 = .ok (.ireturn, 1) := by decide +kernel
theorem dL_law_1472 : decode cL_law 1472 = .ok (.goto 127, 3) := by decide +kernel
theorem dL_law_1475 : decode cL_law 1475 = .ok (.aload_n 1, 1) := by decide +kernel
theorem dL_law_1476 : decode cL_law 1476 = .ok (.aload_n 0, 1) := by decide +kernel
theorem dL_law_1477 : decode cL_law 1477 = .ok (.iload 4, 2) := by decide +kernel
theorem dL_law_1479 : decode cL_law 1479 = .ok (.iconst 1, 1) := by decide +kernel
theorem dL_law_1480 : decode cL_law 1480 = .ok (.iadd, 1) := by decide +kernel
theorem dL_law_1481 : decode cL_law 1481 = .ok (.iaload, 1) := by decide +kernel
theorem dL_law_1482 : decode cL_law 1482 = .ok (.aload_n 3, 1) := by decide +kernel
theorem dL_law_1483 : decode cL_law 1483 = .ok (.invokestatic 169, 3) := by decide +kernel
theorem dL_law_1486 : decode cL_law 1486 = .ok (.istore 5, 2) := by decide +kernel
theorem dL_law_1488 : decode cL_law 1488 = .ok (.aload_n 2, 1) := by decide +kernel
theorem dL_law_1489 : decode cL_law 1489 = .ok (.aload_n 0, 1) := by decide +kernel
theorem dL_law_1490 : decode cL_law 1490 = .ok (.iload 4, 2) := by decide +kernel
theorem dL_law_1492 : decode cL_law 1492 = .ok (.iconst 1, 1) := by decide +kernel
theorem dL_law_1493 : decode cL_law 1493 = .ok (.iadd, 1) := by decide +kernel
theorem dL_law_1494 : decode cL_law 1494 = .ok (.iaload, 1) := by decide +kernel
theorem dL_law_1495 : decode cL_law 1495 = .ok (.invokevirtual 171, 3) := by decide +kernel
theorem dL_law_1498 : decode cL_law 1498 = .ok (.istore 6, 2) := by decide +kernel
theorem dL_law_1500 : decode cL_law 1500 = .ok (.aload_n 2, 1) := by decide +kernel
theorem dL_law_1501 : decode cL_law 1501 = .ok (.invokevirtual 89, 3) := by decide +kernel
theorem dL_law_1504 : decode cL_law 1504 = .ok (.iload 5, 2) := by decide +kernel
theorem dL_law_1506 : decode cL_law 1506 = .ok (.if_icmp .eq 5, 3) := by decide +kernel
theorem dL_law_1509 : decode cL_law 1509 = .ok (.iconst 0, 1) := by decide +kernel
theorem dL_law_1510 : decode cL_law 1510 = .ok (.ireturn, 1) := by decide +kernel
theorem dL_law_1511 : decode cL_law 1511 = .ok (.iload 5, 2) := by decide +kernel
theorem dL_law_1513 : decode cL_law 1513 = .ok (.ifCond .ne 15, 3) := by decide +kernel
theorem dL_law_1516 : decode cL_law 1516 = .ok (.aload_n 3, 1) := by decide +kernel
theorem dL_law_1517 : decode cL_law 1517 = .ok (.iconst 0, 1) := by decide +kernel
theorem dL_law_1518 : decode cL_law 1518 = .ok (.laload, 1) := by decide +kernel
theorem dL_law_1519 : decode cL_law 1519 = .ok (.iload 6, 2) := by decide +kernel
theorem dL_law_1521 : decode cL_law 1521 = .ok (.i2l, 1) := by decide +kernel
theorem dL_law_1522 : decode cL_law 1522 = .ok (.lcmp, 1) := by decide +kernel
theorem dL_law_1523 : decode cL_law 1523 = .ok (.ifCond .eq 5, 3) := by decide +kernel
theorem dL_law_1526 : decode cL_law 1526 = .ok (.iconst 0, 1) := by decide +kernel
theorem dL_law_1527 : decode cL_law 1527 = .ok (.ireturn, 1) := by decide +kernel
theorem dL_law_1528 : decode cL_law 1528 = .ok (.goto 71, 3) := by decide +kernel
theorem dL_law_1531 : decode cL_law 1531 = .ok (.aload_n 1, 1) := by decide +kernel
theorem dL_law_1532 : decode cL_law 1532 = .ok (.invokevirtual 172, 3) := by decide +kernel
theorem dL_law_1535 : decode cL_law 1535 = .ok (.aload_n 2, 1) := by decide +kernel
theorem dL_law_1536 : decode cL_law 1536 = .ok (.invokevirtual 175, 3) := by decide +kernel
theorem dL_law_1539 : decode cL_law 1539 = .ok (.if_icmp .eq 60, 3) := by decide +kernel
theorem dL_law_1542 : decode cL_law 1542 = .ok (.iconst 0, 1) := by decide +kernel
theorem dL_law_1543 : decode cL_law 1543 = .ok (.ireturn, 1) := by decide +kernel
theorem dL_law_1544 : decode cL_law 1544 = .ok (.aload_n 1, 1) := by decide +kernel
theorem dL_law_1545 : decode cL_law 1545 = .ok (.invokevirtual 176, 3) := by decide +kernel
theorem dL_law_1548 : decode cL_law 1548 = .ok (.dstore 5, 2) := by decide +kernel
theorem dL_law_1550 : decode cL_law 1550 = .ok (.aload_n 2, 1) := by decide +kernel
theorem dL_law_1551 : decode cL_law 1551 = .ok (.invokevirtual 180, 3) := by decide +kernel
theorem dL_law_1554 : decode cL_law 1554 = .ok (.dstore 7, 2) := by decide +kernel
theorem dL_law_1556 : decode cL_law 1556 = .ok (.dload 5, 2) := by decide +kernel
theorem dL_law_1558 : decode cL_law 1558 = .ok (.dload 7, 2) := by decide +kernel
theorem dL_law_1560 : decode cL_law 1560 = .ok (.dcmp .l, 1) := by decide +kernel
theorem dL_law_1561 : decode cL_law 1561 = .ok (.ifCond .eq 21, 3) := by decide +kernel
theorem dL_law_1564 : decode cL_law 1564 = .ok (.dload 5, 2) := by decide +kernel
theorem dL_law_1566 : decode cL_law 1566 = .ok (.dload 5, 2) := by decide +kernel
theorem dL_law_1568 : decode cL_law 1568 = .ok (.dcmp .l, 1) := by decide +kernel
theorem dL_law_1569 : decode cL_law 1569 = .ok (.ifCond .eq 11, 3) := by decide +kernel
theorem dL_law_1572 : decode cL_law 1572 = .ok (.dload 7, 2) := by decide +kernel
theorem dL_law_1574 : decode cL_law 1574 = .ok (.dload 7, 2) := by decide +kernel
theorem dL_law_1576 : decode cL_law 1576 = .ok (.dcmp .l, 1) := by decide +kernel
theorem dL_law_1577 : decode cL_law 1577 = .ok (.ifCond .ne 5, 3) := by decide +kernel
theorem dL_law_1580 : decode cL_law 1580 = .ok (.iconst 0, 1) := by decide +kernel
theorem dL_law_1581 : decode cL_law 1581 = .ok (.ireturn, 1) := by decide +kernel
theorem dL_law_1582 : decode cL_law 1582 = .ok (.goto 17, 3) := by decide +kernel
theorem dL_law_1585 : decode cL_law 1585 = .ok (.aload_n 1, 1) := by decide +kernel
theorem dL_law_1586 : decode cL_law 1586 = .ok (.invokevirtual 181, 3) := by decide +kernel
theorem dL_law_1589 : decode cL_law 1589 = .ok (.aload_n 2, 1) := by decide +kernel
theorem dL_law_1590 : decode cL_law 1590 = .ok (.invokevirtual 185, 3) := by decide +kernel
theorem dL_law_1593 : decode cL_law 1593 = .ok (.lcmp, 1) := by decide +kernel
theorem dL_law_1594 : decode cL_law 1594 = .ok (.ifCond .eq 5, 3) := by decide +kernel
theorem dL_law_1597 : decode cL_law 1597 = .ok (.iconst 0, 1) := by decide +kernel
theorem dL_law_1598 : decode cL_law 1598 = .ok (.ireturn, 1) := by decide +kernel
theorem dL_law_1599 : decode cL_law 1599 = .ok (.iinc 4 4, 3) := by decide +kernel
theorem dL_law_1602 : decode cL_law 1602 = .ok (.goto (-1579), 3) := by decide +kernel
theorem dL_law_1605 : decode cL_law 1605 = .ok (.iconst 1, 1) := by decide +kernel
theorem dL_law_1606 : decode cL_law 1606 = .ok (.ireturn, 1) := by decide +kernel
end
section
/-! ===== own base: contracts that only read (wPR), contracts that change their world (wPQ, wB), and calls of both, one row a call ===== -/
theorem mg {w : Cond} {L : List Cond} (i : Nat) (h : L[i]? = some w) : w ∈ L := List.mem_of_getElem? h
theorem fm_of {α β : Type} {f : α → Option β} {is : List α} {ws : List β} (h : is.map f = ws.map some) : is.filterMap f = ws := by
  have h1 : is.filterMap f = (is.map f).filterMap id := by simp [List.filterMap_map]
  rw [h1, h]
  simp [List.filterMap_map]
def KS (U : State) : Prop := va_Nw (.methodLinkNest RX0 53 yX1_setCell RX1) U ∧ va_Nw (.methodLinkNest RX0 57 yX1_copyCells RX1) U ∧ va_Nw (.methodLinkNest RX0 61 yX1_cell RX1) U
theorem KS.warm {s U : State} (hW : s.WarmedH U.vm) (h : KS s) : KS U := ⟨va_Nw.warmM hW h.1, va_Nw.warmM hW h.2.1, va_Nw.warmM hW h.2.2⟩
theorem KS.same {u U : State} (hv : u.vm = U.vm) (h : KS u) : KS U := ⟨va_Nw.same rfl hv h.1, va_Nw.same rfl hv h.2.1, va_Nw.same rfl hv h.2.2⟩
def wPR (D : va_G) (tys : List (ClassId × FieldType)) (ws : va_W) (U : State) : Prop := va_P D vwCl ws U.heap ∧ va_K D vwCl tys U ∧ KS U
theorem wPR.blind {D : va_G} {tys : List (ClassId × FieldType)} {ws : va_W} {As : List Value} : FrameBlind (va_Pc As (wPR D tys ws)) := fun a U g mk q => ⟨q.1, q.2.1, va_K.moved (u := U) (U := U.calling g mk a) (Vm.Alike.refl U.vm) q.2.2.1, KS.same (u := U) rfl q.2.2.2⟩
theorem wPR.of {D : va_G} {tys : List (ClassId × FieldType)} {ws : va_W} {s : State} {H : Heap} {As : List Value} (hP : va_P D vwCl ws H) (hK : va_K D vwCl tys s) (hN : KS s) : ∀ U : State, U.heap = H → s.WarmedH U.vm → va_Pc As (wPR D tys ws) As.toArray U := fun U hU hW => ⟨rfl, by rw [hU]; exact hP, va_K.moved hW.alike hK, KS.warm hW hN⟩
def wPQ (D : va_G) (tys : List (ClassId × FieldType)) (sz : Nat) (ws : va_W) (U : State) : Prop := U.heap.size = sz ∧ va_P D vwCl ws U.heap ∧ va_K D vwCl tys U ∧ KS U ∧ va_D (fun _ => True) ws
theorem wPQ.blind {D : va_G} {tys : List (ClassId × FieldType)} {sz : Nat} {ws : va_W} {As : List Value} : FrameBlind (va_Pc As (wPQ D tys sz ws)) := fun a U g mk q => ⟨q.1, q.2.1, q.2.2.1, va_K.moved (u := U) (U := U.calling g mk a) (Vm.Alike.refl U.vm) q.2.2.2.1, KS.same (u := U) rfl q.2.2.2.2.1, q.2.2.2.2.2⟩
theorem wPQ.of {D : va_G} {tys : List (ClassId × FieldType)} {ws : va_W} {A : Nat → Prop} {s : State} {H : Heap} {As : List Value} (hP : va_P D vwCl ws H) (hK : va_K D vwCl tys s) (hN : KS s) (hD : va_D A ws) : ∀ U : State, U.heap = H → s.WarmedH U.vm → va_Pc As (wPQ D tys H.size ws) As.toArray U := fun U hU hW => ⟨rfl, by rw [hU], by rw [hU]; exact hP, va_K.moved hW.alike hK, KS.warm hW hN, hD.weaken (fun _ _ _ _ => trivial)⟩
def wB (D : va_G) (tys : List (ClassId × FieldType)) (A : Nat → Prop) {S : Type} (w : S → va_W) (u : S) (t : State) : Prop := va_P D vwCl (w u) t.heap ∧ va_K D vwCl tys t ∧ va_D A (w u)
section KB
variable {p : Program} {l : Launch} {e : Env} {R : Room} {s : State} {m : MethodId} {args : Array Value} {below : List Frame} {meth : Method} {c : Code} {H : Heap} {locs : List Loc} {cells slots : Nat} {Q : State → Prop}
variable {D : va_G} {tys tys' : List (ClassId × FieldType)} {Wd Wd' : va_W}
/-- a body that only reads -/
theorem mR_of {y : MethodName} {ws ws' : List Cond} {rm : Room} {cc : ByteArray} {maxL : Nat} {ret : Option FieldType} {As : List Value} {Qc : Array Value → State → Outcome → State → Prop}
    (hy : plainName y.cls = true) (hw : ws = Cond.code y cc maxL ret :: ws') (hn : (lg_sl As).length ≤ maxL)
    (body : ∀ (p : Program) (e : Env) (s : State) (m : MethodId) (below : List Frame) (meth : Method) (c : Code), p.tables.exec = Jvm.exec → c.code = cc → meth.sig.returnType = ret → c.maxLocals = maxL → s.vm.findClass y.cls = some m.cls → (∀ w ∈ ws, w.before As.toArray s = true) → meth.locks = false → va_P D vwCl Wd s.heap → va_K D vwCl tys s → KS s → ∀ ls : Array Slot, lv_has ls maxL (lv_args 0 As) →
      W p l e rm s m As.toArray below meth c s.heap [] 0 0 (MQ below Qc As.toArray s 0 0 (fun _ => False)) (F0 m 0 ls [])) :
    Met l y ws rm (va_Pc As (wPR D tys Wd)) Qc 0 0 (fun _ => False) := by
  refine Met.ofW (cc := cc) (maxL := maxL) (ret := ret) hy hw ?_
  intro p e s m args below meth c s₁ B hml hv
  obtain ⟨rfl, hP, hK, hN⟩ := hv
  have hl := lv_entry As (n := maxL) hn
  rw [lg_entry_eq]
  exact body p e s m below meth c B.exec B.bytes B.returns hml (findClass_of_methodNamed B.named) (atoms_spec (ws := ws) B.pre) B.notSynchronized hP hK hN _ hl
/-- a body that changes its world, and may make cells -/
theorem mQ_of {y : MethodName} {ws ws' : List Cond} {rm : Room} {cc : ByteArray} {maxL mc ms : Nat} {ret : Option FieldType} {As : List Value} {Qc : Array Value → State → Outcome → State → Prop} {sz : Nat}
    (hy : plainName y.cls = true) (hw : ws = Cond.code y cc maxL ret :: ws') (hn : (lg_sl As).length ≤ maxL)
    (body : ∀ (p : Program) (e : Env) (s : State) (m : MethodId) (below : List Frame) (meth : Method) (c : Code), p.tables.exec = Jvm.exec → c.code = cc → meth.sig.returnType = ret → c.maxLocals = maxL → s.vm.findClass y.cls = some m.cls → meth.name = y.name → (∀ w ∈ ws, w.before As.toArray s = true) → meth.locks = false → s.heap.size = sz → va_P D vwCl Wd s.heap → va_K D vwCl tys s → KS s → va_D (va_A Wd sz) Wd → (∀ q : Nat, s.heap.size ≤ q → va_A Wd sz q) → va_S (va_A Wd sz) s.heap s.heap [] → ∀ ls : Array Slot, lv_has ls maxL (lv_args 0 As) →
      W p l e rm s m As.toArray below meth c s.heap [] 0 0 (MQ below Qc As.toArray s mc ms (va_A Wd sz)) (F0 m 0 ls [])) :
    Met l y ws rm (va_Pc As (wPQ D tys sz Wd)) Qc mc ms (va_A Wd sz) := by
  refine Met.ofW (cc := cc) (maxL := maxL) (ret := ret) hy hw ?_
  intro p e s m args below meth c s₁ B hml hv
  obtain ⟨rfl, hsz, hP, hK, hN, hD⟩ := hv
  have hl := lv_entry As (n := maxL) hn
  rw [lg_entry_eq]
  exact body p e s m below meth c B.exec B.bytes B.returns hml (findClass_of_methodNamed B.named) (name_of_methodNamed B.named B.method).1 (atoms_spec (ws := ws) B.pre) B.notSynchronized hsz hP hK hN (hD.self) (fun q h => Or.inr (hsz ▸ h)) va_S.rf _ hl
theorem eRi {cc : ByteArray} {post : Int32 → Prop} {v : Int32} {pc : Nat} {ls : Array Slot} (hx : p.tables.exec = Jvm.exec) (hb : c.code = cc) (hr : meth.sig.returnType = some .int) (hlocks : meth.locks = false) (hdg : decode cc pc = .ok (.ireturn, 1)) (h : post v) : W p l e R s m args below meth c s.heap [] 0 0 (MQ below (vp_Si post) args s 0 0 (fun _ => False)) (F0 m pc ls [.int v]) := W.iret hx hb hr (fun t ht _ => ⟨v, rfl, h, ht⟩) (fun q hq => absurd hq List.not_mem_nil) hdg hlocks
theorem nar_b {v : Int32} (hv : v = 0 ∨ v = 1) : narrow .boolean (.int v) = .int v := by rcases hv with rfl | rfl <;> rfl
theorem eRz {cc : ByteArray} {post : Int32 → Prop} {v : Int32} {pc : Nat} {ls : Array Slot} (hx : p.tables.exec = Jvm.exec) (hb : c.code = cc) (hr : meth.sig.returnType = some .boolean) (hlocks : meth.locks = false) (hdg : decode cc pc = .ok (.ireturn, 1)) (hv : v = 0 ∨ v = 1) (h : post v) : W p l e R s m args below meth c s.heap [] 0 0 (MQ below (vp_Si post) args s 0 0 (fun _ => False)) (F0 m pc ls [.int v]) := W.zret hx hb hr (nar_b hv) (fun t ht _ => ⟨v, rfl, h, ht⟩) (fun q hq => absurd hq List.not_mem_nil) hdg hlocks
theorem eRv {cc : ByteArray} {post : Unit → Prop} {pc : Nat} {ls : Array Slot} (hx : p.tables.exec = Jvm.exec) (hb : c.code = cc) (hr : meth.sig.returnType = none) (hlocks : meth.locks = false) (hdg : decode cc pc = .ok (.return_, 1)) (h : post ()) : W p l e R s m args below meth c s.heap [] 0 0 (MQ below (va_Sv post) args s 0 0 (fun _ => False)) (F0 m pc ls []) := W.vret hx hb hr (fun t ht _ => ⟨rfl, h, ht⟩) (fun q hq => absurd hq List.not_mem_nil) hdg hlocks
section EQ
variable {S : Type} {w : S → va_W} {A : Nat → Prop}
theorem eQi {cc : ByteArray} {post : Int32 → S → Prop} {v : Int32} {pc : Nat} {ls : Array Slot} (u : S) (hx : p.tables.exec = Jvm.exec) (hb : c.code = cc) (hr : meth.sig.returnType = some .int) (hlocks : meth.locks = false) (hP : va_P D vwCl (w u) H) (hD : va_D A (w u)) (hK : va_K D vwCl tys s) (hS : va_S A s.heap H locs) (hdg : decode cc pc = .ok (.ireturn, 1)) (h : post v u) : W p l e R s m args below meth c H locs cells slots (MQ below (va_Qi post (wB D tys A w) A) args s cells slots A) (F0 m pc ls [.int v]) := W.iret hx hb hr (fun t ht hW => ⟨⟨v, u, rfl, h, by rw [ht]; exact hP, va_K.moved hW.alike hK, hD⟩, hS.F ht⟩) hS.2.2 hdg hlocks
theorem eQz {cc : ByteArray} {post : Int32 → S → Prop} {v : Int32} {pc : Nat} {ls : Array Slot} (u : S) (hx : p.tables.exec = Jvm.exec) (hb : c.code = cc) (hr : meth.sig.returnType = some .boolean) (hlocks : meth.locks = false) (hP : va_P D vwCl (w u) H) (hD : va_D A (w u)) (hK : va_K D vwCl tys s) (hS : va_S A s.heap H locs) (hdg : decode cc pc = .ok (.ireturn, 1)) (hv : v = 0 ∨ v = 1) (h : post v u) : W p l e R s m args below meth c H locs cells slots (MQ below (va_Qi post (wB D tys A w) A) args s cells slots A) (F0 m pc ls [.int v]) := W.zret hx hb hr (nar_b hv) (fun t ht hW => ⟨⟨v, u, rfl, h, by rw [ht]; exact hP, va_K.moved hW.alike hK, hD⟩, hS.F ht⟩) hS.2.2 hdg hlocks
theorem eQl {cc : ByteArray} {post : Int64 → S → Prop} {v : Int64} {pc : Nat} {ls : Array Slot} (u : S) (hx : p.tables.exec = Jvm.exec) (hb : c.code = cc) (hr : meth.sig.returnType = some .long) (hlocks : meth.locks = false) (hP : va_P D vwCl (w u) H) (hD : va_D A (w u)) (hK : va_K D vwCl tys s) (hS : va_S A s.heap H locs) (hdg : decode cc pc = .ok (.lreturn, 1)) (h : post v u) : W p l e R s m args below meth c H locs cells slots (MQ below (va_Ql post (wB D tys A w) A) args s cells slots A) (F0 m pc ls [.long v]) := W.lret hx hb hr (fun t ht hW => ⟨⟨v, u, rfl, h, by rw [ht]; exact hP, va_K.moved hW.alike hK, hD⟩, hS.F ht⟩) hS.2.2 hdg hlocks
theorem eQv {cc : ByteArray} {post : S → Prop} {pc : Nat} {ls : Array Slot} (u : S) (hx : p.tables.exec = Jvm.exec) (hb : c.code = cc) (hr : meth.sig.returnType = none) (hlocks : meth.locks = false) (hP : va_P D vwCl (w u) H) (hD : va_D A (w u)) (hK : va_K D vwCl tys s) (hS : va_S A s.heap H locs) (hdg : decode cc pc = .ok (.return_, 1)) (h : post u) : W p l e R s m args below meth c H locs cells slots (MQ below (va_Qv post (wB D tys A w) A) args s cells slots A) (F0 m pc ls []) := W.vret hx hb hr (fun t ht hW => ⟨⟨u, rfl, h, by rw [ht]; exact hP, va_K.moved hW.alike hK, hD⟩, hS.F ht⟩) hS.2.2 hdg hlocks
end EQ
variable {y : MethodName} {bytes cc : ByteArray} {maxL nL n index mc ms : Nat} {ret : Option FieldType} {ws : List Cond} {rm : Room} {Ts : List Cond} {own C host : String} {b : Addr} {As st0 rest : List Value} {pc : Nat} {ls : Array Slot} {T : u_T} {N ci : Nat} {fs : List Value}
-- calls of what only reads
theorem kRVi {post : Int32 → Prop} (Sf : CallFix p m c cc nL s args Ts own) (hM : Met l y ws rm (va_Pc (.ref b :: As) (wPR D tys' Wd')) (vp_Si post) 0 0 (fun _ => False)) (cw : CallW R s args own C index y bytes maxL ret ws rm 0 0 n)
    (hP : va_P D vwCl Wd H) (hK : va_K D vwCl tys s) (hN : KS s) (is : List Nat) (hW : is.map (fun i => Wd[i]?) = Wd'.map some) (ts : List Nat) (hT : ts.filterMap (fun i => tys[i]?) = tys') (hci : vwCl[ci]? = some (C, T, N)) (hq0 : Wd'[0]? = some (b, .inr (ci, fs)))
    (hn : As.length = n) (hsize : ls.size = nL) (hstack : st0 = As.reverse ++ .ref b :: rest) (hW8 : (rest.map fun v => v.category).sum ≤ 8) (hdg : decode cc pc = .ok (.invokevirtual index, 3)) (hf : cells ≤ R.cells ∧ slots ≤ R.slots)
    (kk : ∀ r : Int32, post r → W p l e R s m args below meth c H locs cells slots Q (F0 m (pc + 3) ls (.int r :: rest))) : W p l e R s m args below meth c H locs cells slots Q (F0 m pc ls st0) :=
  vp_callSi (va_runV (As := As) (rest := rest) Sf hM cw ⟨wPR.blind, va_recv hK (hP.sub is (fm_of hW)) hci hq0, wPR.of (hP.sub is (fm_of hW)) (hK.sub ts hT) hN⟩ rfl hn hsize hstack (lv_room hW8) hdg hf).run kk
theorem kRVv {post : Unit → Prop} (Sf : CallFix p m c cc nL s args Ts own) (hM : Met l y ws rm (va_Pc (.ref b :: As) (wPR D tys' Wd')) (va_Sv post) 0 0 (fun _ => False)) (cw : CallW R s args own C index y bytes maxL ret ws rm 0 0 n)
    (hP : va_P D vwCl Wd H) (hK : va_K D vwCl tys s) (hN : KS s) (is : List Nat) (hW : is.map (fun i => Wd[i]?) = Wd'.map some) (ts : List Nat) (hT : ts.filterMap (fun i => tys[i]?) = tys') (hci : vwCl[ci]? = some (C, T, N)) (hq0 : Wd'[0]? = some (b, .inr (ci, fs)))
    (hn : As.length = n) (hsize : ls.size = nL) (hstack : st0 = As.reverse ++ .ref b :: rest) (hW8 : (rest.map fun v => v.category).sum ≤ 8) (hdg : decode cc pc = .ok (.invokevirtual index, 3)) (hf : cells ≤ R.cells ∧ slots ≤ R.slots)
    (kk : W p l e R s m args below meth c H locs cells slots Q (F0 m (pc + 3) ls rest)) : W p l e R s m args below meth c H locs cells slots Q (F0 m pc ls st0) :=
  va_csv (va_runV (As := As) (rest := rest) Sf hM cw ⟨wPR.blind, va_recv hK (hP.sub is (fm_of hW)) hci hq0, wPR.of (hP.sub is (fm_of hW)) (hK.sub ts hT) hN⟩ rfl hn hsize hstack (lv_room hW8) hdg hf).run (fun _ => kk)
theorem kRSi {post : Int32 → Prop} (Sf : CallFix p m c cc nL s args Ts own) (hM : Met l y ws rm (va_Pc As (wPR D tys' Wd')) (vp_Si post) 0 0 (fun _ => False)) (cw : CallB R s args own index y bytes maxL ret ws rm 0 0 n ∧ (Cond.static y).before args s = true)
    (hP : va_P D vwCl Wd H) (hK : va_K D vwCl tys s) (hN : KS s) (is : List Nat) (hW : is.map (fun i => Wd[i]?) = Wd'.map some) (ts : List Nat) (hT : ts.filterMap (fun i => tys[i]?) = tys')
    (hn : As.length = n) (hsize : ls.size = nL) (hstack : st0 = As.reverse ++ rest) (hW8 : (rest.map fun v => v.category).sum ≤ 8) (hdg : decode cc pc = .ok (.invokestatic index, 3)) (hf : cells ≤ R.cells ∧ slots ≤ R.slots)
    (kk : ∀ r : Int32, post r → W p l e R s m args below meth c H locs cells slots Q (F0 m (pc + 3) ls (.int r :: rest))) : W p l e R s m args below meth c H locs cells slots Q (F0 m pc ls st0) :=
  vp_callSi (va_runS (As := As) (rest := rest) Sf hM cw ⟨wPR.blind, wPR.of (hP.sub is (fm_of hW)) (hK.sub ts hT) hN⟩ rfl hn hsize hstack (lv_room hW8) hdg hf).run kk
theorem kRSv {post : Unit → Prop} (Sf : CallFix p m c cc nL s args Ts own) (hM : Met l y ws rm (va_Pc As (wPR D tys' Wd')) (va_Sv post) 0 0 (fun _ => False)) (cw : CallB R s args own index y bytes maxL ret ws rm 0 0 n ∧ (Cond.static y).before args s = true)
    (hP : va_P D vwCl Wd H) (hK : va_K D vwCl tys s) (hN : KS s) (is : List Nat) (hW : is.map (fun i => Wd[i]?) = Wd'.map some) (ts : List Nat) (hT : ts.filterMap (fun i => tys[i]?) = tys')
    (hn : As.length = n) (hsize : ls.size = nL) (hstack : st0 = As.reverse ++ rest) (hW8 : (rest.map fun v => v.category).sum ≤ 8) (hdg : decode cc pc = .ok (.invokestatic index, 3)) (hf : cells ≤ R.cells ∧ slots ≤ R.slots)
    (kk : W p l e R s m args below meth c H locs cells slots Q (F0 m (pc + 3) ls rest)) : W p l e R s m args below meth c H locs cells slots Q (F0 m pc ls st0) :=
  va_csv (va_runS (As := As) (rest := rest) Sf hM cw ⟨wPR.blind, wPR.of (hP.sub is (fm_of hW)) (hK.sub ts hT) hN⟩ rfl hn hsize hstack (lv_room hW8) hdg hf).run (fun _ => kk)
theorem kRNi {post : Int32 → Prop} (Sf : CallFix p m c cc nL s args Ts own) (hM : Met l y ws rm (va_Pc As (wPR D tys' Wd')) (vp_Si post) 0 0 (fun _ => False)) (cw : va_CN R s args own index y host bytes maxL ret ws rm 0 0 n ∧ (Cond.static y).before args s = true ∧ True)
    (hP : va_P D vwCl Wd H) (hK : va_K D vwCl tys s) (hN : KS s) (is : List Nat) (hW : is.map (fun i => Wd[i]?) = Wd'.map some) (ts : List Nat) (hT : ts.filterMap (fun i => tys[i]?) = tys')
    (hn : As.length = n) (hsize : ls.size = nL) (hstack : st0 = As.reverse ++ rest) (hW8 : (rest.map fun v => v.category).sum ≤ 8) (hdg : decode cc pc = .ok (.invokestatic index, 3)) (hf : cells ≤ R.cells ∧ slots ≤ R.slots)
    (kk : ∀ r : Int32, post r → W p l e R s m args below meth c H locs cells slots Q (F0 m (pc + 3) ls (.int r :: rest))) : W p l e R s m args below meth c H locs cells slots Q (F0 m pc ls st0) :=
  vp_callSi (va_runSN (As := As) (rest := rest) Sf hM cw ⟨wPR.blind, wPR.of (hP.sub is (fm_of hW)) (hK.sub ts hT) hN⟩ rfl hn hsize hstack (lv_room hW8) hdg hf).run kk
-- calls of what changes its world
section CQ
variable {S : Type} {w W2 : S → va_W} {wr : va_W} {A : Nat → Prop} {H0 : Heap}
theorem kQVi {post : Int32 → S → Prop} (Sf : CallFix p m c cc nL s args Ts own) (hM : Met l y ws rm (va_Pc (.ref b :: As) (wPQ D tys' H.size Wd')) (va_Qi post (wB D tys' (va_A Wd' H.size) w) (va_A Wd' H.size)) mc ms (va_A Wd' H.size)) (cw : CallW R s args own C index y bytes maxL ret ws rm mc ms n)
    (hP : va_P D vwCl Wd H) (hD : va_D A Wd) (hK : va_K D vwCl tys s) (hN : KS s) (hS : va_S A H0 H locs) (hA : ∀ q, H0.size ≤ q → A q) (is : List Nat) (hnd : va_nd is = true) (hW : is.map (fun i => Wd[i]?) = Wd'.map some) (ir : List Nat) (hrn : va_nd ir = true) (hR : ir.map (fun i => Wd[i]?) = wr.map some) (hdis : ∀ i ∈ ir, i ∉ is) (pm : List Nat) (hpn : va_nd pm = true) (hpm : ∀ u, pm.map (fun i => (wr ++ w u)[i]?) = (W2 u).map some) (ts : List Nat) (hT : ts.filterMap (fun i => tys[i]?) = tys') (hci : vwCl[ci]? = some (C, T, N)) (hq0 : Wd'[0]? = some (b, .inr (ci, fs)))
    (hn : As.length = n) (hsize : ls.size = nL) (hstack : st0 = As.reverse ++ .ref b :: rest) (hW8 : (rest.map fun v => v.category).sum ≤ 8) (hdg : decode cc pc = .ok (.invokevirtual index, 3)) (hf : cells + mc ≤ R.cells ∧ slots + ms ≤ R.slots)
    (kk : ∀ (r : Int32) (u : S) (H1 : Heap) (locs1 : List Loc), post r u → va_P D vwCl (W2 u) H1 → va_D A (W2 u) → va_S A H0 H1 locs1 → W p l e R s m args below meth c H1 locs1 (cells + mc) (slots + ms) Q (F0 m (pc + 3) ls (.int r :: rest))) : W p l e R s m args below meth c H locs cells slots Q (F0 m pc ls st0) := by
  have hFc := va_free (wc := Wd') hD hS hA is hW
  refine va_calli (va_runV (As := As) (rest := rest) Sf hM cw ⟨wPQ.blind, va_recv hK (hP.sub is (fm_of hW)) hci hq0, wPQ.of (hP.sub is (fm_of hW)) (hK.sub ts hT) hN (hD.sub is hnd hW)⟩ rfl hn hsize hstack (lv_room hW8) hdg hf) hS (fun q _ h => hFc q h) hFc (fun r u t H1 locs1 ht hvm hw hB hz1 hk1 hS1 => ?_)
  obtain ⟨hP1, hK1, hD1⟩ := hB
  rw [ht] at hP1
  obtain ⟨hP2, hD2⟩ := va_join hP hD is ir hW hR hrn hdis hk1 hFc hP1 hD1
  exact kk r u H1 locs1 hw (hP2.sub pm (fm_of (hpm u))) (hD2.sub pm hpn (hpm u)) hS1
theorem kQVl {post : Int64 → S → Prop} (Sf : CallFix p m c cc nL s args Ts own) (hM : Met l y ws rm (va_Pc (.ref b :: As) (wPQ D tys' H.size Wd')) (va_Ql post (wB D tys' (va_A Wd' H.size) w) (va_A Wd' H.size)) mc ms (va_A Wd' H.size)) (cw : CallW R s args own C index y bytes maxL ret ws rm mc ms n)
    (hP : va_P D vwCl Wd H) (hD : va_D A Wd) (hK : va_K D vwCl tys s) (hN : KS s) (hS : va_S A H0 H locs) (hA : ∀ q, H0.size ≤ q → A q) (is : List Nat) (hnd : va_nd is = true) (hW : is.map (fun i => Wd[i]?) = Wd'.map some) (ir : List Nat) (hrn : va_nd ir = true) (hR : ir.map (fun i => Wd[i]?) = wr.map some) (hdis : ∀ i ∈ ir, i ∉ is) (pm : List Nat) (hpn : va_nd pm = true) (hpm : ∀ u, pm.map (fun i => (wr ++ w u)[i]?) = (W2 u).map some) (ts : List Nat) (hT : ts.filterMap (fun i => tys[i]?) = tys') (hci : vwCl[ci]? = some (C, T, N)) (hq0 : Wd'[0]? = some (b, .inr (ci, fs)))
    (hn : As.length = n) (hsize : ls.size = nL) (hstack : st0 = As.reverse ++ .ref b :: rest) (hW8 : (rest.map fun v => v.category).sum ≤ 8) (hdg : decode cc pc = .ok (.invokevirtual index, 3)) (hf : cells + mc ≤ R.cells ∧ slots + ms ≤ R.slots)
    (kk : ∀ (r : Int64) (u : S) (H1 : Heap) (locs1 : List Loc), post r u → va_P D vwCl (W2 u) H1 → va_D A (W2 u) → va_S A H0 H1 locs1 → W p l e R s m args below meth c H1 locs1 (cells + mc) (slots + ms) Q (F0 m (pc + 3) ls (.long r :: rest))) : W p l e R s m args below meth c H locs cells slots Q (F0 m pc ls st0) := by
  have hFc := va_free (wc := Wd') hD hS hA is hW
  refine va_calll (va_runV (As := As) (rest := rest) Sf hM cw ⟨wPQ.blind, va_recv hK (hP.sub is (fm_of hW)) hci hq0, wPQ.of (hP.sub is (fm_of hW)) (hK.sub ts hT) hN (hD.sub is hnd hW)⟩ rfl hn hsize hstack (lv_room hW8) hdg hf) hS (fun q _ h => hFc q h) hFc (fun r u t H1 locs1 ht hvm hw hB hz1 hk1 hS1 => ?_)
  obtain ⟨hP1, hK1, hD1⟩ := hB
  rw [ht] at hP1
  obtain ⟨hP2, hD2⟩ := va_join hP hD is ir hW hR hrn hdis hk1 hFc hP1 hD1
  exact kk r u H1 locs1 hw (hP2.sub pm (fm_of (hpm u))) (hD2.sub pm hpn (hpm u)) hS1
theorem kQVv {post : S → Prop} (Sf : CallFix p m c cc nL s args Ts own) (hM : Met l y ws rm (va_Pc (.ref b :: As) (wPQ D tys' H.size Wd')) (va_Qv post (wB D tys' (va_A Wd' H.size) w) (va_A Wd' H.size)) mc ms (va_A Wd' H.size)) (cw : CallW R s args own C index y bytes maxL ret ws rm mc ms n)
    (hP : va_P D vwCl Wd H) (hD : va_D A Wd) (hK : va_K D vwCl tys s) (hN : KS s) (hS : va_S A H0 H locs) (hA : ∀ q, H0.size ≤ q → A q) (is : List Nat) (hnd : va_nd is = true) (hW : is.map (fun i => Wd[i]?) = Wd'.map some) (ir : List Nat) (hrn : va_nd ir = true) (hR : ir.map (fun i => Wd[i]?) = wr.map some) (hdis : ∀ i ∈ ir, i ∉ is) (pm : List Nat) (hpn : va_nd pm = true) (hpm : ∀ u, pm.map (fun i => (wr ++ w u)[i]?) = (W2 u).map some) (ts : List Nat) (hT : ts.filterMap (fun i => tys[i]?) = tys') (hci : vwCl[ci]? = some (C, T, N)) (hq0 : Wd'[0]? = some (b, .inr (ci, fs)))
    (hn : As.length = n) (hsize : ls.size = nL) (hstack : st0 = As.reverse ++ .ref b :: rest) (hW8 : (rest.map fun v => v.category).sum ≤ 8) (hdg : decode cc pc = .ok (.invokevirtual index, 3)) (hf : cells + mc ≤ R.cells ∧ slots + ms ≤ R.slots)
    (kk : ∀ (u : S) (H1 : Heap) (locs1 : List Loc), post u → va_P D vwCl (W2 u) H1 → va_D A (W2 u) → va_S A H0 H1 locs1 → W p l e R s m args below meth c H1 locs1 (cells + mc) (slots + ms) Q (F0 m (pc + 3) ls rest)) : W p l e R s m args below meth c H locs cells slots Q (F0 m pc ls st0) := by
  have hFc := va_free (wc := Wd') hD hS hA is hW
  refine va_callv (va_runV (As := As) (rest := rest) Sf hM cw ⟨wPQ.blind, va_recv hK (hP.sub is (fm_of hW)) hci hq0, wPQ.of (hP.sub is (fm_of hW)) (hK.sub ts hT) hN (hD.sub is hnd hW)⟩ rfl hn hsize hstack (lv_room hW8) hdg hf) hS (fun q _ h => hFc q h) hFc (fun u t H1 locs1 ht hvm hw hB hz1 hk1 hS1 => ?_)
  obtain ⟨hP1, hK1, hD1⟩ := hB
  rw [ht] at hP1
  obtain ⟨hP2, hD2⟩ := va_join hP hD is ir hW hR hrn hdis hk1 hFc hP1 hD1
  exact kk u H1 locs1 hw (hP2.sub pm (fm_of (hpm u))) (hD2.sub pm hpn (hpm u)) hS1
theorem kQSv {post : S → Prop} (Sf : CallFix p m c cc nL s args Ts own) (hM : Met l y ws rm (va_Pc As (wPQ D tys' H.size Wd')) (va_Qv post (wB D tys' (va_A Wd' H.size) w) (va_A Wd' H.size)) mc ms (va_A Wd' H.size)) (cw : CallB R s args own index y bytes maxL ret ws rm mc ms n ∧ (Cond.static y).before args s = true)
    (hP : va_P D vwCl Wd H) (hD : va_D A Wd) (hK : va_K D vwCl tys s) (hN : KS s) (hS : va_S A H0 H locs) (hA : ∀ q, H0.size ≤ q → A q) (is : List Nat) (hnd : va_nd is = true) (hW : is.map (fun i => Wd[i]?) = Wd'.map some) (ir : List Nat) (hrn : va_nd ir = true) (hR : ir.map (fun i => Wd[i]?) = wr.map some) (hdis : ∀ i ∈ ir, i ∉ is) (pm : List Nat) (hpn : va_nd pm = true) (hpm : ∀ u, pm.map (fun i => (wr ++ w u)[i]?) = (W2 u).map some) (ts : List Nat) (hT : ts.filterMap (fun i => tys[i]?) = tys')
    (hn : As.length = n) (hsize : ls.size = nL) (hstack : st0 = As.reverse ++ rest) (hW8 : (rest.map fun v => v.category).sum ≤ 8) (hdg : decode cc pc = .ok (.invokestatic index, 3)) (hf : cells + mc ≤ R.cells ∧ slots + ms ≤ R.slots)
    (kk : ∀ (u : S) (H1 : Heap) (locs1 : List Loc), post u → va_P D vwCl (W2 u) H1 → va_D A (W2 u) → va_S A H0 H1 locs1 → W p l e R s m args below meth c H1 locs1 (cells + mc) (slots + ms) Q (F0 m (pc + 3) ls rest)) : W p l e R s m args below meth c H locs cells slots Q (F0 m pc ls st0) := by
  have hFc := va_free (wc := Wd') hD hS hA is hW
  refine va_callv (va_runS (As := As) (rest := rest) Sf hM cw ⟨wPQ.blind, wPQ.of (hP.sub is (fm_of hW)) (hK.sub ts hT) hN (hD.sub is hnd hW)⟩ rfl hn hsize hstack (lv_room hW8) hdg hf) hS (fun q _ h => hFc q h) hFc (fun u t H1 locs1 ht hvm hw hB hz1 hk1 hS1 => ?_)
  obtain ⟨hP1, hK1, hD1⟩ := hB
  rw [ht] at hP1
  obtain ⟨hP2, hD2⟩ := va_join hP hD is ir hW hR hrn hdis hk1 hFc hP1 hD1
  exact kk u H1 locs1 hw (hP2.sub pm (fm_of (hpm u))) (hD2.sub pm hpn (hpm u)) hS1
theorem kQNv {post : S → Prop} (Sf : CallFix p m c cc nL s args Ts own) (hM : Met l y ws rm (va_Pc As (wPQ D tys' H.size Wd')) (va_Qv post (wB D tys' (va_A Wd' H.size) w) (va_A Wd' H.size)) mc ms (va_A Wd' H.size)) (cw : va_CN R s args own index y host bytes maxL ret ws rm mc ms n ∧ (Cond.static y).before args s = true ∧ True)
    (hP : va_P D vwCl Wd H) (hD : va_D A Wd) (hK : va_K D vwCl tys s) (hN : KS s) (hS : va_S A H0 H locs) (hA : ∀ q, H0.size ≤ q → A q) (is : List Nat) (hnd : va_nd is = true) (hW : is.map (fun i => Wd[i]?) = Wd'.map some) (ir : List Nat) (hrn : va_nd ir = true) (hR : ir.map (fun i => Wd[i]?) = wr.map some) (hdis : ∀ i ∈ ir, i ∉ is) (pm : List Nat) (hpn : va_nd pm = true) (hpm : ∀ u, pm.map (fun i => (wr ++ w u)[i]?) = (W2 u).map some) (ts : List Nat) (hT : ts.filterMap (fun i => tys[i]?) = tys')
    (hn : As.length = n) (hsize : ls.size = nL) (hstack : st0 = As.reverse ++ rest) (hW8 : (rest.map fun v => v.category).sum ≤ 8) (hdg : decode cc pc = .ok (.invokestatic index, 3)) (hf : cells + mc ≤ R.cells ∧ slots + ms ≤ R.slots)
    (kk : ∀ (u : S) (H1 : Heap) (locs1 : List Loc), post u → va_P D vwCl (W2 u) H1 → va_D A (W2 u) → va_S A H0 H1 locs1 → W p l e R s m args below meth c H1 locs1 (cells + mc) (slots + ms) Q (F0 m (pc + 3) ls rest)) : W p l e R s m args below meth c H locs cells slots Q (F0 m pc ls st0) := by
  have hFc := va_free (wc := Wd') hD hS hA is hW
  refine va_callv (va_runSN (As := As) (rest := rest) Sf hM cw ⟨wPQ.blind, wPQ.of (hP.sub is (fm_of hW)) (hK.sub ts hT) hN (hD.sub is hnd hW)⟩ rfl hn hsize hstack (lv_room hW8) hdg hf) hS (fun q _ h => hFc q h) hFc (fun u t H1 locs1 ht hvm hw hB hz1 hk1 hS1 => ?_)
  obtain ⟨hP1, hK1, hD1⟩ := hB
  rw [ht] at hP1
  obtain ⟨hP2, hD2⟩ := va_join hP hD is ir hW hR hrn hdis hk1 hFc hP1 hD1
  exact kk u H1 locs1 hw (hP2.sub pm (fm_of (hpm u))) (hD2.sub pm hpn (hpm u)) hS1
theorem kQIv {post : S → Prop} (Sf : CallFix p m c cc nL s args Ts own) (hM : Met l y ws rm (va_Pc (.ref b :: As) (wPQ D tys' H.size Wd')) (va_Qv post (wB D tys' (va_A Wd' H.size) w) (va_A Wd' H.size)) mc ms (va_A Wd' H.size)) (cw : CallB R s args own index y bytes maxL none ws rm mc ms n ∧ y.name = "<init>" ∧ (Cond.instanceMethod y).before args s = true)
    (hP : va_P D vwCl Wd H) (hD : va_D A Wd) (hK : va_K D vwCl tys s) (hN : KS s) (hS : va_S A H0 H locs) (hA : ∀ q, H0.size ≤ q → A q) (is : List Nat) (hnd : va_nd is = true) (hW : is.map (fun i => Wd[i]?) = Wd'.map some) (ir : List Nat) (hrn : va_nd ir = true) (hR : ir.map (fun i => Wd[i]?) = wr.map some) (hdis : ∀ i ∈ ir, i ∉ is) (pm : List Nat) (hpn : va_nd pm = true) (hpm : ∀ u, pm.map (fun i => (wr ++ w u)[i]?) = (W2 u).map some) (ts : List Nat) (hT : ts.filterMap (fun i => tys[i]?) = tys')
    (hn : As.length = n) (hsize : ls.size = nL) (hstack : st0 = As.reverse ++ .ref b :: rest) (hW8 : (rest.map fun v => v.category).sum ≤ 8) (hdg : decode cc pc = .ok (.invokespecial index, 3)) (hf : cells + mc ≤ R.cells ∧ slots + ms ≤ R.slots)
    (kk : ∀ (u : S) (H1 : Heap) (locs1 : List Loc), post u → va_P D vwCl (W2 u) H1 → va_D A (W2 u) → va_S A H0 H1 locs1 → W p l e R s m args below meth c H1 locs1 (cells + mc) (slots + ms) Q (F0 m (pc + 3) ls rest)) : W p l e R s m args below meth c H locs cells slots Q (F0 m pc ls st0) := by
  have hFc := va_free (wc := Wd') hD hS hA is hW
  refine va_callv (va_runI (As := As) (rest := rest) Sf hM cw ⟨wPQ.blind, wPQ.of (hP.sub is (fm_of hW)) (hK.sub ts hT) hN (hD.sub is hnd hW)⟩ rfl hn hsize hstack (lv_room hW8) hdg hf) hS (fun q _ h => hFc q h) hFc (fun u t H1 locs1 ht hvm hw hB hz1 hk1 hS1 => ?_)
  obtain ⟨hP1, hK1, hD1⟩ := hB
  rw [ht] at hP1
  obtain ⟨hP2, hD2⟩ := va_join hP hD is ir hW hR hrn hdis hk1 hFc hP1 hD1
  exact kk u H1 locs1 hw (hP2.sub pm (fm_of (hpm u))) (hD2.sub pm hpn (hpm u)) hS1
/-- a new row of ints, whose class is the one known -/
theorem newI {cA : ClassId} (hexec : p.tables.exec = Jvm.exec) (hb : c.code = cc) (harr : (Cond.arrayClass .int).before args s = true) (hK : va_K D vwCl tys s) (hP : va_P D vwCl Wd H) (hD : va_D A Wd) (hS : va_S A H0 H locs) (hA : ∀ q, H0.size ≤ q → A q) (t0 : Nat) (ht : tys[t0]? = some (cA, .int))
    {nn : Int32} {N' : Nat} (hn : ¬ nn < 0) (hN : nn.toNatClampNeg = N') (hbytes : N' * componentBytes .int ≤ 536870912) (hcells : cells + 1 ≤ R.cells) (hslots : slots + N' ≤ R.slots) (hdg : decode cc pc = .ok (.newarray .int, 2))
    (kk : ∀ (q : Nat) (H1 : Heap), va_P D vwCl (Wd ++ [(q, .inl (cA, N', .inl (fun _ => 0)))]) H1 → va_D A (Wd ++ [(q, .inl (cA, N', .inl (fun _ => 0)))]) → va_S A H0 H1 locs →
      W p l e R s m args below meth c H1 locs (cells + 1) (slots + N') Q (F0 m (pc + 2) ls (.ref q :: rest))) : W p l e R s m args below meth c H locs cells slots Q (F0 m pc ls (.int nn :: rest)) := by
  refine va_newa (atype := .int) (ty := .int) (a0 := (N', .inl (fun _ => 0))) hexec hb harr rfl hK hP hD hS hA (fun cA => rfl) hn hN hbytes hcells hslots hdg (fun q cB H1 hK1 hP1 hD1 hS1 => ?_)
  have h1 := (hK.2 t0 _ ht).2
  have h2 := (hK1.2 tys.length (cB, .int) (by simp)).2
  have h3 : cB = cA := Option.some.inj ((show s.vm.findClass _ = some cB from h2).symm.trans (show s.vm.findClass _ = some cA from h1))
  subst h3
  exact kk q H1 hP1 hD1 hS1
end CQ
end KB
/-- the class of the rows of ints, out of the tables' word -/
theorem arrI {s : State} {args : Array Value} (h : (Cond.arrayClass .int).before args s = true) : ∃ cA : ClassId, ArrOfT s cA .int ∧ va_RA s cA .int := by
  obtain ⟨cA, kA, comp, h1, h2, h3⟩ := Cond.arrayClass_spec (show (Cond.arrayClass .int).holds args s none s [] = true from h)
  exact ⟨cA, fun n z => ⟨fun k h => (by cases h), kA, h2, comp, h3⟩, h1⟩
theorem arrL {s : State} {args : Array Value} (h : (Cond.arrayClass .long).before args s = true) : ∃ cA : ClassId, ArrOfT s cA .long ∧ va_RA s cA .long := by
  obtain ⟨cA, kA, comp, h1, h2, h3⟩ := Cond.arrayClass_spec (show (Cond.arrayClass .long).holds args s none s [] = true from h)
  exact ⟨cA, fun n z => ⟨fun k h => (by cases h), kA, h2, comp, h3⟩, h1⟩
/-- two pictures of one row, which are the same within -/
theorem va_P.ext {D : va_G} {ws ws' : va_W} {H : Heap} (h : va_P D vwCl ws H) (q0 : Nat) {a n : Nat} {cA : ClassId} {f g : Nat → Int32} (h0 : ws[q0]? = some (a, .inl (cA, n, .inl f))) (hfg : ∀ j, j < n → f j = g j) (hw : ws.set q0 (a, .inl (cA, n, .inl g)) = ws') : va_P D vwCl ws' H := by
  subst hw
  intro k q hk
  by_cases hkq : k = q0
  · subst hkq
    have hl := (List.getElem?_eq_some_iff.mp h0).1
    rw [List.getElem?_set_self hl] at hk
    cases hk
    have h1 : H[a]? = some (vp_cell cA (n, .inl f)) := h k _ h0
    show H[a]? = some (vp_cell cA (n, .inl g))
    rw [h1, vp_cell_i, vp_cell_i]
    have h2 : (fun j : Fin n => Value.int (f j.val)) = (fun j : Fin n => Value.int (g j.val)) := funext fun j => by rw [hfg j.val j.isLt]
    exact congrArg (fun z : Fin n → Value => some ({ cls := cA, slots := Array.ofFn (n := n) z, vm := .none } : Cell)) h2
  · rw [List.getElem?_set_ne (Ne.symm hkq)] at hk
    exact h k q hk
end
section
/-! ===== the class in words of its own: pure functions that follow its methods ===== -/
abbrev wM (cI : ClassId) (a : Nat → Nat) (pa pe st bn hc hm : Nat → Int32) (C R lo : Int32) : va_W := [(a 0, .inr (0, [.ref (a 1), .ref (a 2), .ref (a 3), .ref (a 4), .ref (a 5), .ref (a 6), .int C, .int R, .int lo])), (a 1, .inl (cI, 72, .inl pa)), (a 2, .inl (cI, 72, .inl pe)), (a 3, .inl (cI, 72, .inl st)), (a 4, .inl (cI, 9, .inl bn)), (a 5, .inl (cI, 2, .inl hc)), (a 6, .inl (cI, 2, .inl hm))]
abbrev wX (x : Nat) (a b : Nat → Nat) : va_W := [(x, .inr (1, [.ref (a 0), .ref (b 0)]))]
abbrev wA (cI : ClassId) (q n : Nat) (f : Nat → Int32) : va_W := [(q, .inl (cI, n, .inl f))]
abbrev wL (cL : ClassId) (q n : Nat) (f : Nat → Int64) : va_W := [(q, .inl (cL, n, .inr (.inl f)))]
abbrev wN (cI : ClassId) (a : Nat → Nat) (pt pd ab nw kp wy : Nat → Int32) (th C R tn : Int32) : va_W := [(a 0, .inr (2, [.int th, .int C, .int R, .ref (a 1), .ref (a 2), .ref (a 3), .ref (a 4), .ref (a 5), .int tn, .ref (a 6)])), (a 1, .inl (cI, 72, .inl pt)), (a 2, .inl (cI, 72, .inl pd)), (a 3, .inl (cI, 2, .inl ab)), (a 4, .inl (cI, 84, .inl nw)), (a 5, .inl (cI, 84, .inl kp)), (a 6, .inl (cI, 8, .inl wy))]
def bi (b : Bool) : Int32 := if b then 1 else 0
theorem bi_t {b : Bool} (h : b = true) : bi b = 1 := by subst h; rfl
theorem bi_f {b : Bool} (h : b = false) : bi b = 0 := by subst h; rfl
theorem bi01 (b : Bool) : bi b = 0 ∨ bi b = 1 := by cases b <;> simp [bi]
theorem bi_e0 (b : Bool) : (bi b = 0) = (b = false) := by cases b <;> simp [bi]
theorem bi_e1 (b : Bool) : (bi b = 1) = (b = true) := by cases b <;> simp [bi]
theorem clampLt (x : Int32) : x.toNatClampNeg < 2 ^ 31 := by
  have h := x.toInt_lt
  have h2 : x.toNatClampNeg = x.toInt.toNat := rfl
  omega
theorem clampE (x : Int32) : x.toNatClampNeg = x.toInt.toNat := rfl
theorem lc_le {x : Int32} {k : Nat} (hk : k < 2 ^ 31) : x ≤ nI k ↔ x.toNatClampNeg ≤ k := by
  rw [Int32.le_iff_toInt_le, nI_toInt hk, clampE]
  omega
theorem in_cmp {x : Int32} {n : Nat} (hn : n < 2 ^ 31) (h1 : ¬ x < 0) (h2 : ¬ nI n ≤ x) : vp_in x n := by
  rcases pk_ix x hn with h | h | ⟨j, hj, rfl⟩
  · exact absurd h h1
  · exact absurd h h2
  · exact vp_in_nI hj hn
theorem sw_1_5 (x : Int32) : x = 1 ∨ x = 2 ∨ x = 3 ∨ x = 4 ∨ x = 5 ∨ ((x.toInt < 1 ∨ 5 < x.toInt) ∧ ¬ x = 1 ∧ ¬ x = 2 ∧ ¬ x = 3 ∧ ¬ x = 4 ∧ ¬ x = 5) := by
  have e : ∀ y : Int32, x = y ↔ x.toInt = y.toInt := fun y => ⟨fun h => by rw [h], fun h => Int32.toInt_inj.mp h⟩
  have q1 : (1 : Int32).toInt = 1 := by decide
  have q2 : (2 : Int32).toInt = 2 := by decide
  have q3 : (3 : Int32).toInt = 3 := by decide
  have q4 : (4 : Int32).toInt = 4 := by decide
  have q5 : (5 : Int32).toInt = 5 := by decide
  simp only [e, q1, q2, q3, q4, q5]
  omega
def xcl (n : Nat) (f : Nat → Int32) (i : Int32) : Int32 := if i < 0 then 0 else if nI n ≤ i then 0 else f i.toNatClampNeg
def xsc (n : Nat) (f : Nat → Int32) (i v : Int32) : Nat → Int32 := if i < 0 then f else if nI n ≤ i then f else upd f i.toNatClampNeg v
def xhas (C i : Int32) : Bool := if i < 0 then false else if C ≤ i then false else true
def xRight (pa st : Nat → Int32) (q : Int32) : Bool := if xcl 72 pa q = 3 then (if xcl 72 st q = 1 then true else false) else false
def xCnt (pa st : Nat → Int32) (q : Int32) : Int32 := if xcl 72 pa q = 5 then xcl 72 st q else 0
/-- how many toggles, from place k on, n places -/
def xTogL (pa : Nat → Int32) : Nat → Nat → Int32 → Int32
  | 0, _, t => t
  | n + 1, k, t => xTogL pa n (k + 1) (if pa k = 3 then t + 1 else t)
def xTog (pa : Nat → Int32) : Int32 := xTogL pa 72 0 0
def xNumL (pa st : Nat → Int32) (C r : Int32) : Nat → Nat → Int32 → Int32 → Int32
  | 0, _, t, _ => t
  | n + 1, k, t, w => if xcl 72 pa (r * C + nI k) = 3 then xNumL pa st C r n (k + 1) (t + if xRight pa st (r * C + nI k) = true then w else 0) (w * 2) else xNumL pa st C r n (k + 1) t w
def xNum (pa st : Nat → Int32) (C r : Int32) : Int32 := xNumL pa st C r C.toNatClampNeg 0 0 1
def xUnlL (pa st pa2 st2 : Nat → Int32) : Nat → Nat → Int32 → Int32
  | 0, _, t => t
  | n + 1, k, t => xUnlL pa st pa2 st2 n (k + 1) (if bi (xRight pa st (nI k)) = bi (xRight pa2 st2 (nI k)) then t else t + 1)
def xUnl (pa st pa2 st2 : Nat → Int32) : Int32 := xUnlL pa st pa2 st2 72 0 0
def xSameL (st st2 : Nat → Int32) : Nat → Nat → Bool
  | 0, _ => true
  | n + 1, k => if xcl 72 st (nI k) = xcl 72 st2 (nI k) then xSameL st st2 n (k + 1) else false
def xSame (st st2 : Nat → Int32) : Bool := xSameL st st2 72 0
/-- which way out of a place, and the states behind it -/
def xWayS (pe st : Nat → Int32) (q : Int32) : Int32 × (Nat → Int32) :=
  if xcl 72 st q + 1 < xcl 72 pe q then (-1, xsc 72 st q (xcl 72 st q + 1)) else (1, xsc 72 st q 0)
def xWay (pa pe st : Nat → Int32) (q came : Int32) : Int32 × (Nat → Int32) :=
  if xcl 72 pa q = 1 then (-1, st) else if xcl 72 pa q = 2 then (1, st) else if xcl 72 pa q = 4 then (came, st) else if xcl 72 pa q = 3 then xWayS pe st q else if xcl 72 pa q = 5 then xWayS pe st q else (0, st)
def xFallL (pa pe : Nat → Int32) (C : Int32) : Nat → Nat → Int32 → Int32 → (Nat → Int32) → Int32 × (Nat → Int32)
  | 0, _, at_, _, st => (at_, st)
  | n + 1, k, at_, way, st =>
    if xhas C (at_ + (xWay pa pe st (nI k * C + at_) way).1) = true then xFallL pa pe C n (k + 1) (at_ + (xWay pa pe st (nI k * C + at_) way).1) (xWay pa pe st (nI k * C + at_) way).1 (xWay pa pe st (nI k * C + at_) way).2
    else (-1, (xWay pa pe st (nI k * C + at_) way).2)
def xFall (pa pe st : Nat → Int32) (C col row : Int32) : Int32 × (Nat → Int32) := xFallL pa pe C row.toNatClampNeg 0 col 0 st
def xLandBn (bn : Nat → Int32) (r : Int32) : Nat → Int32 := if r = -1 then bn else xsc 9 bn r (xcl 9 bn r + 1)
def xLandLo (lo r : Int32) : Int32 := if r = -1 then lo + 1 else lo
def xSumL (bn : Nat → Int32) : Nat → Nat → Int32 → Int32
  | 0, _, t => t
  | n + 1, k, t => xSumL bn n (k + 1) (t + bn k)
def xSum (bn : Nat → Int32) : Int32 := xSumL bn 9 0 0
def xBehind (C bin : Int32) : Int32 := if bin = -1 then -1 else if 2 * bin = C - 1 then -1 else if 2 * bin < C - 1 then 0 else 1
def xRunL (pa pe hc : Nat → Int32) (C R : Int32) : Nat → Nat → Int32 → (Nat → Int32) → (Nat → Int32) → Int32 → (Nat → Int32) → Int32 × (Nat → Int32) × (Nat → Int32) × Int32 × (Nat → Int32)
  | 0, k, _, st, bn, lo, hm => (nI k, st, bn, lo, hm)
  | n + 1, k, fr, st, bn, lo, hm =>
    if fr = -1 then (nI k, st, bn, lo, hm)
    else if xcl 2 hm fr ≤ 0 then (nI k, st, bn, lo, hm)
    else xRunL pa pe hc C R n (k + 1) (xBehind C (xFall pa pe st C (xcl 2 hc fr) R).1) (xFall pa pe st C (xcl 2 hc fr) R).2 (xLandBn bn (xFall pa pe st C (xcl 2 hc fr) R).1) (xLandLo lo (xFall pa pe st C (xcl 2 hc fr) R).1) (xsc 2 hm fr (xcl 2 hm fr - 1))
def xRun (pa pe st bn hc hm : Nat → Int32) (C R lo hop most : Int32) : Int32 × (Nat → Int32) × (Nat → Int32) × Int32 × (Nat → Int32) := xRunL pa pe hc C R most.toNatClampNeg 0 hop st bn lo hm
end
section
set_option maxHeartbeats 4000000 in
set_option maxRecDepth 100000 in
theorem mX1_cell (l : Launch) (D : va_G) (cI : ClassId) (q : Nat) (f : Nat → Int32)(n : Nat) (hn : n < 2 ^ 31) (i : Int32) : Met l yX1_cell wsX1_cell ({ frames := 0, cells := 0, slots := 0, locals := 0 } : Room) (va_Pc [.ref q, .int i] (wPR D [(cI, .int)] (wA cI q n f))) (vp_Si (fun zz : Int32 => zz = xcl n f i)) 0 0 (fun _ => False) := by
  refine mR_of (by decide) rfl (Nat.le_of_ble_eq_true rfl) ?_
  intro p e s m below meth c hx hb hr hml hown hts hlocks hP hK hN ls hl
  have hown : s.vm.findClass RX1 = some m.cls := hown
  have hl : lv_has ls 2 [(0, .ref q), (1, .int i)] := hl
  refine lv_iload_n hx hb dX1_cell_0 rfl (lv_at hl 1 rfl) ?_
  refine lv_if_lt (tgt := 16) hx hb dX1_cell_1 (by decide) (fun c_1 => ?_) (fun c_1 => ?_)
  · refine lv_iconst (v := 0) hx hb dX1_cell_16 (by decide) ?_
    exact eRi hx hb hr hlocks dX1_cell_17 (by simp [xcl, c_1])
  · refine lv_iload_n hx hb dX1_cell_4 rfl (lv_at hl 1 rfl) ?_
    refine lv_aload_n hx hb dX1_cell_5 rfl (lv_at hl 0 rfl) ?_
    refine va_alen hx hb hK hP 0 0 rfl rfl (v := (nI n)) rfl dX1_cell_6 ?_
    refine lv_icmp_ge (tgt := 16) hx hb dX1_cell_7 (by decide) (fun c_2 => ?_) (fun c_2 => ?_)
    · refine lv_iconst (v := 0) hx hb dX1_cell_16 (by decide) ?_
      exact eRi hx hb hr hlocks dX1_cell_17 (by simp [xcl, c_1, c_2])
    · refine lv_aload_n hx hb dX1_cell_10 rfl (lv_at hl 0 rfl) ?_
      refine lv_iload_n hx hb dX1_cell_11 rfl (lv_at hl 1 rfl) ?_
      refine va_iald hx hb hK hP 0 0 rfl rfl (in_cmp hn c_1 c_2) dX1_cell_12 ?_
      refine lv_goto (tgt := 17) hx hb dX1_cell_13 (by decide) ?_
      exact eRi hx hb hr hlocks dX1_cell_17 (by simp [xcl, c_1, c_2])
set_option maxHeartbeats 4000000 in
set_option maxRecDepth 100000 in
theorem mX1_setCell (l : Launch) (D : va_G) (cI : ClassId) (q : Nat) (f : Nat → Int32)(n : Nat) (hn : n < 2 ^ 31) (i v : Int32) (sz : Nat) : Met l yX1_setCell wsX1_setCell ({ frames := 0, cells := 0, slots := 0, locals := 0 } : Room) (va_Pc [.ref q, .int i, .int v] (wPQ D [(cI, .int)] sz (wA cI q n f))) (va_Qv (fun _ : Unit => True) (wB D [(cI, .int)] (va_A (wA cI q n f) sz) (fun _ : Unit => (wA cI q n ((xsc n f i v))))) (va_A (wA cI q n f) sz)) 0 0 (va_A (wA cI q n f) sz) := by
  refine mQ_of (by decide) rfl (Nat.le_of_ble_eq_true rfl) ?_
  intro p e s m below meth c hx hb hr hml hown hin hts hlocks hsz hP hK hN hD hA hS ls hl
  have hown : s.vm.findClass RX1 = some m.cls := hown
  have hl : lv_has ls 3 [(0, .ref q), (1, .int i), (2, .int v)] := hl
  have hP : va_P D vwCl (wA cI q n f) s.heap := hP
  refine lv_iload_n hx hb dX1_setCell_0 rfl (lv_at hl 1 rfl) ?_
  refine lv_if_lt (tgt := 14) hx hb dX1_setCell_1 (by decide) (fun c_1 => ?_) (fun c_1 => ?_)
  · have hP : va_P D vwCl (wA cI q n ((xsc n f i v))) s.heap := by simp only [xsc, if_pos c_1]; exact hP
    have hD : va_D (va_A (wA cI q n f) sz) (wA cI q n ((xsc n f i v))) := by simp only [xsc, if_pos c_1]; exact hD
    exact eQv () hx hb hr hlocks hP hD hK hS dX1_setCell_14 (trivial)
  · refine lv_iload_n hx hb dX1_setCell_4 rfl (lv_at hl 1 rfl) ?_
    refine lv_aload_n hx hb dX1_setCell_5 rfl (lv_at hl 0 rfl) ?_
    refine va_alen hx hb hK hP 0 0 rfl rfl (v := (nI n)) rfl dX1_setCell_6 ?_
    refine lv_icmp_ge (tgt := 14) hx hb dX1_setCell_7 (by decide) (fun c_2 => ?_) (fun c_2 => ?_)
    · have hP : va_P D vwCl (wA cI q n ((xsc n f i v))) s.heap := by simp only [xsc, if_neg c_1, if_pos c_2]; exact hP
      have hD : va_D (va_A (wA cI q n f) sz) (wA cI q n ((xsc n f i v))) := by simp only [xsc, if_neg c_1, if_pos c_2]; exact hD
      exact eQv () hx hb hr hlocks hP hD hK hS dX1_setCell_14 (trivial)
    · refine lv_aload_n hx hb dX1_setCell_10 rfl (lv_at hl 0 rfl) ?_
      refine lv_iload_n hx hb dX1_setCell_11 rfl (lv_at hl 1 rfl) ?_
      refine lv_iload_n hx hb dX1_setCell_12 rfl (lv_at hl 2 rfl) ?_
      refine va_iast hx hb hK hP hD hS 0 0 rfl rfl (in_cmp hn c_1 c_2) dX1_setCell_13 (fun H locs hP hD hS => ?_)
      have hP : va_P D vwCl (wA cI q n ((upd f i.toNatClampNeg v))) H := hP
      have hD : va_D (va_A (wA cI q n f) sz) (wA cI q n ((upd f i.toNatClampNeg v))) := hD
      have hP : va_P D vwCl (wA cI q n ((xsc n f i v))) H := by simp only [xsc, if_neg c_1, if_neg c_2]; exact hP
      have hD : va_D (va_A (wA cI q n f) sz) (wA cI q n ((xsc n f i v))) := by simp only [xsc, if_neg c_1, if_neg c_2]; exact hD
      exact eQv () hx hb hr hlocks hP hD hK hS dX1_setCell_14 (trivial)
theorem iw_X0_hasRow_X0 : ∀ w ∈ wsX00, w ∈ wsX0_hasRow := mem_pos [2, 3, 4, 5, 6, 7, 8, 9, 10] (by decide +kernel)
set_option maxHeartbeats 4000000 in
set_option maxRecDepth 100000 in
theorem mX0_hasRow (l : Launch) (D : va_G) (cI : ClassId) (a : Nat → Nat) (pa pe st bn hc hm : Nat → Int32) (C R lo : Int32) (i : Int32) : Met l yX0_hasRow wsX0_hasRow ({ frames := 0, cells := 0, slots := 0, locals := 0 } : Room) (va_Pc [.ref (a 0), .int i] (wPR D [(cI, .int)] (wM cI a pa pe st bn hc hm C R lo))) (vp_Si (fun zz : Int32 => zz = bi (xhas R i))) 0 0 (fun _ => False) := by
  refine mR_of (by decide) rfl (Nat.le_of_ble_eq_true rfl) ?_
  intro p e s m below meth c hx hb hr hml hown hts hlocks hP hK hN ls hl
  have hown : s.vm.findClass RX0 = some m.cls := hown
  have hl : lv_has ls 2 [(0, .ref (a 0)), (1, .int i)] := hl
  refine lv_iload_n hx hb dX0_hasRow_0 rfl (lv_at hl 1 rfl) ?_
  refine lv_if_lt (tgt := 16) hx hb dX0_hasRow_1 (by decide) (fun c_1 => ?_) (fun c_1 => ?_)
  · refine lv_iconst (v := 0) hx hb dX0_hasRow_16 (by decide) ?_
    exact eRz hx hb hr hlocks dX0_hasRow_17 (Or.inl rfl) (by simp [bi, xhas, c_1])
  · refine lv_iload_n hx hb dX0_hasRow_4 rfl (lv_at hl 1 rfl) ?_
    refine lv_aload_n hx hb dX0_hasRow_5 rfl (lv_at hl 0 rfl) ?_
    refine va_get (D := D) (ci := 0) (v := .int R) (C := RX0) (T := TX0) (N := 9) hx hb hts iw_X0_hasRow_X0 hown hK hP 0 rfl rfl 7 (by decide) (hts (.fieldLink RX0 38 "MarbleRamps$Machine" "rowCount" "I") (mg 1 rfl)) (fun _ h9 => h9) rfl dX0_hasRow_6 ?_
    refine lv_icmp_ge (tgt := 16) hx hb dX0_hasRow_9 (by decide) (fun c_2 => ?_) (fun c_2 => ?_)
    · refine lv_iconst (v := 0) hx hb dX0_hasRow_16 (by decide) ?_
      exact eRz hx hb hr hlocks dX0_hasRow_17 (Or.inl rfl) (by simp [bi, xhas, c_1, c_2])
    · refine lv_iconst (v := 1) hx hb dX0_hasRow_12 (by decide) ?_
      refine lv_goto (tgt := 17) hx hb dX0_hasRow_13 (by decide) ?_
      exact eRz hx hb hr hlocks dX0_hasRow_17 (Or.inr rfl) (by simp [bi, xhas, c_1, c_2])
theorem iw_X0_hasColumn_X0 : ∀ w ∈ wsX00, w ∈ wsX0_hasColumn := mem_pos [2, 3, 4, 5, 6, 7, 8, 9, 10] (by decide +kernel)
set_option maxHeartbeats 4000000 in
set_option maxRecDepth 100000 in
theorem mX0_hasColumn (l : Launch) (D : va_G) (cI : ClassId) (a : Nat → Nat) (pa pe st bn hc hm : Nat → Int32) (C R lo : Int32) (i : Int32) : Met l yX0_hasColumn wsX0_hasColumn ({ frames := 0, cells := 0, slots := 0, locals := 0 } : Room) (va_Pc [.ref (a 0), .int i] (wPR D [(cI, .int)] (wM cI a pa pe st bn hc hm C R lo))) (vp_Si (fun zz : Int32 => zz = bi (xhas C i))) 0 0 (fun _ => False) := by
  refine mR_of (by decide) rfl (Nat.le_of_ble_eq_true rfl) ?_
  intro p e s m below meth c hx hb hr hml hown hts hlocks hP hK hN ls hl
  have hown : s.vm.findClass RX0 = some m.cls := hown
  have hl : lv_has ls 2 [(0, .ref (a 0)), (1, .int i)] := hl
  refine lv_iload_n hx hb dX0_hasColumn_0 rfl (lv_at hl 1 rfl) ?_
  refine lv_if_lt (tgt := 16) hx hb dX0_hasColumn_1 (by decide) (fun c_1 => ?_) (fun c_1 => ?_)
  · refine lv_iconst (v := 0) hx hb dX0_hasColumn_16 (by decide) ?_
    exact eRz hx hb hr hlocks dX0_hasColumn_17 (Or.inl rfl) (by simp [bi, xhas, c_1])
  · refine lv_iload_n hx hb dX0_hasColumn_4 rfl (lv_at hl 1 rfl) ?_
    refine lv_aload_n hx hb dX0_hasColumn_5 rfl (lv_at hl 0 rfl) ?_
    refine va_get (D := D) (ci := 0) (v := .int C) (C := RX0) (T := TX0) (N := 9) hx hb hts iw_X0_hasColumn_X0 hown hK hP 0 rfl rfl 6 (by decide) (hts (.fieldLink RX0 34 "MarbleRamps$Machine" "columnCount" "I") (mg 1 rfl)) (fun _ h9 => h9) rfl dX0_hasColumn_6 ?_
    refine lv_icmp_ge (tgt := 16) hx hb dX0_hasColumn_9 (by decide) (fun c_2 => ?_) (fun c_2 => ?_)
    · refine lv_iconst (v := 0) hx hb dX0_hasColumn_16 (by decide) ?_
      exact eRz hx hb hr hlocks dX0_hasColumn_17 (Or.inl rfl) (by simp [bi, xhas, c_1, c_2])
    · refine lv_iconst (v := 1) hx hb dX0_hasColumn_12 (by decide) ?_
      refine lv_goto (tgt := 17) hx hb dX0_hasColumn_13 (by decide) ?_
      exact eRz hx hb hr hlocks dX0_hasColumn_17 (Or.inr rfl) (by simp [bi, xhas, c_1, c_2])
theorem iw_X0_placeOf_X0 : ∀ w ∈ wsX00, w ∈ wsX0_placeOf := mem_pos [2, 3, 4, 5, 6, 7, 8, 9, 10] (by decide +kernel)
set_option maxHeartbeats 4000000 in
set_option maxRecDepth 100000 in
theorem mX0_placeOf (l : Launch) (D : va_G) (cI : ClassId) (a : Nat → Nat) (pa pe st bn hc hm : Nat → Int32) (C R lo : Int32) (rr kk : Int32) : Met l yX0_placeOf wsX0_placeOf ({ frames := 0, cells := 0, slots := 0, locals := 0 } : Room) (va_Pc [.ref (a 0), .int rr, .int kk] (wPR D [(cI, .int)] (wM cI a pa pe st bn hc hm C R lo))) (vp_Si (fun zz : Int32 => zz = rr * C + kk)) 0 0 (fun _ => False) := by
  refine mR_of (by decide) rfl (Nat.le_of_ble_eq_true rfl) ?_
  intro p e s m below meth c hx hb hr hml hown hts hlocks hP hK hN ls hl
  have hown : s.vm.findClass RX0 = some m.cls := hown
  have hl : lv_has ls 3 [(0, .ref (a 0)), (1, .int rr), (2, .int kk)] := hl
  refine lv_iload_n hx hb dX0_placeOf_0 rfl (lv_at hl 1 rfl) ?_
  refine lv_aload_n hx hb dX0_placeOf_1 rfl (lv_at hl 0 rfl) ?_
  refine va_get (D := D) (ci := 0) (v := .int C) (C := RX0) (T := TX0) (N := 9) hx hb hts iw_X0_placeOf_X0 hown hK hP 0 rfl rfl 6 (by decide) (hts (.fieldLink RX0 34 "MarbleRamps$Machine" "columnCount" "I") (mg 1 rfl)) (fun _ h9 => h9) rfl dX0_placeOf_2 ?_
  refine lv_imul hx hb dX0_placeOf_5 ?_
  refine lv_iload_n hx hb dX0_placeOf_6 rfl (lv_at hl 2 rfl) ?_
  refine lv_iadd hx hb dX0_placeOf_7 ?_
  exact eRi hx hb hr hlocks dX0_placeOf_8 (rfl)
theorem iw_X0_partIn_X0 : ∀ w ∈ wsX00, w ∈ wsX0_partIn := mem_pos [5, 6, 7, 8, 9, 10, 11, 12, 13] (by decide +kernel)
set_option maxHeartbeats 4000000 in
set_option maxRecDepth 100000 in
theorem mX0_partIn (l : Launch) (D : va_G) (cI : ClassId) (a : Nat → Nat) (pa pe st bn hc hm : Nat → Int32) (C R lo : Int32) (q : Int32) : Met l yX0_partIn wsX0_partIn ({ frames := 1, cells := 0, slots := 0, locals := 21 } : Room) (va_Pc [.ref (a 0), .int q] (wPR D [(cI, .int)] (wM cI a pa pe st bn hc hm C R lo))) (vp_Si (fun zz : Int32 => zz = xcl 72 pa q)) 0 0 (fun _ => False) := by
  refine mR_of (by decide) rfl (Nat.le_of_ble_eq_true rfl) ?_
  intro p e s m below meth c hx hb hr hml hown hts hlocks hP hK hN ls hl
  have hown : s.vm.findClass RX0 = some m.cls := hown
  have hl : lv_has ls 2 [(0, .ref (a 0)), (1, .int q)] := hl
  refine lv_aload_n hx hb dX0_partIn_0 rfl (lv_at hl 0 rfl) ?_
  refine va_get (D := D) (ci := 0) (v := .ref (a 1)) (C := RX0) (T := TX0) (N := 9) hx hb hts iw_X0_partIn_X0 hown hK hP 0 rfl rfl 0 (by decide) (hts (.fieldLink RX0 9 "MarbleRamps$Machine" "parts" "[I") (mg 1 rfl)) (fun _ h9 => h9) rfl dX0_partIn_1 ?_
  refine lv_iload_n hx hb dX0_partIn_4 rfl (lv_at hl 1 rfl) ?_
  refine kRNi (As := [.ref (a 1), .int q]) (rest := []) ⟨hx, hb, hml, hown, hts⟩ (mX1_cell l D cI (a 1) pa 72 (by decide) q) ⟨va_cnB (host := RX1) 2 hts gX0_partIn_X1_cell_n61 rfl rfl rfl hN.2.2 (hts (.initialized RX1) (mg 3 rfl)) (by decide +kernel) ⟨Nat.le_of_ble_eq_true rfl, Nat.le_of_ble_eq_true rfl⟩, hts (.static yX1_cell) (mg 2 rfl), trivial⟩ hP hK hN [1] rfl [0] rfl rfl hl.1 rfl (Nat.le_of_ble_eq_true rfl) dX0_partIn_5 ⟨Nat.zero_le _, Nat.zero_le _⟩ (fun r_1 hr_1 => ?_)
  subst hr_1
  exact eRi hx hb hr hlocks dX0_partIn_8 (rfl)
theorem iw_X0_isRightToggle_X0 : ∀ w ∈ wsX00, w ∈ wsX0_isRightToggle := mem_pos [11, 12, 13, 14, 15, 16, 17, 18, 19] (by decide +kernel)
set_option maxHeartbeats 4000000 in
set_option maxRecDepth 100000 in
theorem mX0_isRightToggle (l : Launch) (D : va_G) (cI : ClassId) (a : Nat → Nat) (pa pe st bn hc hm : Nat → Int32) (C R lo : Int32) (q : Int32) : Met l yX0_isRightToggle wsX0_isRightToggle ({ frames := 2, cells := 0, slots := 0, locals := 42 } : Room) (va_Pc [.ref (a 0), .int q] (wPR D [(cI, .int)] (wM cI a pa pe st bn hc hm C R lo))) (vp_Si (fun zz : Int32 => zz = bi (xRight pa st q))) 0 0 (fun _ => False) := by
  refine mR_of (by decide) rfl (Nat.le_of_ble_eq_true rfl) ?_
  intro p e s m below meth c hx hb hr hml hown hts hlocks hP hK hN ls hl
  have hown : s.vm.findClass RX0 = some m.cls := hown
  have hl : lv_has ls 2 [(0, .ref (a 0)), (1, .int q)] := hl
  refine lv_aload_n hx hb dX0_isRightToggle_0 rfl (lv_at hl 0 rfl) ?_
  refine lv_iload_n hx hb dX0_isRightToggle_1 rfl (lv_at hl 1 rfl) ?_
  refine kRVi (As := [.int q]) (rest := []) ⟨hx, hb, hml, hown, hts⟩ (mX0_partIn l D cI a pa pe st bn hc hm C R lo q) (cwV 1 hts gX0_isRightToggle_X0_partIn rfl rfl rfl (by decide +kernel) ⟨Nat.le_of_ble_eq_true rfl, Nat.le_of_ble_eq_true rfl⟩) hP hK hN [0, 1, 2, 3, 4, 5, 6] rfl [0] rfl rfl rfl rfl hl.1 rfl (Nat.le_of_ble_eq_true rfl) dX0_isRightToggle_2 ⟨Nat.zero_le _, Nat.zero_le _⟩ (fun r_1 hr_1 => ?_)
  subst hr_1
  refine lv_iconst (v := 3) hx hb dX0_isRightToggle_5 (by decide) ?_
  refine lv_icmp_ne (tgt := 25) hx hb dX0_isRightToggle_6 (by decide) (fun c_2 => ?_) (fun c_2 => ?_)
  · refine lv_iconst (v := 0) hx hb dX0_isRightToggle_25 (by decide) ?_
    exact eRz hx hb hr hlocks dX0_isRightToggle_26 (Or.inl rfl) (by simp [bi, xRight, c_2])
  · refine lv_aload_n hx hb dX0_isRightToggle_9 rfl (lv_at hl 0 rfl) ?_
    refine va_get (D := D) (ci := 0) (v := .ref (a 3)) (C := RX0) (T := TX0) (N := 9) hx hb hts iw_X0_isRightToggle_X0 hown hK hP 0 rfl rfl 2 (by decide) (hts (.fieldLink RX0 18 "MarbleRamps$Machine" "states" "[I") (mg 1 rfl)) (fun _ h9 => h9) rfl dX0_isRightToggle_10 ?_
    refine lv_iload_n hx hb dX0_isRightToggle_13 rfl (lv_at hl 1 rfl) ?_
    refine kRNi (As := [.ref (a 3), .int q]) (rest := []) ⟨hx, hb, hml, hown, hts⟩ (mX1_cell l D cI (a 3) st 72 (by decide) q) ⟨va_cnB (host := RX1) 2 hts gX0_isRightToggle_X1_cell_n61 rfl rfl rfl hN.2.2 (hts (.initialized RX1) (mg 9 rfl)) (by decide +kernel) ⟨Nat.le_of_ble_eq_true rfl, Nat.le_of_ble_eq_true rfl⟩, hts (.static yX1_cell) (mg 8 rfl), trivial⟩ hP hK hN [3] rfl [0] rfl rfl hl.1 rfl (Nat.le_of_ble_eq_true rfl) dX0_isRightToggle_14 ⟨Nat.zero_le _, Nat.zero_le _⟩ (fun r_3 hr_3 => ?_)
    subst hr_3
    refine lv_iconst (v := 1) hx hb dX0_isRightToggle_17 (by decide) ?_
    refine lv_icmp_ne (tgt := 25) hx hb dX0_isRightToggle_18 (by decide) (fun c_4 => ?_) (fun c_4 => ?_)
    · refine lv_iconst (v := 0) hx hb dX0_isRightToggle_25 (by decide) ?_
      exact eRz hx hb hr hlocks dX0_isRightToggle_26 (Or.inl rfl) (by simp [bi, xRight, c_2, c_4])
    · refine lv_iconst (v := 1) hx hb dX0_isRightToggle_21 (by decide) ?_
      refine lv_goto (tgt := 26) hx hb dX0_isRightToggle_22 (by decide) ?_
      exact eRz hx hb hr hlocks dX0_isRightToggle_26 (Or.inr rfl) (by simp [bi, xRight, c_2, c_4])
theorem iw_X0_countedIn_X0 : ∀ w ∈ wsX00, w ∈ wsX0_countedIn := mem_pos [11, 12, 13, 14, 15, 16, 17, 18, 19] (by decide +kernel)
set_option maxHeartbeats 4000000 in
set_option maxRecDepth 100000 in
theorem mX0_countedIn (l : Launch) (D : va_G) (cI : ClassId) (a : Nat → Nat) (pa pe st bn hc hm : Nat → Int32) (C R lo : Int32) (q : Int32) : Met l yX0_countedIn wsX0_countedIn ({ frames := 2, cells := 0, slots := 0, locals := 42 } : Room) (va_Pc [.ref (a 0), .int q] (wPR D [(cI, .int)] (wM cI a pa pe st bn hc hm C R lo))) (vp_Si (fun zz : Int32 => zz = xCnt pa st q)) 0 0 (fun _ => False) := by
  refine mR_of (by decide) rfl (Nat.le_of_ble_eq_true rfl) ?_
  intro p e s m below meth c hx hb hr hml hown hts hlocks hP hK hN ls hl
  have hown : s.vm.findClass RX0 = some m.cls := hown
  have hl : lv_has ls 2 [(0, .ref (a 0)), (1, .int q)] := hl
  refine lv_aload_n hx hb dX0_countedIn_0 rfl (lv_at hl 0 rfl) ?_
  refine lv_iload_n hx hb dX0_countedIn_1 rfl (lv_at hl 1 rfl) ?_
  refine kRVi (As := [.int q]) (rest := []) ⟨hx, hb, hml, hown, hts⟩ (mX0_partIn l D cI a pa pe st bn hc hm C R lo q) (cwV 1 hts gX0_countedIn_X0_partIn rfl rfl rfl (by decide +kernel) ⟨Nat.le_of_ble_eq_true rfl, Nat.le_of_ble_eq_true rfl⟩) hP hK hN [0, 1, 2, 3, 4, 5, 6] rfl [0] rfl rfl rfl rfl hl.1 rfl (Nat.le_of_ble_eq_true rfl) dX0_countedIn_2 ⟨Nat.zero_le _, Nat.zero_le _⟩ (fun r_1 hr_1 => ?_)
  subst hr_1
  refine lv_iconst (v := 5) hx hb dX0_countedIn_5 (by decide) ?_
  refine lv_icmp_ne (tgt := 20) hx hb dX0_countedIn_6 (by decide) (fun c_2 => ?_) (fun c_2 => ?_)
  · refine lv_iconst (v := 0) hx hb dX0_countedIn_20 (by decide) ?_
    exact eRi hx hb hr hlocks dX0_countedIn_21 (by simp [xCnt, c_2])
  · refine lv_aload_n hx hb dX0_countedIn_9 rfl (lv_at hl 0 rfl) ?_
    refine va_get (D := D) (ci := 0) (v := .ref (a 3)) (C := RX0) (T := TX0) (N := 9) hx hb hts iw_X0_countedIn_X0 hown hK hP 0 rfl rfl 2 (by decide) (hts (.fieldLink RX0 18 "MarbleRamps$Machine" "states" "[I") (mg 1 rfl)) (fun _ h9 => h9) rfl dX0_countedIn_10 ?_
    refine lv_iload_n hx hb dX0_countedIn_13 rfl (lv_at hl 1 rfl) ?_
    refine kRNi (As := [.ref (a 3), .int q]) (rest := []) ⟨hx, hb, hml, hown, hts⟩ (mX1_cell l D cI (a 3) st 72 (by decide) q) ⟨va_cnB (host := RX1) 2 hts gX0_countedIn_X1_cell_n61 rfl rfl rfl hN.2.2 (hts (.initialized RX1) (mg 9 rfl)) (by decide +kernel) ⟨Nat.le_of_ble_eq_true rfl, Nat.le_of_ble_eq_true rfl⟩, hts (.static yX1_cell) (mg 8 rfl), trivial⟩ hP hK hN [3] rfl [0] rfl rfl hl.1 rfl (Nat.le_of_ble_eq_true rfl) dX0_countedIn_14 ⟨Nat.zero_le _, Nat.zero_le _⟩ (fun r_3 hr_3 => ?_)
    subst hr_3
    refine lv_goto (tgt := 21) hx hb dX0_countedIn_17 (by decide) ?_
    exact eRi hx hb hr hlocks dX0_countedIn_21 (by simp [xCnt, c_2])
end
section
theorem iw_X0_countToggles_X0 : ∀ w ∈ wsX00, w ∈ wsX0_countToggles := mem_pos [2, 3, 4, 5, 6, 7, 8, 9, 10] (by decide +kernel)
set_option maxHeartbeats 4000000 in
set_option maxRecDepth 100000 in
theorem mX0_countToggles (l : Launch) (D : va_G) (cI : ClassId) (a : Nat → Nat) (pa pe st bn hc hm : Nat → Int32) (C R lo : Int32) : Met l yX0_countToggles wsX0_countToggles ({ frames := 0, cells := 0, slots := 0, locals := 0 } : Room) (va_Pc [.ref (a 0)] (wPR D [(cI, .int)] (wM cI a pa pe st bn hc hm C R lo))) (vp_Si (fun zz : Int32 => zz = xTog pa)) 0 0 (fun _ => False) := by
  refine mR_of (by decide) rfl (Nat.le_of_ble_eq_true rfl) ?_
  intro p e s m below meth c hx hb hr hml hown hts hlocks hP hK hN ls hl
  have hown : s.vm.findClass RX0 = some m.cls := hown
  have hl : lv_has ls 6 [(0, .ref (a 0))] := hl
  refine lv_iconst (v := 0) hx hb dX0_countToggles_0 (by decide) ?_
  refine lv_istore_n (lv' := [(1, .int 0), (0, .ref (a 0))]) hx hb dX0_countToggles_1 rfl hl (by decide) rfl (fun ls hl => ?_)
  refine lv_aload_n hx hb dX0_countToggles_2 rfl (lv_at hl 1 rfl) ?_
  refine va_get (D := D) (ci := 0) (v := .ref (a 1)) (C := RX0) (T := TX0) (N := 9) hx hb hts iw_X0_countToggles_X0 hown hK hP 0 rfl rfl 0 (by decide) (hts (.fieldLink RX0 9 "MarbleRamps$Machine" "parts" "[I") (mg 1 rfl)) (fun _ h9 => h9) rfl dX0_countToggles_3 ?_
  refine lv_astore_n (lv' := [(2, .ref (a 1)), (1, .int 0), (0, .ref (a 0))]) hx hb dX0_countToggles_6 rfl hl (by decide) rfl (fun ls hl => ?_)
  refine lv_aload_n hx hb dX0_countToggles_7 rfl (lv_at hl 0 rfl) ?_
  refine va_alen hx hb hK hP 1 0 rfl rfl (v := 72) rfl dX0_countToggles_8 ?_
  refine lv_istore_n (lv' := [(3, .int 72), (2, .ref (a 1)), (1, .int 0), (0, .ref (a 0))]) hx hb dX0_countToggles_9 rfl hl (by decide) rfl (fun ls hl => ?_)
  refine lv_iconst (v := 0) hx hb dX0_countToggles_10 (by decide) ?_
  refine lv_istore (lv' := [(4, .int 0), (3, .int 72), (2, .ref (a 1)), (1, .int 0), (0, .ref (a 0))]) hx hb dX0_countToggles_11 hl (by decide) rfl (fun ls hl => ?_)
  have L13 : ∀ (n k : Nat) (t : Int32), k + n = 72 → xTog pa = xTogL pa n k t → ∀ ls : Array Slot, lv_has ls 6 [(4, .int (nI k)), (3, .int 72), (2, .ref (a 1)), (1, .int t), (0, .ref (a 0))] → W p l e ({ frames := 0, cells := 0, slots := 0, locals := 0 } : Room) s m [.ref (a 0)].toArray below meth c s.heap [] 0 0 (MQ below (vp_Si (fun zz : Int32 => zz = xTog pa)) [.ref (a 0)].toArray s 0 0 (fun _ => False)) (F0 m 13 ls []) := by
    intro n
    induction n with
    | zero =>
      intro k t hkn hf ls hl
      refine lv_iload hx hb dX0_countToggles_13 (lv_at hl 0 rfl) ?_
      refine lv_iload_n hx hb dX0_countToggles_15 rfl (lv_at hl 1 rfl) ?_
      refine lv_icmp_ge (tgt := 40) hx hb dX0_countToggles_16 (by decide) (fun c_1 => ?_) (fun c9 => absurd (by rw [show (72 : Int32) = nI 72 from rfl]; exact nI_le (by omega) (by omega)) c9)
      refine lv_iload_n hx hb dX0_countToggles_40 rfl (lv_at hl 3 rfl) ?_
      exact eRi hx hb hr hlocks dX0_countToggles_41 (by rw [hf]; rfl)
    | succ n ih =>
      intro k t hkn hf ls hl
      refine lv_iload hx hb dX0_countToggles_13 (lv_at hl 0 rfl) ?_
      refine lv_iload_n hx hb dX0_countToggles_15 rfl (lv_at hl 1 rfl) ?_
      refine lv_icmp_ge (tgt := 40) hx hb dX0_countToggles_16 (by decide) (fun c9 => absurd c9 (by rw [show (72 : Int32) = nI 72 from rfl]; exact nI_ge (by omega) (by decide))) (fun c_2 => ?_)
      refine lv_aload_n hx hb dX0_countToggles_19 rfl (lv_at hl 2 rfl) ?_
      refine lv_iload hx hb dX0_countToggles_20 (lv_at hl 0 rfl) ?_
      refine va_iald hx hb hK hP 1 0 rfl rfl (vp_in_nI (by omega) (by decide)) dX0_countToggles_22 ?_
      rw [nI_clamp (show k < 2 ^ 31 by omega)]
      refine lv_istore (lv' := [(5, .int (pa k)), (4, .int (nI k)), (3, .int 72), (2, .ref (a 1)), (1, .int t), (0, .ref (a 0))]) hx hb dX0_countToggles_23 hl (by decide) rfl (fun ls hl => ?_)
      refine lv_iload hx hb dX0_countToggles_25 (lv_at hl 0 rfl) ?_
      refine lv_iconst (v := 3) hx hb dX0_countToggles_27 (by decide) ?_
      refine lv_icmp_ne (tgt := 34) hx hb dX0_countToggles_28 (by decide) (fun c_3 => ?_) (fun c_3 => ?_)
      · refine lv_iinc (v := (nI (k + 1))) (lv' := [(4, .int (nI (k + 1))), (5, .int (pa k)), (3, .int 72), (2, .ref (a 1)), (1, .int t), (0, .ref (a 0))]) hx hb dX0_countToggles_34 hl (k := 1) rfl (nI_1 k) (by decide) rfl (fun ls hl => ?_)
        refine lv_goto (tgt := 13) hx hb dX0_countToggles_37 (by decide) ?_
        exact ih (k + 1) t (by omega) (by rw [hf]; simp [xTogL, c_3]) ls (lv_sub hl [0, 2, 3, 4, 5] rfl)
      · refine lv_iinc (v := (t + 1)) (lv' := [(1, .int (t + 1)), (5, .int (pa k)), (4, .int (nI k)), (3, .int 72), (2, .ref (a 1)), (0, .ref (a 0))]) hx hb dX0_countToggles_31 hl (k := 4) rfl rfl (by decide) rfl (fun ls hl => ?_)
        refine lv_iinc (v := (nI (k + 1))) (lv' := [(4, .int (nI (k + 1))), (1, .int (t + 1)), (5, .int (pa k)), (3, .int 72), (2, .ref (a 1)), (0, .ref (a 0))]) hx hb dX0_countToggles_34 hl (k := 2) rfl (nI_1 k) (by decide) rfl (fun ls hl => ?_)
        refine lv_goto (tgt := 13) hx hb dX0_countToggles_37 (by decide) ?_
        exact ih (k + 1) (t + 1) (by omega) (by rw [hf]; simp [xTogL, c_3]) ls (lv_sub hl [0, 3, 4, 1, 5] rfl)
  exact L13 72 0 0 (by omega) rfl ls (lv_sub hl [0, 1, 2, 3, 4] rfl)
theorem iw_X0_numberToldBy_X0 : ∀ w ∈ wsX00, w ∈ wsX0_numberToldBy := mem_pos [20, 21, 22, 23, 24, 25, 26, 27, 28] (by decide +kernel)
set_option maxHeartbeats 4000000 in
set_option maxRecDepth 100000 in
theorem mX0_numberToldBy (l : Launch) (D : va_G) (cI : ClassId) (a : Nat → Nat) (pa pe st bn hc hm : Nat → Int32) (C R lo : Int32) (rr : Int32) : Met l yX0_numberToldBy wsX0_numberToldBy ({ frames := 3, cells := 0, slots := 0, locals := 63 } : Room) (va_Pc [.ref (a 0), .int rr] (wPR D [(cI, .int)] (wM cI a pa pe st bn hc hm C R lo))) (vp_Si (fun zz : Int32 => zz = xNum pa st C rr)) 0 0 (fun _ => False) := by
  refine mR_of (by decide) rfl (Nat.le_of_ble_eq_true rfl) ?_
  intro p e s m below meth c hx hb hr hml hown hts hlocks hP hK hN ls hl
  have hown : s.vm.findClass RX0 = some m.cls := hown
  have hl : lv_has ls 6 [(0, .ref (a 0)), (1, .int rr)] := hl
  refine lv_iconst (v := 0) hx hb dX0_numberToldBy_0 (by decide) ?_
  refine lv_istore_n (lv' := [(2, .int 0), (0, .ref (a 0)), (1, .int rr)]) hx hb dX0_numberToldBy_1 rfl hl (by decide) rfl (fun ls hl => ?_)
  refine lv_iconst (v := 1) hx hb dX0_numberToldBy_2 (by decide) ?_
  refine lv_istore_n (lv' := [(3, .int 1), (2, .int 0), (0, .ref (a 0)), (1, .int rr)]) hx hb dX0_numberToldBy_3 rfl hl (by decide) rfl (fun ls hl => ?_)
  refine lv_iconst (v := 0) hx hb dX0_numberToldBy_4 (by decide) ?_
  refine lv_istore (lv' := [(4, .int 0), (3, .int 1), (2, .int 0), (0, .ref (a 0)), (1, .int rr)]) hx hb dX0_numberToldBy_5 hl (by decide) rfl (fun ls hl => ?_)
  have L7 : ∀ (n k : Nat) (t : Int32) (wt : Int32), k + n = C.toNatClampNeg → xNum pa st C rr = xNumL pa st C rr n k t wt → ∀ ls : Array Slot, lv_has ls 6 [(4, .int (nI k)), (3, .int wt), (2, .int t), (0, .ref (a 0)), (1, .int rr)] → W p l e ({ frames := 3, cells := 0, slots := 0, locals := 63 } : Room) s m [.ref (a 0), .int rr].toArray below meth c s.heap [] 0 0 (MQ below (vp_Si (fun zz : Int32 => zz = xNum pa st C rr)) [.ref (a 0), .int rr].toArray s 0 0 (fun _ => False)) (F0 m 7 ls []) := by
    intro n
    induction n with
    | zero =>
      intro k t wt hkn hf ls hl
      refine lv_iload hx hb dX0_numberToldBy_7 (lv_at hl 0 rfl) ?_
      refine lv_aload_n hx hb dX0_numberToldBy_9 rfl (lv_at hl 3 rfl) ?_
      refine va_get (D := D) (ci := 0) (v := .int C) (C := RX0) (T := TX0) (N := 9) hx hb hts iw_X0_numberToldBy_X0 hown hK hP 0 rfl rfl 6 (by decide) (hts (.fieldLink RX0 34 "MarbleRamps$Machine" "columnCount" "I") (mg 1 rfl)) (fun _ h9 => h9) rfl dX0_numberToldBy_10 ?_
      refine lv_icmp_ge (tgt := 62) hx hb dX0_numberToldBy_13 (by decide) (fun c_1 => ?_) (fun c9 => absurd (by rw [lc_le (by have := clampLt C; omega)]; omega) c9)
      refine lv_iload_n hx hb dX0_numberToldBy_62 rfl (lv_at hl 2 rfl) ?_
      exact eRi hx hb hr hlocks dX0_numberToldBy_63 (by rw [hf]; rfl)
    | succ n ih =>
      intro k t wt hkn hf ls hl
      refine lv_iload hx hb dX0_numberToldBy_7 (lv_at hl 0 rfl) ?_
      refine lv_aload_n hx hb dX0_numberToldBy_9 rfl (lv_at hl 3 rfl) ?_
      refine va_get (D := D) (ci := 0) (v := .int C) (C := RX0) (T := TX0) (N := 9) hx hb hts iw_X0_numberToldBy_X0 hown hK hP 0 rfl rfl 6 (by decide) (hts (.fieldLink RX0 34 "MarbleRamps$Machine" "columnCount" "I") (mg 1 rfl)) (fun _ h9 => h9) rfl dX0_numberToldBy_10 ?_
      refine lv_icmp_ge (tgt := 62) hx hb dX0_numberToldBy_13 (by decide) (fun c9 => absurd c9 (by rw [lc_le (by have := clampLt C; omega)]; omega)) (fun c_2 => ?_)
      refine lv_aload_n hx hb dX0_numberToldBy_16 rfl (lv_at hl 3 rfl) ?_
      refine lv_iload_n hx hb dX0_numberToldBy_17 rfl (lv_at hl 4 rfl) ?_
      refine lv_iload hx hb dX0_numberToldBy_18 (lv_at hl 0 rfl) ?_
      refine kRVi (As := [.int rr, .int (nI k)]) (rest := []) ⟨hx, hb, hml, hown, hts⟩ (mX0_placeOf l D cI a pa pe st bn hc hm C R lo rr (nI k)) (cwV 2 hts gX0_numberToldBy_X0_placeOf rfl rfl rfl (by decide +kernel) ⟨Nat.le_of_ble_eq_true rfl, Nat.le_of_ble_eq_true rfl⟩) hP hK hN [0, 1, 2, 3, 4, 5, 6] rfl [0] rfl rfl rfl rfl hl.1 rfl (Nat.le_of_ble_eq_true rfl) dX0_numberToldBy_20 ⟨Nat.zero_le _, Nat.zero_le _⟩ (fun r_3 hr_3 => ?_)
      subst hr_3
      refine lv_istore (lv' := [(5, .int (rr * C + (nI k))), (4, .int (nI k)), (3, .int wt), (2, .int t), (0, .ref (a 0)), (1, .int rr)]) hx hb dX0_numberToldBy_23 hl (by decide) rfl (fun ls hl => ?_)
      refine lv_aload_n hx hb dX0_numberToldBy_25 rfl (lv_at hl 4 rfl) ?_
      refine lv_iload hx hb dX0_numberToldBy_26 (lv_at hl 0 rfl) ?_
      refine kRVi (As := [.int (rr * C + (nI k))]) (rest := []) ⟨hx, hb, hml, hown, hts⟩ (mX0_partIn l D cI a pa pe st bn hc hm C R lo (rr * C + (nI k))) (cwV 1 hts gX0_numberToldBy_X0_partIn rfl rfl rfl (by decide +kernel) ⟨Nat.le_of_ble_eq_true rfl, Nat.le_of_ble_eq_true rfl⟩) hP hK hN [0, 1, 2, 3, 4, 5, 6] rfl [0] rfl rfl rfl rfl hl.1 rfl (Nat.le_of_ble_eq_true rfl) dX0_numberToldBy_28 ⟨Nat.zero_le _, Nat.zero_le _⟩ (fun r_4 hr_4 => ?_)
      subst hr_4
      refine lv_iconst (v := 3) hx hb dX0_numberToldBy_31 (by decide) ?_
      refine lv_icmp_ne (tgt := 56) hx hb dX0_numberToldBy_32 (by decide) (fun c_5 => ?_) (fun c_5 => ?_)
      · refine lv_iinc (v := (nI (k + 1))) (lv' := [(4, .int (nI (k + 1))), (5, .int (rr * C + (nI k))), (3, .int wt), (2, .int t), (0, .ref (a 0)), (1, .int rr)]) hx hb dX0_numberToldBy_56 hl (k := 1) rfl (nI_1 k) (by decide) rfl (fun ls hl => ?_)
        refine lv_goto (tgt := 7) hx hb dX0_numberToldBy_59 (by decide) ?_
        exact ih (k + 1) t wt (by omega) (by rw [hf]; simp [xNumL, bi_e0, c_5]) ls (lv_sub hl [0, 2, 3, 4, 5] rfl)
      · refine lv_iload_n hx hb dX0_numberToldBy_35 rfl (lv_at hl 3 rfl) ?_
        refine lv_aload_n hx hb dX0_numberToldBy_36 rfl (lv_at hl 4 rfl) ?_
        refine lv_iload hx hb dX0_numberToldBy_37 (lv_at hl 0 rfl) ?_
        refine kRVi (As := [.int (rr * C + (nI k))]) (rest := [.int t]) ⟨hx, hb, hml, hown, hts⟩ (mX0_isRightToggle l D cI a pa pe st bn hc hm C R lo (rr * C + (nI k))) (cwV 1 hts gX0_numberToldBy_X0_isRightToggle rfl rfl rfl (by decide +kernel) ⟨Nat.le_of_ble_eq_true rfl, Nat.le_of_ble_eq_true rfl⟩) hP hK hN [0, 1, 2, 3, 4, 5, 6] rfl [0] rfl rfl rfl rfl hl.1 rfl (Nat.le_of_ble_eq_true rfl) dX0_numberToldBy_39 ⟨Nat.zero_le _, Nat.zero_le _⟩ (fun r_6 hr_6 => ?_)
        subst hr_6
        refine lv_if_eq (tgt := 49) hx hb dX0_numberToldBy_42 (by decide) (fun c_7 => ?_) (fun c_7 => ?_)
        · simp only [ne_eq, bi_e0] at c_7
          refine lv_iconst (v := 0) hx hb dX0_numberToldBy_49 (by decide) ?_
          refine lv_iadd hx hb dX0_numberToldBy_50 ?_
          refine lv_istore_n (lv' := [(2, .int (t + 0)), (5, .int (rr * C + (nI k))), (4, .int (nI k)), (3, .int wt), (0, .ref (a 0)), (1, .int rr)]) hx hb dX0_numberToldBy_51 rfl hl (by decide) rfl (fun ls hl => ?_)
          refine lv_iload_n hx hb dX0_numberToldBy_52 rfl (lv_at hl 3 rfl) ?_
          refine lv_iconst (v := 2) hx hb dX0_numberToldBy_53 (by decide) ?_
          refine lv_imul hx hb dX0_numberToldBy_54 ?_
          refine lv_istore_n (lv' := [(3, .int (wt * 2)), (2, .int (t + 0)), (5, .int (rr * C + (nI k))), (4, .int (nI k)), (0, .ref (a 0)), (1, .int rr)]) hx hb dX0_numberToldBy_55 rfl hl (by decide) rfl (fun ls hl => ?_)
          refine lv_iinc (v := (nI (k + 1))) (lv' := [(4, .int (nI (k + 1))), (3, .int (wt * 2)), (2, .int (t + 0)), (5, .int (rr * C + (nI k))), (0, .ref (a 0)), (1, .int rr)]) hx hb dX0_numberToldBy_56 hl (k := 3) rfl (nI_1 k) (by decide) rfl (fun ls hl => ?_)
          refine lv_goto (tgt := 7) hx hb dX0_numberToldBy_59 (by decide) ?_
          exact ih (k + 1) (t + 0) (wt * 2) (by omega) (by rw [hf]; simp [xNumL, bi_e0, c_5, c_7]) ls (lv_sub hl [0, 1, 2, 4, 5] rfl)
        · simp only [ne_eq, bi_e0] at c_7
          refine lv_iload_n hx hb dX0_numberToldBy_45 rfl (lv_at hl 2 rfl) ?_
          refine lv_goto (tgt := 50) hx hb dX0_numberToldBy_46 (by decide) ?_
          refine lv_iadd hx hb dX0_numberToldBy_50 ?_
          refine lv_istore_n (lv' := [(2, .int (t + wt)), (5, .int (rr * C + (nI k))), (4, .int (nI k)), (3, .int wt), (0, .ref (a 0)), (1, .int rr)]) hx hb dX0_numberToldBy_51 rfl hl (by decide) rfl (fun ls hl => ?_)
          refine lv_iload_n hx hb dX0_numberToldBy_52 rfl (lv_at hl 3 rfl) ?_
          refine lv_iconst (v := 2) hx hb dX0_numberToldBy_53 (by decide) ?_
          refine lv_imul hx hb dX0_numberToldBy_54 ?_
          refine lv_istore_n (lv' := [(3, .int (wt * 2)), (2, .int (t + wt)), (5, .int (rr * C + (nI k))), (4, .int (nI k)), (0, .ref (a 0)), (1, .int rr)]) hx hb dX0_numberToldBy_55 rfl hl (by decide) rfl (fun ls hl => ?_)
          refine lv_iinc (v := (nI (k + 1))) (lv' := [(4, .int (nI (k + 1))), (3, .int (wt * 2)), (2, .int (t + wt)), (5, .int (rr * C + (nI k))), (0, .ref (a 0)), (1, .int rr)]) hx hb dX0_numberToldBy_56 hl (k := 3) rfl (nI_1 k) (by decide) rfl (fun ls hl => ?_)
          refine lv_goto (tgt := 7) hx hb dX0_numberToldBy_59 (by decide) ?_
          exact ih (k + 1) (t + wt) (wt * 2) (by omega) (by rw [hf]; simp [xNumL, bi_e0, c_5, c_7]) ls (lv_sub hl [0, 1, 2, 4, 5] rfl)
  exact L7 C.toNatClampNeg 0 0 1 (by omega) rfl ls (lv_sub hl [0, 1, 2, 3, 4] rfl)
theorem iw_X0_togglesUnlike_X0 : ∀ w ∈ wsX00, w ∈ wsX0_togglesUnlike := mem_pos [15, 16, 17, 18, 19, 20, 21, 22, 23] (by decide +kernel)
set_option maxHeartbeats 4000000 in
set_option maxRecDepth 100000 in
theorem mX0_togglesUnlike (l : Launch) (D : va_G) (cI : ClassId) (a : Nat → Nat) (pa pe st bn hc hm : Nat → Int32) (C R lo : Int32) (b : Nat → Nat) (pa2 pe2 st2 bn2 hc2 hm2 : Nat → Int32) (C2 R2 lo2 : Int32) : Met l yX0_togglesUnlike wsX0_togglesUnlike ({ frames := 3, cells := 0, slots := 0, locals := 63 } : Room) (va_Pc [.ref (a 0), .ref (b 0)] (wPR D [(cI, .int)] (wM cI a pa pe st bn hc hm C R lo ++ wM cI b pa2 pe2 st2 bn2 hc2 hm2 C2 R2 lo2))) (vp_Si (fun zz : Int32 => zz = xUnl pa st pa2 st2)) 0 0 (fun _ => False) := by
  refine mR_of (by decide) rfl (Nat.le_of_ble_eq_true rfl) ?_
  intro p e s m below meth c hx hb hr hml hown hts hlocks hP hK hN ls hl
  have hown : s.vm.findClass RX0 = some m.cls := hown
  have hl : lv_has ls 4 [(0, .ref (a 0)), (1, .ref (b 0))] := hl
  refine lv_iconst (v := 0) hx hb dX0_togglesUnlike_0 (by decide) ?_
  refine lv_istore_n (lv' := [(2, .int 0), (0, .ref (a 0)), (1, .ref (b 0))]) hx hb dX0_togglesUnlike_1 rfl hl (by decide) rfl (fun ls hl => ?_)
  refine lv_iconst (v := 0) hx hb dX0_togglesUnlike_2 (by decide) ?_
  refine lv_istore_n (lv' := [(3, .int 0), (2, .int 0), (0, .ref (a 0)), (1, .ref (b 0))]) hx hb dX0_togglesUnlike_3 rfl hl (by decide) rfl (fun ls hl => ?_)
  have L4 : ∀ (n k : Nat) (t : Int32), k + n = 72 → xUnl pa st pa2 st2 = xUnlL pa st pa2 st2 n k t → ∀ ls : Array Slot, lv_has ls 4 [(3, .int (nI k)), (2, .int t), (0, .ref (a 0)), (1, .ref (b 0))] → W p l e ({ frames := 3, cells := 0, slots := 0, locals := 63 } : Room) s m [.ref (a 0), .ref (b 0)].toArray below meth c s.heap [] 0 0 (MQ below (vp_Si (fun zz : Int32 => zz = xUnl pa st pa2 st2)) [.ref (a 0), .ref (b 0)].toArray s 0 0 (fun _ => False)) (F0 m 4 ls []) := by
    intro n
    induction n with
    | zero =>
      intro k t hkn hf ls hl
      refine lv_iload_n hx hb dX0_togglesUnlike_4 rfl (lv_at hl 0 rfl) ?_
      refine lv_aload_n hx hb dX0_togglesUnlike_5 rfl (lv_at hl 2 rfl) ?_
      refine va_get (D := D) (ci := 0) (v := .ref (a 1)) (C := RX0) (T := TX0) (N := 9) hx hb hts iw_X0_togglesUnlike_X0 hown hK hP 0 rfl rfl 0 (by decide) (hts (.fieldLink RX0 9 "MarbleRamps$Machine" "parts" "[I") (mg 1 rfl)) (fun _ h9 => h9) rfl dX0_togglesUnlike_6 ?_
      refine va_alen hx hb hK hP 1 0 rfl rfl (v := 72) rfl dX0_togglesUnlike_9 ?_
      refine lv_icmp_ge (tgt := 35) hx hb dX0_togglesUnlike_10 (by decide) (fun c_1 => ?_) (fun c9 => absurd (by rw [show (72 : Int32) = nI 72 from rfl]; exact nI_le (by omega) (by omega)) c9)
      refine lv_iload_n hx hb dX0_togglesUnlike_35 rfl (lv_at hl 1 rfl) ?_
      exact eRi hx hb hr hlocks dX0_togglesUnlike_36 (by rw [hf]; rfl)
    | succ n ih =>
      intro k t hkn hf ls hl
      refine lv_iload_n hx hb dX0_togglesUnlike_4 rfl (lv_at hl 0 rfl) ?_
      refine lv_aload_n hx hb dX0_togglesUnlike_5 rfl (lv_at hl 2 rfl) ?_
      refine va_get (D := D) (ci := 0) (v := .ref (a 1)) (C := RX0) (T := TX0) (N := 9) hx hb hts iw_X0_togglesUnlike_X0 hown hK hP 0 rfl rfl 0 (by decide) (hts (.fieldLink RX0 9 "MarbleRamps$Machine" "parts" "[I") (mg 1 rfl)) (fun _ h9 => h9) rfl dX0_togglesUnlike_6 ?_
      refine va_alen hx hb hK hP 1 0 rfl rfl (v := 72) rfl dX0_togglesUnlike_9 ?_
      refine lv_icmp_ge (tgt := 35) hx hb dX0_togglesUnlike_10 (by decide) (fun c9 => absurd c9 (by rw [show (72 : Int32) = nI 72 from rfl]; exact nI_ge (by omega) (by decide))) (fun c_2 => ?_)
      refine lv_aload_n hx hb dX0_togglesUnlike_13 rfl (lv_at hl 2 rfl) ?_
      refine lv_iload_n hx hb dX0_togglesUnlike_14 rfl (lv_at hl 0 rfl) ?_
      refine kRVi (As := [.int (nI k)]) (rest := []) ⟨hx, hb, hml, hown, hts⟩ (mX0_isRightToggle l D cI a pa pe st bn hc hm C R lo (nI k)) (cwV 1 hts gX0_togglesUnlike_X0_isRightToggle rfl rfl rfl (by decide +kernel) ⟨Nat.le_of_ble_eq_true rfl, Nat.le_of_ble_eq_true rfl⟩) hP hK hN [0, 1, 2, 3, 4, 5, 6] rfl [0] rfl rfl rfl rfl hl.1 rfl (Nat.le_of_ble_eq_true rfl) dX0_togglesUnlike_15 ⟨Nat.zero_le _, Nat.zero_le _⟩ (fun r_3 hr_3 => ?_)
      subst hr_3
      refine lv_aload_n hx hb dX0_togglesUnlike_18 rfl (lv_at hl 3 rfl) ?_
      refine lv_iload_n hx hb dX0_togglesUnlike_19 rfl (lv_at hl 0 rfl) ?_
      refine kRVi (As := [.int (nI k)]) (rest := [.int (bi (xRight pa st (nI k)))]) ⟨hx, hb, hml, hown, hts⟩ (mX0_isRightToggle l D cI b pa2 pe2 st2 bn2 hc2 hm2 C2 R2 lo2 (nI k)) (cwV 1 hts gX0_togglesUnlike_X0_isRightToggle rfl rfl rfl (by decide +kernel) ⟨Nat.le_of_ble_eq_true rfl, Nat.le_of_ble_eq_true rfl⟩) hP hK hN [7, 8, 9, 10, 11, 12, 13] rfl [0] rfl rfl rfl rfl hl.1 rfl (Nat.le_of_ble_eq_true rfl) dX0_togglesUnlike_20 ⟨Nat.zero_le _, Nat.zero_le _⟩ (fun r_4 hr_4 => ?_)
      subst hr_4
      refine lv_icmp_eq (tgt := 29) hx hb dX0_togglesUnlike_23 (by decide) (fun c_5 => ?_) (fun c_5 => ?_)
      · refine lv_iinc (v := (nI (k + 1))) (lv' := [(3, .int (nI (k + 1))), (2, .int t), (0, .ref (a 0)), (1, .ref (b 0))]) hx hb dX0_togglesUnlike_29 hl (k := 0) rfl (nI_1 k) (by decide) rfl (fun ls hl => ?_)
        refine lv_goto (tgt := 4) hx hb dX0_togglesUnlike_32 (by decide) ?_
        exact ih (k + 1) t (by omega) (by rw [hf]; simp [xUnlL, c_5]) ls (lv_sub hl [0, 1, 2, 3] rfl)
      · refine lv_iinc (v := (t + 1)) (lv' := [(2, .int (t + 1)), (3, .int (nI k)), (0, .ref (a 0)), (1, .ref (b 0))]) hx hb dX0_togglesUnlike_26 hl (k := 1) rfl rfl (by decide) rfl (fun ls hl => ?_)
        refine lv_iinc (v := (nI (k + 1))) (lv' := [(3, .int (nI (k + 1))), (2, .int (t + 1)), (0, .ref (a 0)), (1, .ref (b 0))]) hx hb dX0_togglesUnlike_29 hl (k := 1) rfl (nI_1 k) (by decide) rfl (fun ls hl => ?_)
        refine lv_goto (tgt := 4) hx hb dX0_togglesUnlike_32 (by decide) ?_
        exact ih (k + 1) (t + 1) (by omega) (by rw [hf]; simp [xUnlL, c_5]) ls (lv_sub hl [0, 1, 2, 3] rfl)
  exact L4 72 0 0 (by omega) rfl ls (lv_sub hl [0, 1, 2, 3] rfl)
theorem iw_X0_hasStatesOf_X0 : ∀ w ∈ wsX00, w ∈ wsX0_hasStatesOf := mem_pos [5, 6, 7, 8, 9, 10, 11, 12, 13] (by decide +kernel)
set_option maxHeartbeats 4000000 in
set_option maxRecDepth 100000 in
theorem mX0_hasStatesOf (l : Launch) (D : va_G) (cI : ClassId) (a : Nat → Nat) (pa pe st bn hc hm : Nat → Int32) (C R lo : Int32) (b : Nat → Nat) (pa2 pe2 st2 bn2 hc2 hm2 : Nat → Int32) (C2 R2 lo2 : Int32) : Met l yX0_hasStatesOf wsX0_hasStatesOf ({ frames := 1, cells := 0, slots := 0, locals := 21 } : Room) (va_Pc [.ref (a 0), .ref (b 0)] (wPR D [(cI, .int)] (wM cI a pa pe st bn hc hm C R lo ++ wM cI b pa2 pe2 st2 bn2 hc2 hm2 C2 R2 lo2))) (vp_Si (fun zz : Int32 => zz = bi (xSame st st2))) 0 0 (fun _ => False) := by
  refine mR_of (by decide) rfl (Nat.le_of_ble_eq_true rfl) ?_
  intro p e s m below meth c hx hb hr hml hown hts hlocks hP hK hN ls hl
  have hown : s.vm.findClass RX0 = some m.cls := hown
  have hl : lv_has ls 3 [(0, .ref (a 0)), (1, .ref (b 0))] := hl
  refine lv_iconst (v := 0) hx hb dX0_hasStatesOf_0 (by decide) ?_
  refine lv_istore_n (lv' := [(2, .int 0), (0, .ref (a 0)), (1, .ref (b 0))]) hx hb dX0_hasStatesOf_1 rfl hl (by decide) rfl (fun ls hl => ?_)
  have L2 : ∀ (n k : Nat), k + n = 72 → xSame st st2 = xSameL st st2 n k → ∀ ls : Array Slot, lv_has ls 3 [(2, .int (nI k)), (0, .ref (a 0)), (1, .ref (b 0))] → W p l e ({ frames := 1, cells := 0, slots := 0, locals := 21 } : Room) s m [.ref (a 0), .ref (b 0)].toArray below meth c s.heap [] 0 0 (MQ below (vp_Si (fun zz : Int32 => zz = bi (xSame st st2))) [.ref (a 0), .ref (b 0)].toArray s 0 0 (fun _ => False)) (F0 m 2 ls []) := by
    intro n
    induction n with
    | zero =>
      intro k hkn hf ls hl
      refine lv_iload_n hx hb dX0_hasStatesOf_2 rfl (lv_at hl 0 rfl) ?_
      refine lv_aload_n hx hb dX0_hasStatesOf_3 rfl (lv_at hl 1 rfl) ?_
      refine va_get (D := D) (ci := 0) (v := .ref (a 3)) (C := RX0) (T := TX0) (N := 9) hx hb hts iw_X0_hasStatesOf_X0 hown hK hP 0 rfl rfl 2 (by decide) (hts (.fieldLink RX0 18 "MarbleRamps$Machine" "states" "[I") (mg 1 rfl)) (fun _ h9 => h9) rfl dX0_hasStatesOf_4 ?_
      refine va_alen hx hb hK hP 3 0 rfl rfl (v := 72) rfl dX0_hasStatesOf_7 ?_
      refine lv_icmp_ge (tgt := 38) hx hb dX0_hasStatesOf_8 (by decide) (fun c_1 => ?_) (fun c9 => absurd (by rw [show (72 : Int32) = nI 72 from rfl]; exact nI_le (by omega) (by omega)) c9)
      refine lv_iconst (v := 1) hx hb dX0_hasStatesOf_38 (by decide) ?_
      exact eRz hx hb hr hlocks dX0_hasStatesOf_39 (Or.inr rfl) (by rw [hf]; rfl)
    | succ n ih =>
      intro k hkn hf ls hl
      refine lv_iload_n hx hb dX0_hasStatesOf_2 rfl (lv_at hl 0 rfl) ?_
      refine lv_aload_n hx hb dX0_hasStatesOf_3 rfl (lv_at hl 1 rfl) ?_
      refine va_get (D := D) (ci := 0) (v := .ref (a 3)) (C := RX0) (T := TX0) (N := 9) hx hb hts iw_X0_hasStatesOf_X0 hown hK hP 0 rfl rfl 2 (by decide) (hts (.fieldLink RX0 18 "MarbleRamps$Machine" "states" "[I") (mg 1 rfl)) (fun _ h9 => h9) rfl dX0_hasStatesOf_4 ?_
      refine va_alen hx hb hK hP 3 0 rfl rfl (v := 72) rfl dX0_hasStatesOf_7 ?_
      refine lv_icmp_ge (tgt := 38) hx hb dX0_hasStatesOf_8 (by decide) (fun c9 => absurd c9 (by rw [show (72 : Int32) = nI 72 from rfl]; exact nI_ge (by omega) (by decide))) (fun c_2 => ?_)
      refine lv_aload_n hx hb dX0_hasStatesOf_11 rfl (lv_at hl 1 rfl) ?_
      refine va_get (D := D) (ci := 0) (v := .ref (a 3)) (C := RX0) (T := TX0) (N := 9) hx hb hts iw_X0_hasStatesOf_X0 hown hK hP 0 rfl rfl 2 (by decide) (hts (.fieldLink RX0 18 "MarbleRamps$Machine" "states" "[I") (mg 1 rfl)) (fun _ h9 => h9) rfl dX0_hasStatesOf_12 ?_
      refine lv_iload_n hx hb dX0_hasStatesOf_15 rfl (lv_at hl 0 rfl) ?_
      refine kRNi (As := [.ref (a 3), .int (nI k)]) (rest := []) ⟨hx, hb, hml, hown, hts⟩ (mX1_cell l D cI (a 3) st 72 (by decide) (nI k)) ⟨va_cnB (host := RX1) 2 hts gX0_hasStatesOf_X1_cell_n61 rfl rfl rfl hN.2.2 (hts (.initialized RX1) (mg 3 rfl)) (by decide +kernel) ⟨Nat.le_of_ble_eq_true rfl, Nat.le_of_ble_eq_true rfl⟩, hts (.static yX1_cell) (mg 2 rfl), trivial⟩ hP hK hN [3] rfl [0] rfl rfl hl.1 rfl (Nat.le_of_ble_eq_true rfl) dX0_hasStatesOf_16 ⟨Nat.zero_le _, Nat.zero_le _⟩ (fun r_3 hr_3 => ?_)
      subst hr_3
      refine lv_aload_n hx hb dX0_hasStatesOf_19 rfl (lv_at hl 2 rfl) ?_
      refine va_get (D := D) (ci := 0) (v := .ref (b 3)) (C := RX0) (T := TX0) (N := 9) hx hb hts iw_X0_hasStatesOf_X0 hown hK hP 7 rfl rfl 2 (by decide) (hts (.fieldLink RX0 18 "MarbleRamps$Machine" "states" "[I") (mg 1 rfl)) (fun _ h9 => h9) rfl dX0_hasStatesOf_20 ?_
      refine lv_iload_n hx hb dX0_hasStatesOf_23 rfl (lv_at hl 0 rfl) ?_
      refine kRNi (As := [.ref (b 3), .int (nI k)]) (rest := [.int (xcl 72 st (nI k))]) ⟨hx, hb, hml, hown, hts⟩ (mX1_cell l D cI (b 3) st2 72 (by decide) (nI k)) ⟨va_cnB (host := RX1) 2 hts gX0_hasStatesOf_X1_cell_n61 rfl rfl rfl hN.2.2 (hts (.initialized RX1) (mg 3 rfl)) (by decide +kernel) ⟨Nat.le_of_ble_eq_true rfl, Nat.le_of_ble_eq_true rfl⟩, hts (.static yX1_cell) (mg 2 rfl), trivial⟩ hP hK hN [10] rfl [0] rfl rfl hl.1 rfl (Nat.le_of_ble_eq_true rfl) dX0_hasStatesOf_24 ⟨Nat.zero_le _, Nat.zero_le _⟩ (fun r_4 hr_4 => ?_)
      subst hr_4
      refine lv_icmp_eq (tgt := 32) hx hb dX0_hasStatesOf_27 (by decide) (fun c_5 => ?_) (fun c_5 => ?_)
      · refine lv_iinc (v := (nI (k + 1))) (lv' := [(2, .int (nI (k + 1))), (0, .ref (a 0)), (1, .ref (b 0))]) hx hb dX0_hasStatesOf_32 hl (k := 0) rfl (nI_1 k) (by decide) rfl (fun ls hl => ?_)
        refine lv_goto (tgt := 2) hx hb dX0_hasStatesOf_35 (by decide) ?_
        exact ih (k + 1)  (by omega) (by rw [hf]; simp [xSameL, c_5]) ls (lv_sub hl [0, 1, 2] rfl)
      · refine lv_iconst (v := 0) hx hb dX0_hasStatesOf_30 (by decide) ?_
        exact eRz hx hb hr hlocks dX0_hasStatesOf_31 (Or.inl rfl) (by rw [hf]; simp [xSameL, bi, c_5])
  exact L2 72 0  (by omega) rfl ls (lv_sub hl [0, 1, 2] rfl)
theorem iw_X0_marblesInBins_X0 : ∀ w ∈ wsX00, w ∈ wsX0_marblesInBins := mem_pos [2, 3, 4, 5, 6, 7, 8, 9, 10] (by decide +kernel)
set_option maxHeartbeats 4000000 in
set_option maxRecDepth 100000 in
theorem mX0_marblesInBins (l : Launch) (D : va_G) (cI : ClassId) (a : Nat → Nat) (pa pe st bn hc hm : Nat → Int32) (C R lo : Int32) : Met l yX0_marblesInBins wsX0_marblesInBins ({ frames := 0, cells := 0, slots := 0, locals := 0 } : Room) (va_Pc [.ref (a 0)] (wPR D [(cI, .int)] (wM cI a pa pe st bn hc hm C R lo))) (vp_Si (fun zz : Int32 => zz = xSum bn)) 0 0 (fun _ => False) := by
  refine mR_of (by decide) rfl (Nat.le_of_ble_eq_true rfl) ?_
  intro p e s m below meth c hx hb hr hml hown hts hlocks hP hK hN ls hl
  have hown : s.vm.findClass RX0 = some m.cls := hown
  have hl : lv_has ls 6 [(0, .ref (a 0))] := hl
  refine lv_iconst (v := 0) hx hb dX0_marblesInBins_0 (by decide) ?_
  refine lv_istore_n (lv' := [(1, .int 0), (0, .ref (a 0))]) hx hb dX0_marblesInBins_1 rfl hl (by decide) rfl (fun ls hl => ?_)
  refine lv_aload_n hx hb dX0_marblesInBins_2 rfl (lv_at hl 1 rfl) ?_
  refine va_get (D := D) (ci := 0) (v := .ref (a 4)) (C := RX0) (T := TX0) (N := 9) hx hb hts iw_X0_marblesInBins_X0 hown hK hP 0 rfl rfl 3 (by decide) (hts (.fieldLink RX0 21 "MarbleRamps$Machine" "bins" "[I") (mg 1 rfl)) (fun _ h9 => h9) rfl dX0_marblesInBins_3 ?_
  refine lv_astore_n (lv' := [(2, .ref (a 4)), (1, .int 0), (0, .ref (a 0))]) hx hb dX0_marblesInBins_6 rfl hl (by decide) rfl (fun ls hl => ?_)
  refine lv_aload_n hx hb dX0_marblesInBins_7 rfl (lv_at hl 0 rfl) ?_
  refine va_alen hx hb hK hP 4 0 rfl rfl (v := 9) rfl dX0_marblesInBins_8 ?_
  refine lv_istore_n (lv' := [(3, .int 9), (2, .ref (a 4)), (1, .int 0), (0, .ref (a 0))]) hx hb dX0_marblesInBins_9 rfl hl (by decide) rfl (fun ls hl => ?_)
  refine lv_iconst (v := 0) hx hb dX0_marblesInBins_10 (by decide) ?_
  refine lv_istore (lv' := [(4, .int 0), (3, .int 9), (2, .ref (a 4)), (1, .int 0), (0, .ref (a 0))]) hx hb dX0_marblesInBins_11 hl (by decide) rfl (fun ls hl => ?_)
  have L13 : ∀ (n k : Nat) (t : Int32), k + n = 9 → xSum bn = xSumL bn n k t → ∀ ls : Array Slot, lv_has ls 6 [(4, .int (nI k)), (3, .int 9), (2, .ref (a 4)), (1, .int t), (0, .ref (a 0))] → W p l e ({ frames := 0, cells := 0, slots := 0, locals := 0 } : Room) s m [.ref (a 0)].toArray below meth c s.heap [] 0 0 (MQ below (vp_Si (fun zz : Int32 => zz = xSum bn)) [.ref (a 0)].toArray s 0 0 (fun _ => False)) (F0 m 13 ls []) := by
    intro n
    induction n with
    | zero =>
      intro k t hkn hf ls hl
      refine lv_iload hx hb dX0_marblesInBins_13 (lv_at hl 0 rfl) ?_
      refine lv_iload_n hx hb dX0_marblesInBins_15 rfl (lv_at hl 1 rfl) ?_
      refine lv_icmp_ge (tgt := 36) hx hb dX0_marblesInBins_16 (by decide) (fun c_1 => ?_) (fun c9 => absurd (by rw [show (9 : Int32) = nI 9 from rfl]; exact nI_le (by omega) (by omega)) c9)
      refine lv_iload_n hx hb dX0_marblesInBins_36 rfl (lv_at hl 3 rfl) ?_
      exact eRi hx hb hr hlocks dX0_marblesInBins_37 (by rw [hf]; rfl)
    | succ n ih =>
      intro k t hkn hf ls hl
      refine lv_iload hx hb dX0_marblesInBins_13 (lv_at hl 0 rfl) ?_
      refine lv_iload_n hx hb dX0_marblesInBins_15 rfl (lv_at hl 1 rfl) ?_
      refine lv_icmp_ge (tgt := 36) hx hb dX0_marblesInBins_16 (by decide) (fun c9 => absurd c9 (by rw [show (9 : Int32) = nI 9 from rfl]; exact nI_ge (by omega) (by decide))) (fun c_2 => ?_)
      refine lv_aload_n hx hb dX0_marblesInBins_19 rfl (lv_at hl 2 rfl) ?_
      refine lv_iload hx hb dX0_marblesInBins_20 (lv_at hl 0 rfl) ?_
      refine va_iald hx hb hK hP 4 0 rfl rfl (vp_in_nI (by omega) (by decide)) dX0_marblesInBins_22 ?_
      rw [nI_clamp (show k < 2 ^ 31 by omega)]
      refine lv_istore (lv' := [(5, .int (bn k)), (4, .int (nI k)), (3, .int 9), (2, .ref (a 4)), (1, .int t), (0, .ref (a 0))]) hx hb dX0_marblesInBins_23 hl (by decide) rfl (fun ls hl => ?_)
      refine lv_iload_n hx hb dX0_marblesInBins_25 rfl (lv_at hl 4 rfl) ?_
      refine lv_iload hx hb dX0_marblesInBins_26 (lv_at hl 0 rfl) ?_
      refine lv_iadd hx hb dX0_marblesInBins_28 ?_
      refine lv_istore_n (lv' := [(1, .int (t + (bn k))), (5, .int (bn k)), (4, .int (nI k)), (3, .int 9), (2, .ref (a 4)), (0, .ref (a 0))]) hx hb dX0_marblesInBins_29 rfl hl (by decide) rfl (fun ls hl => ?_)
      refine lv_iinc (v := (nI (k + 1))) (lv' := [(4, .int (nI (k + 1))), (1, .int (t + (bn k))), (5, .int (bn k)), (3, .int 9), (2, .ref (a 4)), (0, .ref (a 0))]) hx hb dX0_marblesInBins_30 hl (k := 2) rfl (nI_1 k) (by decide) rfl (fun ls hl => ?_)
      refine lv_goto (tgt := 13) hx hb dX0_marblesInBins_33 (by decide) ?_
      exact ih (k + 1) (t + (bn k)) (by omega) (by rw [hf]; simp [xSumL]) ls (lv_sub hl [0, 3, 4, 1, 5] rfl)
  exact L13 9 0 0 (by omega) rfl ls (lv_sub hl [0, 1, 2, 3, 4] rfl)
theorem iw_X0_hopperBehind_X0 : ∀ w ∈ wsX00, w ∈ wsX0_hopperBehind := mem_pos [2, 3, 4, 5, 6, 7, 8, 9, 10] (by decide +kernel)
set_option maxHeartbeats 4000000 in
set_option maxRecDepth 100000 in
theorem mX0_hopperBehind (l : Launch) (D : va_G) (cI : ClassId) (a : Nat → Nat) (pa pe st bn hc hm : Nat → Int32) (C R lo : Int32) (bb : Int32) : Met l yX0_hopperBehind wsX0_hopperBehind ({ frames := 0, cells := 0, slots := 0, locals := 0 } : Room) (va_Pc [.ref (a 0), .int bb] (wPR D [(cI, .int)] (wM cI a pa pe st bn hc hm C R lo))) (vp_Si (fun zz : Int32 => zz = xBehind C bb)) 0 0 (fun _ => False) := by
  refine mR_of (by decide) rfl (Nat.le_of_ble_eq_true rfl) ?_
  intro p e s m below meth c hx hb hr hml hown hts hlocks hP hK hN ls hl
  have hown : s.vm.findClass RX0 = some m.cls := hown
  have hl : lv_has ls 3 [(0, .ref (a 0)), (1, .int bb)] := hl
  refine lv_aload_n hx hb dX0_hopperBehind_0 rfl (lv_at hl 0 rfl) ?_
  refine va_get (D := D) (ci := 0) (v := .int C) (C := RX0) (T := TX0) (N := 9) hx hb hts iw_X0_hopperBehind_X0 hown hK hP 0 rfl rfl 6 (by decide) (hts (.fieldLink RX0 34 "MarbleRamps$Machine" "columnCount" "I") (mg 1 rfl)) (fun _ h9 => h9) rfl dX0_hopperBehind_1 ?_
  refine lv_iconst (v := 1) hx hb dX0_hopperBehind_4 (by decide) ?_
  refine lv_isub hx hb dX0_hopperBehind_5 ?_
  refine lv_istore_n (lv' := [(2, .int (C - 1)), (0, .ref (a 0)), (1, .int bb)]) hx hb dX0_hopperBehind_6 rfl hl (by decide) rfl (fun ls hl => ?_)
  refine lv_iload_n hx hb dX0_hopperBehind_7 rfl (lv_at hl 2 rfl) ?_
  refine lv_iconst (v := (-1)) hx hb dX0_hopperBehind_8 (by decide) ?_
  refine lv_icmp_eq (tgt := 19) hx hb dX0_hopperBehind_9 (by decide) (fun c_1 => ?_) (fun c_1 => ?_)
  · refine lv_iconst (v := (-1)) hx hb dX0_hopperBehind_19 (by decide) ?_
    exact eRi hx hb hr hlocks dX0_hopperBehind_20 (by simp [xBehind, c_1])
  · refine lv_iconst (v := 2) hx hb dX0_hopperBehind_12 (by decide) ?_
    refine lv_iload_n hx hb dX0_hopperBehind_13 rfl (lv_at hl 2 rfl) ?_
    refine lv_imul hx hb dX0_hopperBehind_14 ?_
    refine lv_iload_n hx hb dX0_hopperBehind_15 rfl (lv_at hl 0 rfl) ?_
    refine lv_icmp_ne (tgt := 21) hx hb dX0_hopperBehind_16 (by decide) (fun c_2 => ?_) (fun c_2 => ?_)
    · refine lv_iconst (v := 2) hx hb dX0_hopperBehind_21 (by decide) ?_
      refine lv_iload_n hx hb dX0_hopperBehind_22 rfl (lv_at hl 2 rfl) ?_
      refine lv_imul hx hb dX0_hopperBehind_23 ?_
      refine lv_iload_n hx hb dX0_hopperBehind_24 rfl (lv_at hl 0 rfl) ?_
      refine lv_icmp_ge (tgt := 32) hx hb dX0_hopperBehind_25 (by decide) (fun c_3 => ?_) (fun c_3 => ?_)
      · refine lv_iconst (v := 1) hx hb dX0_hopperBehind_32 (by decide) ?_
        exact eRi hx hb hr hlocks dX0_hopperBehind_33 (by simp [xBehind, c_1, c_2, c_3])
      · refine lv_iconst (v := 0) hx hb dX0_hopperBehind_28 (by decide) ?_
        refine lv_goto (tgt := 33) hx hb dX0_hopperBehind_29 (by decide) ?_
        exact eRi hx hb hr hlocks dX0_hopperBehind_33 (by simp [xBehind, c_1, c_2, c_3])
    · refine lv_iconst (v := (-1)) hx hb dX0_hopperBehind_19 (by decide) ?_
      exact eRi hx hb hr hlocks dX0_hopperBehind_20 (by simp [xBehind, c_1, c_2])
theorem iw_X0_turnOver_X0 : ∀ w ∈ wsX00, w ∈ wsX0_turnOver := mem_pos [17, 18, 19, 20, 21, 22, 23, 24, 25] (by decide +kernel)
set_option maxHeartbeats 4000000 in
set_option maxRecDepth 100000 in
theorem mX0_turnOver (l : Launch) (D : va_G) (cI : ClassId) (a : Nat → Nat) (pa pe st bn hc hm : Nat → Int32) (C R lo : Int32) (q : Int32) (sz : Nat) : Met l yX0_turnOver wsX0_turnOver ({ frames := 3, cells := 0, slots := 0, locals := 63 } : Room) (va_Pc [.ref (a 0), .int q] (wPQ D [(cI, .int)] sz (wM cI a pa pe st bn hc hm C R lo))) (va_Qv (fun _ : Unit => True) (wB D [(cI, .int)] (va_A (wM cI a pa pe st bn hc hm C R lo) sz) (fun _ : Unit => (wM cI a pa pe ((xsc 72 st q (if xRight pa st q = true then 0 else 1))) bn hc hm C R lo))) (va_A (wM cI a pa pe st bn hc hm C R lo) sz)) 0 0 (va_A (wM cI a pa pe st bn hc hm C R lo) sz) := by
  refine mQ_of (by decide) rfl (Nat.le_of_ble_eq_true rfl) ?_
  intro p e s m below meth c hx hb hr hml hown hin hts hlocks hsz hP hK hN hD hA hS ls hl
  have hown : s.vm.findClass RX0 = some m.cls := hown
  have hl : lv_has ls 2 [(0, .ref (a 0)), (1, .int q)] := hl
  have hP : va_P D vwCl (wM cI a pa pe st bn hc hm C R lo) s.heap := hP
  refine lv_aload_n hx hb dX0_turnOver_0 rfl (lv_at hl 0 rfl) ?_
  refine va_get (D := D) (ci := 0) (v := .ref (a 3)) (C := RX0) (T := TX0) (N := 9) hx hb hts iw_X0_turnOver_X0 hown hK hP 0 rfl rfl 2 (by decide) (hts (.fieldLink RX0 18 "MarbleRamps$Machine" "states" "[I") (mg 1 rfl)) (fun _ h9 => h9) rfl dX0_turnOver_1 ?_
  refine lv_iload_n hx hb dX0_turnOver_4 rfl (lv_at hl 1 rfl) ?_
  refine lv_aload_n hx hb dX0_turnOver_5 rfl (lv_at hl 0 rfl) ?_
  refine lv_iload_n hx hb dX0_turnOver_6 rfl (lv_at hl 1 rfl) ?_
  refine kRVi (As := [.int q]) (rest := [.int q, .ref (a 3)]) ⟨hx, hb, hml, hown, hts⟩ (mX0_isRightToggle l D cI a pa pe st bn hc hm C R lo q) (cwV 1 hts gX0_turnOver_X0_isRightToggle rfl rfl rfl (by decide +kernel) ⟨Nat.le_of_ble_eq_true rfl, Nat.le_of_ble_eq_true rfl⟩) hP hK hN [0, 1, 2, 3, 4, 5, 6] rfl [0] rfl rfl rfl rfl hl.1 rfl (Nat.le_of_ble_eq_true rfl) dX0_turnOver_7 ⟨Nat.zero_le _, Nat.zero_le _⟩ (fun r_1 hr_1 => ?_)
  subst hr_1
  refine lv_if_eq (tgt := 17) hx hb dX0_turnOver_10 (by decide) (fun c_2 => ?_) (fun c_2 => ?_)
  · simp only [ne_eq, bi_e0] at c_2
    refine lv_iconst (v := 1) hx hb dX0_turnOver_17 (by decide) ?_
    refine kQNv (As := [.ref (a 3), .int q, .int 1]) (rest := []) (wr := [(a 0, .inr (0, [.ref (a 1), .ref (a 2), .ref (a 3), .ref (a 4), .ref (a 5), .ref (a 6), .int C, .int R, .int lo])), (a 1, .inl (cI, 72, .inl pa)), (a 2, .inl (cI, 72, .inl pe)), (a 4, .inl (cI, 9, .inl bn)), (a 5, .inl (cI, 2, .inl hc)), (a 6, .inl (cI, 2, .inl hm))]) (W2 := (fun _ => (wM cI a pa pe ((xsc 72 st q 1)) bn hc hm C R lo))) ⟨hx, hb, hml, hown, hts⟩ (mX1_setCell l D cI (a 3) st 72 (by decide) q 1 _) ⟨va_cnB (host := RX1) 3 hts gX0_turnOver_X1_setCell_n53 rfl rfl rfl hN.1 (hts (.initialized RX1) (mg 13 rfl)) (by decide +kernel) ⟨Nat.le_of_ble_eq_true rfl, Nat.le_of_ble_eq_true rfl⟩, hts (.static yX1_setCell) (mg 15 rfl), trivial⟩ hP hD hK hN hS hA [3] (by decide) rfl [0, 1, 2, 4, 5, 6] (by decide) rfl (by decide) [0, 1, 2, 6, 3, 4, 5] (by decide) (fun _ => rfl) [0] rfl rfl hl.1 rfl (Nat.le_of_ble_eq_true rfl) dX0_turnOver_18 ⟨Nat.le_of_ble_eq_true rfl, Nat.le_of_ble_eq_true rfl⟩ (fun u_3 H locs hr_3 hP hD hS => ?_)
    have hP : va_P D vwCl (wM cI a pa pe ((xsc 72 st q 1)) bn hc hm C R lo) H := hP
    have hD : va_D (va_A (wM cI a pa pe st bn hc hm C R lo) sz) (wM cI a pa pe ((xsc 72 st q 1)) bn hc hm C R lo) := hD
    have hP : va_P D vwCl (wM cI a pa pe ((xsc 72 st q (if xRight pa st q = true then 0 else 1))) bn hc hm C R lo) H := by rw [show (if xRight pa st q = true then (0 : Int32) else 1) = 1 from by simp [c_2]]; exact hP
    have hD : va_D (va_A (wM cI a pa pe st bn hc hm C R lo) sz) (wM cI a pa pe ((xsc 72 st q (if xRight pa st q = true then 0 else 1))) bn hc hm C R lo) := by rw [show (if xRight pa st q = true then (0 : Int32) else 1) = 1 from by simp [c_2]]; exact hD
    exact eQv () hx hb hr hlocks hP hD hK hS dX0_turnOver_21 (trivial)
  · simp only [ne_eq, bi_e0] at c_2
    refine lv_iconst (v := 0) hx hb dX0_turnOver_13 (by decide) ?_
    refine lv_goto (tgt := 18) hx hb dX0_turnOver_14 (by decide) ?_
    refine kQNv (As := [.ref (a 3), .int q, .int 0]) (rest := []) (wr := [(a 0, .inr (0, [.ref (a 1), .ref (a 2), .ref (a 3), .ref (a 4), .ref (a 5), .ref (a 6), .int C, .int R, .int lo])), (a 1, .inl (cI, 72, .inl pa)), (a 2, .inl (cI, 72, .inl pe)), (a 4, .inl (cI, 9, .inl bn)), (a 5, .inl (cI, 2, .inl hc)), (a 6, .inl (cI, 2, .inl hm))]) (W2 := (fun _ => (wM cI a pa pe ((xsc 72 st q 0)) bn hc hm C R lo))) ⟨hx, hb, hml, hown, hts⟩ (mX1_setCell l D cI (a 3) st 72 (by decide) q 0 _) ⟨va_cnB (host := RX1) 3 hts gX0_turnOver_X1_setCell_n53 rfl rfl rfl hN.1 (hts (.initialized RX1) (mg 13 rfl)) (by decide +kernel) ⟨Nat.le_of_ble_eq_true rfl, Nat.le_of_ble_eq_true rfl⟩, hts (.static yX1_setCell) (mg 15 rfl), trivial⟩ hP hD hK hN hS hA [3] (by decide) rfl [0, 1, 2, 4, 5, 6] (by decide) rfl (by decide) [0, 1, 2, 6, 3, 4, 5] (by decide) (fun _ => rfl) [0] rfl rfl hl.1 rfl (Nat.le_of_ble_eq_true rfl) dX0_turnOver_18 ⟨Nat.le_of_ble_eq_true rfl, Nat.le_of_ble_eq_true rfl⟩ (fun u_4 H locs hr_4 hP hD hS => ?_)
    have hP : va_P D vwCl (wM cI a pa pe ((xsc 72 st q 0)) bn hc hm C R lo) H := hP
    have hD : va_D (va_A (wM cI a pa pe st bn hc hm C R lo) sz) (wM cI a pa pe ((xsc 72 st q 0)) bn hc hm C R lo) := hD
    have hP : va_P D vwCl (wM cI a pa pe ((xsc 72 st q (if xRight pa st q = true then 0 else 1))) bn hc hm C R lo) H := by rw [show (if xRight pa st q = true then (0 : Int32) else 1) = 0 from by simp [c_2]]; exact hP
    have hD : va_D (va_A (wM cI a pa pe st bn hc hm C R lo) sz) (wM cI a pa pe ((xsc 72 st q (if xRight pa st q = true then 0 else 1))) bn hc hm C R lo) := by rw [show (if xRight pa st q = true then (0 : Int32) else 1) = 0 from by simp [c_2]]; exact hD
    exact eQv () hx hb hr hlocks hP hD hK hS dX0_turnOver_21 (trivial)
theorem iw_X0_replacePart_X0 : ∀ w ∈ wsX00, w ∈ wsX0_replacePart := mem_pos [19, 20, 21, 22, 23, 24, 25, 26, 27] (by decide +kernel)
set_option maxHeartbeats 4000000 in
set_option maxRecDepth 100000 in
theorem mX0_replacePart (l : Launch) (D : va_G) (cI : ClassId) (a : Nat → Nat) (pa pe st bn hc hm : Nat → Int32) (C R lo : Int32) (rr kk np nq : Int32) (sz : Nat) : Met l yX0_replacePart wsX0_replacePart ({ frames := 2, cells := 0, slots := 0, locals := 42 } : Room) (va_Pc [.ref (a 0), .int rr, .int kk, .int np, .int nq] (wPQ D [(cI, .int)] sz (wM cI a pa pe st bn hc hm C R lo))) (va_Qi (fun (zz : Int32) (_ : Unit) => zz = xcl 72 pa (rr * C + kk)) (wB D [(cI, .int)] (va_A (wM cI a pa pe st bn hc hm C R lo) sz) (fun _ : Unit => (wM cI a ((xsc 72 pa (rr * C + kk) np)) ((xsc 72 pe (rr * C + kk) nq)) ((xsc 72 st (rr * C + kk) 0)) bn hc hm C R lo))) (va_A (wM cI a pa pe st bn hc hm C R lo) sz)) 0 0 (va_A (wM cI a pa pe st bn hc hm C R lo) sz) := by
  refine mQ_of (by decide) rfl (Nat.le_of_ble_eq_true rfl) ?_
  intro p e s m below meth c hx hb hr hml hown hin hts hlocks hsz hP hK hN hD hA hS ls hl
  have hown : s.vm.findClass RX0 = some m.cls := hown
  have hl : lv_has ls 7 [(0, .ref (a 0)), (1, .int rr), (2, .int kk), (3, .int np), (4, .int nq)] := hl
  have hP : va_P D vwCl (wM cI a pa pe st bn hc hm C R lo) s.heap := hP
  refine lv_aload_n hx hb dX0_replacePart_0 rfl (lv_at hl 0 rfl) ?_
  refine lv_iload_n hx hb dX0_replacePart_1 rfl (lv_at hl 1 rfl) ?_
  refine lv_iload_n hx hb dX0_replacePart_2 rfl (lv_at hl 2 rfl) ?_
  refine kRVi (As := [.int rr, .int kk]) (rest := []) ⟨hx, hb, hml, hown, hts⟩ (mX0_placeOf l D cI a pa pe st bn hc hm C R lo rr kk) (cwV 2 hts gX0_replacePart_X0_placeOf rfl rfl rfl (by decide +kernel) ⟨Nat.le_of_ble_eq_true rfl, Nat.le_of_ble_eq_true rfl⟩) hP hK hN [0, 1, 2, 3, 4, 5, 6] rfl [0] rfl rfl rfl rfl hl.1 rfl (Nat.le_of_ble_eq_true rfl) dX0_replacePart_3 ⟨Nat.zero_le _, Nat.zero_le _⟩ (fun r_1 hr_1 => ?_)
  subst hr_1
  refine lv_istore (lv' := [(5, .int (rr * C + kk)), (0, .ref (a 0)), (1, .int rr), (2, .int kk), (3, .int np), (4, .int nq)]) hx hb dX0_replacePart_6 hl (by decide) rfl (fun ls hl => ?_)
  refine lv_aload_n hx hb dX0_replacePart_8 rfl (lv_at hl 1 rfl) ?_
  refine lv_iload hx hb dX0_replacePart_9 (lv_at hl 0 rfl) ?_
  refine kRVi (As := [.int (rr * C + kk)]) (rest := []) ⟨hx, hb, hml, hown, hts⟩ (mX0_partIn l D cI a pa pe st bn hc hm C R lo (rr * C + kk)) (cwV 1 hts gX0_replacePart_X0_partIn rfl rfl rfl (by decide +kernel) ⟨Nat.le_of_ble_eq_true rfl, Nat.le_of_ble_eq_true rfl⟩) hP hK hN [0, 1, 2, 3, 4, 5, 6] rfl [0] rfl rfl rfl rfl hl.1 rfl (Nat.le_of_ble_eq_true rfl) dX0_replacePart_11 ⟨Nat.zero_le _, Nat.zero_le _⟩ (fun r_2 hr_2 => ?_)
  subst hr_2
  refine lv_istore (lv' := [(6, .int (xcl 72 pa (rr * C + kk))), (5, .int (rr * C + kk)), (0, .ref (a 0)), (1, .int rr), (2, .int kk), (3, .int np), (4, .int nq)]) hx hb dX0_replacePart_14 hl (by decide) rfl (fun ls hl => ?_)
  refine lv_aload_n hx hb dX0_replacePart_16 rfl (lv_at hl 2 rfl) ?_
  refine va_get (D := D) (ci := 0) (v := .ref (a 1)) (C := RX0) (T := TX0) (N := 9) hx hb hts iw_X0_replacePart_X0 hown hK hP 0 rfl rfl 0 (by decide) (hts (.fieldLink RX0 9 "MarbleRamps$Machine" "parts" "[I") (mg 1 rfl)) (fun _ h9 => h9) rfl dX0_replacePart_17 ?_
  refine lv_iload hx hb dX0_replacePart_20 (lv_at hl 1 rfl) ?_
  refine lv_iload_n hx hb dX0_replacePart_22 rfl (lv_at hl 5 rfl) ?_
  refine kQNv (As := [.ref (a 1), .int (rr * C + kk), .int np]) (rest := []) (wr := [(a 0, .inr (0, [.ref (a 1), .ref (a 2), .ref (a 3), .ref (a 4), .ref (a 5), .ref (a 6), .int C, .int R, .int lo])), (a 2, .inl (cI, 72, .inl pe)), (a 3, .inl (cI, 72, .inl st)), (a 4, .inl (cI, 9, .inl bn)), (a 5, .inl (cI, 2, .inl hc)), (a 6, .inl (cI, 2, .inl hm))]) (W2 := (fun _ => (wM cI a ((xsc 72 pa (rr * C + kk) np)) pe st bn hc hm C R lo))) ⟨hx, hb, hml, hown, hts⟩ (mX1_setCell l D cI (a 1) pa 72 (by decide) (rr * C + kk) np _) ⟨va_cnB (host := RX1) 3 hts gX0_replacePart_X1_setCell_n53 rfl rfl rfl hN.1 (hts (.initialized RX1) (mg 15 rfl)) (by decide +kernel) ⟨Nat.le_of_ble_eq_true rfl, Nat.le_of_ble_eq_true rfl⟩, hts (.static yX1_setCell) (mg 17 rfl), trivial⟩ hP hD hK hN hS hA [1] (by decide) rfl [0, 2, 3, 4, 5, 6] (by decide) rfl (by decide) [0, 6, 1, 2, 3, 4, 5] (by decide) (fun _ => rfl) [0] rfl rfl hl.1 rfl (Nat.le_of_ble_eq_true rfl) dX0_replacePart_23 ⟨Nat.le_of_ble_eq_true rfl, Nat.le_of_ble_eq_true rfl⟩ (fun u_3 H locs hr_3 hP hD hS => ?_)
  have hP : va_P D vwCl (wM cI a ((xsc 72 pa (rr * C + kk) np)) pe st bn hc hm C R lo) H := hP
  have hD : va_D (va_A (wM cI a pa pe st bn hc hm C R lo) sz) (wM cI a ((xsc 72 pa (rr * C + kk) np)) pe st bn hc hm C R lo) := hD
  refine lv_aload_n hx hb dX0_replacePart_26 rfl (lv_at hl 2 rfl) ?_
  refine va_get (D := D) (ci := 0) (v := .ref (a 2)) (C := RX0) (T := TX0) (N := 9) hx hb hts iw_X0_replacePart_X0 hown hK hP 0 rfl rfl 1 (by decide) (hts (.fieldLink RX0 15 "MarbleRamps$Machine" "periods" "[I") (mg 2 rfl)) (fun _ h9 => h9) rfl dX0_replacePart_27 ?_
  refine lv_iload hx hb dX0_replacePart_30 (lv_at hl 1 rfl) ?_
  refine lv_iload hx hb dX0_replacePart_32 (lv_at hl 6 rfl) ?_
  refine kQNv (As := [.ref (a 2), .int (rr * C + kk), .int nq]) (rest := []) (wr := [(a 0, .inr (0, [.ref (a 1), .ref (a 2), .ref (a 3), .ref (a 4), .ref (a 5), .ref (a 6), .int C, .int R, .int lo])), (a 1, .inl (cI, 72, .inl (xsc 72 pa (rr * C + kk) np))), (a 3, .inl (cI, 72, .inl st)), (a 4, .inl (cI, 9, .inl bn)), (a 5, .inl (cI, 2, .inl hc)), (a 6, .inl (cI, 2, .inl hm))]) (W2 := (fun _ => (wM cI a ((xsc 72 pa (rr * C + kk) np)) ((xsc 72 pe (rr * C + kk) nq)) st bn hc hm C R lo))) ⟨hx, hb, hml, hown, hts⟩ (mX1_setCell l D cI (a 2) pe 72 (by decide) (rr * C + kk) nq _) ⟨va_cnB (host := RX1) 3 hts gX0_replacePart_X1_setCell_n53 rfl rfl rfl hN.1 (hts (.initialized RX1) (mg 15 rfl)) (by decide +kernel) ⟨Nat.le_of_ble_eq_true rfl, Nat.le_of_ble_eq_true rfl⟩, hts (.static yX1_setCell) (mg 17 rfl), trivial⟩ hP hD hK hN hS hA [2] (by decide) rfl [0, 1, 3, 4, 5, 6] (by decide) rfl (by decide) [0, 1, 6, 2, 3, 4, 5] (by decide) (fun _ => rfl) [0] rfl rfl hl.1 rfl (Nat.le_of_ble_eq_true rfl) dX0_replacePart_34 ⟨Nat.le_of_ble_eq_true rfl, Nat.le_of_ble_eq_true rfl⟩ (fun u_4 H locs hr_4 hP hD hS => ?_)
  have hP : va_P D vwCl (wM cI a ((xsc 72 pa (rr * C + kk) np)) ((xsc 72 pe (rr * C + kk) nq)) st bn hc hm C R lo) H := hP
  have hD : va_D (va_A (wM cI a pa pe st bn hc hm C R lo) sz) (wM cI a ((xsc 72 pa (rr * C + kk) np)) ((xsc 72 pe (rr * C + kk) nq)) st bn hc hm C R lo) := hD
  refine lv_aload_n hx hb dX0_replacePart_37 rfl (lv_at hl 2 rfl) ?_
  refine va_get (D := D) (ci := 0) (v := .ref (a 3)) (C := RX0) (T := TX0) (N := 9) hx hb hts iw_X0_replacePart_X0 hown hK hP 0 rfl rfl 2 (by decide) (hts (.fieldLink RX0 18 "MarbleRamps$Machine" "states" "[I") (mg 3 rfl)) (fun _ h9 => h9) rfl dX0_replacePart_38 ?_
  refine lv_iload hx hb dX0_replacePart_41 (lv_at hl 1 rfl) ?_
  refine lv_iconst (v := 0) hx hb dX0_replacePart_43 (by decide) ?_
  refine kQNv (As := [.ref (a 3), .int (rr * C + kk), .int 0]) (rest := []) (wr := [(a 0, .inr (0, [.ref (a 1), .ref (a 2), .ref (a 3), .ref (a 4), .ref (a 5), .ref (a 6), .int C, .int R, .int lo])), (a 1, .inl (cI, 72, .inl (xsc 72 pa (rr * C + kk) np))), (a 2, .inl (cI, 72, .inl (xsc 72 pe (rr * C + kk) nq))), (a 4, .inl (cI, 9, .inl bn)), (a 5, .inl (cI, 2, .inl hc)), (a 6, .inl (cI, 2, .inl hm))]) (W2 := (fun _ => (wM cI a ((xsc 72 pa (rr * C + kk) np)) ((xsc 72 pe (rr * C + kk) nq)) ((xsc 72 st (rr * C + kk) 0)) bn hc hm C R lo))) ⟨hx, hb, hml, hown, hts⟩ (mX1_setCell l D cI (a 3) st 72 (by decide) (rr * C + kk) 0 _) ⟨va_cnB (host := RX1) 3 hts gX0_replacePart_X1_setCell_n53 rfl rfl rfl hN.1 (hts (.initialized RX1) (mg 15 rfl)) (by decide +kernel) ⟨Nat.le_of_ble_eq_true rfl, Nat.le_of_ble_eq_true rfl⟩, hts (.static yX1_setCell) (mg 17 rfl), trivial⟩ hP hD hK hN hS hA [3] (by decide) rfl [0, 1, 2, 4, 5, 6] (by decide) rfl (by decide) [0, 1, 2, 6, 3, 4, 5] (by decide) (fun _ => rfl) [0] rfl rfl hl.1 rfl (Nat.le_of_ble_eq_true rfl) dX0_replacePart_44 ⟨Nat.le_of_ble_eq_true rfl, Nat.le_of_ble_eq_true rfl⟩ (fun u_5 H locs hr_5 hP hD hS => ?_)
  have hP : va_P D vwCl (wM cI a ((xsc 72 pa (rr * C + kk) np)) ((xsc 72 pe (rr * C + kk) nq)) ((xsc 72 st (rr * C + kk) 0)) bn hc hm C R lo) H := hP
  have hD : va_D (va_A (wM cI a pa pe st bn hc hm C R lo) sz) (wM cI a ((xsc 72 pa (rr * C + kk) np)) ((xsc 72 pe (rr * C + kk) nq)) ((xsc 72 st (rr * C + kk) 0)) bn hc hm C R lo) := hD
  refine lv_iload hx hb dX0_replacePart_47 (lv_at hl 0 rfl) ?_
  exact eQi () hx hb hr hlocks hP hD hK hS dX0_replacePart_49 (rfl)
theorem iw_X0_fillHopper_X0 : ∀ w ∈ wsX00, w ∈ wsX0_fillHopper := mem_pos [8, 9, 10, 11, 12, 13, 14, 15, 16] (by decide +kernel)
set_option maxHeartbeats 4000000 in
set_option maxRecDepth 100000 in
theorem mX0_fillHopper (l : Launch) (D : va_G) (cI : ClassId) (a : Nat → Nat) (pa pe st bn hc hm : Nat → Int32) (C R lo : Int32) (hh kk mm : Int32) (sz : Nat) : Met l yX0_fillHopper wsX0_fillHopper ({ frames := 1, cells := 0, slots := 0, locals := 22 } : Room) (va_Pc [.ref (a 0), .int hh, .int kk, .int mm] (wPQ D [(cI, .int)] sz (wM cI a pa pe st bn hc hm C R lo))) (va_Qi (fun (zz : Int32) (_ : Unit) => zz = xcl 2 hm hh) (wB D [(cI, .int)] (va_A (wM cI a pa pe st bn hc hm C R lo) sz) (fun _ : Unit => (wM cI a pa pe st bn ((xsc 2 hc hh kk)) ((xsc 2 hm hh mm)) C R lo))) (va_A (wM cI a pa pe st bn hc hm C R lo) sz)) 0 0 (va_A (wM cI a pa pe st bn hc hm C R lo) sz) := by
  refine mQ_of (by decide) rfl (Nat.le_of_ble_eq_true rfl) ?_
  intro p e s m below meth c hx hb hr hml hown hin hts hlocks hsz hP hK hN hD hA hS ls hl
  have hown : s.vm.findClass RX0 = some m.cls := hown
  have hl : lv_has ls 5 [(0, .ref (a 0)), (1, .int hh), (2, .int kk), (3, .int mm)] := hl
  have hP : va_P D vwCl (wM cI a pa pe st bn hc hm C R lo) s.heap := hP
  refine lv_aload_n hx hb dX0_fillHopper_0 rfl (lv_at hl 0 rfl) ?_
  refine va_get (D := D) (ci := 0) (v := .ref (a 6)) (C := RX0) (T := TX0) (N := 9) hx hb hts iw_X0_fillHopper_X0 hown hK hP 0 rfl rfl 5 (by decide) (hts (.fieldLink RX0 27 "MarbleRamps$Machine" "hopperMarbles" "[I") (mg 1 rfl)) (fun _ h9 => h9) rfl dX0_fillHopper_1 ?_
  refine lv_iload_n hx hb dX0_fillHopper_4 rfl (lv_at hl 1 rfl) ?_
  refine kRNi (As := [.ref (a 6), .int hh]) (rest := []) ⟨hx, hb, hml, hown, hts⟩ (mX1_cell l D cI (a 6) hm 2 (by decide) hh) ⟨va_cnB (host := RX1) 2 hts gX0_fillHopper_X1_cell_n61 rfl rfl rfl hN.2.2 (hts (.initialized RX1) (mg 4 rfl)) (by decide +kernel) ⟨Nat.le_of_ble_eq_true rfl, Nat.le_of_ble_eq_true rfl⟩, hts (.static yX1_cell) (mg 3 rfl), trivial⟩ hP hK hN [6] rfl [0] rfl rfl hl.1 rfl (Nat.le_of_ble_eq_true rfl) dX0_fillHopper_5 ⟨Nat.zero_le _, Nat.zero_le _⟩ (fun r_1 hr_1 => ?_)
  subst hr_1
  refine lv_istore (lv' := [(4, .int (xcl 2 hm hh)), (0, .ref (a 0)), (1, .int hh), (2, .int kk), (3, .int mm)]) hx hb dX0_fillHopper_8 hl (by decide) rfl (fun ls hl => ?_)
  refine lv_aload_n hx hb dX0_fillHopper_10 rfl (lv_at hl 1 rfl) ?_
  refine va_get (D := D) (ci := 0) (v := .ref (a 5)) (C := RX0) (T := TX0) (N := 9) hx hb hts iw_X0_fillHopper_X0 hown hK hP 0 rfl rfl 4 (by decide) (hts (.fieldLink RX0 24 "MarbleRamps$Machine" "hopperColumns" "[I") (mg 2 rfl)) (fun _ h9 => h9) rfl dX0_fillHopper_11 ?_
  refine lv_iload_n hx hb dX0_fillHopper_14 rfl (lv_at hl 2 rfl) ?_
  refine lv_iload_n hx hb dX0_fillHopper_15 rfl (lv_at hl 3 rfl) ?_
  refine kQNv (As := [.ref (a 5), .int hh, .int kk]) (rest := []) (wr := [(a 0, .inr (0, [.ref (a 1), .ref (a 2), .ref (a 3), .ref (a 4), .ref (a 5), .ref (a 6), .int C, .int R, .int lo])), (a 1, .inl (cI, 72, .inl pa)), (a 2, .inl (cI, 72, .inl pe)), (a 3, .inl (cI, 72, .inl st)), (a 4, .inl (cI, 9, .inl bn)), (a 6, .inl (cI, 2, .inl hm))]) (W2 := (fun _ => (wM cI a pa pe st bn ((xsc 2 hc hh kk)) hm C R lo))) ⟨hx, hb, hml, hown, hts⟩ (mX1_setCell l D cI (a 5) hc 2 (by decide) hh kk _) ⟨va_cnB (host := RX1) 3 hts gX0_fillHopper_X1_setCell_n53 rfl rfl rfl hN.1 (hts (.initialized RX1) (mg 4 rfl)) (by decide +kernel) ⟨Nat.le_of_ble_eq_true rfl, Nat.le_of_ble_eq_true rfl⟩, hts (.static yX1_setCell) (mg 6 rfl), trivial⟩ hP hD hK hN hS hA [5] (by decide) rfl [0, 1, 2, 3, 4, 6] (by decide) rfl (by decide) [0, 1, 2, 3, 4, 6, 5] (by decide) (fun _ => rfl) [0] rfl rfl hl.1 rfl (Nat.le_of_ble_eq_true rfl) dX0_fillHopper_16 ⟨Nat.le_of_ble_eq_true rfl, Nat.le_of_ble_eq_true rfl⟩ (fun u_2 H locs hr_2 hP hD hS => ?_)
  have hP : va_P D vwCl (wM cI a pa pe st bn ((xsc 2 hc hh kk)) hm C R lo) H := hP
  have hD : va_D (va_A (wM cI a pa pe st bn hc hm C R lo) sz) (wM cI a pa pe st bn ((xsc 2 hc hh kk)) hm C R lo) := hD
  refine lv_aload_n hx hb dX0_fillHopper_19 rfl (lv_at hl 1 rfl) ?_
  refine va_get (D := D) (ci := 0) (v := .ref (a 6)) (C := RX0) (T := TX0) (N := 9) hx hb hts iw_X0_fillHopper_X0 hown hK hP 0 rfl rfl 5 (by decide) (hts (.fieldLink RX0 27 "MarbleRamps$Machine" "hopperMarbles" "[I") (mg 1 rfl)) (fun _ h9 => h9) rfl dX0_fillHopper_20 ?_
  refine lv_iload_n hx hb dX0_fillHopper_23 rfl (lv_at hl 2 rfl) ?_
  refine lv_iload_n hx hb dX0_fillHopper_24 rfl (lv_at hl 4 rfl) ?_
  refine kQNv (As := [.ref (a 6), .int hh, .int mm]) (rest := []) (wr := [(a 0, .inr (0, [.ref (a 1), .ref (a 2), .ref (a 3), .ref (a 4), .ref (a 5), .ref (a 6), .int C, .int R, .int lo])), (a 1, .inl (cI, 72, .inl pa)), (a 2, .inl (cI, 72, .inl pe)), (a 3, .inl (cI, 72, .inl st)), (a 4, .inl (cI, 9, .inl bn)), (a 5, .inl (cI, 2, .inl (xsc 2 hc hh kk)))]) (W2 := (fun _ => (wM cI a pa pe st bn ((xsc 2 hc hh kk)) ((xsc 2 hm hh mm)) C R lo))) ⟨hx, hb, hml, hown, hts⟩ (mX1_setCell l D cI (a 6) hm 2 (by decide) hh mm _) ⟨va_cnB (host := RX1) 3 hts gX0_fillHopper_X1_setCell_n53 rfl rfl rfl hN.1 (hts (.initialized RX1) (mg 4 rfl)) (by decide +kernel) ⟨Nat.le_of_ble_eq_true rfl, Nat.le_of_ble_eq_true rfl⟩, hts (.static yX1_setCell) (mg 6 rfl), trivial⟩ hP hD hK hN hS hA [6] (by decide) rfl [0, 1, 2, 3, 4, 5] (by decide) rfl (by decide) [0, 1, 2, 3, 4, 5, 6] (by decide) (fun _ => rfl) [0] rfl rfl hl.1 rfl (Nat.le_of_ble_eq_true rfl) dX0_fillHopper_25 ⟨Nat.le_of_ble_eq_true rfl, Nat.le_of_ble_eq_true rfl⟩ (fun u_3 H locs hr_3 hP hD hS => ?_)
  have hP : va_P D vwCl (wM cI a pa pe st bn ((xsc 2 hc hh kk)) ((xsc 2 hm hh mm)) C R lo) H := hP
  have hD : va_D (va_A (wM cI a pa pe st bn hc hm C R lo) sz) (wM cI a pa pe st bn ((xsc 2 hc hh kk)) ((xsc 2 hm hh mm)) C R lo) := hD
  refine lv_iload hx hb dX0_fillHopper_28 (lv_at hl 0 rfl) ?_
  exact eQi () hx hb hr hlocks hP hD hK hS dX0_fillHopper_30 (rfl)
theorem iw_X0_wayOut_X0 : ∀ w ∈ wsX00, w ∈ wsX0_wayOut := mem_pos [9, 10, 11, 12, 13, 14, 15, 16, 17] (by decide +kernel)
set_option maxHeartbeats 4000000 in
set_option maxRecDepth 100000 in
theorem mX0_wayOut (l : Launch) (D : va_G) (cI : ClassId) (a : Nat → Nat) (pa pe st bn hc hm : Nat → Int32) (C R lo : Int32) (q came : Int32) (sz : Nat) : Met l yX0_wayOut wsX0_wayOut ({ frames := 1, cells := 0, slots := 0, locals := 22 } : Room) (va_Pc [.ref (a 0), .int q, .int came] (wPQ D [(cI, .int)] sz (wM cI a pa pe st bn hc hm C R lo))) (va_Qi (fun (zz : Int32) (_ : Unit) => zz = (xWay pa pe st q came).1) (wB D [(cI, .int)] (va_A (wM cI a pa pe st bn hc hm C R lo) sz) (fun _ : Unit => (wM cI a pa pe ((xWay pa pe st q came).2) bn hc hm C R lo))) (va_A (wM cI a pa pe st bn hc hm C R lo) sz)) 0 0 (va_A (wM cI a pa pe st bn hc hm C R lo) sz) := by
  refine mQ_of (by decide) rfl (Nat.le_of_ble_eq_true rfl) ?_
  intro p e s m below meth c hx hb hr hml hown hin hts hlocks hsz hP hK hN hD hA hS ls hl
  have hown : s.vm.findClass RX0 = some m.cls := hown
  have hl : lv_has ls 5 [(0, .ref (a 0)), (1, .int q), (2, .int came)] := hl
  have hP : va_P D vwCl (wM cI a pa pe st bn hc hm C R lo) s.heap := hP
  refine lv_aload_n hx hb dX0_wayOut_0 rfl (lv_at hl 0 rfl) ?_
  refine va_get (D := D) (ci := 0) (v := .ref (a 1)) (C := RX0) (T := TX0) (N := 9) hx hb hts iw_X0_wayOut_X0 hown hK hP 0 rfl rfl 0 (by decide) (hts (.fieldLink RX0 9 "MarbleRamps$Machine" "parts" "[I") (mg 1 rfl)) (fun _ h9 => h9) rfl dX0_wayOut_1 ?_
  refine lv_iload_n hx hb dX0_wayOut_4 rfl (lv_at hl 1 rfl) ?_
  refine kRNi (As := [.ref (a 1), .int q]) (rest := []) ⟨hx, hb, hml, hown, hts⟩ (mX1_cell l D cI (a 1) pa 72 (by decide) q) ⟨va_cnB (host := RX1) 2 hts gX0_wayOut_X1_cell_n61 rfl rfl rfl hN.2.2 (hts (.initialized RX1) (mg 5 rfl)) (by decide +kernel) ⟨Nat.le_of_ble_eq_true rfl, Nat.le_of_ble_eq_true rfl⟩, hts (.static yX1_cell) (mg 4 rfl), trivial⟩ hP hK hN [1] rfl [0] rfl rfl hl.1 rfl (Nat.le_of_ble_eq_true rfl) dX0_wayOut_5 ⟨Nat.zero_le _, Nat.zero_le _⟩ (fun r_1 hr_1 => ?_)
  subst hr_1
  rcases sw_1_5 (xcl 72 pa q) with c_2 | c_2 | c_2 | c_2 | c_2 | c_2
  · refine lv_tableIn (tgt := 44) (off := 36) hx hb dX0_wayOut_8 (by rw [c_2]; decide) (by rw [c_2]; decide) (by rw [c_2]; rfl) (by decide) ?_
    refine lv_iconst (v := (-1)) hx hb dX0_wayOut_44 (by decide) ?_
    have hP : va_P D vwCl (wM cI a pa pe ((xWay pa pe st q came).2) bn hc hm C R lo) s.heap := by simp [xWay, xWayS, c_2]; exact hP
    have hD : va_D (va_A (wM cI a pa pe st bn hc hm C R lo) sz) (wM cI a pa pe ((xWay pa pe st q came).2) bn hc hm C R lo) := by simp [xWay, xWayS, c_2]; exact hD
    exact eQi () hx hb hr hlocks hP hD hK hS dX0_wayOut_45 (by simp [xWay, xWayS, c_2])
  · refine lv_tableIn (tgt := 46) (off := 38) hx hb dX0_wayOut_8 (by rw [c_2]; decide) (by rw [c_2]; decide) (by rw [c_2]; rfl) (by decide) ?_
    refine lv_iconst (v := 1) hx hb dX0_wayOut_46 (by decide) ?_
    have hP : va_P D vwCl (wM cI a pa pe ((xWay pa pe st q came).2) bn hc hm C R lo) s.heap := by simp [xWay, xWayS, c_2]; exact hP
    have hD : va_D (va_A (wM cI a pa pe st bn hc hm C R lo) sz) (wM cI a pa pe ((xWay pa pe st q came).2) bn hc hm C R lo) := by simp [xWay, xWayS, c_2]; exact hD
    exact eQi () hx hb hr hlocks hP hD hK hS dX0_wayOut_47 (by simp [xWay, xWayS, c_2])
  · refine lv_tableIn (tgt := 50) (off := 42) hx hb dX0_wayOut_8 (by rw [c_2]; decide) (by rw [c_2]; decide) (by rw [c_2]; rfl) (by decide) ?_
    refine lv_aload_n hx hb dX0_wayOut_50 rfl (lv_at hl 0 rfl) ?_
    refine va_get (D := D) (ci := 0) (v := .ref (a 3)) (C := RX0) (T := TX0) (N := 9) hx hb hts iw_X0_wayOut_X0 hown hK hP 0 rfl rfl 2 (by decide) (hts (.fieldLink RX0 18 "MarbleRamps$Machine" "states" "[I") (mg 2 rfl)) (fun _ h9 => h9) rfl dX0_wayOut_51 ?_
    refine lv_iload_n hx hb dX0_wayOut_54 rfl (lv_at hl 1 rfl) ?_
    refine kRNi (As := [.ref (a 3), .int q]) (rest := []) ⟨hx, hb, hml, hown, hts⟩ (mX1_cell l D cI (a 3) st 72 (by decide) q) ⟨va_cnB (host := RX1) 2 hts gX0_wayOut_X1_cell_n61 rfl rfl rfl hN.2.2 (hts (.initialized RX1) (mg 5 rfl)) (by decide +kernel) ⟨Nat.le_of_ble_eq_true rfl, Nat.le_of_ble_eq_true rfl⟩, hts (.static yX1_cell) (mg 4 rfl), trivial⟩ hP hK hN [3] rfl [0] rfl rfl hl.1 rfl (Nat.le_of_ble_eq_true rfl) dX0_wayOut_55 ⟨Nat.zero_le _, Nat.zero_le _⟩ (fun r_3 hr_3 => ?_)
    subst hr_3
    refine lv_iconst (v := 1) hx hb dX0_wayOut_58 (by decide) ?_
    refine lv_iadd hx hb dX0_wayOut_59 ?_
    refine lv_istore_n (lv' := [(3, .int (xcl 72 st q + 1)), (0, .ref (a 0)), (1, .int q), (2, .int came)]) hx hb dX0_wayOut_60 rfl hl (by decide) rfl (fun ls hl => ?_)
    refine lv_iload_n hx hb dX0_wayOut_61 rfl (lv_at hl 0 rfl) ?_
    refine lv_aload_n hx hb dX0_wayOut_62 rfl (lv_at hl 1 rfl) ?_
    refine va_get (D := D) (ci := 0) (v := .ref (a 2)) (C := RX0) (T := TX0) (N := 9) hx hb hts iw_X0_wayOut_X0 hown hK hP 0 rfl rfl 1 (by decide) (hts (.fieldLink RX0 15 "MarbleRamps$Machine" "periods" "[I") (mg 3 rfl)) (fun _ h9 => h9) rfl dX0_wayOut_63 ?_
    refine lv_iload_n hx hb dX0_wayOut_66 rfl (lv_at hl 2 rfl) ?_
    refine kRNi (As := [.ref (a 2), .int q]) (rest := [.int (xcl 72 st q + 1)]) ⟨hx, hb, hml, hown, hts⟩ (mX1_cell l D cI (a 2) pe 72 (by decide) q) ⟨va_cnB (host := RX1) 2 hts gX0_wayOut_X1_cell_n61 rfl rfl rfl hN.2.2 (hts (.initialized RX1) (mg 5 rfl)) (by decide +kernel) ⟨Nat.le_of_ble_eq_true rfl, Nat.le_of_ble_eq_true rfl⟩, hts (.static yX1_cell) (mg 4 rfl), trivial⟩ hP hK hN [2] rfl [0] rfl rfl hl.1 rfl (Nat.le_of_ble_eq_true rfl) dX0_wayOut_67 ⟨Nat.zero_le _, Nat.zero_le _⟩ (fun r_4 hr_4 => ?_)
    subst hr_4
    refine lv_icmp_lt (tgt := 77) hx hb dX0_wayOut_70 (by decide) (fun c_5 => ?_) (fun c_5 => ?_)
    · refine lv_iconst (v := 0) hx hb dX0_wayOut_77 (by decide) ?_
      refine lv_istore (lv' := [(4, .int 0), (3, .int (xcl 72 st q + 1)), (0, .ref (a 0)), (1, .int q), (2, .int came)]) hx hb dX0_wayOut_78 hl (by decide) rfl (fun ls hl => ?_)
      refine lv_aload_n hx hb dX0_wayOut_80 rfl (lv_at hl 2 rfl) ?_
      refine va_get (D := D) (ci := 0) (v := .ref (a 3)) (C := RX0) (T := TX0) (N := 9) hx hb hts iw_X0_wayOut_X0 hown hK hP 0 rfl rfl 2 (by decide) (hts (.fieldLink RX0 18 "MarbleRamps$Machine" "states" "[I") (mg 2 rfl)) (fun _ h9 => h9) rfl dX0_wayOut_81 ?_
      refine lv_iload_n hx hb dX0_wayOut_84 rfl (lv_at hl 3 rfl) ?_
      refine lv_iload hx hb dX0_wayOut_85 (lv_at hl 0 rfl) ?_
      refine lv_if_eq (tgt := 94) hx hb dX0_wayOut_87 (by decide) (fun _ => ?_) (fun c9 => absurd (by decide) c9)
      refine lv_iload_n hx hb dX0_wayOut_94 rfl (lv_at hl 1 rfl) ?_
      refine kQNv (As := [.ref (a 3), .int q, .int (xcl 72 st q + 1)]) (rest := []) (wr := [(a 0, .inr (0, [.ref (a 1), .ref (a 2), .ref (a 3), .ref (a 4), .ref (a 5), .ref (a 6), .int C, .int R, .int lo])), (a 1, .inl (cI, 72, .inl pa)), (a 2, .inl (cI, 72, .inl pe)), (a 4, .inl (cI, 9, .inl bn)), (a 5, .inl (cI, 2, .inl hc)), (a 6, .inl (cI, 2, .inl hm))]) (W2 := (fun _ => (wM cI a pa pe ((xsc 72 st q (xcl 72 st q + 1))) bn hc hm C R lo))) ⟨hx, hb, hml, hown, hts⟩ (mX1_setCell l D cI (a 3) st 72 (by decide) q (xcl 72 st q + 1) _) ⟨va_cnB (host := RX1) 3 hts gX0_wayOut_X1_setCell_n53 rfl rfl rfl hN.1 (hts (.initialized RX1) (mg 5 rfl)) (by decide +kernel) ⟨Nat.le_of_ble_eq_true rfl, Nat.le_of_ble_eq_true rfl⟩, hts (.static yX1_setCell) (mg 7 rfl), trivial⟩ hP hD hK hN hS hA [3] (by decide) rfl [0, 1, 2, 4, 5, 6] (by decide) rfl (by decide) [0, 1, 2, 6, 3, 4, 5] (by decide) (fun _ => rfl) [0] rfl rfl hl.1 rfl (Nat.le_of_ble_eq_true rfl) dX0_wayOut_95 ⟨Nat.le_of_ble_eq_true rfl, Nat.le_of_ble_eq_true rfl⟩ (fun u_7 H locs hr_7 hP hD hS => ?_)
      have hP : va_P D vwCl (wM cI a pa pe ((xsc 72 st q (xcl 72 st q + 1))) bn hc hm C R lo) H := hP
      have hD : va_D (va_A (wM cI a pa pe st bn hc hm C R lo) sz) (wM cI a pa pe ((xsc 72 st q (xcl 72 st q + 1))) bn hc hm C R lo) := hD
      refine lv_iload hx hb dX0_wayOut_98 (lv_at hl 0 rfl) ?_
      refine lv_if_eq (tgt := 107) hx hb dX0_wayOut_100 (by decide) (fun _ => ?_) (fun c9 => absurd (by decide) c9)
      refine lv_iconst (v := (-1)) hx hb dX0_wayOut_107 (by decide) ?_
      have hP : va_P D vwCl (wM cI a pa pe ((xWay pa pe st q came).2) bn hc hm C R lo) H := by simp [xWay, xWayS, c_2, c_5]; exact hP
      have hD : va_D (va_A (wM cI a pa pe st bn hc hm C R lo) sz) (wM cI a pa pe ((xWay pa pe st q came).2) bn hc hm C R lo) := by simp [xWay, xWayS, c_2, c_5]; exact hD
      exact eQi () hx hb hr hlocks hP hD hK hS dX0_wayOut_108 (by simp [xWay, xWayS, c_2, c_5])
    · refine lv_iconst (v := 1) hx hb dX0_wayOut_73 (by decide) ?_
      refine lv_goto (tgt := 78) hx hb dX0_wayOut_74 (by decide) ?_
      refine lv_istore (lv' := [(4, .int 1), (3, .int (xcl 72 st q + 1)), (0, .ref (a 0)), (1, .int q), (2, .int came)]) hx hb dX0_wayOut_78 hl (by decide) rfl (fun ls hl => ?_)
      refine lv_aload_n hx hb dX0_wayOut_80 rfl (lv_at hl 2 rfl) ?_
      refine va_get (D := D) (ci := 0) (v := .ref (a 3)) (C := RX0) (T := TX0) (N := 9) hx hb hts iw_X0_wayOut_X0 hown hK hP 0 rfl rfl 2 (by decide) (hts (.fieldLink RX0 18 "MarbleRamps$Machine" "states" "[I") (mg 2 rfl)) (fun _ h9 => h9) rfl dX0_wayOut_81 ?_
      refine lv_iload_n hx hb dX0_wayOut_84 rfl (lv_at hl 3 rfl) ?_
      refine lv_iload hx hb dX0_wayOut_85 (lv_at hl 0 rfl) ?_
      refine lv_if_eq (tgt := 94) hx hb dX0_wayOut_87 (by decide) (fun c9 => absurd c9 (by decide)) (fun _ => ?_)
      refine lv_iconst (v := 0) hx hb dX0_wayOut_90 (by decide) ?_
      refine lv_goto (tgt := 95) hx hb dX0_wayOut_91 (by decide) ?_
      refine kQNv (As := [.ref (a 3), .int q, .int 0]) (rest := []) (wr := [(a 0, .inr (0, [.ref (a 1), .ref (a 2), .ref (a 3), .ref (a 4), .ref (a 5), .ref (a 6), .int C, .int R, .int lo])), (a 1, .inl (cI, 72, .inl pa)), (a 2, .inl (cI, 72, .inl pe)), (a 4, .inl (cI, 9, .inl bn)), (a 5, .inl (cI, 2, .inl hc)), (a 6, .inl (cI, 2, .inl hm))]) (W2 := (fun _ => (wM cI a pa pe ((xsc 72 st q 0)) bn hc hm C R lo))) ⟨hx, hb, hml, hown, hts⟩ (mX1_setCell l D cI (a 3) st 72 (by decide) q 0 _) ⟨va_cnB (host := RX1) 3 hts gX0_wayOut_X1_setCell_n53 rfl rfl rfl hN.1 (hts (.initialized RX1) (mg 5 rfl)) (by decide +kernel) ⟨Nat.le_of_ble_eq_true rfl, Nat.le_of_ble_eq_true rfl⟩, hts (.static yX1_setCell) (mg 7 rfl), trivial⟩ hP hD hK hN hS hA [3] (by decide) rfl [0, 1, 2, 4, 5, 6] (by decide) rfl (by decide) [0, 1, 2, 6, 3, 4, 5] (by decide) (fun _ => rfl) [0] rfl rfl hl.1 rfl (Nat.le_of_ble_eq_true rfl) dX0_wayOut_95 ⟨Nat.le_of_ble_eq_true rfl, Nat.le_of_ble_eq_true rfl⟩ (fun u_10 H locs hr_10 hP hD hS => ?_)
      have hP : va_P D vwCl (wM cI a pa pe ((xsc 72 st q 0)) bn hc hm C R lo) H := hP
      have hD : va_D (va_A (wM cI a pa pe st bn hc hm C R lo) sz) (wM cI a pa pe ((xsc 72 st q 0)) bn hc hm C R lo) := hD
      refine lv_iload hx hb dX0_wayOut_98 (lv_at hl 0 rfl) ?_
      refine lv_if_eq (tgt := 107) hx hb dX0_wayOut_100 (by decide) (fun c9 => absurd c9 (by decide)) (fun _ => ?_)
      refine lv_iconst (v := 1) hx hb dX0_wayOut_103 (by decide) ?_
      refine lv_goto (tgt := 108) hx hb dX0_wayOut_104 (by decide) ?_
      have hP : va_P D vwCl (wM cI a pa pe ((xWay pa pe st q came).2) bn hc hm C R lo) H := by simp [xWay, xWayS, c_2, c_5]; exact hP
      have hD : va_D (va_A (wM cI a pa pe st bn hc hm C R lo) sz) (wM cI a pa pe ((xWay pa pe st q came).2) bn hc hm C R lo) := by simp [xWay, xWayS, c_2, c_5]; exact hD
      exact eQi () hx hb hr hlocks hP hD hK hS dX0_wayOut_108 (by simp [xWay, xWayS, c_2, c_5])
  · refine lv_tableIn (tgt := 48) (off := 40) hx hb dX0_wayOut_8 (by rw [c_2]; decide) (by rw [c_2]; decide) (by rw [c_2]; rfl) (by decide) ?_
    refine lv_iload_n hx hb dX0_wayOut_48 rfl (lv_at hl 2 rfl) ?_
    have hP : va_P D vwCl (wM cI a pa pe ((xWay pa pe st q came).2) bn hc hm C R lo) s.heap := by simp [xWay, xWayS, c_2]; exact hP
    have hD : va_D (va_A (wM cI a pa pe st bn hc hm C R lo) sz) (wM cI a pa pe ((xWay pa pe st q came).2) bn hc hm C R lo) := by simp [xWay, xWayS, c_2]; exact hD
    exact eQi () hx hb hr hlocks hP hD hK hS dX0_wayOut_49 (by simp [xWay, xWayS, c_2])
  · refine lv_tableIn (tgt := 50) (off := 42) hx hb dX0_wayOut_8 (by rw [c_2]; decide) (by rw [c_2]; decide) (by rw [c_2]; rfl) (by decide) ?_
    refine lv_aload_n hx hb dX0_wayOut_50 rfl (lv_at hl 0 rfl) ?_
    refine va_get (D := D) (ci := 0) (v := .ref (a 3)) (C := RX0) (T := TX0) (N := 9) hx hb hts iw_X0_wayOut_X0 hown hK hP 0 rfl rfl 2 (by decide) (hts (.fieldLink RX0 18 "MarbleRamps$Machine" "states" "[I") (mg 2 rfl)) (fun _ h9 => h9) rfl dX0_wayOut_51 ?_
    refine lv_iload_n hx hb dX0_wayOut_54 rfl (lv_at hl 1 rfl) ?_
    refine kRNi (As := [.ref (a 3), .int q]) (rest := []) ⟨hx, hb, hml, hown, hts⟩ (mX1_cell l D cI (a 3) st 72 (by decide) q) ⟨va_cnB (host := RX1) 2 hts gX0_wayOut_X1_cell_n61 rfl rfl rfl hN.2.2 (hts (.initialized RX1) (mg 5 rfl)) (by decide +kernel) ⟨Nat.le_of_ble_eq_true rfl, Nat.le_of_ble_eq_true rfl⟩, hts (.static yX1_cell) (mg 4 rfl), trivial⟩ hP hK hN [3] rfl [0] rfl rfl hl.1 rfl (Nat.le_of_ble_eq_true rfl) dX0_wayOut_55 ⟨Nat.zero_le _, Nat.zero_le _⟩ (fun r_12 hr_12 => ?_)
    subst hr_12
    refine lv_iconst (v := 1) hx hb dX0_wayOut_58 (by decide) ?_
    refine lv_iadd hx hb dX0_wayOut_59 ?_
    refine lv_istore_n (lv' := [(3, .int (xcl 72 st q + 1)), (0, .ref (a 0)), (1, .int q), (2, .int came)]) hx hb dX0_wayOut_60 rfl hl (by decide) rfl (fun ls hl => ?_)
    refine lv_iload_n hx hb dX0_wayOut_61 rfl (lv_at hl 0 rfl) ?_
    refine lv_aload_n hx hb dX0_wayOut_62 rfl (lv_at hl 1 rfl) ?_
    refine va_get (D := D) (ci := 0) (v := .ref (a 2)) (C := RX0) (T := TX0) (N := 9) hx hb hts iw_X0_wayOut_X0 hown hK hP 0 rfl rfl 1 (by decide) (hts (.fieldLink RX0 15 "MarbleRamps$Machine" "periods" "[I") (mg 3 rfl)) (fun _ h9 => h9) rfl dX0_wayOut_63 ?_
    refine lv_iload_n hx hb dX0_wayOut_66 rfl (lv_at hl 2 rfl) ?_
    refine kRNi (As := [.ref (a 2), .int q]) (rest := [.int (xcl 72 st q + 1)]) ⟨hx, hb, hml, hown, hts⟩ (mX1_cell l D cI (a 2) pe 72 (by decide) q) ⟨va_cnB (host := RX1) 2 hts gX0_wayOut_X1_cell_n61 rfl rfl rfl hN.2.2 (hts (.initialized RX1) (mg 5 rfl)) (by decide +kernel) ⟨Nat.le_of_ble_eq_true rfl, Nat.le_of_ble_eq_true rfl⟩, hts (.static yX1_cell) (mg 4 rfl), trivial⟩ hP hK hN [2] rfl [0] rfl rfl hl.1 rfl (Nat.le_of_ble_eq_true rfl) dX0_wayOut_67 ⟨Nat.zero_le _, Nat.zero_le _⟩ (fun r_13 hr_13 => ?_)
    subst hr_13
    refine lv_icmp_lt (tgt := 77) hx hb dX0_wayOut_70 (by decide) (fun c_14 => ?_) (fun c_14 => ?_)
    · refine lv_iconst (v := 0) hx hb dX0_wayOut_77 (by decide) ?_
      refine lv_istore (lv' := [(4, .int 0), (3, .int (xcl 72 st q + 1)), (0, .ref (a 0)), (1, .int q), (2, .int came)]) hx hb dX0_wayOut_78 hl (by decide) rfl (fun ls hl => ?_)
      refine lv_aload_n hx hb dX0_wayOut_80 rfl (lv_at hl 2 rfl) ?_
      refine va_get (D := D) (ci := 0) (v := .ref (a 3)) (C := RX0) (T := TX0) (N := 9) hx hb hts iw_X0_wayOut_X0 hown hK hP 0 rfl rfl 2 (by decide) (hts (.fieldLink RX0 18 "MarbleRamps$Machine" "states" "[I") (mg 2 rfl)) (fun _ h9 => h9) rfl dX0_wayOut_81 ?_
      refine lv_iload_n hx hb dX0_wayOut_84 rfl (lv_at hl 3 rfl) ?_
      refine lv_iload hx hb dX0_wayOut_85 (lv_at hl 0 rfl) ?_
      refine lv_if_eq (tgt := 94) hx hb dX0_wayOut_87 (by decide) (fun _ => ?_) (fun c9 => absurd (by decide) c9)
      refine lv_iload_n hx hb dX0_wayOut_94 rfl (lv_at hl 1 rfl) ?_
      refine kQNv (As := [.ref (a 3), .int q, .int (xcl 72 st q + 1)]) (rest := []) (wr := [(a 0, .inr (0, [.ref (a 1), .ref (a 2), .ref (a 3), .ref (a 4), .ref (a 5), .ref (a 6), .int C, .int R, .int lo])), (a 1, .inl (cI, 72, .inl pa)), (a 2, .inl (cI, 72, .inl pe)), (a 4, .inl (cI, 9, .inl bn)), (a 5, .inl (cI, 2, .inl hc)), (a 6, .inl (cI, 2, .inl hm))]) (W2 := (fun _ => (wM cI a pa pe ((xsc 72 st q (xcl 72 st q + 1))) bn hc hm C R lo))) ⟨hx, hb, hml, hown, hts⟩ (mX1_setCell l D cI (a 3) st 72 (by decide) q (xcl 72 st q + 1) _) ⟨va_cnB (host := RX1) 3 hts gX0_wayOut_X1_setCell_n53 rfl rfl rfl hN.1 (hts (.initialized RX1) (mg 5 rfl)) (by decide +kernel) ⟨Nat.le_of_ble_eq_true rfl, Nat.le_of_ble_eq_true rfl⟩, hts (.static yX1_setCell) (mg 7 rfl), trivial⟩ hP hD hK hN hS hA [3] (by decide) rfl [0, 1, 2, 4, 5, 6] (by decide) rfl (by decide) [0, 1, 2, 6, 3, 4, 5] (by decide) (fun _ => rfl) [0] rfl rfl hl.1 rfl (Nat.le_of_ble_eq_true rfl) dX0_wayOut_95 ⟨Nat.le_of_ble_eq_true rfl, Nat.le_of_ble_eq_true rfl⟩ (fun u_16 H locs hr_16 hP hD hS => ?_)
      have hP : va_P D vwCl (wM cI a pa pe ((xsc 72 st q (xcl 72 st q + 1))) bn hc hm C R lo) H := hP
      have hD : va_D (va_A (wM cI a pa pe st bn hc hm C R lo) sz) (wM cI a pa pe ((xsc 72 st q (xcl 72 st q + 1))) bn hc hm C R lo) := hD
      refine lv_iload hx hb dX0_wayOut_98 (lv_at hl 0 rfl) ?_
      refine lv_if_eq (tgt := 107) hx hb dX0_wayOut_100 (by decide) (fun _ => ?_) (fun c9 => absurd (by decide) c9)
      refine lv_iconst (v := (-1)) hx hb dX0_wayOut_107 (by decide) ?_
      have hP : va_P D vwCl (wM cI a pa pe ((xWay pa pe st q came).2) bn hc hm C R lo) H := by simp [xWay, xWayS, c_2, c_14]; exact hP
      have hD : va_D (va_A (wM cI a pa pe st bn hc hm C R lo) sz) (wM cI a pa pe ((xWay pa pe st q came).2) bn hc hm C R lo) := by simp [xWay, xWayS, c_2, c_14]; exact hD
      exact eQi () hx hb hr hlocks hP hD hK hS dX0_wayOut_108 (by simp [xWay, xWayS, c_2, c_14])
    · refine lv_iconst (v := 1) hx hb dX0_wayOut_73 (by decide) ?_
      refine lv_goto (tgt := 78) hx hb dX0_wayOut_74 (by decide) ?_
      refine lv_istore (lv' := [(4, .int 1), (3, .int (xcl 72 st q + 1)), (0, .ref (a 0)), (1, .int q), (2, .int came)]) hx hb dX0_wayOut_78 hl (by decide) rfl (fun ls hl => ?_)
      refine lv_aload_n hx hb dX0_wayOut_80 rfl (lv_at hl 2 rfl) ?_
      refine va_get (D := D) (ci := 0) (v := .ref (a 3)) (C := RX0) (T := TX0) (N := 9) hx hb hts iw_X0_wayOut_X0 hown hK hP 0 rfl rfl 2 (by decide) (hts (.fieldLink RX0 18 "MarbleRamps$Machine" "states" "[I") (mg 2 rfl)) (fun _ h9 => h9) rfl dX0_wayOut_81 ?_
      refine lv_iload_n hx hb dX0_wayOut_84 rfl (lv_at hl 3 rfl) ?_
      refine lv_iload hx hb dX0_wayOut_85 (lv_at hl 0 rfl) ?_
      refine lv_if_eq (tgt := 94) hx hb dX0_wayOut_87 (by decide) (fun c9 => absurd c9 (by decide)) (fun _ => ?_)
      refine lv_iconst (v := 0) hx hb dX0_wayOut_90 (by decide) ?_
      refine lv_goto (tgt := 95) hx hb dX0_wayOut_91 (by decide) ?_
      refine kQNv (As := [.ref (a 3), .int q, .int 0]) (rest := []) (wr := [(a 0, .inr (0, [.ref (a 1), .ref (a 2), .ref (a 3), .ref (a 4), .ref (a 5), .ref (a 6), .int C, .int R, .int lo])), (a 1, .inl (cI, 72, .inl pa)), (a 2, .inl (cI, 72, .inl pe)), (a 4, .inl (cI, 9, .inl bn)), (a 5, .inl (cI, 2, .inl hc)), (a 6, .inl (cI, 2, .inl hm))]) (W2 := (fun _ => (wM cI a pa pe ((xsc 72 st q 0)) bn hc hm C R lo))) ⟨hx, hb, hml, hown, hts⟩ (mX1_setCell l D cI (a 3) st 72 (by decide) q 0 _) ⟨va_cnB (host := RX1) 3 hts gX0_wayOut_X1_setCell_n53 rfl rfl rfl hN.1 (hts (.initialized RX1) (mg 5 rfl)) (by decide +kernel) ⟨Nat.le_of_ble_eq_true rfl, Nat.le_of_ble_eq_true rfl⟩, hts (.static yX1_setCell) (mg 7 rfl), trivial⟩ hP hD hK hN hS hA [3] (by decide) rfl [0, 1, 2, 4, 5, 6] (by decide) rfl (by decide) [0, 1, 2, 6, 3, 4, 5] (by decide) (fun _ => rfl) [0] rfl rfl hl.1 rfl (Nat.le_of_ble_eq_true rfl) dX0_wayOut_95 ⟨Nat.le_of_ble_eq_true rfl, Nat.le_of_ble_eq_true rfl⟩ (fun u_19 H locs hr_19 hP hD hS => ?_)
      have hP : va_P D vwCl (wM cI a pa pe ((xsc 72 st q 0)) bn hc hm C R lo) H := hP
      have hD : va_D (va_A (wM cI a pa pe st bn hc hm C R lo) sz) (wM cI a pa pe ((xsc 72 st q 0)) bn hc hm C R lo) := hD
      refine lv_iload hx hb dX0_wayOut_98 (lv_at hl 0 rfl) ?_
      refine lv_if_eq (tgt := 107) hx hb dX0_wayOut_100 (by decide) (fun c9 => absurd c9 (by decide)) (fun _ => ?_)
      refine lv_iconst (v := 1) hx hb dX0_wayOut_103 (by decide) ?_
      refine lv_goto (tgt := 108) hx hb dX0_wayOut_104 (by decide) ?_
      have hP : va_P D vwCl (wM cI a pa pe ((xWay pa pe st q came).2) bn hc hm C R lo) H := by simp [xWay, xWayS, c_2, c_14]; exact hP
      have hD : va_D (va_A (wM cI a pa pe st bn hc hm C R lo) sz) (wM cI a pa pe ((xWay pa pe st q came).2) bn hc hm C R lo) := by simp [xWay, xWayS, c_2, c_14]; exact hD
      exact eQi () hx hb hr hlocks hP hD hK hS dX0_wayOut_108 (by simp [xWay, xWayS, c_2, c_14])
  · refine lv_tableOut (tgt := 109) hx hb dX0_wayOut_8 c_2.1 (by decide) ?_
    refine lv_iconst (v := 0) hx hb dX0_wayOut_109 (by decide) ?_
    have hP : va_P D vwCl (wM cI a pa pe ((xWay pa pe st q came).2) bn hc hm C R lo) s.heap := by simp [xWay, xWayS, c_2]; exact hP
    have hD : va_D (va_A (wM cI a pa pe st bn hc hm C R lo) sz) (wM cI a pa pe ((xWay pa pe st q came).2) bn hc hm C R lo) := by simp [xWay, xWayS, c_2]; exact hD
    exact eQi () hx hb hr hlocks hP hD hK hS dX0_wayOut_110 (by simp [xWay, xWayS, c_2])
end
