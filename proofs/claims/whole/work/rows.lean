section
-- ===== PART A: goes FIRST, ahead of the names: the tables' words, and 'selects' of the private methods out of them =====
/-- a private method of a class that the tables say can be made, by its rows of tables_1 -/
def lw_okq (q : MethodName × Nat) : Prop := (q.1.cls ≠ "java/lang/invoke/MethodHandle" ∧ q.1.cls ≠ "java/lang/invoke/VarHandle") ∧ Cond.instantiable q.1.cls q.2 ∈ tables_1 ∧ Cond.privateMethod q.1 ∈ tables_1 ∧ Cond.instanceMethod q.1 ∈ tables_1
theorem lw_p0 : lw_okq (⟨"MarbleRamps", "needColumn", "(I)V"⟩, 2) := ⟨⟨by decide +kernel, by decide +kernel⟩, List.mem_of_getElem? (i := 14) (by decide +kernel), List.mem_of_getElem? (i := 122) (by decide +kernel), List.mem_of_getElem? (i := 123) (by decide +kernel)⟩
theorem lw_p1 : lw_okq (⟨"java/lang/Throwable", "fillInStackTrace", "(I)Ljava/lang/Throwable;"⟩, 6) := ⟨⟨by decide +kernel, by decide +kernel⟩, List.mem_of_getElem? (i := 168) (by decide +kernel), List.mem_of_getElem? (i := 166) (by decide +kernel), List.mem_of_getElem? (i := 167) (by decide +kernel)⟩
theorem lw_p2 : lw_okq (⟨"MarbleRamps", "needRow", "(I)V"⟩, 2) := ⟨⟨by decide +kernel, by decide +kernel⟩, List.mem_of_getElem? (i := 14) (by decide +kernel), List.mem_of_getElem? (i := 282) (by decide +kernel), List.mem_of_getElem? (i := 283) (by decide +kernel)⟩
theorem lw_p3 : lw_okq (⟨"MarbleRamps", "needPlace", "(II)V"⟩, 2) := ⟨⟨by decide +kernel, by decide +kernel⟩, List.mem_of_getElem? (i := 14) (by decide +kernel), List.mem_of_getElem? (i := 299) (by decide +kernel), List.mem_of_getElem? (i := 300) (by decide +kernel)⟩
theorem lw_p4 : lw_okq (⟨"MarbleRampsModel", "no", "(I)I"⟩, 10) := ⟨⟨by decide +kernel, by decide +kernel⟩, List.mem_of_getElem? (i := 493) (by decide +kernel), List.mem_of_getElem? (i := 541) (by decide +kernel), List.mem_of_getElem? (i := 542) (by decide +kernel)⟩
theorem lw_p5 : lw_okq (⟨"MarbleRampsModel", "isPlace", "(II)Z"⟩, 10) := ⟨⟨by decide +kernel, by decide +kernel⟩, List.mem_of_getElem? (i := 493) (by decide +kernel), List.mem_of_getElem? (i := 549) (by decide +kernel), List.mem_of_getElem? (i := 550) (by decide +kernel)⟩
theorem lw_p6 : lw_okq (⟨"MarbleRampsModel", "isRow", "(I)Z"⟩, 10) := ⟨⟨by decide +kernel, by decide +kernel⟩, List.mem_of_getElem? (i := 493) (by decide +kernel), List.mem_of_getElem? (i := 553) (by decide +kernel), List.mem_of_getElem? (i := 554) (by decide +kernel)⟩
theorem lw_p7 : lw_okq (⟨"MarbleRampsModel", "isColumn", "(I)Z"⟩, 10) := ⟨⟨by decide +kernel, by decide +kernel⟩, List.mem_of_getElem? (i := 493) (by decide +kernel), List.mem_of_getElem? (i := 557) (by decide +kernel), List.mem_of_getElem? (i := 558) (by decide +kernel)⟩
theorem lw_p8 : lw_okq (⟨"MarbleRampsModel", "placed", "(III)I"⟩, 10) := ⟨⟨by decide +kernel, by decide +kernel⟩, List.mem_of_getElem? (i := 493) (by decide +kernel), List.mem_of_getElem? (i := 561) (by decide +kernel), List.mem_of_getElem? (i := 562) (by decide +kernel)⟩
theorem lw_p9 : lw_okq (⟨"MarbleRampsModel", "isNot", "(I)Z"⟩, 10) := ⟨⟨by decide +kernel, by decide +kernel⟩, List.mem_of_getElem? (i := 493) (by decide +kernel), List.mem_of_getElem? (i := 573) (by decide +kernel), List.mem_of_getElem? (i := 574) (by decide +kernel)⟩
theorem lw_p10 : lw_okq (⟨"MarbleRampsModel", "fall", "(I)I"⟩, 10) := ⟨⟨by decide +kernel, by decide +kernel⟩, List.mem_of_getElem? (i := 493) (by decide +kernel), List.mem_of_getElem? (i := 585) (by decide +kernel), List.mem_of_getElem? (i := 586) (by decide +kernel)⟩
theorem lw_p11 : lw_okq (⟨"MarbleRampsModel", "goes", "(II)I"⟩, 10) := ⟨⟨by decide +kernel, by decide +kernel⟩, List.mem_of_getElem? (i := 493) (by decide +kernel), List.mem_of_getElem? (i := 589) (by decide +kernel), List.mem_of_getElem? (i := 590) (by decide +kernel)⟩
theorem lw_p12 : lw_okq (⟨"MarbleRampsModel", "runFrom", "(II)I"⟩, 10) := ⟨⟨by decide +kernel, by decide +kernel⟩, List.mem_of_getElem? (i := 493) (by decide +kernel), List.mem_of_getElem? (i := 597) (by decide +kernel), List.mem_of_getElem? (i := 598) (by decide +kernel)⟩
theorem lw_p13 : lw_okq (⟨"MarbleRampsModel", "inBins", "()I"⟩, 10) := ⟨⟨by decide +kernel, by decide +kernel⟩, List.mem_of_getElem? (i := 493) (by decide +kernel), List.mem_of_getElem? (i := 608) (by decide +kernel), List.mem_of_getElem? (i := 609) (by decide +kernel)⟩
theorem lw_p14 : lw_okq (⟨"MarbleRampsModel", "ok", "(I)I"⟩, 10) := ⟨⟨by decide +kernel, by decide +kernel⟩, List.mem_of_getElem? (i := 493) (by decide +kernel), List.mem_of_getElem? (i := 612) (by decide +kernel), List.mem_of_getElem? (i := 613) (by decide +kernel)⟩
theorem lw_p15 : lw_okq (⟨"MarbleRampsModel", "isRight", "(II)Z"⟩, 10) := ⟨⟨by decide +kernel, by decide +kernel⟩, List.mem_of_getElem? (i := 493) (by decide +kernel), List.mem_of_getElem? (i := 632) (by decide +kernel), List.mem_of_getElem? (i := 633) (by decide +kernel)⟩
def lw_privs_1 : List (MethodName × Nat) := [(⟨"MarbleRamps", "needColumn", "(I)V"⟩, 2), (⟨"java/lang/Throwable", "fillInStackTrace", "(I)Ljava/lang/Throwable;"⟩, 6), (⟨"MarbleRamps", "needRow", "(I)V"⟩, 2), (⟨"MarbleRamps", "needPlace", "(II)V"⟩, 2), (⟨"MarbleRampsModel", "no", "(I)I"⟩, 10), (⟨"MarbleRampsModel", "isPlace", "(II)Z"⟩, 10), (⟨"MarbleRampsModel", "isRow", "(I)Z"⟩, 10), (⟨"MarbleRampsModel", "isColumn", "(I)Z"⟩, 10), (⟨"MarbleRampsModel", "placed", "(III)I"⟩, 10), (⟨"MarbleRampsModel", "isNot", "(I)Z"⟩, 10), (⟨"MarbleRampsModel", "fall", "(I)I"⟩, 10), (⟨"MarbleRampsModel", "goes", "(II)I"⟩, 10), (⟨"MarbleRampsModel", "runFrom", "(II)I"⟩, 10), (⟨"MarbleRampsModel", "inBins", "()I"⟩, 10), (⟨"MarbleRampsModel", "ok", "(I)I"⟩, 10), (⟨"MarbleRampsModel", "isRight", "(II)Z"⟩, 10)]
theorem lw_r1 : ∀ q ∈ lw_privs_1, lw_okq q := List.forall_mem_cons.mpr ⟨lw_p0, List.forall_mem_cons.mpr ⟨lw_p1, List.forall_mem_cons.mpr ⟨lw_p2, List.forall_mem_cons.mpr ⟨lw_p3, List.forall_mem_cons.mpr ⟨lw_p4, List.forall_mem_cons.mpr ⟨lw_p5, List.forall_mem_cons.mpr ⟨lw_p6, List.forall_mem_cons.mpr ⟨lw_p7, List.forall_mem_cons.mpr ⟨lw_p8, List.forall_mem_cons.mpr ⟨lw_p9, List.forall_mem_cons.mpr ⟨lw_p10, List.forall_mem_cons.mpr ⟨lw_p11, List.forall_mem_cons.mpr ⟨lw_p12, List.forall_mem_cons.mpr ⟨lw_p13, List.forall_mem_cons.mpr ⟨lw_p14, List.forall_mem_cons.mpr ⟨lw_p15, fun _ h => absurd h List.not_mem_nil⟩⟩⟩⟩⟩⟩⟩⟩⟩⟩⟩⟩⟩⟩⟩⟩
theorem lw_p16 : lw_okq (⟨"MarbleRampsModel", "counted", "(II)I"⟩, 10) := ⟨⟨by decide +kernel, by decide +kernel⟩, List.mem_of_getElem? (i := 493) (by decide +kernel), List.mem_of_getElem? (i := 640) (by decide +kernel), List.mem_of_getElem? (i := 641) (by decide +kernel)⟩
theorem lw_p17 : lw_okq (⟨"MarbleRampsModel", "togglesNow", "()I"⟩, 10) := ⟨⟨by decide +kernel, by decide +kernel⟩, List.mem_of_getElem? (i := 493) (by decide +kernel), List.mem_of_getElem? (i := 664) (by decide +kernel), List.mem_of_getElem? (i := 665) (by decide +kernel)⟩
theorem lw_p18 : lw_okq (⟨"MarbleRampsModel", "number", "(I)I"⟩, 10) := ⟨⟨by decide +kernel, by decide +kernel⟩, List.mem_of_getElem? (i := 493) (by decide +kernel), List.mem_of_getElem? (i := 672) (by decide +kernel), List.mem_of_getElem? (i := 673) (by decide +kernel)⟩
theorem lw_p19 : lw_okq (⟨"MarbleRampsModel", "look", "(II)I"⟩, 10) := ⟨⟨by decide +kernel, by decide +kernel⟩, List.mem_of_getElem? (i := 493) (by decide +kernel), List.mem_of_getElem? (i := 680) (by decide +kernel), List.mem_of_getElem? (i := 681) (by decide +kernel)⟩
theorem lw_p20 : lw_okq (⟨"MarbleRampsModel", "keep", "()V"⟩, 10) := ⟨⟨by decide +kernel, by decide +kernel⟩, List.mem_of_getElem? (i := 493) (by decide +kernel), List.mem_of_getElem? (i := 684) (by decide +kernel), List.mem_of_getElem? (i := 685) (by decide +kernel)⟩
theorem lw_p21 : lw_okq (⟨"MarbleRampsModel", "bringBack", "()V"⟩, 10) := ⟨⟨by decide +kernel, by decide +kernel⟩, List.mem_of_getElem? (i := 493) (by decide +kernel), List.mem_of_getElem? (i := 691) (by decide +kernel), List.mem_of_getElem? (i := 692) (by decide +kernel)⟩
theorem lw_p22 : lw_okq (⟨"MarbleRampsModel", "turnedBy", "(I)I"⟩, 10) := ⟨⟨by decide +kernel, by decide +kernel⟩, List.mem_of_getElem? (i := 493) (by decide +kernel), List.mem_of_getElem? (i := 703) (by decide +kernel), List.mem_of_getElem? (i := 704) (by decide +kernel)⟩
theorem lw_p23 : lw_okq (⟨"MarbleRampsModel", "asBefore", "(I)I"⟩, 10) := ⟨⟨by decide +kernel, by decide +kernel⟩, List.mem_of_getElem? (i := 493) (by decide +kernel), List.mem_of_getElem? (i := 715) (by decide +kernel), List.mem_of_getElem? (i := 716) (by decide +kernel)⟩
theorem lw_p24 : lw_okq (⟨"MarbleRampsModel", "isAsKept", "()Z"⟩, 10) := ⟨⟨by decide +kernel, by decide +kernel⟩, List.mem_of_getElem? (i := 493) (by decide +kernel), List.mem_of_getElem? (i := 719) (by decide +kernel), List.mem_of_getElem? (i := 720) (by decide +kernel)⟩
theorem lw_p25 : lw_okq (⟨"MarbleRampsModel", "runs", "(I)I"⟩, 10) := ⟨⟨by decide +kernel, by decide +kernel⟩, List.mem_of_getElem? (i := 493) (by decide +kernel), List.mem_of_getElem? (i := 727) (by decide +kernel), List.mem_of_getElem? (i := 728) (by decide +kernel)⟩
theorem lw_p26 : lw_okq (⟨"MarbleRampsModel", "best", "()I"⟩, 10) := ⟨⟨by decide +kernel, by decide +kernel⟩, List.mem_of_getElem? (i := 493) (by decide +kernel), List.mem_of_getElem? (i := 735) (by decide +kernel), List.mem_of_getElem? (i := 736) (by decide +kernel)⟩
def lw_privs_2 : List (MethodName × Nat) := [(⟨"MarbleRampsModel", "counted", "(II)I"⟩, 10), (⟨"MarbleRampsModel", "togglesNow", "()I"⟩, 10), (⟨"MarbleRampsModel", "number", "(I)I"⟩, 10), (⟨"MarbleRampsModel", "look", "(II)I"⟩, 10), (⟨"MarbleRampsModel", "keep", "()V"⟩, 10), (⟨"MarbleRampsModel", "bringBack", "()V"⟩, 10), (⟨"MarbleRampsModel", "turnedBy", "(I)I"⟩, 10), (⟨"MarbleRampsModel", "asBefore", "(I)I"⟩, 10), (⟨"MarbleRampsModel", "isAsKept", "()Z"⟩, 10), (⟨"MarbleRampsModel", "runs", "(I)I"⟩, 10), (⟨"MarbleRampsModel", "best", "()I"⟩, 10)]
theorem lw_r2 : ∀ q ∈ lw_privs_2, lw_okq q := List.forall_mem_cons.mpr ⟨lw_p16, List.forall_mem_cons.mpr ⟨lw_p17, List.forall_mem_cons.mpr ⟨lw_p18, List.forall_mem_cons.mpr ⟨lw_p19, List.forall_mem_cons.mpr ⟨lw_p20, List.forall_mem_cons.mpr ⟨lw_p21, List.forall_mem_cons.mpr ⟨lw_p22, List.forall_mem_cons.mpr ⟨lw_p23, List.forall_mem_cons.mpr ⟨lw_p24, List.forall_mem_cons.mpr ⟨lw_p25, List.forall_mem_cons.mpr ⟨lw_p26, fun _ h => absurd h List.not_mem_nil⟩⟩⟩⟩⟩⟩⟩⟩⟩⟩⟩
def lw_privs : List (MethodName × Nat) := lw_privs_1 ++ (lw_privs_2)
def lw_tbl : List Cond := k2_sels lw_privs ++ tables_1
theorem lw_privs_ok : ∀ q ∈ lw_privs, lw_okq q := by
  show ∀ q ∈ lw_privs_1 ++ (lw_privs_2), lw_okq q
  exact List.forall_mem_append.mpr ⟨lw_r1, lw_r2⟩
/-- the streams that the claim lets the run draw from -/
abbrev lw_cs : List Choice := [Jvm.Choice.named "NaN.bits"]
theorem lw_bits : nanBits ∈ lw_cs := by first | decide | exact List.mem_cons_self | simp [lw_cs, nanBits]
-- ===== end of PART A; then your names; then what follows =====
end
section
/-! ===== BEGIN words of one list among another's, by their places ===== -/
theorem goodIn_r {big : List Cond} (ws : List Cond) (ps : List Nat) (hp : ws = ps.filterMap (fun i => big[i]?)) (h : ws.all goodWord = true) : GoodIn big ws := by
  intro w hw
  have h1 := List.all_eq_true.mp h w hw
  rw [hp] at hw
  obtain ⟨i, -, hi⟩ := List.mem_filterMap.mp hw
  have hm : w ∈ big := by first | exact List.mem_of_getElem? hi | exact List.getElem?_mem hi
  exact ⟨hm, good_of_word h1⟩
theorem goodIn_app {big a b : List Cond} (ha : GoodIn big a) (hb : GoodIn big b) : GoodIn big (a ++ b) := fun w h => (List.mem_append.mp h).elim (ha w) (hb w)
theorem goodIn_ca {big a b : List Cond} {c : Cond} (ha : GoodIn big (c :: a)) (hb : GoodIn big b) : GoodIn big (c :: (a ++ b)) := fun w h => (List.mem_cons.mp h).elim (fun e => ha w (List.mem_cons.mpr (Or.inl e))) (fun h => (List.mem_append.mp h).elim (fun h => ha w (List.mem_cons.mpr (Or.inr h))) (hb w))
theorem goodIn_sub {big ws : List Cond} (hm : ∀ w ∈ ws, w ∈ big) (h : ws.all goodWord = true) : GoodIn big ws := fun w hw => ⟨hm w hw, good_of_word (List.all_eq_true.mp h w hw)⟩
/-! ===== END ===== -/

/-! ===== BEGIN exceptions that leave a method, and their catching by the caller (launches without stack traces) ===== -/
section VXA
/-! The laws vx_back, vx_callV, vx_callS, vx_callSW, vx_throw0, vx_throwS follow proofs of the library, with one case more: JvmDerived/Free/Laws.lean (Back.of_free), Shelf42/LK1.lean (callV, callS), Shelf/KitTraced.lean (throwNew0V, throwNewS). -/
/-- where a method has thrown q: the class by its name, the cell, what was written, the world -/
def vx_T (XC : String → State → State → Prop) (st : State) (q : Addr) (t : State) (mc ms : Nat) (free : Addr → Prop) : Prop :=
  ∃ (E : String) (ce : Cell) (L : List Loc), XC E st t ∧ t.heap[q]? = some ce ∧ ce.vm = .none ∧ st.vm.findClass E = some ce.cls ∧ st.WarmedH t.vm ∧ st.sameButNew ({ t with vm := st.vm } : State) L mc ms ∧ ∀ z ∈ L, free z.base
def vx_Q (Qc : Array Value → State → Outcome → State → Prop) (XC : String → State → State → Prop) (mc ms : Nat) (free : Addr → Prop) : Array Value → State → Outcome → State → Prop := fun a st o t =>
  (Qc a st o t ∧ ∃ L, FrameEnd st o t L mc ms ∧ ∀ q ∈ L, free q.base) ∨ ∃ q, o = .threw q ∧ vx_T XC st q t mc ms free
/-- a callee that returns or throws -/
def vx_Met (l : Launch) (y : MethodName) (ws : List Cond) (rm : Room) (Pc : Array Value → State → Prop) (Qc : Array Value → State → Outcome → State → Prop) (XC : String → State → State → Prop) (mc ms : Nat) (free : Addr → Prop) : Prop :=
  MetFree l y (headSpec ws rm) Pc (fun _ _ _ _ _ => True) (vx_Q Qc XC mc ms free)
def vx_Post (XC : String → State → State → Prop) (mc ms : Nat) (free : Addr → Prop) : Pt → Array Value → Addr → Pt → Prop := fun A a q B =>
  ∃ (g : JFrame) (mk : MethodId) (t : State) (L : List Loc) (E : String) (ce : Cell), B.U.heap = t.heap ∧ B.U.vm = t.vm ∧ XC E (A.U.calling g mk a) t ∧ t.heap[q]? = some ce ∧ ce.vm = .none ∧ A.U.vm.findClass E = some ce.cls ∧ B.locs = A.locs ++ L ∧ (∀ z ∈ L, free z.base) ∧ B.cells = A.cells + mc ∧ B.slots = A.slots + ms
def vx_Back (l : Launch) (R : Room) (p : Program) (e : Env) (below : List Frame) (s : State) (sargs : Array Value) (y : MethodName) (len W9 : Nat)
    (Pre : Pt → Array Value → Prop) (Post : Pt → Array Value → Option Value → Pt → Prop) (PostX : Pt → Array Value → Addr → Pt → Prop) : Prop :=
  ∀ (m : MethodId) (meth : Method) (c : Code) (A : Pt) (g : JFrame) (ig : Instr) (mk : MethodId) (a : Array Value),
    Stand p l e R s m sargs below meth c A.U A.locs A.cells A.slots → g.method = m → g.locals.size = c.maxLocals → decode c.code g.pc = .ok (ig, len) →
    2 * g.monitorRoom + (g.stack.map fun v => v.category).sum ≤ W9 → A.U.methodNamed? y = some mk → Pre A a →
    (∃ (v : Option Value) (B : Pt), Stand p l e R s m sargs below meth c B.U B.locs B.cells B.slots ∧ Post A a v B ∧
      Steps p.tables e below (doInvoke e (A.U.setTop g) [] mk a).1 (B.U.setTop { g with pc := g.pc + len, stack := v.toList ++ g.stack })) ∨
    (∃ (q : Addr) (B : Pt), Stand p l e R s m sargs below meth c B.U B.locs B.cells B.slots ∧ PostX A a q B ∧
      Steps p.tables e below (doInvoke e (A.U.setTop g) [] mk a).1 ((B.U.setTop g).pushFrame (.throwing q)))
section Payer
variable {l : Launch} {R : Room} {p : Program} {e : Env} {below : List Frame} {s : State} {sargs : Array Value} {y : MethodName} {len W9 : Nat}
theorem vx_back {ws : List Cond} {rm : Room} {Pc : Array Value → State → Prop} {Qc : Array Value → State → Outcome → State → Prop} {XC : String → State → State → Prop} {mc ms : Nat} {free : Addr → Prop} {bytes : ByteArray} {maxL : Nat} {ret : Option FieldType}
    (hM : vx_Met l y ws rm Pc Qc XC mc ms free) (hblind : FrameBlind Pc) (hrc : rm.cells = mc) (hrs : rm.slots = ms)
    (hframes : rm.frames + 1 ≤ R.frames) (hlocals : W9 + (maxL + 11) + rm.locals ≤ R.locals)
    (hws : ∀ w ∈ ws, ∀ a' U, s.WarmedH U.vm → w.before a' U = true) (hcode : Cond.code y bytes maxL ret ∈ ws) (hinit : ∀ a' U, s.WarmedH U.vm → (Cond.initialized y.cls).before a' U = true) :
    vx_Back l R p e below s sargs y len W9 (PreOf R mc ms Pc) (PostOf Qc mc ms free) (vx_Post XC mc ms free) := by
  intro m meth c A g ig mk a X hg hsize hdg hW hn hp
  have h1 : (headSpec ws rm).pre.before a A.U = true := atoms_intro fun w hw => hws w hw _ _ X.warmed
  have h2 : (Cond.code y bytes maxL ret).before a A.U = true := hws _ hcode _ _ X.warmed
  have h3 : (Cond.initialized y.cls).before a A.U = true := hinit _ _ X.warmed
  have h4 : A.cells + (headSpec ws rm).room.cells ≤ R.cells := by rw [show (headSpec ws rm).room.cells = mc from hrc]; exact hp.1
  have h5 : A.slots + (headSpec ws rm).room.slots ≤ R.slots := by rw [show (headSpec ws rm).room.slots = ms from hrs]; exact hp.2.1
  have hPc : Pc a (A.U.calling g mk a) := hblind _ _ _ _ hp.2.2
  obtain ⟨U, Ls, c0, s0⟩ := A
  dsimp only [Pt.U, Pt.locs, Pt.cells, Pt.slots] at h1 h2 h3 h4 h5 X hn hPc ⊢
  obtain ⟨methY, cY, hmY, hcY, -, hlY, -, -, -, -⟩ := Cond.code_spec hn h2
  obtain ⟨kY, hkY, -⟩ := className_of_methodNamed hn
  have hinitY : kY.init = .initialized := Cond.initialized_spec (findClass_of_methodNamed hn) hkY h3
  have h : At U g.method c below := by rw [hg]; exact X.here
  have hlocals9 : W9 + (maxL + 11) + (headSpec ws rm).room.locals ≤ R.locals := hlocals
  have happ : (headSpec ws rm).appliesLoose y e.platform (U.calling g mk a) = true :=
    Spec.appliesLoose_calling (g := g) h hdg hn hkY hinitY
      (X.room_calling (g := g) (R' := (headSpec ws rm).room) hsize hmY hcY hframes (by rw [hlY]; omega) h4 h5) h1
  obtain ⟨mid, hmid⟩ := h.above
  have hfr : (U.setTop g).frames = (.java g :: mid) ++ below := by rw [State.frames_setTop' g h.top, hmid]; rfl
  obtain ⟨o, s₂, hsteps, -, hend, hq⟩ := Steps.callFree hM p X.admits X.cas X.clock (acts := []) hfr happ hPc trivial
  have hq' : vx_Q Qc XC mc ms free a (U.calling g mk a) o s₂ := hq
  rw [State.frames_setTop' g h.top] at hend
  obtain ⟨g₀, hg0⟩ := Option.isSome_iff_exists.mp h.top
  obtain ⟨r, hr⟩ := State.topJava?_eq_some.mp hg0
  have hr' : (({ U with heap := s₂.heap, slotsUsed := s₂.slotsUsed } : State).setVm s₂.vm).frames = .java g₀ :: r := hr
  rcases hq' with ⟨hqc, L, hfe, hL⟩ | ⟨q, rfl, E, ce, L, hx, hce, hcv, hcl, hW₂, hsm, hL⟩
  · obtain ⟨⟨v, rfl⟩, hW₂, e2, q2, q3, q4, q5, q6⟩ := id hfe
    have e3 : s₂ = ({ (U.calling g mk a).setFrames s₂.frames with heap := s₂.heap, slotsUsed := s₂.slotsUsed } : State).setVm s₂.vm := by
      have : s₂ = ({ s₂ with vm := (U.calling g mk a).vm } : State).setVm s₂.vm := rfl
      rw [e2] at this
      exact this
    obtain ⟨c₂, i₂, len₂, hc₂, hd₂, hf₂⟩ := hend
    have hW' : U.WarmedH s₂.vm := hW₂
    have hcc : c₂ = c := by
      have h1 : s₂.code? g.method = U.code? g.method := by
        rw [State.code?_eq, State.code?_eq, hW'.alike.method?]
      exact Option.some.inj (hc₂.symm.trans (h1.trans h.code))
    subst hcc
    have hlen : len₂ = len := by rw [hdg] at hd₂; cases hd₂; rfl
    subst hlen
    have hs₂ : s₂ = (({ U with heap := s₂.heap, slotsUsed := s₂.slotsUsed } : State).setVm s₂.vm).setTop { g with pc := g.pc + len₂, stack := v.toList ++ g.stack } := by
      refine e3.trans ?_
      rw [hf₂, State.calling_eq h.top, State.setFrames_setFrames, State.setTop_of_frames _ hr', hr]
      rfl
    have hsame : U.sameButNew ({ U with heap := s₂.heap, slotsUsed := s₂.slotsUsed } : State) L mc ms := by
      refine ⟨?_, q2, q3, q4, q5, q6⟩
      obtain ⟨t, ht, -⟩ := State.frames_cons hr
      show ({ U with heap := s₂.heap, slotsUsed := s₂.slotsUsed } : State) = { U.setFrames U.frames with heap := s₂.heap, slotsUsed := s₂.slotsUsed }
      rw [State.setFrames_self ht]
    subst hg
    refine Or.inl ⟨v, ⟨(({ U with heap := s₂.heap, slotsUsed := s₂.slotsUsed } : State).setVm s₂.vm), Ls ++ L, c0 + mc, s0 + ms⟩,
      ⟨X.admits, X.cas, X.clock, X.frames, X.room, X.hears, X.method, X.code, (X.here.setHeapUsed s₂.heap s₂.slotsUsed).setVm hW'.alike, X.tail, State.WarmedH.trans X.warmed hW', X.limits, X.bytes, X.same.trans (hsame.setVm s.vm)⟩,
      ⟨g, mk, s₂, L, rfl, rfl, hqc, rfl, hL, rfl, rfl⟩, ?_⟩
    show Steps p.tables e below _ ((({ U with heap := s₂.heap, slotsUsed := s₂.slotsUsed } : State).setVm s₂.vm).setTop { g with pc := g.pc + len₂, stack := v.toList ++ g.stack })
    rw [← hs₂]
    exact hsteps
  · obtain ⟨e2, q2, q3, q4, q5, q6⟩ := id hsm
    have e3 : s₂ = ({ (U.calling g mk a).setFrames s₂.frames with heap := s₂.heap, slotsUsed := s₂.slotsUsed } : State).setVm s₂.vm := by
      have : s₂ = ({ s₂ with vm := (U.calling g mk a).vm } : State).setVm s₂.vm := rfl
      rw [e2] at this
      exact this
    have hf₂ : s₂.frames = .throwing q :: .java g :: U.frames.tail := hend
    have hW' : U.WarmedH s₂.vm := hW₂
    have hs₂ : s₂ = ((({ U with heap := s₂.heap, slotsUsed := s₂.slotsUsed } : State).setVm s₂.vm).setTop g).pushFrame (.throwing q) := by
      refine e3.trans ?_
      rw [hf₂, State.calling_eq h.top, State.setFrames_setFrames, State.pushFrame, State.frames_setTop _ hr', State.setTop_of_frames _ hr', State.setFrames_setFrames, hr]
      rfl
    have hsame : U.sameButNew ({ U with heap := s₂.heap, slotsUsed := s₂.slotsUsed } : State) L mc ms := by
      refine ⟨?_, q2, q3, q4, q5, q6⟩
      obtain ⟨t, ht, -⟩ := State.frames_cons hr
      show ({ U with heap := s₂.heap, slotsUsed := s₂.slotsUsed } : State) = { U.setFrames U.frames with heap := s₂.heap, slotsUsed := s₂.slotsUsed }
      rw [State.setFrames_self ht]
    subst hg
    refine Or.inr ⟨q, ⟨(({ U with heap := s₂.heap, slotsUsed := s₂.slotsUsed } : State).setVm s₂.vm), Ls ++ L, c0 + mc, s0 + ms⟩,
      ⟨X.admits, X.cas, X.clock, X.frames, X.room, X.hears, X.method, X.code, (X.here.setHeapUsed s₂.heap s₂.slotsUsed).setVm hW'.alike, X.tail, State.WarmedH.trans X.warmed hW', X.limits, X.bytes, X.same.trans (hsame.setVm s.vm)⟩,
      ⟨g, mk, s₂, L, E, ce, rfl, rfl, hx, hce, hcv, hcl, rfl, hL, rfl, rfl⟩, ?_⟩
    show Steps p.tables e below _ (((({ U with heap := s₂.heap, slotsUsed := s₂.slotsUsed } : State).setVm s₂.vm).setTop g).pushFrame (.throwing q))
    rw [← hs₂]
    exact hsteps
end Payer
section Calls
variable {p : Program} {l : Launch} {e : Env} {R : Room} {s : State} {m : MethodId} {args : Array Value} {below : List Frame} {meth : Method} {c : Code} {T : State} {locs : List Loc} {cells slots : Nat}
theorem vx_callV (X : Stand p l e R s m args below meth c T locs cells slots) (hexec : p.tables.exec = Jvm.exec) {own C : String} {index : Nat} {y : MethodName} {bytes : ByteArray} {maxL : Nat} {ret : Option FieldType}
    (hown : s.vm.findClass own = some m.cls) (hlink : (Cond.methodLink own index y).before args s = true) (hinst : (Cond.instanceMethod y).before args s = true) (hsel : (Cond.selects C y y).before args s = true)
    (hcode : (Cond.code y bytes maxL ret).before args s = true) (hy : y.cls ≠ "java/lang/invoke/MethodHandle" ∧ y.cls ≠ "java/lang/invoke/VarHandle")
    {W9 : Nat} {Pre : Pt → Array Value → Prop} {Post : Pt → Array Value → Option Value → Pt → Prop} {PostX : Pt → Array Value → Addr → Pt → Prop} (hK : vx_Back l R p e below s args y 3 W9 Pre Post PostX)
    {b : Addr} {cellB : Cell} (hcell : T.heap[b]? = some cellB) (hobj : cellB.vm.isStatics = false) (hcls : s.vm.findClass C = some cellB.cls)
    {g : JFrame} (hg : g.method = m) (hsize : g.locals.size = c.maxLocals) {argsL rest : List Value} (hlen : ∀ sig, parseMethodDescriptor y.desc = some sig → argsL.length = sig.parameters.length)
    (hstack : g.stack = argsL.reverse ++ .ref b :: rest) (hW : 2 * g.monitorRoom + (rest.map fun v => v.category).sum ≤ W9) (hdg : decode c.code g.pc = .ok (.invokevirtual index, 3))
    (hpre : ∀ vm₁, s.WarmedH vm₁ → Pre ⟨T.setVm vm₁, locs, cells, slots⟩ (Value.ref b :: argsL).toArray) :
    (∃ (v : Option Value) (vm₁ : Vm) (B : Pt), s.WarmedH vm₁ ∧ Stand p l e R s m args below meth c B.U B.locs B.cells B.slots ∧ Post ⟨T.setVm vm₁, locs, cells, slots⟩ (Value.ref b :: argsL).toArray v B ∧
      ∀ target, Steps p.tables e below (B.U.setTop { g with pc := g.pc + 3, stack := v.toList ++ rest }) target → Steps p.tables e below (T.setTop g) target) ∨
    (∃ (q : Addr) (vm₁ : Vm) (B : Pt), s.WarmedH vm₁ ∧ Stand p l e R s m args below meth c B.U B.locs B.cells B.slots ∧ PostX ⟨T.setVm vm₁, locs, cells, slots⟩ (Value.ref b :: argsL).toArray q B ∧
      Steps p.tables e below (T.setTop g) ((B.U.setTop { g with stack := rest }).pushFrame (.throwing q))) := by
  obtain ⟨mk, methM, hnamed, hmethM, hstM, habM⟩ := Cond.instanceMethod_spec hinst
  obtain ⟨methM', cM, hmethM', -, -, -, -, -, -, hsigM⟩ := Cond.code_spec hnamed hcode
  cases hmethM.symm.trans hmethM'
  obtain ⟨c2, r2, m2, q1, q2, q3, q4, kP, hkP, hkPi⟩ := Cond.selects_spec hsel
  cases hcls.symm.trans q1
  cases (State.methodFound?_of_named hnamed hy).symm.trans q2
  cases hnamed.symm.trans q3
  have hselP : selectMethod e.platform s.vm cellB.cls mk = .method mk := by rw [Launch.admits_selectMethod X.admits]; exact q4
  obtain ⟨vm₁, X₁, hstep₁⟩ := X.invokevirtual hexec hown hlink hnamed hmethM hstM hkP hkPi hy (a := b) (cell := cellB) hcell
    (fun z h => by rw [h] at hobj; cases hobj) hselP hmethM habM hkP hkPi (g := g) hg (argsL := argsL) (rest := rest) (hlen _ hsigM) hstack hdg
  rcases hK m meth c ⟨T.setVm vm₁, locs, cells, slots⟩ { g with stack := rest } (.invokevirtual index) mk (Value.ref b :: argsL).toArray X₁ hg hsize hdg hW (X₁.named hnamed) (hpre vm₁ X₁.warmed) with ⟨v, B, X', hpost, hsteps⟩ | ⟨q, B, X', hpost, hsteps⟩
  · exact Or.inl ⟨v, vm₁, B, X₁.warmed, X', hpost, fun target h => hstep₁ _ fun acts => by rw [doInvoke_state]; exact hsteps.trans h⟩
  · exact Or.inr ⟨q, vm₁, B, X₁.warmed, X', hpost, hstep₁ _ fun acts => by rw [doInvoke_state]; exact hsteps⟩
theorem vx_callS (X : Stand p l e R s m args below meth c T locs cells slots) (hexec : p.tables.exec = Jvm.exec) {own : String} {index : Nat} {y : MethodName} {bytes : ByteArray} {maxL : Nat} {ret : Option FieldType}
    (hown : s.vm.findClass own = some m.cls) (hlink : (Cond.methodLink own index y).before args s = true) (hstat : (Cond.static y).before args s = true) (hinit : (Cond.initialized y.cls).before args s = true)
    (hcode : (Cond.code y bytes maxL ret).before args s = true) (hy : y.cls ≠ "java/lang/invoke/MethodHandle" ∧ y.cls ≠ "java/lang/invoke/VarHandle")
    {W9 : Nat} {Pre : Pt → Array Value → Prop} {Post : Pt → Array Value → Option Value → Pt → Prop} {PostX : Pt → Array Value → Addr → Pt → Prop} (hK : vx_Back l R p e below s args y 3 W9 Pre Post PostX)
    {g : JFrame} (hg : g.method = m) (hsize : g.locals.size = c.maxLocals) {argsL rest : List Value} (hlen : ∀ sig, parseMethodDescriptor y.desc = some sig → argsL.length = sig.parameters.length)
    (hstack : g.stack = argsL.reverse ++ rest) (hW : 2 * g.monitorRoom + (rest.map fun v => v.category).sum ≤ W9) (hdg : decode c.code g.pc = .ok (.invokestatic index, 3))
    (hpre : ∀ vm₁, s.WarmedH vm₁ → Pre ⟨T.setVm vm₁, locs, cells, slots⟩ argsL.toArray) :
    (∃ (v : Option Value) (vm₁ : Vm) (B : Pt), s.WarmedH vm₁ ∧ Stand p l e R s m args below meth c B.U B.locs B.cells B.slots ∧ Post ⟨T.setVm vm₁, locs, cells, slots⟩ argsL.toArray v B ∧
      ∀ target, Steps p.tables e below (B.U.setTop { g with pc := g.pc + 3, stack := v.toList ++ rest }) target → Steps p.tables e below (T.setTop g) target) ∨
    (∃ (q : Addr) (vm₁ : Vm) (B : Pt), s.WarmedH vm₁ ∧ Stand p l e R s m args below meth c B.U B.locs B.cells B.slots ∧ PostX ⟨T.setVm vm₁, locs, cells, slots⟩ argsL.toArray q B ∧
      Steps p.tables e below (T.setTop g) ((B.U.setTop { g with stack := rest }).pushFrame (.throwing q))) := by
  obtain ⟨mk, hnamed⟩ := Cond.code_named hcode
  obtain ⟨methM, cM, hmethM, -, -, -, -, -, -, hsigM⟩ := Cond.code_spec hnamed hcode
  have hstatic : methM.isStatic = true := Cond.static_spec hnamed hmethM hstat
  obtain ⟨kP, hkP, -⟩ := className_of_methodNamed hnamed
  have hinitP : kP.init = .initialized := Cond.initialized_spec (findClass_of_methodNamed hnamed) hkP hinit
  obtain ⟨vm₁, X₁, hstep₁⟩ := X.invokestatic hexec hown hlink hnamed hmethM hstatic hkP hinitP hy (g := g) hg (argsL := argsL) (rest := rest) (hlen _ hsigM) hstack hdg
  rcases hK m meth c ⟨T.setVm vm₁, locs, cells, slots⟩ { g with stack := rest } (.invokestatic index) mk argsL.toArray X₁ hg hsize hdg hW (X₁.named hnamed) (hpre vm₁ X₁.warmed) with ⟨v, B, X', hpost, hsteps⟩ | ⟨q, B, X', hpost, hsteps⟩
  · exact Or.inl ⟨v, vm₁, B, X₁.warmed, X', hpost, fun target h => hstep₁ _ fun acts => by rw [doInvoke_state]; exact hsteps.trans h⟩
  · exact Or.inr ⟨q, vm₁, B, X₁.warmed, X', hpost, hstep₁ _ fun acts => by rw [doInvoke_state]; exact hsteps⟩
end Calls
theorem vx_cls {s : State} {T : State} {vm₁ : Vm} {E : String} {k : ClassId} (hW : s.WarmedH vm₁) (h : (T.setVm vm₁).vm.findClass E = some k) : s.vm.findClass E = some k := by
  have h1 : vm₁.findClass E = some k := h
  rw [hW.alike.findClass] at h1
  exact h1
/-- the method's frame g, with q thrown over it -/
def vx_W (p : Program) (l : Launch) (e : Env) (R : Room) (s : State) (m : MethodId) (args : Array Value) (below : List Frame) (meth : Method) (c : Code) (H : Heap) (locs : List Loc) (cells slots : Nat) (Q : State → Prop) (g : JFrame) (q : Addr) : Prop :=
  ∀ T : State, T.heap = H → Stand p l e R s m args below meth c T locs cells slots → ∃ t, Steps p.tables e below ((T.setTop g).pushFrame (.throwing q)) t ∧ Q t
def vx_Run (p : Program) (l : Launch) (e : Env) (R : Room) (s : State) (m : MethodId) (args : Array Value) (below : List Frame) (meth : Method) (c : Code) (H : Heap) (locs : List Loc) (cells slots mc ms : Nat) (g : JFrame) (rest : List Value) (Qa : State → Outcome → State → Prop) (XC : String → State → State → Prop) (free : Addr → Prop) : Prop :=
  ∀ T : State, T.heap = H → Stand p l e R s m args below meth c T locs cells slots →
    (∃ (v : Option Value) (st₀ t T' : State) (L : List Loc), st₀.heap = H ∧ Stand p l e R s m args below meth c T' (locs ++ L) (cells + mc) (slots + ms) ∧ (∀ q ∈ L, free q.base) ∧ T'.heap = t.heap ∧ T'.vm = t.vm ∧ Qa st₀ (.returned v) t ∧
      Goes p e below T g T' { g with pc := g.pc + 3, stack := v.toList ++ rest }) ∨
    (∃ (q : Addr) (st₀ t T' : State) (L : List Loc) (E : String) (ce : Cell), st₀.heap = H ∧ Stand p l e R s m args below meth c T' (locs ++ L) (cells + mc) (slots + ms) ∧ (∀ z ∈ L, free z.base) ∧ T'.heap = t.heap ∧ T'.vm = t.vm ∧ XC E st₀ t ∧ t.heap[q]? = some ce ∧ ce.vm = .none ∧ s.vm.findClass E = some ce.cls ∧
      Steps p.tables e below (T.setTop g) ((T'.setTop { g with stack := rest }).pushFrame (.throwing q)))
def vx_X {S : Type} (px : S → Prop) (B : String → S → State → Prop) (A : Nat → Prop) : String → State → State → Prop := fun E st t => ∃ u : S, px u ∧ B E u t ∧ va_F A st t
section Runs
variable {p : Program} {l : Launch} {e : Env} {R : Room} {s : State} {m : MethodId} {args : Array Value} {below : List Frame} {meth : Method} {c : Code} {H : Heap} {locs : List Loc} {cells slots : Nat}
variable {y : MethodName} {bytes cc : ByteArray} {maxL nL mc ms n index : Nat} {ret : Option FieldType} {ws : List Cond} {rm : Room} {Pc : Array Value → State → Prop} {Qc : Array Value → State → Outcome → State → Prop} {XC : String → State → State → Prop} {free : Addr → Prop} {Ts : List Cond} {own C : String} {b : Addr} {As rest : List Value} {g : JFrame}
theorem vx_callBack (cb : CallB R s args own index y bytes maxL ret ws rm mc ms n) (hM : vx_Met l y ws rm Pc Qc XC mc ms free) (hbl : FrameBlind Pc) : vx_Back l R p e below s args y 3 8 (PreOf R mc ms Pc) (PostOf Qc mc ms free) (vx_Post XC mc ms free) := by
  obtain ⟨hrc, hrs, hfr, hlo, hws, hcw, -, hini, -⟩ := cb
  exact vx_back (bytes := bytes) (maxL := maxL) (ret := ret) hM hbl hrc hrs hfr hlo hws hcw (fun a' U hW => word_at hW (Or.inl (by first | rfl | simp [Cond.onTables, Cond.keeps, Cond.steady])) hini)
theorem vx_runV (S : CallFix p m c cc nL s args Ts own) (hM : vx_Met l y ws rm Pc Qc XC mc ms free) (cw : CallW R s args own C index y bytes maxL ret ws rm mc ms n) (hp : PreV s H C b Pc As)
    (hg : g.method = m) (hn : As.length = n) (hsize : g.locals.size = nL) (hstack : g.stack = As.reverse ++ .ref b :: rest) (hW : 2 * g.monitorRoom + (rest.map fun v => v.category).sum ≤ 8) (hdg : decode cc g.pc = .ok (.invokevirtual index, 3)) (hf : cells + mc ≤ R.cells ∧ slots + ms ≤ R.slots) :
    vx_Run p l e R s m args below meth c H locs cells slots mc ms g rest (Qc (Value.ref b :: As).toArray) XC free := by
  have hK : vx_Back l R p e below s args y 3 8 (PreOf R mc ms Pc) (PostOf Qc mc ms free) (vx_Post XC mc ms free) := vx_callBack cw.1 hM hp.1
  obtain ⟨⟨-, -, -, -, -, -, hcode, -, hy, hlen, hl⟩, hin, hse⟩ := cw
  obtain ⟨hx, hb, hml, ho, -⟩ := S
  obtain ⟨-, ⟨cellB, hcB, hoB, hclB⟩, hPc⟩ := hp
  intro T hT X
  rcases vx_callV X hx (C := C) (bytes := bytes) (maxL := maxL) (ret := ret) ho hl hin hse hcode hy hK (by rw [hT]; exact hcB) hoB hclB hg (hsize.trans hml.symm) (argsL := As) (rest := rest) (fun sig h => hn.trans (hlen sig h)) hstack hW (by rw [hb]; exact hdg)
    (fun vm₁ hW₁ => ⟨hf.1, hf.2, hPc (T.setVm vm₁) hT hW₁⟩) with ⟨v, vm₁, ⟨U', l2, c2, s2⟩, hW₁, X', ⟨g', mk, t, L, e1, e2, hq, h1, hL, h2, h3⟩, st⟩ | ⟨q, vm₁, ⟨U', l2, c2, s2⟩, hW₁, X', ⟨g', mk, t, L, E, ce, e1, e2, hq, hce, hcv, hcl, h1, hL, h2, h3⟩, st⟩
  · dsimp only [Pt.U, Pt.locs, Pt.cells, Pt.slots] at X' e1 e2 h1 h2 h3 st
    subst h1; subst h2; subst h3
    exact Or.inl ⟨v, (T.setVm vm₁).calling g' mk (Value.ref b :: As).toArray, t, U', L, hT, X', hL, e1, e2, hq, st⟩
  · dsimp only [Pt.U, Pt.locs, Pt.cells, Pt.slots] at X' e1 e2 h1 h2 h3 st hcl
    subst h1; subst h2; subst h3
    exact Or.inr ⟨q, (T.setVm vm₁).calling g' mk (Value.ref b :: As).toArray, t, U', L, E, ce, hT, X', hL, e1, e2, hq, hce, hcv, vx_cls hW₁ hcl, st⟩
theorem vx_runS (S : CallFix p m c cc nL s args Ts own) (hM : vx_Met l y ws rm Pc Qc XC mc ms free) (cw : CallB R s args own index y bytes maxL ret ws rm mc ms n ∧ (Cond.static y).before args s = true) (hp : PreS s H Pc As)
    (hg : g.method = m) (hn : As.length = n) (hsize : g.locals.size = nL) (hstack : g.stack = As.reverse ++ rest) (hW : 2 * g.monitorRoom + (rest.map fun v => v.category).sum ≤ 8) (hdg : decode cc g.pc = .ok (.invokestatic index, 3)) (hf : cells + mc ≤ R.cells ∧ slots + ms ≤ R.slots) :
    vx_Run p l e R s m args below meth c H locs cells slots mc ms g rest (Qc As.toArray) XC free := by
  have hK : vx_Back l R p e below s args y 3 8 (PreOf R mc ms Pc) (PostOf Qc mc ms free) (vx_Post XC mc ms free) := vx_callBack cw.1 hM hp.1
  obtain ⟨⟨-, -, -, -, -, -, hcode, hini, hy, hlen, hl⟩, hstt⟩ := cw
  obtain ⟨hx, hb, hml, ho, -⟩ := S
  intro T hT X
  rcases vx_callS X hx (bytes := bytes) (maxL := maxL) (ret := ret) ho hl hstt hini hcode hy hK hg (hsize.trans hml.symm) (argsL := As) (rest := rest) (fun sig h => hn.trans (hlen sig h)) hstack hW (by rw [hb]; exact hdg)
    (fun vm₁ hW₁ => ⟨hf.1, hf.2, hp.2 (T.setVm vm₁) hT hW₁⟩) with ⟨v, vm₁, ⟨U', l2, c2, s2⟩, hW₁, X', ⟨g', mk, t, L, e1, e2, hq, h1, hL, h2, h3⟩, st⟩ | ⟨q, vm₁, ⟨U', l2, c2, s2⟩, hW₁, X', ⟨g', mk, t, L, E, ce, e1, e2, hq, hce, hcv, hcl, h1, hL, h2, h3⟩, st⟩
  · dsimp only [Pt.U, Pt.locs, Pt.cells, Pt.slots] at X' e1 e2 h1 h2 h3 st
    subst h1; subst h2; subst h3
    exact Or.inl ⟨v, (T.setVm vm₁).calling g' mk As.toArray, t, U', L, hT, X', hL, e1, e2, hq, st⟩
  · dsimp only [Pt.U, Pt.locs, Pt.cells, Pt.slots] at X' e1 e2 h1 h2 h3 st hcl
    subst h1; subst h2; subst h3
    exact Or.inr ⟨q, (T.setVm vm₁).calling g' mk As.toArray, t, U', L, E, ce, hT, X', hL, e1, e2, hq, hce, hcv, vx_cls hW₁ hcl, st⟩
end Runs
section Rows
variable {p : Program} {l : Launch} {e : Env} {R : Room} {s : State} {m : MethodId} {args : Array Value} {below : List Frame} {meth : Method} {c : Code} {H : Heap} {locs : List Loc} {cells slots : Nat} {Q : State → Prop}
variable {mc ms : Nat} {free : Addr → Prop} {A0 A1 : Nat → Prop} {H0 : Heap} {a : Array Value} {pc : Nat} {ls : Array Slot} {st0 rest : List Value}
theorem vx_keep {st₀ t T' : State} {L : List Loc} (h0 : st₀.heap = H) (e1 : T'.heap = t.heap) (hS : va_S A0 H0 H locs) (hA : ∀ q, q < H.size → A1 q → A0 q) (hf : ∀ q, free q → A0 q) (hL : ∀ q ∈ L, free q.base) (hF : va_F A1 st₀ t) :
    H.size ≤ T'.heap.size ∧ (∀ q : Nat, q < H.size → ¬ A1 q → T'.heap[q]? = H[q]?) ∧ va_S A0 H0 T'.heap (locs ++ L) := by
  obtain ⟨hz, hk⟩ := hF
  rw [h0] at hz hk
  exact ⟨by rw [e1]; exact hz, fun q h1 h2 => by rw [e1]; exact hk q h1 h2,
    ⟨Nat.le_trans hS.1 (by rw [e1]; exact hz), fun q h1 h2 => by rw [e1, hk q (Nat.lt_of_lt_of_le h1 hS.1) (fun z => h2 (hA q (Nat.lt_of_lt_of_le h1 hS.1) z))]; exact hS.2.1 q h1 h2, fun q hq => by
      rcases List.mem_append.mp hq with h | h
      · exact hS.2.2 q h
      · exact hf _ (hL q h)⟩⟩
theorem vx_calli {S SX : Type} {post : Int32 → S → Prop} {px : SX → Prop} {B : S → State → Prop} {BX : String → SX → State → Prop} {AX : Nat → Prop} (hr : vx_Run p l e R s m args below meth c H locs cells slots mc ms (F0 m pc ls st0) rest (va_Qi post B A1 a) (vx_X px BX AX) free) (hS : va_S A0 H0 H locs) (hA : ∀ q, q < H.size → A1 q → A0 q) (hf : ∀ q, free q → A0 q) (hAX : ∀ q, q < H.size → AX q → A0 q)
    (kx : ∀ (E : String) (ce : Cell) (q9 : Addr) (u : SX) (t : State) (H1 : Heap) (locs1 : List Loc), t.heap = H1 → s.vm.Alike t.vm → px u → BX E u t → H.size ≤ H1.size → (∀ q : Nat, q < H.size → ¬ AX q → H1[q]? = H[q]?) → va_S A0 H0 H1 locs1 → H1[q9]? = some ce → ce.vm = .none → s.vm.findClass E = some ce.cls → vx_W p l e R s m args below meth c H1 locs1 (cells + mc) (slots + ms) Q (F0 m pc ls rest) q9)
    (kk : ∀ (r : Int32) (u : S) (t : State) (H1 : Heap) (locs1 : List Loc), t.heap = H1 → s.vm.Alike t.vm → post r u → B u t → H.size ≤ H1.size → (∀ q : Nat, q < H.size → ¬ A1 q → H1[q]? = H[q]?) → va_S A0 H0 H1 locs1 → W p l e R s m args below meth c H1 locs1 (cells + mc) (slots + ms) Q (F0 m (pc + 3) ls (.int r :: rest))) : W p l e R s m args below meth c H locs cells slots Q (F0 m pc ls st0) := by
  intro T hT X
  rcases hr T hT X with ⟨v, st₀, t, T', L, h0, X', hL, e1, e2, ⟨⟨r, u, hv, hp, hb⟩, hF⟩, st⟩ | ⟨q, st₀, t, T', L, E, ce, h0, X', hL, e1, e2, ⟨u, hp, hb, hF⟩, hce, hcv, hcl, st⟩
  · cases hv
    obtain ⟨k1, k2, k3⟩ := vx_keep h0 e1 hS hA hf hL hF
    obtain ⟨t2, a1, b1⟩ := kk r u t T'.heap (locs ++ L) e1.symm (by rw [← e2]; exact X'.warmed.alike) hp hb k1 k2 k3 T' rfl X'
    exact ⟨t2, st t2 a1, b1⟩
  · obtain ⟨k1, k2, k3⟩ := vx_keep h0 e1 hS hAX hf hL hF
    obtain ⟨t2, a1, b1⟩ := kx E ce q u t T'.heap (locs ++ L) e1.symm (by rw [← e2]; exact X'.warmed.alike) hp hb k1 k2 k3 (by rw [e1]; exact hce) hcv hcl T' rfl X'
    exact ⟨t2, st.trans a1, b1⟩
theorem vx_calll {S SX : Type} {post : Int64 → S → Prop} {px : SX → Prop} {B : S → State → Prop} {BX : String → SX → State → Prop} {AX : Nat → Prop} (hr : vx_Run p l e R s m args below meth c H locs cells slots mc ms (F0 m pc ls st0) rest (va_Ql post B A1 a) (vx_X px BX AX) free) (hS : va_S A0 H0 H locs) (hA : ∀ q, q < H.size → A1 q → A0 q) (hf : ∀ q, free q → A0 q) (hAX : ∀ q, q < H.size → AX q → A0 q)
    (kx : ∀ (E : String) (ce : Cell) (q9 : Addr) (u : SX) (t : State) (H1 : Heap) (locs1 : List Loc), t.heap = H1 → s.vm.Alike t.vm → px u → BX E u t → H.size ≤ H1.size → (∀ q : Nat, q < H.size → ¬ AX q → H1[q]? = H[q]?) → va_S A0 H0 H1 locs1 → H1[q9]? = some ce → ce.vm = .none → s.vm.findClass E = some ce.cls → vx_W p l e R s m args below meth c H1 locs1 (cells + mc) (slots + ms) Q (F0 m pc ls rest) q9)
    (kk : ∀ (r : Int64) (u : S) (t : State) (H1 : Heap) (locs1 : List Loc), t.heap = H1 → s.vm.Alike t.vm → post r u → B u t → H.size ≤ H1.size → (∀ q : Nat, q < H.size → ¬ A1 q → H1[q]? = H[q]?) → va_S A0 H0 H1 locs1 → W p l e R s m args below meth c H1 locs1 (cells + mc) (slots + ms) Q (F0 m (pc + 3) ls (.long r :: rest))) : W p l e R s m args below meth c H locs cells slots Q (F0 m pc ls st0) := by
  intro T hT X
  rcases hr T hT X with ⟨v, st₀, t, T', L, h0, X', hL, e1, e2, ⟨⟨r, u, hv, hp, hb⟩, hF⟩, st⟩ | ⟨q, st₀, t, T', L, E, ce, h0, X', hL, e1, e2, ⟨u, hp, hb, hF⟩, hce, hcv, hcl, st⟩
  · cases hv
    obtain ⟨k1, k2, k3⟩ := vx_keep h0 e1 hS hA hf hL hF
    obtain ⟨t2, a1, b1⟩ := kk r u t T'.heap (locs ++ L) e1.symm (by rw [← e2]; exact X'.warmed.alike) hp hb k1 k2 k3 T' rfl X'
    exact ⟨t2, st t2 a1, b1⟩
  · obtain ⟨k1, k2, k3⟩ := vx_keep h0 e1 hS hAX hf hL hF
    obtain ⟨t2, a1, b1⟩ := kx E ce q u t T'.heap (locs ++ L) e1.symm (by rw [← e2]; exact X'.warmed.alike) hp hb k1 k2 k3 (by rw [e1]; exact hce) hcv hcl T' rfl X'
    exact ⟨t2, st.trans a1, b1⟩
theorem vx_callf {S SX : Type} {post : UInt32 → S → Prop} {px : SX → Prop} {B : S → State → Prop} {BX : String → SX → State → Prop} {AX : Nat → Prop} (hr : vx_Run p l e R s m args below meth c H locs cells slots mc ms (F0 m pc ls st0) rest (va_Qf post B A1 a) (vx_X px BX AX) free) (hS : va_S A0 H0 H locs) (hA : ∀ q, q < H.size → A1 q → A0 q) (hf : ∀ q, free q → A0 q) (hAX : ∀ q, q < H.size → AX q → A0 q)
    (kx : ∀ (E : String) (ce : Cell) (q9 : Addr) (u : SX) (t : State) (H1 : Heap) (locs1 : List Loc), t.heap = H1 → s.vm.Alike t.vm → px u → BX E u t → H.size ≤ H1.size → (∀ q : Nat, q < H.size → ¬ AX q → H1[q]? = H[q]?) → va_S A0 H0 H1 locs1 → H1[q9]? = some ce → ce.vm = .none → s.vm.findClass E = some ce.cls → vx_W p l e R s m args below meth c H1 locs1 (cells + mc) (slots + ms) Q (F0 m pc ls rest) q9)
    (kk : ∀ (r : UInt32) (u : S) (t : State) (H1 : Heap) (locs1 : List Loc), t.heap = H1 → s.vm.Alike t.vm → post r u → B u t → H.size ≤ H1.size → (∀ q : Nat, q < H.size → ¬ A1 q → H1[q]? = H[q]?) → va_S A0 H0 H1 locs1 → W p l e R s m args below meth c H1 locs1 (cells + mc) (slots + ms) Q (F0 m (pc + 3) ls (.float r :: rest))) : W p l e R s m args below meth c H locs cells slots Q (F0 m pc ls st0) := by
  intro T hT X
  rcases hr T hT X with ⟨v, st₀, t, T', L, h0, X', hL, e1, e2, ⟨⟨r, u, hv, hp, hb⟩, hF⟩, st⟩ | ⟨q, st₀, t, T', L, E, ce, h0, X', hL, e1, e2, ⟨u, hp, hb, hF⟩, hce, hcv, hcl, st⟩
  · cases hv
    obtain ⟨k1, k2, k3⟩ := vx_keep h0 e1 hS hA hf hL hF
    obtain ⟨t2, a1, b1⟩ := kk r u t T'.heap (locs ++ L) e1.symm (by rw [← e2]; exact X'.warmed.alike) hp hb k1 k2 k3 T' rfl X'
    exact ⟨t2, st t2 a1, b1⟩
  · obtain ⟨k1, k2, k3⟩ := vx_keep h0 e1 hS hAX hf hL hF
    obtain ⟨t2, a1, b1⟩ := kx E ce q u t T'.heap (locs ++ L) e1.symm (by rw [← e2]; exact X'.warmed.alike) hp hb k1 k2 k3 (by rw [e1]; exact hce) hcv hcl T' rfl X'
    exact ⟨t2, st.trans a1, b1⟩
theorem vx_calld {S SX : Type} {post : UInt64 → S → Prop} {px : SX → Prop} {B : S → State → Prop} {BX : String → SX → State → Prop} {AX : Nat → Prop} (hr : vx_Run p l e R s m args below meth c H locs cells slots mc ms (F0 m pc ls st0) rest (va_Qd post B A1 a) (vx_X px BX AX) free) (hS : va_S A0 H0 H locs) (hA : ∀ q, q < H.size → A1 q → A0 q) (hf : ∀ q, free q → A0 q) (hAX : ∀ q, q < H.size → AX q → A0 q)
    (kx : ∀ (E : String) (ce : Cell) (q9 : Addr) (u : SX) (t : State) (H1 : Heap) (locs1 : List Loc), t.heap = H1 → s.vm.Alike t.vm → px u → BX E u t → H.size ≤ H1.size → (∀ q : Nat, q < H.size → ¬ AX q → H1[q]? = H[q]?) → va_S A0 H0 H1 locs1 → H1[q9]? = some ce → ce.vm = .none → s.vm.findClass E = some ce.cls → vx_W p l e R s m args below meth c H1 locs1 (cells + mc) (slots + ms) Q (F0 m pc ls rest) q9)
    (kk : ∀ (r : UInt64) (u : S) (t : State) (H1 : Heap) (locs1 : List Loc), t.heap = H1 → s.vm.Alike t.vm → post r u → B u t → H.size ≤ H1.size → (∀ q : Nat, q < H.size → ¬ A1 q → H1[q]? = H[q]?) → va_S A0 H0 H1 locs1 → W p l e R s m args below meth c H1 locs1 (cells + mc) (slots + ms) Q (F0 m (pc + 3) ls (.double r :: rest))) : W p l e R s m args below meth c H locs cells slots Q (F0 m pc ls st0) := by
  intro T hT X
  rcases hr T hT X with ⟨v, st₀, t, T', L, h0, X', hL, e1, e2, ⟨⟨r, u, hv, hp, hb⟩, hF⟩, st⟩ | ⟨q, st₀, t, T', L, E, ce, h0, X', hL, e1, e2, ⟨u, hp, hb, hF⟩, hce, hcv, hcl, st⟩
  · cases hv
    obtain ⟨k1, k2, k3⟩ := vx_keep h0 e1 hS hA hf hL hF
    obtain ⟨t2, a1, b1⟩ := kk r u t T'.heap (locs ++ L) e1.symm (by rw [← e2]; exact X'.warmed.alike) hp hb k1 k2 k3 T' rfl X'
    exact ⟨t2, st t2 a1, b1⟩
  · obtain ⟨k1, k2, k3⟩ := vx_keep h0 e1 hS hAX hf hL hF
    obtain ⟨t2, a1, b1⟩ := kx E ce q u t T'.heap (locs ++ L) e1.symm (by rw [← e2]; exact X'.warmed.alike) hp hb k1 k2 k3 (by rw [e1]; exact hce) hcv hcl T' rfl X'
    exact ⟨t2, st.trans a1, b1⟩
theorem vx_callv {S SX : Type} {post : S → Prop} {px : SX → Prop} {B : S → State → Prop} {BX : String → SX → State → Prop} {AX : Nat → Prop} (hr : vx_Run p l e R s m args below meth c H locs cells slots mc ms (F0 m pc ls st0) rest (va_Qv post B A1 a) (vx_X px BX AX) free) (hS : va_S A0 H0 H locs) (hA : ∀ q, q < H.size → A1 q → A0 q) (hf : ∀ q, free q → A0 q) (hAX : ∀ q, q < H.size → AX q → A0 q)
    (kx : ∀ (E : String) (ce : Cell) (q9 : Addr) (u : SX) (t : State) (H1 : Heap) (locs1 : List Loc), t.heap = H1 → s.vm.Alike t.vm → px u → BX E u t → H.size ≤ H1.size → (∀ q : Nat, q < H.size → ¬ AX q → H1[q]? = H[q]?) → va_S A0 H0 H1 locs1 → H1[q9]? = some ce → ce.vm = .none → s.vm.findClass E = some ce.cls → vx_W p l e R s m args below meth c H1 locs1 (cells + mc) (slots + ms) Q (F0 m pc ls rest) q9)
    (kk : ∀ (u : S) (t : State) (H1 : Heap) (locs1 : List Loc), t.heap = H1 → s.vm.Alike t.vm → post u → B u t → H.size ≤ H1.size → (∀ q : Nat, q < H.size → ¬ A1 q → H1[q]? = H[q]?) → va_S A0 H0 H1 locs1 → W p l e R s m args below meth c H1 locs1 (cells + mc) (slots + ms) Q (F0 m (pc + 3) ls (rest))) : W p l e R s m args below meth c H locs cells slots Q (F0 m pc ls st0) := by
  intro T hT X
  rcases hr T hT X with ⟨v, st₀, t, T', L, h0, X', hL, e1, e2, ⟨⟨u, hv, hp, hb⟩, hF⟩, st⟩ | ⟨q, st₀, t, T', L, E, ce, h0, X', hL, e1, e2, ⟨u, hp, hb, hF⟩, hce, hcv, hcl, st⟩
  · cases hv
    obtain ⟨k1, k2, k3⟩ := vx_keep h0 e1 hS hA hf hL hF
    obtain ⟨t2, a1, b1⟩ := kk u t T'.heap (locs ++ L) e1.symm (by rw [← e2]; exact X'.warmed.alike) hp hb k1 k2 k3 T' rfl X'
    exact ⟨t2, st t2 a1, b1⟩
  · obtain ⟨k1, k2, k3⟩ := vx_keep h0 e1 hS hAX hf hL hF
    obtain ⟨t2, a1, b1⟩ := kx E ce q u t T'.heap (locs ++ L) e1.symm (by rw [← e2]; exact X'.warmed.alike) hp hb k1 k2 k3 (by rw [e1]; exact hce) hcv hcl T' rfl X'
    exact ⟨t2, st.trans a1, b1⟩
/-- caught by the row x of this method's table; the rows ahead don't take it -/
theorem vx_catch {own name : String} {E : String} {ce : Cell} {q : Addr} (hown : s.vm.findClass own = some m.cls) (pre : List ExceptionTableEntry) (x : ExceptionTableEntry) (suf : List ExceptionTableEntry) (hsplit : c.exceptionTable.toList = pre ++ x :: suf)
    (hpass : ∀ z ∈ pre, covers z pc = false ∨ (z.catchType ≠ 0 ∧ ∃ nm : String, (Cond.classLink own z.catchType nm).before args s = true ∧ va_Nc E nm s)) (hx : covers x pc = true) (h0 : x.catchType ≠ 0)
    (hlink : (Cond.classLink own x.catchType name).before args s = true) (hcast : (Cond.castable E name).before args s = true) (hcell : H[q]? = some ce) (hv : ce.vm = .none) (hcl : s.vm.findClass E = some ce.cls)
    (kk : W p l e R s m args below meth c H locs cells slots Q (F0 m x.handlerPc ls [.ref q])) : vx_W p l e R s m args below meth c H locs cells slots Q (F0 m pc ls rest) q := by
  intro T hT X
  have hpl : e.platform.magicAccessors = ({} : Platform).magicAccessors := by rw [X.admits.platform]
  obtain ⟨c3, c4, hc3, hc4, hasg⟩ := Cond.castable_spec hcast
  cases Option.some.inj (hc3.symm.trans hcl)
  obtain ⟨c5, hc5, hcl5⟩ := Cond.classLink_spec hown hlink e.platform hpl
  cases Option.some.inj (hc4.symm.trans hc5)
  obtain ⟨vm', X', st⟩ := X.thenCaughtThrough q (g := F0 m pc ls rest) rfl (Steps.refl _) (by rw [hT]; exact hcell) (by rw [hv]; rfl) (by obtain ⟨k9, h9, -⟩ := Vm.findClass_spec hcl; exact ⟨k9, h9⟩) pre x suf hsplit
    (fun z hz => by
      rcases hpass z hz with h | ⟨hz0, nm, hl1, hn1⟩
      · exact Or.inl h
      · obtain ⟨c6, hc6, hcl6⟩ := Cond.classLink_spec hown hl1 e.platform hpl
        obtain ⟨a8, b8, h1, h2, h3⟩ := hn1
        cases Option.some.inj (h1.symm.trans hcl)
        cases Option.some.inj (h2.symm.trans hc6)
        exact Or.inr ⟨hz0, _, hcl6, h3⟩) hx (Or.inr ⟨h0, c4, hcl5, hasg⟩)
  obtain ⟨t, a1, b1⟩ := kk (T.setVm vm') hT X'
  exact ⟨t, st.trans a1, b1⟩
end Rows
section Ends
variable {p : Program} {l : Launch} {e : Env} {R : Room} {s : State} {m : MethodId} {args : Array Value} {below : List Frame} {meth : Method} {c : Code} {H : Heap} {locs : List Loc} {cells slots : Nat} {Q : State → Prop}
variable {mc ms : Nat} {free : Addr → Prop} {A0 A1 : Nat → Prop} {H0 : Heap} {a : Array Value} {ls : Array Slot} {st0 rest : List Value}
variable {Qc : Array Value → State → Outcome → State → Prop} {XC : String → State → State → Prop}
/-- what a body that may throw owes at its end -/
def vx_MQ (below : List Frame) (Qc : Array Value → State → Outcome → State → Prop) (XC : String → State → State → Prop) (a : Array Value) (s : State) (mc ms : Nat) (free : Addr → Prop) : State → Prop := fun t =>
  ∃ o, t.status = .running ∧ Ended t below o ∧ vx_Q Qc XC mc ms free a s o t
theorem vx_ret {g : JFrame} {mc ms : Nat} (k : W p l e R s m args below meth c H locs cells slots (MQ below Qc args s mc ms free) g) : W p l e R s m args below meth c H locs cells slots (vx_MQ below Qc XC args s mc ms free) g := by
  intro T hT X
  obtain ⟨t, a1, o, b1, b2, b3, b4⟩ := k T hT X
  exact ⟨t, a1, o, b1, b2, Or.inl ⟨b3, b4⟩⟩
/-- not caught here: it goes on to the caller -/
theorem vx_widen {g : JFrame} {q : Addr} {k n : Nat} (h1 : cells ≤ k) (h2 : slots ≤ n) (kk : vx_W p l e R s m args below meth c H locs k n Q g q) : vx_W p l e R s m args below meth c H locs cells slots Q g q := fun T hT X => kk T hT (stand_widen X h1 h2)
theorem vx_out {pc : Nat} {E : String} {ce : Cell} {q : Addr} {mc ms : Nat} (hout : ∀ x ∈ c.exceptionTable.toList, covers x pc = false) (hlocks : meth.locks = false) (hcell : H[q]? = some ce) (hv : ce.vm = .none) (hcl : s.vm.findClass E = some ce.cls)
    (hx : ∀ t : State, t.heap = H → s.vm.Alike t.vm → XC E s t) (hf : ∀ z ∈ locs, free z.base) (hc : cells ≤ mc) (hs : slots ≤ ms) :
    vx_W p l e R s m args below meth c H locs cells slots (vx_MQ below Qc XC args s mc ms free) (F0 m pc ls rest) q := by
  intro T hT X
  obtain ⟨st1, hrun, hend, hW, hsm⟩ := X.leaveThrown q (g := F0 m pc ls rest) rfl rfl rfl hout hlocks
  have hcell9 : (T.setFrames (.throwing q :: below)).heap[q]? = some ce := by
    show T.heap[q]? = some ce
    rw [hT]; exact hcell
  exact ⟨_, st1, .threw q, hrun, hend, Or.inr ⟨q, rfl, E, ce, locs, hx _ hT hW.alike, hcell9, hv, hcl, hW, hsm.mono hc hs, hf⟩⟩
theorem vx_frame {U : State} {k n : Nat} (h : s.sameButNew ({ U with vm := s.vm } : State) locs k n) : s.heap.size ≤ U.heap.size ∧ ∀ q : Nat, q < s.heap.size → (∀ z ∈ locs, z.base ≠ q) → U.heap[q]? = s.heap[q]? := by
  obtain ⟨-, h2, -, -, -, h6⟩ := h
  refine ⟨h2, fun q hq hz => ?_⟩
  obtain ⟨c9, e1, e2, e3, e4⟩ := h6 q _ (Array.getElem?_eq_getElem hq)
  have hs : c9.slots = (s.heap[q]).slots := Array.ext_getElem? fun i => e4 i fun hm => hz _ hm rfl
  have h9 : c9 = s.heap[q] := by
    rw [hs] at e2
    exact e2
  have e5 : U.heap[q]? = some c9 := e1
  rw [e5, h9, Array.getElem?_eq_getElem hq]
/-- the words of a throw but the four that speak of the heap -/
def vx_no (w : Cond) : Bool := decide (w ≠ .isRef (.static Bundle.tN "UNASSIGNED_STACK" Bundle.steD)) && decide (w ≠ .isRef (.static Bundle.tN "SUPPRESSED_SENTINEL" Bundle.listD)) && decide (w ≠ .laysStatic Bundle.tN "UNASSIGNED_STACK" Bundle.steD) && decide (w ≠ .laysStatic Bundle.tN "SUPPRESSED_SENTINEL" Bundle.listD)
def vx_at0 (own : String) (ic : Nat) (X : String) (names : List String) : List Cond := (Bundle.ownAtoms0 own ic X names).filter vx_no
def vx_atS (own : String) (ic : Nat) (X : String) (names : List String) : List Cond := (Bundle.ownAtoms own ic X names).filter vx_no
/-- a word that the tables alone decide, or a good one -/
def vx_ot (w : Cond) : Bool := w.onTables || goodWord w
theorem vx_ot_at {args a' : Array Value} {s U : State} {w : Cond} (hW : s.WarmedH U.vm) (hvm : s.vm = U.vm) (hg : vx_ot w = true) (h : w.before args s = true) : w.before a' U = true := by
  simp only [vx_ot, Bool.or_eq_true] at hg
  rcases hg with hg | hg
  · exact va_tabs hg hvm h
  · exact word_at hW (good_of_word hg) h
/-- a list's words: the good ones out of the method's own list, the others by premises of their own -/
theorem vx_hat {args : Array Value} {s : State} {L B : List Cond} (h1 : ∀ w ∈ L.filter goodWord, w.before args s = true) (h2 : ∀ w ∈ L.filter (fun w => !goodWord w), w ∈ B) (h3 : ∀ w ∈ B, w.before args s = true) : ∀ w ∈ L, w.before args s = true := by
  intro w hw
  by_cases g : goodWord w = true
  · exact h1 w (List.mem_filter.mpr ⟨hw, g⟩)
  · refine h3 w (h2 w (List.mem_filter.mpr ⟨hw, ?_⟩))
    show (!goodWord w) = true
    cases hgw : goodWord w
    · rfl
    · exact absurd hgw g
theorem vx_c {args : Array Value} {s : State} {w : Cond} {B : List Cond} (h : w.before args s = true) (t : ∀ w ∈ B, w.before args s = true) : ∀ w' ∈ w :: B, w'.before args s = true := fun w' h' => (List.mem_cons.mp h').elim (fun e => by rw [e]; exact h) (t w')
theorem vx_n {args : Array Value} {s : State} : ∀ w ∈ ([] : List Cond), w.before args s = true := fun _ h => nomatch h
theorem vx_own {args : Array Value} {s : State} {L : List Cond} (h1 : ∀ w ∈ L.filter vx_no, w.before args s = true)
    (hU : (Cond.isRef (.static Bundle.tN "UNASSIGNED_STACK" Bundle.steD)).before args s = true) (hN : (Cond.isRef (.static Bundle.tN "SUPPRESSED_SENTINEL" Bundle.listD)).before args s = true)
    (lU : (Cond.laysStatic Bundle.tN "UNASSIGNED_STACK" Bundle.steD).before args s = true) (lN : (Cond.laysStatic Bundle.tN "SUPPRESSED_SENTINEL" Bundle.listD).before args s = true) : ∀ w ∈ L, w.before args s = true := by
  intro w hw
  by_cases e1 : w = .isRef (.static Bundle.tN "UNASSIGNED_STACK" Bundle.steD)
  · rw [e1]; exact hU
  · by_cases e2 : w = .isRef (.static Bundle.tN "SUPPRESSED_SENTINEL" Bundle.listD)
    · rw [e2]; exact hN
    · by_cases e3 : w = .laysStatic Bundle.tN "UNASSIGNED_STACK" Bundle.steD
      · rw [e3]; exact lU
      · by_cases e4 : w = .laysStatic Bundle.tN "SUPPRESSED_SENTINEL" Bundle.listD
        · rw [e4]; exact lN
        · exact h1 w (List.mem_filter.mpr ⟨hw, by unfold vx_no; rw [decide_eq_true e1, decide_eq_true e2, decide_eq_true e3, decide_eq_true e4]; rfl⟩)
/-- where a static field lies, its class's statics cell in H -/
def vx_L (C n d : String) (A : Nat → Prop) (U : State) (H : Heap) : Prop := ∃ (c : ClassId) (k : Class) (i : Nat) (f : Field) (a : Nat) (cell : Cell), U.vm.findClass C = some c ∧ U.fieldFound? C n d = some (c, k, i, f) ∧ f.isStatic = true ∧ k.statics = some a ∧ H[a]? = some cell ∧ cell.vm.isStatics = true ∧ cell.cls = c ∧ f.slot < cell.slots.size ∧ k.staticTypes[f.slot]? = some f.type ∧ ¬ A a
theorem vx_L.moved {C n d : String} {A : Nat → Prop} {u U : State} {H : Heap} (hvm : u.vm.Alike U.vm) (h : vx_L C n d A u H) : vx_L C n d A U H := by
  obtain ⟨c, k, i, f, a, cell, h1, h2, h3, h4, h5, h6, h7, h8, h9, h10⟩ := h
  obtain ⟨k', hi', he⟩ := State.fieldFound?_setVm hvm h2
  exact ⟨c, k', i, f, a, cell, by rw [hvm.findClass]; exact h1, hi', h3, by rw [he]; exact h4, h5, h6, h7, h8, by rw [he]; exact h9, h10⟩
theorem vx_L.kept {C n d : String} {A : Nat → Prop} {U : State} {H H1 : Heap} (h : vx_L C n d A U H) (hq : ∀ a : Nat, a < H.size → ¬ A a → H1[a]? = H[a]?) : vx_L C n d A U H1 := by
  obtain ⟨c, k, i, f, a, cell, h1, h2, h3, h4, h5, h6, h7, h8, h9, h10⟩ := h
  exact ⟨c, k, i, f, a, cell, h1, h2, h3, h4, by rw [hq a (Array.getElem?_eq_some_iff.mp h5).1 h10]; exact h5, h6, h7, h8, h9, h10⟩
theorem vx_L.narrow {C n d : String} {A B : Nat → Prop} {U : State} {H : Heap} (h : vx_L C n d A U H) (hAB : ∀ q, B q → A q) : vx_L C n d B U H := by
  obtain ⟨c, k, i, f, a, cell, h1, h2, h3, h4, h5, h6, h7, h8, h9, h10⟩ := h
  exact ⟨c, k, i, f, a, cell, h1, h2, h3, h4, h5, h6, h7, h8, h9, fun z => h10 (hAB _ z)⟩
theorem vx_L.word {C n d : String} {A : Nat → Prop} {s : State} {args : Array Value} (h : vx_L C n d A s s.heap) : (Cond.laysStatic C n d).before args s = true := by
  obtain ⟨c, k, i, f, a, cell, h1, h2, h3, h4, h5, h6, h7, h8, h9, -⟩ := h
  show (Cond.laysStatic C n d).holds args s none s [] = true
  exact Cond.laysStatic_of h1 h2 h3 h4 h5 h6 h7 h8 h9
/-- .. and what it holds: null or some reference -/
def vx_Zq (C n d : String) (A : Nat → Prop) (U : State) (H : Heap) : Prop := va_Zq C n d A U H ∧ vx_L C n d A U H
theorem vx_Zq.moved {C n d : String} {A : Nat → Prop} {u U : State} {H : Heap} (hvm : u.vm.Alike U.vm) (h : vx_Zq C n d A u H) : vx_Zq C n d A U H := ⟨va_Zq.moved hvm h.1, vx_L.moved hvm h.2⟩
theorem vx_Zq.kept {C n d : String} {A : Nat → Prop} {U : State} {H H1 : Heap} (h : vx_Zq C n d A U H) (hq : ∀ a : Nat, a < H.size → ¬ A a → H1[a]? = H[a]?) : vx_Zq C n d A U H1 := ⟨va_Zq.kept h.1 hq, vx_L.kept h.2 hq⟩
theorem vx_Zq.narrow {C n d : String} {A B : Nat → Prop} {U : State} {H : Heap} (h : vx_Zq C n d A U H) (hAB : ∀ q, B q → A q) : vx_Zq C n d B U H := ⟨va_Zq.narrow h.1 hAB, vx_L.narrow h.2 hAB⟩
theorem vx_Zqof {args : Array Value} {s : State} {C n d : String} {A : Nat → Prop} (hl : (Cond.laysStatic C n d).before args s = true) (hini : (Cond.initialized C).before args s = true) (h : (Cond.isRef (.static C n d)).before args s = true) (hA : ∀ a : Nat, a < s.heap.size → ¬ A a) : vx_Zq C n d A s s.heap := by
  refine ⟨va_Zqof hl hini h hA, ?_⟩
  obtain ⟨c, k, i, f, a, cell, h1, h2, h3, h4, h5, h6, h7, h8, h9⟩ := Cond.laysStatic_spec hl
  exact ⟨c, k, i, f, a, cell, h1, h2, h3, h4, h5, h6, h7, h8, h9, hA a (Array.getElem?_eq_some_iff.mp h5).1⟩
theorem vx_isRef {C n d : String} {v : Value} {A : Nat → Prop} {s : State} {args : Array Value} (h : va_Z C n d v A s s.heap) (hv : v.isRef = true) : (Cond.isRef (.static C n d)).before args s = true := by
  obtain ⟨cf, kf, fi, f, a, cell, h1, h2, h3, h4, h5, h6, h7, -⟩ := h
  have he : (Term.static C n d).eval args s none [] s = some v := by
    simp [Term.eval, State.fieldNamed?, h1, h2, h4, h5, h6, h7]
  simp only [Cond.before, Cond.holds, Cond.value, he]
  cases v <;> simp_all [Value.isRef]
theorem vx_isRefq {C n d : String} {A : Nat → Prop} {s : State} {args : Array Value} (h : va_Zq C n d A s s.heap) : (Cond.isRef (.static C n d)).before args s = true := by
  rcases h with h | ⟨t, h⟩
  · exact vx_isRef h rfl
  · exact vx_isRef h rfl
/-- the same frame, seen from here: as if the method were called anew in this heap -/
theorem vx_rebase {T : State} (X : Stand p l e R s m args below meth c T locs cells slots) {R' : Room} (hf : R'.frames ≤ R.frames) (hl : R'.locals ≤ R.locals) (hc : cells + R'.cells ≤ R.cells) (hs : slots + R'.slots ≤ R.slots) :
    Stand p l e R' ((T.setVm s.vm).setFrames (.invoking m args :: below)) m args below meth c T [] 0 0 := by
  have htop : (T.setVm s.vm).topJava?.isSome := X.here.top
  have hF : ((T.setVm s.vm).setFrames (.invoking m args :: below)).frames = .invoking m args :: below := State.frames_setFrames _ (State.cur_lt_of_top htop)
  obtain ⟨g₀, hg0⟩ := Option.isSome_iff_exists.mp htop
  obtain ⟨r, hr⟩ := State.topJava?_eq_some.mp hg0
  have hl9 : e.platform.stackLimits (T.setVm s.vm).me = e.platform.stackLimits s.me := X.limits
  have hb9 : (T.setVm s.vm).me.stackBytes = s.me.stackBytes := X.bytes
  refine ⟨X.admits, X.cas, X.clock, hF, ?_, X.hears, X.method, X.code, X.here, X.tail, X.warmed, ?_, ?_, ?_⟩
  · have h := X.room
    have hU : ((T.setVm s.vm).setFrames (.invoking m args :: below)).localsInUse = s.localsInUse := by
      rw [State.localsInUse_invoking hF (meth := meth) (c := c) X.method X.code, State.localsInUse_invoking X.frames X.method X.code]
    simp only [State.hasRoom, Bool.and_eq_true, decide_eq_true_eq] at h ⊢
    obtain ⟨⟨⟨⟨h1, h2, h3, h4, h5, h6⟩, h7⟩, h8⟩, h9⟩ := h
    rw [X.frames, List.length_cons] at h2 h3
    have q1 := X.heapSize
    have q2 := X.used
    simp only [hF, hU, List.length_cons, State.stackLimits_setFrames, State.stackBytes_setFrames, hl9, hb9]
    refine ⟨⟨⟨⟨by omega, by omega, by omega, by omega, by omega, h6⟩, ?_⟩, ?_⟩, X.book⟩
    · show T.heap.size + R'.cells ≤ e.platform.maxCells
      omega
    · show T.slotsUsed + R'.slots ≤ e.platform.maxSlots
      omega
  · rw [State.stackLimits_setFrames]; rfl
  · rw [State.stackBytes_setFrames]; rfl
  · refine ⟨?_, Nat.le_refl _, Nat.le_refl _, ?_, ?_, fun a c9 h9 => ⟨c9, h9, rfl, rfl, fun _ _ => rfl⟩⟩
    · obtain ⟨t, ht, -⟩ := State.frames_cons hr
      show T.setVm s.vm = { ((T.setVm s.vm).setFrames (.invoking m args :: below)).setFrames (T.setVm s.vm).frames with heap := T.heap, slotsUsed := T.slotsUsed }
      rw [State.setFrames_setFrames, State.setFrames_self ht]
      rfl
    · show T.slotsUsed = T.slotsUsed + ((T.heap.toList.drop T.heap.size).map (·.slots.size)).sum
      rw [List.drop_eq_nil_of_le (Nat.le_of_eq Array.length_toList)]
      rfl
    · show ((T.heap.toList.drop T.heap.size).map (·.slots.size)).sum ≤ 0
      rw [List.drop_eq_nil_of_le (Nat.le_of_eq Array.length_toList)]
      exact Nat.le_refl _
/-- 'throw new E()': new; dup; invokespecial; athrow -/
theorem vx_throw0 {cc : ByteArray} {pc : Nat} (hexec : p.tables.exec = Jvm.exec) (hb : c.code = cc) (hl : l.stackTraces = false) {own cls : String} {names : List String} {ik ic mc ms : Nat} {A : Nat → Prop}
    (hown : s.vm.findClass own = some m.cls) (hcls : Bundle.fit cls = true) (hnames : ∀ n ∈ names, Bundle.fit n = true)
    (hk : (Cond.classLink own ik cls).before args s = true) (hini : (Cond.initialized cls).before args s = true) (hat : ∀ w ∈ vx_at0 own ic cls names, w.before args s = true)
    (hgood : ∀ w ∈ Cond.classLink own ik cls :: Cond.initialized cls :: vx_at0 own ic cls names, vx_ot w = true)
    (hU : vx_Zq Bundle.tN "UNASSIGNED_STACK" Bundle.steD A s s.heap) (hN : vx_Zq Bundle.tN "SUPPRESSED_SENTINEL" Bundle.listD A s s.heap) (hS : va_S A s.heap H locs) (hsize : ls.size = c.maxLocals)
    (d0 : decode cc pc = .ok (.new ik, 3)) (d3 : decode cc (pc + 3) = .ok (.dup, 1)) (d4 : decode cc (pc + 4) = .ok (.invokespecial ic, 3)) (d7 : decode cc (pc + 7) = .ok (.athrow, 1))
    (hout : ∀ x ∈ c.exceptionTable.toList, covers x (pc + 7) = false)
    (hRframes : names.length + 3 < R.frames) (hRlocals : (rest.map fun v => v.category).sum + (13 * (names.length + 1) + 42) ≤ R.locals) (hRcells : cells + 1 ≤ R.cells) (hRslots : slots + 6 ≤ R.slots) (hlocks : meth.locks = false)
    (hx : ∀ t : State, s.vm.Alike t.vm → H.size ≤ t.heap.size → (∀ q : Nat, q < H.size → t.heap[q]? = H[q]?) → XC cls s t)
    (hf : ∀ z ∈ locs, free z.base) (hc : cells + 1 ≤ mc) (hs : slots + 6 ≤ ms) :
    W p l e R s m args below meth c H locs cells slots (vx_MQ below Qc XC args s mc ms free) (F0 m pc ls rest) := by
  intro T hT X
  have htr : e.platform.stackTraces = false := (show e.platform.stackTraces = l.stackTraces by rw [X.admits.platform]).trans hl
  have Y := vx_rebase X (R' := { frames := R.frames, locals := R.locals, cells := 1, slots := 6 }) (Nat.le_refl _) (Nat.le_refl _) hRcells hRslots
  obtain ⟨s', hA⟩ : ∃ z, z = (T.setVm s.vm).setFrames (.invoking m args :: below) := ⟨_, rfl⟩
  rw [← hA] at Y
  have hvm : s'.vm = s.vm := by rw [hA]; rfl
  have hhp : s'.heap = H := by rw [hA]; exact hT
  have hW0 : s.WarmedH s'.vm := by rw [hvm]; exact State.WarmedH.refl s
  have hat' : ∀ w ∈ vx_at0 own ic cls names, w.before args s' = true := fun w hw => vx_ot_at hW0 hvm.symm (hgood w (List.mem_cons_of_mem _ (List.mem_cons_of_mem _ hw))) (hat w hw)
  have hk' : (Cond.classLink own ik cls).before args s' = true := vx_ot_at hW0 hvm.symm (hgood _ List.mem_cons_self) hk
  have hini' : (Cond.initialized cls).before args s' = true := vx_ot_at hW0 hvm.symm (hgood _ (List.mem_cons_of_mem _ List.mem_cons_self)) hini
  have hU' : vx_Zq Bundle.tN "UNASSIGNED_STACK" Bundle.steD A s' s'.heap := by rw [hhp]; exact vx_Zq.moved hW0.alike (hU.kept hS.2.1)
  have hN' : vx_Zq Bundle.tN "SUPPRESSED_SENTINEL" Bundle.listD A s' s'.heap := by rw [hhp]; exact vx_Zq.moved hW0.alike (hN.kept hS.2.1)
  have h : ∀ w ∈ Bundle.ownAtoms0 own ic cls names, w.before args s' = true := vx_own hat' (vx_isRefq hU'.1) (vx_isRefq hN'.1) hU'.2.word hN'.2.word
  have hown' : s'.vm.findClass own = some m.cls := by rw [hvm]; exact hown
  have hins : (Cond.instantiable cls 6).before args s' = true := h _ (by simp [Bundle.ownAtoms0])
  obtain ⟨vm₁, cX, kX, hfX, hkX, -, -, X₁, st1⟩ := Y.newCold hexec (own := own) (C := cls) (index := ik) (n := 6) hown' hk' hins hini'
    (g := F0 m pc ls rest) rfl (by rw [hb]; exact d0) (Nat.le_refl _) (Nat.le_refl _)
  generalize hT1 : (T.setVm vm₁).pushCell { cls := cX, slots := kX.instanceTypes.map defaultValue, vm := .none } = T1 at X₁ st1
  have hcat : (Value.ref T.heap.size).category = 1 := rfl
  have hcellA : T1.heap[T.heap.size]? = some (freshCell cX kX) := by rw [← hT1]; exact State.heap_pushCell_size _ _
  have d3' : decode c.code (pc + 3) = .ok (.dup, 1) := by rw [hb]; exact d3
  obtain ⟨U, hsteps, hrun, hend, hW, hsame, ce, hce, hO⟩ := X₁.ctorThrow0 hexec htr (own := own) (cls := cls) (names := names) (ic := ic) hown' hcls hnames h (fun x hx => nomatch hx) hfX hkX hcellA (by rw [hhp, hT]; exact Nat.le_refl _)
    (g := { method := m, pc := pc + 4, locals := ls, stack := .ref T.heap.size :: .ref T.heap.size :: rest, locked := none }) rfl hsize rfl rfl (rest := rest) rfl
    (by rw [hb]; exact d4) (by rw [hb]; exact d7) hout hRframes (by simp only [List.map_cons, List.sum_cons, hcat]; omega) hlocks
  obtain ⟨f1, f2⟩ := vx_frame hsame
  rw [hhp] at f1 f2
  have hWs : s.WarmedH U.vm := State.WarmedH.trans hW0 hW
  have hcl : s.vm.findClass cls = some ce.cls := by
    have h9 := hO.cls
    rw [hvm] at h9
    exact h9
  have hall : s.sameButNew ({ U with vm := s.vm } : State) locs mc ms := by
    subst hA
    obtain ⟨e1, e2⟩ := hsame
    rw [State.setFrames_setFrames] at e1
    have h2 : (T.setVm s.vm).sameButNew ({ U with vm := s.vm } : State) [] (0 + 1) (0 + 6) := ⟨e1, e2⟩
    have h3 := X.same.trans h2
    rw [List.append_nil] at h3
    exact h3.mono hc hs
  refine ⟨U, ?_, .threw T.heap.size, hrun, hend, Or.inr ⟨T.heap.size, rfl, cls, ce, locs, hx U hWs.alike f1 (fun q hq => f2 q hq (fun z hz => nomatch hz)), hce, hO.vm, hcl, hWs, hall, hf⟩⟩
  refine st1 _ ?_
  show Steps p.tables e below (T1.setTop { method := m, pc := pc + 3, locals := ls, stack := .ref T.heap.size :: rest, locked := none }) _
  jvm_step X₁.here [X₁.here.top, hexec, d3', Value.category]
  exact hsteps
/-- 'throw new E("text")': new; dup; ldc; invokespecial; athrow -/
theorem vx_throwS {cc : ByteArray} {pc : Nat} (hexec : p.tables.exec = Jvm.exec) (hb : c.code = cc) (hl : l.stackTraces = false) {own cls text : String} {names : List String} {ik is ic mc ms sa : Nat} {A : Nat → Prop}
    (hown : s.vm.findClass own = some m.cls) (hcls : Bundle.fit cls = true) (hnames : ∀ n ∈ names, Bundle.fit n = true)
    (hk : (Cond.classLink own ik cls).before args s = true) (hini : (Cond.initialized cls).before args s = true) (hstr : vk_R own is text sa s) (hat : ∀ w ∈ vx_atS own ic cls names, w.before args s = true)
    (hgood : ∀ w ∈ Cond.classLink own ik cls :: Cond.initialized cls :: vx_atS own ic cls names, vx_ot w = true)
    (hU : vx_Zq Bundle.tN "UNASSIGNED_STACK" Bundle.steD A s s.heap) (hN : vx_Zq Bundle.tN "SUPPRESSED_SENTINEL" Bundle.listD A s s.heap) (hS : va_S A s.heap H locs) (hsize : ls.size = c.maxLocals)
    (d0 : decode cc pc = .ok (.new ik, 3)) (d3 : decode cc (pc + 3) = .ok (.dup, 1)) (d4 : decode cc (pc + 4) = .ok (.ldc is, 2)) (d6 : decode cc (pc + 6) = .ok (.invokespecial ic, 3)) (d9 : decode cc (pc + 9) = .ok (.athrow, 1))
    (hout : ∀ x ∈ c.exceptionTable.toList, covers x (pc + 9) = false)
    (hRframes : names.length + 3 < R.frames) (hRlocals : (rest.map fun v => v.category).sum + (13 * (names.length + 1) + 43) ≤ R.locals) (hRcells : cells + 1 ≤ R.cells) (hRslots : slots + 6 ≤ R.slots) (hlocks : meth.locks = false)
    (hx : ∀ t : State, s.vm.Alike t.vm → H.size ≤ t.heap.size → (∀ q : Nat, q < H.size → t.heap[q]? = H[q]?) → XC cls s t)
    (hf : ∀ z ∈ locs, free z.base) (hc : cells + 1 ≤ mc) (hs : slots + 6 ≤ ms) :
    W p l e R s m args below meth c H locs cells slots (vx_MQ below Qc XC args s mc ms free) (F0 m pc ls rest) := by
  intro T hT X
  have htr : e.platform.stackTraces = false := (show e.platform.stackTraces = l.stackTraces by rw [X.admits.platform]).trans hl
  have Y := vx_rebase X (R' := { frames := R.frames, locals := R.locals, cells := 1, slots := 6 }) (Nat.le_refl _) (Nat.le_refl _) hRcells hRslots
  obtain ⟨s', hA⟩ : ∃ z, z = (T.setVm s.vm).setFrames (.invoking m args :: below) := ⟨_, rfl⟩
  rw [← hA] at Y
  have hvm : s'.vm = s.vm := by rw [hA]; rfl
  have hhp : s'.heap = H := by rw [hA]; exact hT
  have hW0 : s.WarmedH s'.vm := by rw [hvm]; exact State.WarmedH.refl s
  have hat' : ∀ w ∈ vx_atS own ic cls names, w.before args s' = true := fun w hw => vx_ot_at hW0 hvm.symm (hgood w (List.mem_cons_of_mem _ (List.mem_cons_of_mem _ hw))) (hat w hw)
  have hk' : (Cond.classLink own ik cls).before args s' = true := vx_ot_at hW0 hvm.symm (hgood _ List.mem_cons_self) hk
  have hini' : (Cond.initialized cls).before args s' = true := vx_ot_at hW0 hvm.symm (hgood _ (List.mem_cons_of_mem _ List.mem_cons_self)) hini
  have hU' : vx_Zq Bundle.tN "UNASSIGNED_STACK" Bundle.steD A s' s'.heap := by rw [hhp]; exact vx_Zq.moved hW0.alike (hU.kept hS.2.1)
  have hN' : vx_Zq Bundle.tN "SUPPRESSED_SENTINEL" Bundle.listD A s' s'.heap := by rw [hhp]; exact vx_Zq.moved hW0.alike (hN.kept hS.2.1)
  have h : ∀ w ∈ Bundle.ownAtoms own ic cls names, w.before args s' = true := vx_own hat' (vx_isRefq hU'.1) (vx_isRefq hN'.1) hU'.2.word hN'.2.word
  have hown' : s'.vm.findClass own = some m.cls := by rw [hvm]; exact hown
  have hins : (Cond.instantiable cls 6).before args s' = true := h _ (by simp [Bundle.ownAtoms])
  obtain ⟨vm₁, cX, kX, hfX, hkX, -, -, X₁, st1⟩ := Y.newCold hexec (own := own) (C := cls) (index := ik) (n := 6) hown' hk' hins hini'
    (g := F0 m pc ls rest) rfl (by rw [hb]; exact d0) (Nat.le_refl _) (Nat.le_refl _)
  generalize hT1 : (T.setVm vm₁).pushCell { cls := cX, slots := kX.instanceTypes.map defaultValue, vm := .none } = T1 at X₁ st1
  have hcat : (Value.ref T.heap.size).category = 1 := rfl
  have hcellA : T1.heap[T.heap.size]? = some (freshCell cX kX) := by rw [← hT1]; exact State.heap_pushCell_size _ _
  have d3' : decode c.code (pc + 3) = .ok (.dup, 1) := by rw [hb]; exact d3
  have d4' : decode c.code (pc + 4) = .ok (.ldc is, 2) := by rw [hb]; exact d4
  have hstr' : vk_R own is text sa s' := vk_R.warm hW0 hstr
  obtain ⟨U, hsteps, hrun, hend, hW, hsame, ce, hce, hO⟩ := X₁.ctorThrowS hexec htr (own := own) (cls := cls) (names := names) (ic := ic) hown' hcls hnames h (fun x hx => nomatch hx) hfX hkX hcellA (by rw [hhp, hT]; exact Nat.le_refl _) (msg := .ref sa) rfl
    (g := { method := m, pc := pc + 6, locals := ls, stack := .ref sa :: .ref T.heap.size :: .ref T.heap.size :: rest, locked := none }) rfl hsize rfl rfl (rest := rest) rfl
    (by rw [hb]; exact d6) (by rw [hb]; exact d9) hout hRframes (by simp only [List.map_cons, List.sum_cons, hcat]; omega) hlocks
  obtain ⟨f1, f2⟩ := vx_frame hsame
  rw [hhp] at f1 f2
  have hWs : s.WarmedH U.vm := State.WarmedH.trans hW0 hW
  have hcl : s.vm.findClass cls = some ce.cls := by
    have h9 := hO.cls
    rw [hvm] at h9
    exact h9
  have hall : s.sameButNew ({ U with vm := s.vm } : State) locs mc ms := by
    subst hA
    obtain ⟨e1, e2⟩ := hsame
    rw [State.setFrames_setFrames] at e1
    have h2 : (T.setVm s.vm).sameButNew ({ U with vm := s.vm } : State) [] (0 + 1) (0 + 6) := ⟨e1, e2⟩
    have h3 := X.same.trans h2
    rw [List.append_nil] at h3
    exact h3.mono hc hs
  refine ⟨U, ?_, .threw T.heap.size, hrun, hend, Or.inr ⟨T.heap.size, rfl, cls, ce, locs, hx U hWs.alike f1 (fun q hq => f2 q hq (fun z hz => nomatch hz)), hce, hO.vm, hcl, hWs, hall, hf⟩⟩
  refine st1 _ ?_
  show Steps p.tables e below (T1.setTop { method := m, pc := pc + 3, locals := ls, stack := .ref T.heap.size :: rest, locked := none }) _
  jvm_step X₁.here [X₁.here.top, hexec, d3', Value.category]
  exact X₁.ldcString hexec (own := own) (text := text) (index := is) (a := sa) hown' hstr'.1 hstr'.2
    (g := { method := m, pc := pc + 4, locals := ls, stack := .ref T.heap.size :: .ref T.heap.size :: rest, locked := none }) rfl d4' _ hsteps
/-- 'throw new E("text")', the text by a wide index -/
theorem vx_throwSW {cc : ByteArray} {pc : Nat} (hexec : p.tables.exec = Jvm.exec) (hb : c.code = cc) (hl : l.stackTraces = false) {own cls text : String} {names : List String} {ik is ic mc ms sa : Nat} {A : Nat → Prop}
    (hown : s.vm.findClass own = some m.cls) (hcls : Bundle.fit cls = true) (hnames : ∀ n ∈ names, Bundle.fit n = true)
    (hk : (Cond.classLink own ik cls).before args s = true) (hini : (Cond.initialized cls).before args s = true) (hstr : vk_R own is text sa s) (hat : ∀ w ∈ vx_atS own ic cls names, w.before args s = true)
    (hgood : ∀ w ∈ Cond.classLink own ik cls :: Cond.initialized cls :: vx_atS own ic cls names, vx_ot w = true)
    (hU : vx_Zq Bundle.tN "UNASSIGNED_STACK" Bundle.steD A s s.heap) (hN : vx_Zq Bundle.tN "SUPPRESSED_SENTINEL" Bundle.listD A s s.heap) (hS : va_S A s.heap H locs) (hsize : ls.size = c.maxLocals)
    (d0 : decode cc pc = .ok (.new ik, 3)) (d3 : decode cc (pc + 3) = .ok (.dup, 1)) (d4 : decode cc (pc + 4) = .ok (.ldc_w is, 3)) (d7 : decode cc (pc + 7) = .ok (.invokespecial ic, 3)) (d10 : decode cc (pc + 10) = .ok (.athrow, 1))
    (hout : ∀ x ∈ c.exceptionTable.toList, covers x (pc + 10) = false)
    (hRframes : names.length + 3 < R.frames) (hRlocals : (rest.map fun v => v.category).sum + (13 * (names.length + 1) + 43) ≤ R.locals) (hRcells : cells + 1 ≤ R.cells) (hRslots : slots + 6 ≤ R.slots) (hlocks : meth.locks = false)
    (hx : ∀ t : State, s.vm.Alike t.vm → H.size ≤ t.heap.size → (∀ q : Nat, q < H.size → t.heap[q]? = H[q]?) → XC cls s t)
    (hf : ∀ z ∈ locs, free z.base) (hc : cells + 1 ≤ mc) (hs : slots + 6 ≤ ms) :
    W p l e R s m args below meth c H locs cells slots (vx_MQ below Qc XC args s mc ms free) (F0 m pc ls rest) := by
  intro T hT X
  have htr : e.platform.stackTraces = false := (show e.platform.stackTraces = l.stackTraces by rw [X.admits.platform]).trans hl
  have Y := vx_rebase X (R' := { frames := R.frames, locals := R.locals, cells := 1, slots := 6 }) (Nat.le_refl _) (Nat.le_refl _) hRcells hRslots
  obtain ⟨s', hA⟩ : ∃ z, z = (T.setVm s.vm).setFrames (.invoking m args :: below) := ⟨_, rfl⟩
  rw [← hA] at Y
  have hvm : s'.vm = s.vm := by rw [hA]; rfl
  have hhp : s'.heap = H := by rw [hA]; exact hT
  have hW0 : s.WarmedH s'.vm := by rw [hvm]; exact State.WarmedH.refl s
  have hat' : ∀ w ∈ vx_atS own ic cls names, w.before args s' = true := fun w hw => vx_ot_at hW0 hvm.symm (hgood w (List.mem_cons_of_mem _ (List.mem_cons_of_mem _ hw))) (hat w hw)
  have hk' : (Cond.classLink own ik cls).before args s' = true := vx_ot_at hW0 hvm.symm (hgood _ List.mem_cons_self) hk
  have hini' : (Cond.initialized cls).before args s' = true := vx_ot_at hW0 hvm.symm (hgood _ (List.mem_cons_of_mem _ List.mem_cons_self)) hini
  have hU' : vx_Zq Bundle.tN "UNASSIGNED_STACK" Bundle.steD A s' s'.heap := by rw [hhp]; exact vx_Zq.moved hW0.alike (hU.kept hS.2.1)
  have hN' : vx_Zq Bundle.tN "SUPPRESSED_SENTINEL" Bundle.listD A s' s'.heap := by rw [hhp]; exact vx_Zq.moved hW0.alike (hN.kept hS.2.1)
  have h : ∀ w ∈ Bundle.ownAtoms own ic cls names, w.before args s' = true := vx_own hat' (vx_isRefq hU'.1) (vx_isRefq hN'.1) hU'.2.word hN'.2.word
  have hown' : s'.vm.findClass own = some m.cls := by rw [hvm]; exact hown
  have hins : (Cond.instantiable cls 6).before args s' = true := h _ (by simp [Bundle.ownAtoms])
  obtain ⟨vm₁, cX, kX, hfX, hkX, -, -, X₁, st1⟩ := Y.newCold hexec (own := own) (C := cls) (index := ik) (n := 6) hown' hk' hins hini'
    (g := F0 m pc ls rest) rfl (by rw [hb]; exact d0) (Nat.le_refl _) (Nat.le_refl _)
  generalize hT1 : (T.setVm vm₁).pushCell { cls := cX, slots := kX.instanceTypes.map defaultValue, vm := .none } = T1 at X₁ st1
  have hcat : (Value.ref T.heap.size).category = 1 := rfl
  have hcellA : T1.heap[T.heap.size]? = some (freshCell cX kX) := by rw [← hT1]; exact State.heap_pushCell_size _ _
  have d3' : decode c.code (pc + 3) = .ok (.dup, 1) := by rw [hb]; exact d3
  have d4' : decode c.code (pc + 4) = .ok (.ldc_w is, 3) := by rw [hb]; exact d4
  have hstr' : vk_R own is text sa s' := vk_R.warm hW0 hstr
  obtain ⟨U, hsteps, hrun, hend, hW, hsame, ce, hce, hO⟩ := X₁.ctorThrowS hexec htr (own := own) (cls := cls) (names := names) (ic := ic) hown' hcls hnames h (fun x hx => nomatch hx) hfX hkX hcellA (by rw [hhp, hT]; exact Nat.le_refl _) (msg := .ref sa) rfl
    (g := { method := m, pc := pc + 7, locals := ls, stack := .ref sa :: .ref T.heap.size :: .ref T.heap.size :: rest, locked := none }) rfl hsize rfl rfl (rest := rest) rfl
    (by rw [hb]; exact d7) (by rw [hb]; exact d10) hout hRframes (by simp only [List.map_cons, List.sum_cons, hcat]; omega) hlocks
  obtain ⟨f1, f2⟩ := vx_frame hsame
  rw [hhp] at f1 f2
  have hWs : s.WarmedH U.vm := State.WarmedH.trans hW0 hW
  have hcl : s.vm.findClass cls = some ce.cls := by
    have h9 := hO.cls
    rw [hvm] at h9
    exact h9
  have hall : s.sameButNew ({ U with vm := s.vm } : State) locs mc ms := by
    subst hA
    obtain ⟨e1, e2⟩ := hsame
    rw [State.setFrames_setFrames] at e1
    have h2 : (T.setVm s.vm).sameButNew ({ U with vm := s.vm } : State) [] (0 + 1) (0 + 6) := ⟨e1, e2⟩
    have h3 := X.same.trans h2
    rw [List.append_nil] at h3
    exact h3.mono hc hs
  refine ⟨U, ?_, .threw T.heap.size, hrun, hend, Or.inr ⟨T.heap.size, rfl, cls, ce, locs, hx U hWs.alike f1 (fun q hq => f2 q hq (fun z hz => nomatch hz)), hce, hO.vm, hcl, hWs, hall, hf⟩⟩
  refine st1 _ ?_
  show Steps p.tables e below (T1.setTop { method := m, pc := pc + 3, locals := ls, stack := .ref T.heap.size :: rest, locked := none }) _
  jvm_step X₁.here [X₁.here.top, hexec, d3', Value.category]
  exact X₁.ldcStringW hexec (own := own) (text := text) (index := is) (a := sa) hown' hstr'.1 hstr'.2
    (g := { method := m, pc := pc + 4, locals := ls, stack := .ref T.heap.size :: .ref T.heap.size :: rest, locked := none }) rfl d4' _ hsteps
end Ends
section Bodies
variable {l : Launch}
theorem vx_ofW {y : MethodName} {ws ws' : List Cond} {rm : Room} {Pc : Array Value → State → Prop} {Qc : Array Value → State → Outcome → State → Prop} {XC : String → State → State → Prop} {mc ms : Nat} {free : Addr → Prop} {cc : ByteArray} {maxL : Nat} {ret : Option FieldType}
    (hy : plainName y.cls = true) (hw : ws = Cond.code y cc maxL ret :: ws')
    (body : ∀ p e s m args below meth c s₁, BodyLoose p l y (headSpec ws rm) cc maxL ret e s m args below meth c s₁ → c.maxLocals = maxL → (∀ x ∈ c.exceptionTable.toList, False) → Pc args s →
      W p l e (headSpec ws rm).room s m args below meth c s.heap [] 0 0 (vx_MQ below Qc XC args s mc ms free) (entryFrame m args maxL)) : vx_Met l y ws rm Pc Qc XC mc ms free := by
  refine MetFree.of_bodyS (code := cc) (maxLocals := maxL) (ret := ret) hy ?_ ?_
  · intro args s m h hn
    obtain ⟨meth, c, h1, h2, h3, h4, h5, h6, -, -⟩ := Cond.code_spec hn (atoms_spec (ws := ws) h _ (by rw [hw]; exact List.mem_cons_self))
    exact ⟨meth, c, h1, h2, h3, h4, h5, h6⟩
  · intro p e s m args below meth c s₁ B hml hP _
    have hh0 : s₁.heap = s.heap := by rw [B.state]; rfl
    have ht : ∀ x ∈ c.exceptionTable.toList, False := by
      obtain ⟨meth9, c9, h1, h2, -, -, -, -, h7, -⟩ := Cond.code_spec B.named (atoms_spec (ws := ws) B.pre _ (by rw [hw]; exact List.mem_cons_self))
      cases Option.some.inj (h1.symm.trans B.method)
      cases Option.some.inj (h2.symm.trans (Stand.of_body B).code)
      intro x hx
      rw [Array.isEmpty_iff.mp h7] at hx
      cases hx
    obtain ⟨t, a1, o, b1, b2, b3⟩ := body p e s m args below meth c s₁ B hml ht hP s₁ hh0 (Stand.of_body B)
    exact ⟨t, o, a1, b1, b2, b3⟩
/-- the table of a body with handlers -/
theorem vx_table {p : Program} {x y : MethodName} {S : Spec} {cc bytes : ByteArray} {maxL maxL' : Nat} {ret ret' : Option FieldType} {e : Env} {s s₁ : State} {m : MethodId} {args : Array Value} {below : List Frame} {meth : Method} {c : Code} {hh : List (Nat × Nat × Nat × Nat)}
    (B : BodyLoose p l y S cc maxL ret e s m args below meth c s₁) (h : (Cond.codeWith y bytes maxL' ret' hh).before args s = true) : c.exceptionTable.toList = tableOf hh := by
  obtain ⟨m9, meth9, c9, hn9, h1, h2, -, -, h6, -⟩ := Cond.codeWith_spec h
  cases Option.some.inj (hn9.symm.trans B.named)
  cases Option.some.inj (h1.symm.trans B.method)
  cases Option.some.inj (h2.symm.trans (Stand.of_body B).code)
  rw [← h6, table_eq]
end Bodies
end VXA
/-! ===== END ===== -/
/-! ===== BEGIN a static call of a method with an exception table ===== -/
section VXS
variable {p : Program} {l : Launch} {e : Env} {R : Room} {s : State} {m : MethodId} {args : Array Value} {below : List Frame} {meth : Method} {c : Code} {T : State} {H : Heap} {locs : List Loc} {cells slots : Nat}
abbrev vx_CSW (R : Room) (s : State) (args : Array Value) (own : String) (index : Nat) (y : MethodName) (bytes : ByteArray) (maxL : Nat) (ret : Option FieldType) (hh : List (Nat × Nat × Nat × Nat)) (ws : List Cond) (rm : Room) (mc ms n : Nat) : Prop :=
  (rm.cells = mc ∧ rm.slots = ms ∧ rm.frames + 1 ≤ R.frames ∧ 8 + (maxL + 11) + rm.locals ≤ R.locals ∧ (∀ w ∈ ws, ∀ (a' : Array Value) (U : State), s.WarmedH U.vm → w.before a' U = true) ∧ Cond.codeWith y bytes maxL ret hh ∈ ws) ∧
  (Cond.codeWith y bytes maxL ret hh).before args s = true ∧ (Cond.initialized y.cls).before args s = true ∧ (y.cls ≠ "java/lang/invoke/MethodHandle" ∧ y.cls ≠ "java/lang/invoke/VarHandle") ∧
  (∀ sig, parseMethodDescriptor y.desc = some sig → n = sig.parameters.length) ∧ (Cond.methodLink own index y).before args s = true ∧ (Cond.static y).before args s = true
theorem vx_cwSW {own : String} {index maxL mc ms : Nat} {y : MethodName} {bytes : ByteArray} {ret : Option FieldType} {hh : List (Nat × Nat × Nat × Nat)} {Ts ws ws' : List Cond} {rm : Room} (n : Nat) (ht : ∀ w ∈ Ts, w.before args s = true) (hT : GoodIn Ts (va_wsS own index y ws)) (hw : ws = Cond.codeWith y bytes maxL ret hh :: ws') (hrc : rm.cells = mc) (hrs : rm.slots = ms)
    (hd : y.cls ≠ "java/lang/invoke/MethodHandle" ∧ y.cls ≠ "java/lang/invoke/VarHandle" ∧ (parseMethodDescriptor y.desc).map (fun d => d.parameters.length) = some n) (hR : rm.frames + 1 ≤ R.frames ∧ 8 + (maxL + 11) + rm.locals ≤ R.locals) :
    vx_CSW R s args own index y bytes maxL ret hh ws rm mc ms n := by
  have ok : ∀ w ∈ va_wsS own index y ws, w.before args s = true := fun w h => ht w (hT w h).1
  have hG : GoodIn Ts ws := fun w h => hT w (by unfold va_wsS; exact List.mem_append_right _ h)
  have hc : Cond.codeWith y bytes maxL ret hh ∈ ws := by rw [hw]; exact List.mem_cons_self
  refine ⟨⟨hrc, hrs, hR.1, hR.2, pay_in ht hG, hc⟩, ht _ (hG _ hc).1, ok _ (by simp [va_wsS]), ⟨hd.1, hd.2.1⟩, fun sig h => ?_, ok _ (by simp [va_wsS]), ok _ (by simp [va_wsS])⟩
  have h2 := hd.2.2
  rw [h] at h2
  exact (Option.some.inj h2).symm
theorem vx_callSW (X : Stand p l e R s m args below meth c T locs cells slots) (hexec : p.tables.exec = Jvm.exec) {own : String} {index : Nat} {y : MethodName} {bytes : ByteArray} {maxL : Nat} {ret : Option FieldType} {hh : List (Nat × Nat × Nat × Nat)}
    (hown : s.vm.findClass own = some m.cls) (hlink : (Cond.methodLink own index y).before args s = true) (hstat : (Cond.static y).before args s = true) (hinit : (Cond.initialized y.cls).before args s = true)
    (hcode : (Cond.codeWith y bytes maxL ret hh).before args s = true) (hy : y.cls ≠ "java/lang/invoke/MethodHandle" ∧ y.cls ≠ "java/lang/invoke/VarHandle")
    {W9 : Nat} {Pre : Pt → Array Value → Prop} {Post : Pt → Array Value → Option Value → Pt → Prop} (hK : Back l R p e below s args y 3 W9 Pre Post)
    {g : JFrame} (hg : g.method = m) (hsize : g.locals.size = c.maxLocals) {argsL rest : List Value} (hlen : ∀ sig, parseMethodDescriptor y.desc = some sig → argsL.length = sig.parameters.length)
    (hstack : g.stack = argsL.reverse ++ rest) (hW : 2 * g.monitorRoom + (rest.map fun v => v.category).sum ≤ W9) (hdg : decode c.code g.pc = .ok (.invokestatic index, 3))
    (hpre : ∀ vm₁, s.WarmedH vm₁ → Pre ⟨T.setVm vm₁, locs, cells, slots⟩ argsL.toArray) :
    ∃ (v : Option Value) (vm₁ : Vm) (B : Pt), s.WarmedH vm₁ ∧ Stand p l e R s m args below meth c B.U B.locs B.cells B.slots ∧ Post ⟨T.setVm vm₁, locs, cells, slots⟩ argsL.toArray v B ∧
      ∀ target, Steps p.tables e below (B.U.setTop { g with pc := g.pc + 3, stack := v.toList ++ rest }) target → Steps p.tables e below (T.setTop g) target := by
  obtain ⟨mk, methM, cM, hnamed, hmethM, -, -, -, -, -, -, hsigM⟩ := Cond.codeWith_spec hcode
  have hstatic : methM.isStatic = true := Cond.static_spec hnamed hmethM hstat
  obtain ⟨kP, hkP, -⟩ := className_of_methodNamed hnamed
  have hinitP : kP.init = .initialized := Cond.initialized_spec (findClass_of_methodNamed hnamed) hkP hinit
  obtain ⟨vm₁, X₁, hstep₁⟩ := X.invokestatic hexec hown hlink hnamed hmethM hstatic hkP hinitP hy (g := g) hg (argsL := argsL) (rest := rest) (hlen _ hsigM) hstack hdg
  obtain ⟨v, B, X', hpost, hsteps⟩ := hK m meth c ⟨T.setVm vm₁, locs, cells, slots⟩ { g with stack := rest } (.invokestatic index) mk argsL.toArray X₁ hg hsize hdg hW (X₁.named hnamed) (hpre vm₁ X₁.warmed)
  exact ⟨v, vm₁, B, X₁.warmed, X', hpost, fun target h => hstep₁ _ fun acts => by rw [doInvoke_state]; exact hsteps.trans h⟩
theorem vx_runSW {y : MethodName} {bytes cc : ByteArray} {maxL nL mc ms n index : Nat} {ret : Option FieldType} {hh : List (Nat × Nat × Nat × Nat)} {ws : List Cond} {rm : Room} {Pc : Array Value → State → Prop} {Qc : Array Value → State → Outcome → State → Prop} {free : Addr → Prop} {Ts : List Cond} {own : String} {As rest : List Value} {g : JFrame}
    (S : CallFix p m c cc nL s args Ts own) (hM : Met l y ws rm Pc Qc mc ms free) (cw : vx_CSW R s args own index y bytes maxL ret hh ws rm mc ms n) (hp : PreS s H Pc As)
    (hg : g.method = m) (hn : As.length = n) (hsize : g.locals.size = nL) (hstack : g.stack = As.reverse ++ rest) (hW : 2 * g.monitorRoom + (rest.map fun v => v.category).sum ≤ 8) (hdg : decode cc g.pc = .ok (.invokestatic index, 3)) (hf : cells + mc ≤ R.cells ∧ slots + ms ≤ R.slots) :
    va_Run p l e R s m args below meth c H locs cells slots mc ms g rest (Qc As.toArray) (free) := by
  obtain ⟨⟨hrc, hrs, hfr, hlo, hws, hcw⟩, hcode, hini, hy, hlen, hl, hstt⟩ := cw
  have hK : Back l R p e below s args y 3 8 (PreOf R mc ms Pc) (PostOf Qc mc ms free) := va_backW (hh := hh) (bytes := bytes) (maxL := maxL) (ret := ret) hM hp.1 hrc hrs hfr hlo hws hcw (fun a' U hW => word_at hW (Or.inl (by first | rfl | simp [Cond.onTables, Cond.keeps, Cond.steady])) hini)
  obtain ⟨hx, hb, hml, ho, -⟩ := S
  intro T hT X
  obtain ⟨v, vm₁, ⟨U', l2, c2, s2⟩, hW₁, X', ⟨g', mk, t, L, e1, e2, hq, h1, hL, h2, h3⟩, st⟩ := vx_callSW X hx (hh := hh) (bytes := bytes) (maxL := maxL) (ret := ret) ho hl hstt hini hcode hy hK hg (hsize.trans hml.symm) (argsL := As) (rest := rest) (fun sig h => hn.trans (hlen sig h)) hstack hW (by rw [hb]; exact hdg)
    (fun vm₁ hW₁ => ⟨hf.1, hf.2, hp.2 (T.setVm vm₁) hT hW₁⟩)
  dsimp only [Pt.U, Pt.locs, Pt.cells, Pt.slots] at X' e1 e2 h1 h2 h3 st
  subst h1; subst h2; subst h3
  exact ⟨v, (T.setVm vm₁).calling g' mk As.toArray, t, U', L, hT, X', hL, e1, e2, hq, st⟩
/-- not caught here, past rows that name other classes: it goes on to the caller -/
theorem vx_outP {p : Program} {l : Launch} {e : Env} {R : Room} {s : State} {m : MethodId} {args : Array Value} {below : List Frame} {meth : Method} {c : Code} {H : Heap} {locs : List Loc} {cells slots : Nat} {free : Addr → Prop} {ls : Array Slot} {rest : List Value} {Qc : Array Value → State → Outcome → State → Prop} {XC : String → State → State → Prop}
    {pc : Nat} {own E : String} {ce : Cell} {q : Addr} {mc ms : Nat} (hown : s.vm.findClass own = some m.cls) (hlocks : meth.locks = false)
    (hpass : ∀ z ∈ c.exceptionTable.toList, covers z pc = false ∨ (z.catchType ≠ 0 ∧ ∃ nm : String, (Cond.classLink own z.catchType nm).before args s = true ∧ va_Nc E nm s)) (hcell : H[q]? = some ce) (hv : ce.vm = .none) (hcl : s.vm.findClass E = some ce.cls)
    (hx : ∀ t : State, t.heap = H → s.vm.Alike t.vm → XC E s t) (hf : ∀ z ∈ locs, free z.base) (hc : cells ≤ mc) (hs : slots ≤ ms) :
    vx_W p l e R s m args below meth c H locs cells slots (vx_MQ below Qc XC args s mc ms free) (F0 m pc ls rest) q := by
  intro T hT X
  have hpl : e.platform.magicAccessors = ({} : Platform).magicAccessors := by rw [X.admits.platform]
  obtain ⟨vm', hW', X', st⟩ := X.outThrough hlocks q (g := F0 m pc ls rest) rfl rfl rfl (cell := ce) (by rw [hT]; exact hcell) (by rw [hv]; rfl)
    (by obtain ⟨k9, h9, -⟩ := Vm.findClass_spec hcl; exact ⟨k9, h9⟩) (fun z hz => by
      rcases hpass z hz with h | ⟨hz0, nm, hl1, hn1⟩
      · exact Or.inl h
      · obtain ⟨c6, hc6, hcl6⟩ := Cond.classLink_spec hown hl1 e.platform hpl
        obtain ⟨a8, b8, h1, h2, h3⟩ := hn1
        cases Option.some.inj (h1.symm.trans hcl)
        cases Option.some.inj (h2.symm.trans hc6)
        exact Or.inr ⟨hz0, _, hcl6, h3⟩)
  obtain ⟨g₀, hfr⟩ := X'.frames_eq
  have hcell9 : ((T.setVm vm').setFrames (.throwing q :: below)).heap[q]? = some ce := by
    show T.heap[q]? = some ce
    rw [hT]; exact hcell
  have hend : Ended ((T.setVm vm').setFrames (.throwing q :: below)) below (.threw q) := State.frames_setFrames _ (State.cur_lt_of_frames hfr)
  refine ⟨(T.setVm vm').setFrames (.throwing q :: below), ?_, .threw q, X'.here.running, hend, Or.inr ⟨q, rfl, E, ce, locs, hx _ hT (X'.ends _).1.alike, hcell9, hv, hcl, (X'.ends _).1, (X'.ends _).2.mono hc hs, hf⟩⟩
  rw [X.pushThrowing_eq]
  exact st
/-- a thing of a world lies in the heap -/
theorem vx_lt {D : va_G} {cl : List vw_C} {ws : va_W} {H1 : Heap} (h : va_P D cl ws H1) {k : Nat} {q : Nat × va_E} (hk : ws[k]? = some q) : q.1 < H1.size := (h k q hk).lt
end VXS
/-! ===== END ===== -/
/-! ===== BEGIN methods with a table of their own: called by a name, returning or throwing ===== -/
section VXH
/-! vx_backW, vx_callVX, vx_callSX, vx_callVW, vx_runVW, vx_runVX, vx_runSX, vx_ofWH follow the same proofs as their sisters above (Free/Laws.lean, Shelf42/LK1.lean); vx_outP calls Shelf42/NT130.lean (outThrough). -/
section
variable {l : Launch} {R : Room} {p : Program} {e : Env} {below : List Frame} {s : State} {sargs : Array Value} {y : MethodName} {len W9 : Nat}
theorem vx_backW {ws : List Cond} {rm : Room} {Pc : Array Value → State → Prop} {Qc : Array Value → State → Outcome → State → Prop} {XC : String → State → State → Prop} {mc ms : Nat} {free : Addr → Prop} {bytes : ByteArray} {maxL : Nat} {ret : Option FieldType} {hh : List (Nat × Nat × Nat × Nat)}
    (hM : vx_Met l y ws rm Pc Qc XC mc ms free) (hblind : FrameBlind Pc) (hrc : rm.cells = mc) (hrs : rm.slots = ms)
    (hframes : rm.frames + 1 ≤ R.frames) (hlocals : W9 + (maxL + 11) + rm.locals ≤ R.locals)
    (hws : ∀ w ∈ ws, ∀ a' U, s.WarmedH U.vm → w.before a' U = true) (hcode : Cond.codeWith y bytes maxL ret hh ∈ ws) (hinit : ∀ a' U, s.WarmedH U.vm → (Cond.initialized y.cls).before a' U = true) :
    vx_Back l R p e below s sargs y len W9 (PreOf R mc ms Pc) (PostOf Qc mc ms free) (vx_Post XC mc ms free) := by
  intro m meth c A g ig mk a X hg hsize hdg hW hn hp
  have h1 : (headSpec ws rm).pre.before a A.U = true := atoms_intro fun w hw => hws w hw _ _ X.warmed
  have h2 : (Cond.codeWith y bytes maxL ret hh).before a A.U = true := hws _ hcode _ _ X.warmed
  have h3 : (Cond.initialized y.cls).before a A.U = true := hinit _ _ X.warmed
  have h4 : A.cells + (headSpec ws rm).room.cells ≤ R.cells := by rw [show (headSpec ws rm).room.cells = mc from hrc]; exact hp.1
  have h5 : A.slots + (headSpec ws rm).room.slots ≤ R.slots := by rw [show (headSpec ws rm).room.slots = ms from hrs]; exact hp.2.1
  have hPc : Pc a (A.U.calling g mk a) := hblind _ _ _ _ hp.2.2
  obtain ⟨U, Ls, c0, s0⟩ := A
  dsimp only [Pt.U, Pt.locs, Pt.cells, Pt.slots] at h1 h2 h3 h4 h5 X hn hPc ⊢
  obtain ⟨m9, methY, cY, hn9, hmY, hcY, -, hlY, -⟩ := Cond.codeWith_spec h2
  cases Option.some.inj (hn9.symm.trans hn)
  obtain ⟨kY, hkY, -⟩ := className_of_methodNamed hn
  have hinitY : kY.init = .initialized := Cond.initialized_spec (findClass_of_methodNamed hn) hkY h3
  have h : At U g.method c below := by rw [hg]; exact X.here
  have hlocals9 : W9 + (maxL + 11) + (headSpec ws rm).room.locals ≤ R.locals := hlocals
  have happ : (headSpec ws rm).appliesLoose y e.platform (U.calling g mk a) = true :=
    Spec.appliesLoose_calling (g := g) h hdg hn hkY hinitY
      (X.room_calling (g := g) (R' := (headSpec ws rm).room) hsize hmY hcY hframes (by rw [hlY]; omega) h4 h5) h1
  obtain ⟨mid, hmid⟩ := h.above
  have hfr : (U.setTop g).frames = (.java g :: mid) ++ below := by rw [State.frames_setTop' g h.top, hmid]; rfl
  obtain ⟨o, s₂, hsteps, -, hend, hq⟩ := Steps.callFree hM p X.admits X.cas X.clock (acts := []) hfr happ hPc trivial
  have hq' : vx_Q Qc XC mc ms free a (U.calling g mk a) o s₂ := hq
  rw [State.frames_setTop' g h.top] at hend
  obtain ⟨g₀, hg0⟩ := Option.isSome_iff_exists.mp h.top
  obtain ⟨r, hr⟩ := State.topJava?_eq_some.mp hg0
  have hr' : (({ U with heap := s₂.heap, slotsUsed := s₂.slotsUsed } : State).setVm s₂.vm).frames = .java g₀ :: r := hr
  rcases hq' with ⟨hqc, L, hfe, hL⟩ | ⟨q, rfl, E, ce, L, hx, hce, hcv, hcl, hW₂, hsm, hL⟩
  · obtain ⟨⟨v, rfl⟩, hW₂, e2, q2, q3, q4, q5, q6⟩ := id hfe
    have e3 : s₂ = ({ (U.calling g mk a).setFrames s₂.frames with heap := s₂.heap, slotsUsed := s₂.slotsUsed } : State).setVm s₂.vm := by
      have : s₂ = ({ s₂ with vm := (U.calling g mk a).vm } : State).setVm s₂.vm := rfl
      rw [e2] at this
      exact this
    obtain ⟨c₂, i₂, len₂, hc₂, hd₂, hf₂⟩ := hend
    have hW' : U.WarmedH s₂.vm := hW₂
    have hcc : c₂ = c := by
      have h1 : s₂.code? g.method = U.code? g.method := by
        rw [State.code?_eq, State.code?_eq, hW'.alike.method?]
      exact Option.some.inj (hc₂.symm.trans (h1.trans h.code))
    subst hcc
    have hlen : len₂ = len := by rw [hdg] at hd₂; cases hd₂; rfl
    subst hlen
    have hs₂ : s₂ = (({ U with heap := s₂.heap, slotsUsed := s₂.slotsUsed } : State).setVm s₂.vm).setTop { g with pc := g.pc + len₂, stack := v.toList ++ g.stack } := by
      refine e3.trans ?_
      rw [hf₂, State.calling_eq h.top, State.setFrames_setFrames, State.setTop_of_frames _ hr', hr]
      rfl
    have hsame : U.sameButNew ({ U with heap := s₂.heap, slotsUsed := s₂.slotsUsed } : State) L mc ms := by
      refine ⟨?_, q2, q3, q4, q5, q6⟩
      obtain ⟨t, ht, -⟩ := State.frames_cons hr
      show ({ U with heap := s₂.heap, slotsUsed := s₂.slotsUsed } : State) = { U.setFrames U.frames with heap := s₂.heap, slotsUsed := s₂.slotsUsed }
      rw [State.setFrames_self ht]
    subst hg
    refine Or.inl ⟨v, ⟨(({ U with heap := s₂.heap, slotsUsed := s₂.slotsUsed } : State).setVm s₂.vm), Ls ++ L, c0 + mc, s0 + ms⟩,
      ⟨X.admits, X.cas, X.clock, X.frames, X.room, X.hears, X.method, X.code, (X.here.setHeapUsed s₂.heap s₂.slotsUsed).setVm hW'.alike, X.tail, State.WarmedH.trans X.warmed hW', X.limits, X.bytes, X.same.trans (hsame.setVm s.vm)⟩,
      ⟨g, mk, s₂, L, rfl, rfl, hqc, rfl, hL, rfl, rfl⟩, ?_⟩
    show Steps p.tables e below _ ((({ U with heap := s₂.heap, slotsUsed := s₂.slotsUsed } : State).setVm s₂.vm).setTop { g with pc := g.pc + len₂, stack := v.toList ++ g.stack })
    rw [← hs₂]
    exact hsteps
  · obtain ⟨e2, q2, q3, q4, q5, q6⟩ := id hsm
    have e3 : s₂ = ({ (U.calling g mk a).setFrames s₂.frames with heap := s₂.heap, slotsUsed := s₂.slotsUsed } : State).setVm s₂.vm := by
      have : s₂ = ({ s₂ with vm := (U.calling g mk a).vm } : State).setVm s₂.vm := rfl
      rw [e2] at this
      exact this
    have hf₂ : s₂.frames = .throwing q :: .java g :: U.frames.tail := hend
    have hW' : U.WarmedH s₂.vm := hW₂
    have hs₂ : s₂ = ((({ U with heap := s₂.heap, slotsUsed := s₂.slotsUsed } : State).setVm s₂.vm).setTop g).pushFrame (.throwing q) := by
      refine e3.trans ?_
      rw [hf₂, State.calling_eq h.top, State.setFrames_setFrames, State.pushFrame, State.frames_setTop _ hr', State.setTop_of_frames _ hr', State.setFrames_setFrames, hr]
      rfl
    have hsame : U.sameButNew ({ U with heap := s₂.heap, slotsUsed := s₂.slotsUsed } : State) L mc ms := by
      refine ⟨?_, q2, q3, q4, q5, q6⟩
      obtain ⟨t, ht, -⟩ := State.frames_cons hr
      show ({ U with heap := s₂.heap, slotsUsed := s₂.slotsUsed } : State) = { U.setFrames U.frames with heap := s₂.heap, slotsUsed := s₂.slotsUsed }
      rw [State.setFrames_self ht]
    subst hg
    refine Or.inr ⟨q, ⟨(({ U with heap := s₂.heap, slotsUsed := s₂.slotsUsed } : State).setVm s₂.vm), Ls ++ L, c0 + mc, s0 + ms⟩,
      ⟨X.admits, X.cas, X.clock, X.frames, X.room, X.hears, X.method, X.code, (X.here.setHeapUsed s₂.heap s₂.slotsUsed).setVm hW'.alike, X.tail, State.WarmedH.trans X.warmed hW', X.limits, X.bytes, X.same.trans (hsame.setVm s.vm)⟩,
      ⟨g, mk, s₂, L, E, ce, rfl, rfl, hx, hce, hcv, hcl, rfl, hL, rfl, rfl⟩, ?_⟩
    show Steps p.tables e below _ (((({ U with heap := s₂.heap, slotsUsed := s₂.slotsUsed } : State).setVm s₂.vm).setTop g).pushFrame (.throwing q))
    rw [← hs₂]
    exact hsteps
end
variable {p : Program} {l : Launch} {e : Env} {R : Room} {s : State} {m : MethodId} {args : Array Value} {below : List Frame} {meth : Method} {c : Code} {T : State} {H : Heap} {locs : List Loc} {cells slots : Nat}
theorem vx_callVX (X : Stand p l e R s m args below meth c T locs cells slots) (hexec : p.tables.exec = Jvm.exec) {own C : String} {index : Nat} {y : MethodName} {bytes : ByteArray} {maxL : Nat} {ret : Option FieldType} {hh : List (Nat × Nat × Nat × Nat)}
    (hown : s.vm.findClass own = some m.cls) (hlink : (Cond.methodLink own index y).before args s = true) (hinst : (Cond.instanceMethod y).before args s = true) (hsel : (Cond.selects C y y).before args s = true)
    (hcode : (Cond.codeWith y bytes maxL ret hh).before args s = true) (hy : y.cls ≠ "java/lang/invoke/MethodHandle" ∧ y.cls ≠ "java/lang/invoke/VarHandle")
    {W9 : Nat} {Pre : Pt → Array Value → Prop} {Post : Pt → Array Value → Option Value → Pt → Prop} {PostX : Pt → Array Value → Addr → Pt → Prop} (hK : vx_Back l R p e below s args y 3 W9 Pre Post PostX)
    {b : Addr} {cellB : Cell} (hcell : T.heap[b]? = some cellB) (hobj : cellB.vm.isStatics = false) (hcls : s.vm.findClass C = some cellB.cls)
    {g : JFrame} (hg : g.method = m) (hsize : g.locals.size = c.maxLocals) {argsL rest : List Value} (hlen : ∀ sig, parseMethodDescriptor y.desc = some sig → argsL.length = sig.parameters.length)
    (hstack : g.stack = argsL.reverse ++ .ref b :: rest) (hW : 2 * g.monitorRoom + (rest.map fun v => v.category).sum ≤ W9) (hdg : decode c.code g.pc = .ok (.invokevirtual index, 3))
    (hpre : ∀ vm₁, s.WarmedH vm₁ → Pre ⟨T.setVm vm₁, locs, cells, slots⟩ (Value.ref b :: argsL).toArray) :
    (∃ (v : Option Value) (vm₁ : Vm) (B : Pt), s.WarmedH vm₁ ∧ Stand p l e R s m args below meth c B.U B.locs B.cells B.slots ∧ Post ⟨T.setVm vm₁, locs, cells, slots⟩ (Value.ref b :: argsL).toArray v B ∧
      ∀ target, Steps p.tables e below (B.U.setTop { g with pc := g.pc + 3, stack := v.toList ++ rest }) target → Steps p.tables e below (T.setTop g) target) ∨
    (∃ (q : Addr) (vm₁ : Vm) (B : Pt), s.WarmedH vm₁ ∧ Stand p l e R s m args below meth c B.U B.locs B.cells B.slots ∧ PostX ⟨T.setVm vm₁, locs, cells, slots⟩ (Value.ref b :: argsL).toArray q B ∧
      Steps p.tables e below (T.setTop g) ((B.U.setTop { g with stack := rest }).pushFrame (.throwing q))) := by
  obtain ⟨mk, methM, hnamed, hmethM, hstM, habM⟩ := Cond.instanceMethod_spec hinst
  obtain ⟨m8, methM', cM, hn8, hmethM', -, -, -, -, -, -, hsigM⟩ := Cond.codeWith_spec hcode
  cases Option.some.inj (hn8.symm.trans hnamed)
  cases hmethM.symm.trans hmethM'
  obtain ⟨c2, r2, m2, q1, q2, q3, q4, kP, hkP, hkPi⟩ := Cond.selects_spec hsel
  cases hcls.symm.trans q1
  cases (State.methodFound?_of_named hnamed hy).symm.trans q2
  cases hnamed.symm.trans q3
  have hselP : selectMethod e.platform s.vm cellB.cls mk = .method mk := by rw [Launch.admits_selectMethod X.admits]; exact q4
  obtain ⟨vm₁, X₁, hstep₁⟩ := X.invokevirtual hexec hown hlink hnamed hmethM hstM hkP hkPi hy (a := b) (cell := cellB) hcell
    (fun z h => by rw [h] at hobj; cases hobj) hselP hmethM habM hkP hkPi (g := g) hg (argsL := argsL) (rest := rest) (hlen _ hsigM) hstack hdg
  rcases hK m meth c ⟨T.setVm vm₁, locs, cells, slots⟩ { g with stack := rest } (.invokevirtual index) mk (Value.ref b :: argsL).toArray X₁ hg hsize hdg hW (X₁.named hnamed) (hpre vm₁ X₁.warmed) with ⟨v, B, X', hpost, hsteps⟩ | ⟨q, B, X', hpost, hsteps⟩
  · exact Or.inl ⟨v, vm₁, B, X₁.warmed, X', hpost, fun target h => hstep₁ _ fun acts => by rw [doInvoke_state]; exact hsteps.trans h⟩
  · exact Or.inr ⟨q, vm₁, B, X₁.warmed, X', hpost, hstep₁ _ fun acts => by rw [doInvoke_state]; exact hsteps⟩
theorem vx_callSX (X : Stand p l e R s m args below meth c T locs cells slots) (hexec : p.tables.exec = Jvm.exec) {own : String} {index : Nat} {y : MethodName} {bytes : ByteArray} {maxL : Nat} {ret : Option FieldType} {hh : List (Nat × Nat × Nat × Nat)}
    (hown : s.vm.findClass own = some m.cls) (hlink : (Cond.methodLink own index y).before args s = true) (hstat : (Cond.static y).before args s = true) (hinit : (Cond.initialized y.cls).before args s = true)
    (hcode : (Cond.codeWith y bytes maxL ret hh).before args s = true) (hy : y.cls ≠ "java/lang/invoke/MethodHandle" ∧ y.cls ≠ "java/lang/invoke/VarHandle")
    {W9 : Nat} {Pre : Pt → Array Value → Prop} {Post : Pt → Array Value → Option Value → Pt → Prop} {PostX : Pt → Array Value → Addr → Pt → Prop} (hK : vx_Back l R p e below s args y 3 W9 Pre Post PostX)
    {g : JFrame} (hg : g.method = m) (hsize : g.locals.size = c.maxLocals) {argsL rest : List Value} (hlen : ∀ sig, parseMethodDescriptor y.desc = some sig → argsL.length = sig.parameters.length)
    (hstack : g.stack = argsL.reverse ++ rest) (hW : 2 * g.monitorRoom + (rest.map fun v => v.category).sum ≤ W9) (hdg : decode c.code g.pc = .ok (.invokestatic index, 3))
    (hpre : ∀ vm₁, s.WarmedH vm₁ → Pre ⟨T.setVm vm₁, locs, cells, slots⟩ argsL.toArray) :
    (∃ (v : Option Value) (vm₁ : Vm) (B : Pt), s.WarmedH vm₁ ∧ Stand p l e R s m args below meth c B.U B.locs B.cells B.slots ∧ Post ⟨T.setVm vm₁, locs, cells, slots⟩ argsL.toArray v B ∧
      ∀ target, Steps p.tables e below (B.U.setTop { g with pc := g.pc + 3, stack := v.toList ++ rest }) target → Steps p.tables e below (T.setTop g) target) ∨
    (∃ (q : Addr) (vm₁ : Vm) (B : Pt), s.WarmedH vm₁ ∧ Stand p l e R s m args below meth c B.U B.locs B.cells B.slots ∧ PostX ⟨T.setVm vm₁, locs, cells, slots⟩ argsL.toArray q B ∧
      Steps p.tables e below (T.setTop g) ((B.U.setTop { g with stack := rest }).pushFrame (.throwing q))) := by
  obtain ⟨mk, methM, cM, hnamed, hmethM, -, -, -, -, -, -, hsigM⟩ := Cond.codeWith_spec hcode
  have hstatic : methM.isStatic = true := Cond.static_spec hnamed hmethM hstat
  obtain ⟨kP, hkP, -⟩ := className_of_methodNamed hnamed
  have hinitP : kP.init = .initialized := Cond.initialized_spec (findClass_of_methodNamed hnamed) hkP hinit
  obtain ⟨vm₁, X₁, hstep₁⟩ := X.invokestatic hexec hown hlink hnamed hmethM hstatic hkP hinitP hy (g := g) hg (argsL := argsL) (rest := rest) (hlen _ hsigM) hstack hdg
  rcases hK m meth c ⟨T.setVm vm₁, locs, cells, slots⟩ { g with stack := rest } (.invokestatic index) mk argsL.toArray X₁ hg hsize hdg hW (X₁.named hnamed) (hpre vm₁ X₁.warmed) with ⟨v, B, X', hpost, hsteps⟩ | ⟨q, B, X', hpost, hsteps⟩
  · exact Or.inl ⟨v, vm₁, B, X₁.warmed, X', hpost, fun target h => hstep₁ _ fun acts => by rw [doInvoke_state]; exact hsteps.trans h⟩
  · exact Or.inr ⟨q, vm₁, B, X₁.warmed, X', hpost, hstep₁ _ fun acts => by rw [doInvoke_state]; exact hsteps⟩
theorem vx_callVW (X : Stand p l e R s m args below meth c T locs cells slots) (hexec : p.tables.exec = Jvm.exec) {own C : String} {index : Nat} {y : MethodName} {bytes : ByteArray} {maxL : Nat} {ret : Option FieldType} {hh : List (Nat × Nat × Nat × Nat)}
    (hown : s.vm.findClass own = some m.cls) (hlink : (Cond.methodLink own index y).before args s = true) (hinst : (Cond.instanceMethod y).before args s = true) (hsel : (Cond.selects C y y).before args s = true)
    (hcode : (Cond.codeWith y bytes maxL ret hh).before args s = true) (hy : y.cls ≠ "java/lang/invoke/MethodHandle" ∧ y.cls ≠ "java/lang/invoke/VarHandle")
    {W9 : Nat} {Pre : Pt → Array Value → Prop} {Post : Pt → Array Value → Option Value → Pt → Prop} (hK : Back l R p e below s args y 3 W9 Pre Post)
    {b : Addr} {cellB : Cell} (hcell : T.heap[b]? = some cellB) (hobj : cellB.vm.isStatics = false) (hcls : s.vm.findClass C = some cellB.cls)
    {g : JFrame} (hg : g.method = m) (hsize : g.locals.size = c.maxLocals) {argsL rest : List Value} (hlen : ∀ sig, parseMethodDescriptor y.desc = some sig → argsL.length = sig.parameters.length)
    (hstack : g.stack = argsL.reverse ++ .ref b :: rest) (hW : 2 * g.monitorRoom + (rest.map fun v => v.category).sum ≤ W9) (hdg : decode c.code g.pc = .ok (.invokevirtual index, 3))
    (hpre : ∀ vm₁, s.WarmedH vm₁ → Pre ⟨T.setVm vm₁, locs, cells, slots⟩ (Value.ref b :: argsL).toArray) :
    ∃ (v : Option Value) (vm₁ : Vm) (B : Pt), s.WarmedH vm₁ ∧ Stand p l e R s m args below meth c B.U B.locs B.cells B.slots ∧ Post ⟨T.setVm vm₁, locs, cells, slots⟩ (Value.ref b :: argsL).toArray v B ∧
      ∀ target, Steps p.tables e below (B.U.setTop { g with pc := g.pc + 3, stack := v.toList ++ rest }) target → Steps p.tables e below (T.setTop g) target := by
  obtain ⟨mk, methM, hnamed, hmethM, hstM, habM⟩ := Cond.instanceMethod_spec hinst
  obtain ⟨m8, methM', cM, hn8, hmethM', -, -, -, -, -, -, hsigM⟩ := Cond.codeWith_spec hcode
  cases Option.some.inj (hn8.symm.trans hnamed)
  cases hmethM.symm.trans hmethM'
  obtain ⟨c2, r2, m2, q1, q2, q3, q4, kP, hkP, hkPi⟩ := Cond.selects_spec hsel
  cases hcls.symm.trans q1
  cases (State.methodFound?_of_named hnamed hy).symm.trans q2
  cases hnamed.symm.trans q3
  have hselP : selectMethod e.platform s.vm cellB.cls mk = .method mk := by rw [Launch.admits_selectMethod X.admits]; exact q4
  obtain ⟨vm₁, X₁, hstep₁⟩ := X.invokevirtual hexec hown hlink hnamed hmethM hstM hkP hkPi hy (a := b) (cell := cellB) hcell
    (fun z h => by rw [h] at hobj; cases hobj) hselP hmethM habM hkP hkPi (g := g) hg (argsL := argsL) (rest := rest) (hlen _ hsigM) hstack hdg
  obtain ⟨v, B, X', hpost, hsteps⟩ := hK m meth c ⟨T.setVm vm₁, locs, cells, slots⟩ { g with stack := rest } (.invokevirtual index) mk (Value.ref b :: argsL).toArray X₁ hg hsize hdg hW (X₁.named hnamed) (hpre vm₁ X₁.warmed)
  exact ⟨v, vm₁, B, X₁.warmed, X', hpost, fun target h => hstep₁ _ fun acts => by rw [doInvoke_state]; exact hsteps.trans h⟩
abbrev vx_CVW (R : Room) (s : State) (args : Array Value) (own C : String) (index : Nat) (y : MethodName) (bytes : ByteArray) (maxL : Nat) (ret : Option FieldType) (hh : List (Nat × Nat × Nat × Nat)) (ws : List Cond) (rm : Room) (mc ms n : Nat) : Prop :=
  (rm.cells = mc ∧ rm.slots = ms ∧ rm.frames + 1 ≤ R.frames ∧ 8 + (maxL + 11) + rm.locals ≤ R.locals ∧ (∀ w ∈ ws, ∀ (a' : Array Value) (U : State), s.WarmedH U.vm → w.before a' U = true) ∧ Cond.codeWith y bytes maxL ret hh ∈ ws) ∧
  (Cond.codeWith y bytes maxL ret hh).before args s = true ∧ (Cond.initialized y.cls).before args s = true ∧ (y.cls ≠ "java/lang/invoke/MethodHandle" ∧ y.cls ≠ "java/lang/invoke/VarHandle") ∧
  (∀ sig, parseMethodDescriptor y.desc = some sig → n = sig.parameters.length) ∧ (Cond.methodLink own index y).before args s = true ∧ (Cond.instanceMethod y).before args s = true ∧ (Cond.selects C y y).before args s = true
theorem vx_cwVW {own C : String} {index maxL mc ms : Nat} {y : MethodName} {bytes : ByteArray} {ret : Option FieldType} {hh : List (Nat × Nat × Nat × Nat)} {Ts ws ws' : List Cond} {rm : Room} (n : Nat) (ht : ∀ w ∈ Ts, w.before args s = true) (hT : GoodIn Ts (wsV own index C y ws)) (hw : ws = Cond.codeWith y bytes maxL ret hh :: ws') (hrc : rm.cells = mc) (hrs : rm.slots = ms)
    (hd : y.cls = C ∧ y.cls ≠ "java/lang/invoke/MethodHandle" ∧ y.cls ≠ "java/lang/invoke/VarHandle" ∧ (parseMethodDescriptor y.desc).map (fun d => d.parameters.length) = some n) (hR : rm.frames + 1 ≤ R.frames ∧ 8 + (maxL + 11) + rm.locals ≤ R.locals) :
    vx_CVW R s args own C index y bytes maxL ret hh ws rm mc ms n := by
  obtain ⟨hC, hd⟩ := hd
  subst hC
  have ok : ∀ w ∈ wsV own index y.cls y ws, w.before args s = true := fun w h => ht w (hT w h).1
  have hG : GoodIn Ts ws := fun w h => hT w (by unfold wsV; exact List.mem_append_right _ h)
  have hc : Cond.codeWith y bytes maxL ret hh ∈ ws := by rw [hw]; exact List.mem_cons_self
  refine ⟨⟨hrc, hrs, hR.1, hR.2, pay_in ht hG, hc⟩, ht _ (hG _ hc).1, ok _ (by simp [wsV]), ⟨hd.1, hd.2.1⟩, fun sig h => ?_, ok _ (by simp [wsV]), ok _ (by simp [wsV]), ok _ (by simp [wsV])⟩
  have h2 := hd.2.2
  rw [h] at h2
  exact (Option.some.inj h2).symm
theorem vx_runVW {y : MethodName} {bytes cc : ByteArray} {maxL nL mc ms n index : Nat} {ret : Option FieldType} {hh : List (Nat × Nat × Nat × Nat)} {ws : List Cond} {rm : Room} {Pc : Array Value → State → Prop} {Qc : Array Value → State → Outcome → State → Prop} {free : Addr → Prop} {Ts : List Cond} {own C : String} {b : Addr} {As rest : List Value} {g : JFrame}
    (S : CallFix p m c cc nL s args Ts own) (hM : Met l y ws rm Pc Qc mc ms free) (cw : vx_CVW R s args own C index y bytes maxL ret hh ws rm mc ms n) (hp : PreV s H C b Pc As)
    (hg : g.method = m) (hn : As.length = n) (hsize : g.locals.size = nL) (hstack : g.stack = As.reverse ++ .ref b :: rest) (hW : 2 * g.monitorRoom + (rest.map fun v => v.category).sum ≤ 8) (hdg : decode cc g.pc = .ok (.invokevirtual index, 3)) (hf : cells + mc ≤ R.cells ∧ slots + ms ≤ R.slots) :
    va_Run p l e R s m args below meth c H locs cells slots mc ms g rest (Qc (Value.ref b :: As).toArray) free := by
  obtain ⟨⟨hrc, hrs, hfr, hlo, hws, hcw⟩, hcode, hini, hy, hlen, hl, hin, hse⟩ := cw
  have hK : Back l R p e below s args y 3 8 (PreOf R mc ms Pc) (PostOf Qc mc ms free) := va_backW (hh := hh) (bytes := bytes) (maxL := maxL) (ret := ret) hM hp.1 hrc hrs hfr hlo hws hcw (fun a' U hW => word_at hW (Or.inl (by first | rfl | simp [Cond.onTables, Cond.keeps, Cond.steady])) hini)
  obtain ⟨hx, hb, hml, ho, -⟩ := S
  obtain ⟨-, ⟨cellB, hcB, hoB, hclB⟩, hPc⟩ := hp
  intro T hT X
  obtain ⟨v, vm₁, ⟨U', l2, c2, s2⟩, hW₁, X', ⟨g', mk, t, L, e1, e2, hq, h1, hL, h2, h3⟩, st⟩ := vx_callVW X hx (C := C) (hh := hh) (bytes := bytes) (maxL := maxL) (ret := ret) ho hl hin hse hcode hy hK (by rw [hT]; exact hcB) hoB hclB hg (hsize.trans hml.symm) (argsL := As) (rest := rest) (fun sig h => hn.trans (hlen sig h)) hstack hW (by rw [hb]; exact hdg)
    (fun vm₁ hW₁ => ⟨hf.1, hf.2, hPc (T.setVm vm₁) hT hW₁⟩)
  dsimp only [Pt.U, Pt.locs, Pt.cells, Pt.slots] at X' e1 e2 h1 h2 h3 st
  subst h1; subst h2; subst h3
  exact ⟨v, (T.setVm vm₁).calling g' mk (Value.ref b :: As).toArray, t, U', L, hT, X', hL, e1, e2, hq, st⟩
section
variable {y : MethodName} {bytes cc : ByteArray} {maxL nL mc ms n index : Nat} {ret : Option FieldType} {ws : List Cond} {rm : Room} {Pc : Array Value → State → Prop} {Qc : Array Value → State → Outcome → State → Prop} {XC : String → State → State → Prop} {free : Addr → Prop} {Ts : List Cond} {own C : String} {b : Addr} {As rest : List Value} {g : JFrame}
theorem vx_runVX {hh : List (Nat × Nat × Nat × Nat)} (S : CallFix p m c cc nL s args Ts own) (hM : vx_Met l y ws rm Pc Qc XC mc ms free) (cw : vx_CVW R s args own C index y bytes maxL ret hh ws rm mc ms n) (hp : PreV s H C b Pc As)
    (hg : g.method = m) (hn : As.length = n) (hsize : g.locals.size = nL) (hstack : g.stack = As.reverse ++ .ref b :: rest) (hW : 2 * g.monitorRoom + (rest.map fun v => v.category).sum ≤ 8) (hdg : decode cc g.pc = .ok (.invokevirtual index, 3)) (hf : cells + mc ≤ R.cells ∧ slots + ms ≤ R.slots) :
    vx_Run p l e R s m args below meth c H locs cells slots mc ms g rest (Qc (Value.ref b :: As).toArray) XC free := by
  obtain ⟨⟨hrc, hrs, hfr, hlo, hws, hcw⟩, hcode, hini, hy, hlen, hl, hin, hse⟩ := cw
  have hK : vx_Back l R p e below s args y 3 8 (PreOf R mc ms Pc) (PostOf Qc mc ms free) (vx_Post XC mc ms free) := vx_backW (hh := hh) (bytes := bytes) (maxL := maxL) (ret := ret) hM hp.1 hrc hrs hfr hlo hws hcw (fun a' U hW => word_at hW (Or.inl (by first | rfl | simp [Cond.onTables, Cond.keeps, Cond.steady])) hini)
  obtain ⟨hx, hb, hml, ho, -⟩ := S
  obtain ⟨-, ⟨cellB, hcB, hoB, hclB⟩, hPc⟩ := hp
  intro T hT X
  rcases vx_callVX X hx (C := C) (hh := hh) (bytes := bytes) (maxL := maxL) (ret := ret) ho hl hin hse hcode hy hK (by rw [hT]; exact hcB) hoB hclB hg (hsize.trans hml.symm) (argsL := As) (rest := rest) (fun sig h => hn.trans (hlen sig h)) hstack hW (by rw [hb]; exact hdg)
    (fun vm₁ hW₁ => ⟨hf.1, hf.2, hPc (T.setVm vm₁) hT hW₁⟩) with ⟨v, vm₁, ⟨U', l2, c2, s2⟩, hW₁, X', ⟨g', mk, t, L, e1, e2, hq, h1, hL, h2, h3⟩, st⟩ | ⟨q, vm₁, ⟨U', l2, c2, s2⟩, hW₁, X', ⟨g', mk, t, L, E, ce, e1, e2, hq, hce, hcv, hcl, h1, hL, h2, h3⟩, st⟩
  · dsimp only [Pt.U, Pt.locs, Pt.cells, Pt.slots] at X' e1 e2 h1 h2 h3 st
    subst h1; subst h2; subst h3
    exact Or.inl ⟨v, (T.setVm vm₁).calling g' mk (Value.ref b :: As).toArray, t, U', L, hT, X', hL, e1, e2, hq, st⟩
  · dsimp only [Pt.U, Pt.locs, Pt.cells, Pt.slots] at X' e1 e2 h1 h2 h3 st hcl
    subst h1; subst h2; subst h3
    exact Or.inr ⟨q, (T.setVm vm₁).calling g' mk (Value.ref b :: As).toArray, t, U', L, E, ce, hT, X', hL, e1, e2, hq, hce, hcv, vx_cls hW₁ hcl, st⟩
theorem vx_runSX {hh : List (Nat × Nat × Nat × Nat)} (S : CallFix p m c cc nL s args Ts own) (hM : vx_Met l y ws rm Pc Qc XC mc ms free) (cw : vx_CSW R s args own index y bytes maxL ret hh ws rm mc ms n) (hp : PreS s H Pc As)
    (hg : g.method = m) (hn : As.length = n) (hsize : g.locals.size = nL) (hstack : g.stack = As.reverse ++ rest) (hW : 2 * g.monitorRoom + (rest.map fun v => v.category).sum ≤ 8) (hdg : decode cc g.pc = .ok (.invokestatic index, 3)) (hf : cells + mc ≤ R.cells ∧ slots + ms ≤ R.slots) :
    vx_Run p l e R s m args below meth c H locs cells slots mc ms g rest (Qc As.toArray) XC free := by
  obtain ⟨⟨hrc, hrs, hfr, hlo, hws, hcw⟩, hcode, hini, hy, hlen, hl, hstt⟩ := cw
  have hK : vx_Back l R p e below s args y 3 8 (PreOf R mc ms Pc) (PostOf Qc mc ms free) (vx_Post XC mc ms free) := vx_backW (hh := hh) (bytes := bytes) (maxL := maxL) (ret := ret) hM hp.1 hrc hrs hfr hlo hws hcw (fun a' U hW => word_at hW (Or.inl (by first | rfl | simp [Cond.onTables, Cond.keeps, Cond.steady])) hini)
  obtain ⟨hx, hb, hml, ho, -⟩ := S
  intro T hT X
  rcases vx_callSX X hx (hh := hh) (bytes := bytes) (maxL := maxL) (ret := ret) ho hl hstt hini hcode hy hK hg (hsize.trans hml.symm) (argsL := As) (rest := rest) (fun sig h => hn.trans (hlen sig h)) hstack hW (by rw [hb]; exact hdg)
    (fun vm₁ hW₁ => ⟨hf.1, hf.2, hp.2 (T.setVm vm₁) hT hW₁⟩) with ⟨v, vm₁, ⟨U', l2, c2, s2⟩, hW₁, X', ⟨g', mk, t, L, e1, e2, hq, h1, hL, h2, h3⟩, st⟩ | ⟨q, vm₁, ⟨U', l2, c2, s2⟩, hW₁, X', ⟨g', mk, t, L, E, ce, e1, e2, hq, hce, hcv, hcl, h1, hL, h2, h3⟩, st⟩
  · dsimp only [Pt.U, Pt.locs, Pt.cells, Pt.slots] at X' e1 e2 h1 h2 h3 st
    subst h1; subst h2; subst h3
    exact Or.inl ⟨v, (T.setVm vm₁).calling g' mk As.toArray, t, U', L, hT, X', hL, e1, e2, hq, st⟩
  · dsimp only [Pt.U, Pt.locs, Pt.cells, Pt.slots] at X' e1 e2 h1 h2 h3 st hcl
    subst h1; subst h2; subst h3
    exact Or.inr ⟨q, (T.setVm vm₁).calling g' mk As.toArray, t, U', L, E, ce, hT, X', hL, e1, e2, hq, hce, hcv, vx_cls hW₁ hcl, st⟩
end
end VXH
theorem vx_ofWH {l : Launch} {y : MethodName} {ws ws' : List Cond} {rm : Room} {Pc : Array Value → State → Prop} {Qc : Array Value → State → Outcome → State → Prop} {XC : String → State → State → Prop} {mc ms : Nat} {free : Addr → Prop} {cc : ByteArray} {maxL : Nat} {ret : Option FieldType} {hh : List (Nat × Nat × Nat × Nat)}
    (hy : plainName y.cls = true) (hw : ws = Cond.codeWith y cc maxL ret hh :: ws')
    (body : ∀ p e s m args below meth c s₁, BodyLoose p l y (headSpec ws rm) cc maxL ret e s m args below meth c s₁ → c.maxLocals = maxL → Pc args s →
      W p l e (headSpec ws rm).room s m args below meth c s.heap [] 0 0 (vx_MQ below Qc XC args s mc ms free) (entryFrame m args maxL)) : vx_Met l y ws rm Pc Qc XC mc ms free := by
  refine MetFree.of_bodyS (code := cc) (maxLocals := maxL) (ret := ret) hy ?_ ?_
  · intro args s m h hn
    obtain ⟨m9, meth, c, hn9, h1, h2, h3, h4, -, h5, h6, -⟩ := Cond.codeWith_spec (atoms_spec (ws := ws) h _ (by rw [hw]; exact List.mem_cons_self))
    cases hn.symm.trans hn9
    exact ⟨meth, c, h1, h2, h3, h4, h5, h6⟩
  · intro p e s m args below meth c s₁ B hml hP _
    have hh0 : s₁.heap = s.heap := by rw [B.state]; rfl
    obtain ⟨t, a1, o, b1, b2, b3⟩ := body p e s m args below meth c s₁ B hml hP s₁ hh0 (Stand.of_body B)
    exact ⟨t, o, a1, b1, b2, b3⟩
/-! ===== END ===== -/
end
section
/-! ===== BEGIN printed: names, fields, word lists, decode rows ===== -/
def RX0 : String := "MarbleRamps$Machine"
def TX0 : u_T := fun k => match k with
  | 0 => ("MarbleRamps$Machine", "parts", "[I", true)
  | 1 => ("MarbleRamps$Machine", "periods", "[I", true)
  | 2 => ("MarbleRamps$Machine", "states", "[I", true)
  | 3 => ("MarbleRamps$Machine", "bins", "[I", true)
  | 4 => ("MarbleRamps$Machine", "hopperColumns", "[I", true)
  | 5 => ("MarbleRamps$Machine", "hopperMarbles", "[I", true)
  | 6 => ("MarbleRamps$Machine", "columnCount", "I", false)
  | 7 => ("MarbleRamps$Machine", "rowCount", "I", false)
  | _ => ("MarbleRamps$Machine", "lostCount", "I", false)
def tyX0 : Nat → FieldType := fun k => match k with
  | 0 => .array .int
  | 1 => .array .int
  | 2 => .array .int
  | 3 => .array .int
  | 4 => .array .int
  | 5 => .array .int
  | 6 => .int
  | 7 => .int
  | _ => .int
abbrev wsX00 : List Cond := u_ws RX0 TX0 9
theorem nmX0 : ∀ a, a < 9 → ∀ b, b < 9 → a ≠ b → (TX0 a).2.1 ≠ (TX0 b).2.1 := by decide +kernel
theorem tyX0_ok : ∀ k, k < 9 → parseFieldDescriptor (TX0 k).2.2.1 = some (tyX0 k) := by decide +kernel
abbrev cX0_init : ByteArray := prog_2_method_1_code
def yX0_init : MethodName := ⟨RX0, "<init>", "()V"⟩
abbrev cX0_layBoard : ByteArray := prog_2_method_2_code
def yX0_layBoard : MethodName := ⟨RX0, "layBoard", "(II)V"⟩
abbrev cX0_becomeLike : ByteArray := prog_2_method_3_code
def yX0_becomeLike : MethodName := ⟨RX0, "becomeLike", "(LMarbleRamps$Machine;)V"⟩
abbrev cX0_hasRow : ByteArray := prog_2_method_4_code
def yX0_hasRow : MethodName := ⟨RX0, "hasRow", "(I)Z"⟩
abbrev cX0_hasColumn : ByteArray := prog_2_method_5_code
def yX0_hasColumn : MethodName := ⟨RX0, "hasColumn", "(I)Z"⟩
abbrev cX0_placeOf : ByteArray := prog_2_method_6_code
def yX0_placeOf : MethodName := ⟨RX0, "placeOf", "(II)I"⟩
abbrev cX0_partIn : ByteArray := prog_2_method_7_code
def yX0_partIn : MethodName := ⟨RX0, "partIn", "(I)I"⟩
abbrev cX0_isRightToggle : ByteArray := prog_2_method_8_code
def yX0_isRightToggle : MethodName := ⟨RX0, "isRightToggle", "(I)Z"⟩
abbrev cX0_countedIn : ByteArray := prog_2_method_9_code
def yX0_countedIn : MethodName := ⟨RX0, "countedIn", "(I)I"⟩
abbrev cX0_replacePart : ByteArray := prog_2_method_10_code
def yX0_replacePart : MethodName := ⟨RX0, "replacePart", "(IIII)I"⟩
abbrev cX0_turnOver : ByteArray := prog_2_method_11_code
def yX0_turnOver : MethodName := ⟨RX0, "turnOver", "(I)V"⟩
abbrev cX0_countToggles : ByteArray := prog_2_method_12_code
def yX0_countToggles : MethodName := ⟨RX0, "countToggles", "()I"⟩
abbrev cX0_numberToldBy : ByteArray := prog_2_method_13_code
def yX0_numberToldBy : MethodName := ⟨RX0, "numberToldBy", "(I)I"⟩
abbrev cX0_togglesUnlike : ByteArray := prog_2_method_14_code
def yX0_togglesUnlike : MethodName := ⟨RX0, "togglesUnlike", "(LMarbleRamps$Machine;)I"⟩
abbrev cX0_hasStatesOf : ByteArray := prog_2_method_15_code
def yX0_hasStatesOf : MethodName := ⟨RX0, "hasStatesOf", "(LMarbleRamps$Machine;)Z"⟩
abbrev cX0_letFall : ByteArray := prog_2_method_16_code
def yX0_letFall : MethodName := ⟨RX0, "letFall", "(I)I"⟩
abbrev cX0_fallTo : ByteArray := prog_2_method_17_code
def yX0_fallTo : MethodName := ⟨RX0, "fallTo", "(II)I"⟩
abbrev cX0_wayOut : ByteArray := prog_2_method_18_code
def yX0_wayOut : MethodName := ⟨RX0, "wayOut", "(II)I"⟩
abbrev cX0_marblesInBins : ByteArray := prog_2_method_19_code
def yX0_marblesInBins : MethodName := ⟨RX0, "marblesInBins", "()I"⟩
abbrev cX0_clearBins : ByteArray := prog_2_method_20_code
def yX0_clearBins : MethodName := ⟨RX0, "clearBins", "()V"⟩
abbrev cX0_fillHopper : ByteArray := prog_2_method_21_code
def yX0_fillHopper : MethodName := ⟨RX0, "fillHopper", "(III)I"⟩
abbrev cX0_runFrom : ByteArray := prog_2_method_22_code
def yX0_runFrom : MethodName := ⟨RX0, "runFrom", "(II)I"⟩
abbrev cX0_hopperBehind : ByteArray := prog_2_method_23_code
def yX0_hopperBehind : MethodName := ⟨RX0, "hopperBehind", "(I)I"⟩
def RX1 : String := "MarbleRamps"
def TX1 : u_T := fun k => match k with
  | 0 => ("MarbleRamps", "now", "LMarbleRamps$Machine;", true)
  | _ => ("MarbleRamps", "trial", "LMarbleRamps$Machine;", true)
def tyX1 : Nat → FieldType := fun k => match k with
  | 0 => .object "MarbleRamps$Machine"
  | _ => .object "MarbleRamps$Machine"
abbrev wsX10 : List Cond := u_ws RX1 TX1 2
theorem nmX1 : ∀ a, a < 2 → ∀ b, b < 2 → a ≠ b → (TX1 a).2.1 ≠ (TX1 b).2.1 := by decide +kernel
theorem tyX1_ok : ∀ k, k < 2 → parseFieldDescriptor (TX1 k).2.2.1 = some (tyX1 k) := by decide +kernel
abbrev cX1_init : ByteArray := prog_1_method_1_code
def yX1_init : MethodName := ⟨RX1, "<init>", "()V"⟩
abbrev cX1_lay : ByteArray := prog_1_method_2_code
def yX1_lay : MethodName := ⟨RX1, "lay", "(II)I"⟩
abbrev cX1_put : ByteArray := prog_1_method_3_code
def yX1_put : MethodName := ⟨RX1, "put", "(III)I"⟩
abbrev cX1_putCounter : ByteArray := prog_1_method_4_code
def yX1_putCounter : MethodName := ⟨RX1, "putCounter", "(III)I"⟩
abbrev cX1_turn : ByteArray := prog_1_method_5_code
def yX1_turn : MethodName := ⟨RX1, "turn", "(II)Z"⟩
abbrev cX1_setHopper : ByteArray := prog_1_method_6_code
def yX1_setHopper : MethodName := ⟨RX1, "setHopper", "(III)I"⟩
abbrev cX1_drop : ByteArray := prog_1_method_7_code
def yX1_drop : MethodName := ⟨RX1, "drop", "(I)I"⟩
abbrev cX1_run : ByteArray := prog_1_method_8_code
def yX1_run : MethodName := ⟨RX1, "run", "(II)I"⟩
abbrev cX1_emptyBins : ByteArray := prog_1_method_9_code
def yX1_emptyBins : MethodName := ⟨RX1, "emptyBins", "()I"⟩
abbrev cX1_columns : ByteArray := prog_1_method_10_code
def yX1_columns : MethodName := ⟨RX1, "columns", "()I"⟩
abbrev cX1_rows : ByteArray := prog_1_method_11_code
def yX1_rows : MethodName := ⟨RX1, "rows", "()I"⟩
abbrev cX1_partAt : ByteArray := prog_1_method_12_code
def yX1_partAt : MethodName := ⟨RX1, "partAt", "(II)I"⟩
abbrev cX1_leadsRight : ByteArray := prog_1_method_13_code
def yX1_leadsRight : MethodName := ⟨RX1, "leadsRight", "(II)Z"⟩
abbrev cX1_countAt : ByteArray := prog_1_method_14_code
def yX1_countAt : MethodName := ⟨RX1, "countAt", "(II)I"⟩
abbrev cX1_binOf : ByteArray := prog_1_method_15_code
def yX1_binOf : MethodName := ⟨RX1, "binOf", "(I)I"⟩
abbrev cX1_lost : ByteArray := prog_1_method_16_code
def yX1_lost : MethodName := ⟨RX1, "lost", "()I"⟩
abbrev cX1_marblesIn : ByteArray := prog_1_method_17_code
def yX1_marblesIn : MethodName := ⟨RX1, "marblesIn", "(I)I"⟩
abbrev cX1_columnOf : ByteArray := prog_1_method_18_code
def yX1_columnOf : MethodName := ⟨RX1, "columnOf", "(I)I"⟩
abbrev cX1_toggles : ByteArray := prog_1_method_19_code
def yX1_toggles : MethodName := ⟨RX1, "toggles", "()I"⟩
abbrev cX1_numberIn : ByteArray := prog_1_method_20_code
def yX1_numberIn : MethodName := ⟨RX1, "numberIn", "(I)I"⟩
abbrev cX1_wouldLand : ByteArray := prog_1_method_21_code
def yX1_wouldLand : MethodName := ⟨RX1, "wouldLand", "(I)I"⟩
abbrev cX1_wouldBeIn : ByteArray := prog_1_method_22_code
def yX1_wouldBeIn : MethodName := ⟨RX1, "wouldBeIn", "(II)I"⟩
abbrev cX1_wouldTurn : ByteArray := prog_1_method_23_code
def yX1_wouldTurn : MethodName := ⟨RX1, "wouldTurn", "(I)I"⟩
abbrev cX1_lastLands : ByteArray := prog_1_method_24_code
def yX1_lastLands : MethodName := ⟨RX1, "lastLands", "(II)I"⟩
abbrev cX1_asBeforeIn : ByteArray := prog_1_method_25_code
def yX1_asBeforeIn : MethodName := ⟨RX1, "asBeforeIn", "(I)I"⟩
abbrev cX1_wouldRun : ByteArray := prog_1_method_26_code
def yX1_wouldRun : MethodName := ⟨RX1, "wouldRun", "(I)I"⟩
abbrev cX1_bestColumn : ByteArray := prog_1_method_27_code
def yX1_bestColumn : MethodName := ⟨RX1, "bestColumn", "()I"⟩
abbrev cX1_meanInBins : ByteArray := prog_1_method_28_code
def yX1_meanInBins : MethodName := ⟨RX1, "meanInBins", "()D"⟩
abbrev cX1_digest : ByteArray := prog_1_method_29_code
def yX1_digest : MethodName := ⟨RX1, "digest", "()J"⟩
abbrev cX1_needPlace : ByteArray := prog_1_method_30_code
def yX1_needPlace : MethodName := ⟨RX1, "needPlace", "(II)V"⟩
abbrev cX1_needRow : ByteArray := prog_1_method_31_code
def yX1_needRow : MethodName := ⟨RX1, "needRow", "(I)V"⟩
abbrev cX1_needColumn : ByteArray := prog_1_method_32_code
def yX1_needColumn : MethodName := ⟨RX1, "needColumn", "(I)V"⟩
abbrev cX1_needHopper : ByteArray := prog_1_method_33_code
def yX1_needHopper : MethodName := ⟨RX1, "needHopper", "(I)V"⟩
abbrev cX1_needWithin : ByteArray := prog_1_method_34_code
def yX1_needWithin : MethodName := ⟨RX1, "needWithin", "(III)V"⟩
abbrev cX1_cell : ByteArray := prog_1_method_35_code
def yX1_cell : MethodName := ⟨RX1, "cell", "([II)I"⟩
abbrev cX1_setCell : ByteArray := prog_1_method_36_code
def yX1_setCell : MethodName := ⟨RX1, "setCell", "([III)V"⟩
abbrev cX1_copyCells : ByteArray := prog_1_method_37_code
def yX1_copyCells : MethodName := ⟨RX1, "copyCells", "([I[I)V"⟩
def RX2 : String := "MarbleRampsModel"
def TX2 : u_T := fun k => match k with
  | 0 => ("MarbleRampsModel", "thrown", "I", false)
  | 1 => ("MarbleRampsModel", "columns", "I", false)
  | 2 => ("MarbleRampsModel", "rows", "I", false)
  | 3 => ("MarbleRampsModel", "part", "[I", true)
  | 4 => ("MarbleRampsModel", "period", "[I", true)
  | 5 => ("MarbleRampsModel", "above", "[I", true)
  | 6 => ("MarbleRampsModel", "now", "[I", true)
  | 7 => ("MarbleRampsModel", "kept", "[I", true)
  | 8 => ("MarbleRampsModel", "turned", "I", false)
  | _ => ("MarbleRampsModel", "way", "[I", true)
def tyX2 : Nat → FieldType := fun k => match k with
  | 0 => .int
  | 1 => .int
  | 2 => .int
  | 3 => .array .int
  | 4 => .array .int
  | 5 => .array .int
  | 6 => .array .int
  | 7 => .array .int
  | 8 => .int
  | _ => .array .int
abbrev wsX20 : List Cond := u_ws RX2 TX2 10
theorem nmX2 : ∀ a, a < 10 → ∀ b, b < 10 → a ≠ b → (TX2 a).2.1 ≠ (TX2 b).2.1 := by decide +kernel
theorem tyX2_ok : ∀ k, k < 10 → parseFieldDescriptor (TX2 k).2.2.1 = some (tyX2 k) := by decide +kernel
abbrev cX2_init : ByteArray := prog_4_method_1_code
def yX2_init : MethodName := ⟨RX2, "<init>", "()V"⟩
abbrev cX2_thrown : ByteArray := prog_4_method_2_code
def yX2_thrown : MethodName := ⟨RX2, "thrown", "()I"⟩
abbrev cX2_no : ByteArray := prog_4_method_3_code
def yX2_no : MethodName := ⟨RX2, "no", "(I)I"⟩
abbrev cX2_isNot : ByteArray := prog_4_method_4_code
def yX2_isNot : MethodName := ⟨RX2, "isNot", "(I)Z"⟩
abbrev cX2_ok : ByteArray := prog_4_method_5_code
def yX2_ok : MethodName := ⟨RX2, "ok", "(I)I"⟩
abbrev cX2_isFrom : ByteArray := prog_4_method_6_code
def yX2_isFrom : MethodName := ⟨RX2, "isFrom", "(III)Z"⟩
abbrev cX2_isColumn : ByteArray := prog_4_method_7_code
def yX2_isColumn : MethodName := ⟨RX2, "isColumn", "(I)Z"⟩
abbrev cX2_isRow : ByteArray := prog_4_method_8_code
def yX2_isRow : MethodName := ⟨RX2, "isRow", "(I)Z"⟩
abbrev cX2_isPlace : ByteArray := prog_4_method_9_code
def yX2_isPlace : MethodName := ⟨RX2, "isPlace", "(II)Z"⟩
abbrev cX2_keep : ByteArray := prog_4_method_10_code
def yX2_keep : MethodName := ⟨RX2, "keep", "()V"⟩
abbrev cX2_bringBack : ByteArray := prog_4_method_11_code
def yX2_bringBack : MethodName := ⟨RX2, "bringBack", "()V"⟩
abbrev cX2_goes : ByteArray := prog_4_method_12_code
def yX2_goes : MethodName := ⟨RX2, "goes", "(II)I"⟩
abbrev cX2_fall : ByteArray := prog_4_method_13_code
def yX2_fall : MethodName := ⟨RX2, "fall", "(I)I"⟩
abbrev cX2_runFrom : ByteArray := prog_4_method_14_code
def yX2_runFrom : MethodName := ⟨RX2, "runFrom", "(II)I"⟩
abbrev cX2_lay : ByteArray := prog_4_method_15_code
def yX2_lay : MethodName := ⟨RX2, "lay", "(II)I"⟩
abbrev cX2_placed : ByteArray := prog_4_method_16_code
def yX2_placed : MethodName := ⟨RX2, "placed", "(III)I"⟩
abbrev cX2_put : ByteArray := prog_4_method_17_code
def yX2_put : MethodName := ⟨RX2, "put", "(III)I"⟩
abbrev cX2_putCounter : ByteArray := prog_4_method_18_code
def yX2_putCounter : MethodName := ⟨RX2, "putCounter", "(III)I"⟩
abbrev cX2_turn : ByteArray := prog_4_method_19_code
def yX2_turn : MethodName := ⟨RX2, "turn", "(II)Z"⟩
abbrev cX2_setHopper : ByteArray := prog_4_method_20_code
def yX2_setHopper : MethodName := ⟨RX2, "setHopper", "(III)I"⟩
abbrev cX2_drop : ByteArray := prog_4_method_21_code
def yX2_drop : MethodName := ⟨RX2, "drop", "(I)I"⟩
abbrev cX2_run : ByteArray := prog_4_method_22_code
def yX2_run : MethodName := ⟨RX2, "run", "(II)I"⟩
abbrev cX2_inBins : ByteArray := prog_4_method_23_code
def yX2_inBins : MethodName := ⟨RX2, "inBins", "()I"⟩
abbrev cX2_emptyBins : ByteArray := prog_4_method_24_code
def yX2_emptyBins : MethodName := ⟨RX2, "emptyBins", "()I"⟩
abbrev cX2_columns : ByteArray := prog_4_method_25_code
def yX2_columns : MethodName := ⟨RX2, "columns", "()I"⟩
abbrev cX2_rows : ByteArray := prog_4_method_26_code
def yX2_rows : MethodName := ⟨RX2, "rows", "()I"⟩
abbrev cX2_partAt : ByteArray := prog_4_method_27_code
def yX2_partAt : MethodName := ⟨RX2, "partAt", "(II)I"⟩
abbrev cX2_isRight : ByteArray := prog_4_method_28_code
def yX2_isRight : MethodName := ⟨RX2, "isRight", "(II)Z"⟩
abbrev cX2_leadsRight : ByteArray := prog_4_method_29_code
def yX2_leadsRight : MethodName := ⟨RX2, "leadsRight", "(II)Z"⟩
abbrev cX2_counted : ByteArray := prog_4_method_30_code
def yX2_counted : MethodName := ⟨RX2, "counted", "(II)I"⟩
abbrev cX2_countAt : ByteArray := prog_4_method_31_code
def yX2_countAt : MethodName := ⟨RX2, "countAt", "(II)I"⟩
abbrev cX2_binOf : ByteArray := prog_4_method_32_code
def yX2_binOf : MethodName := ⟨RX2, "binOf", "(I)I"⟩
abbrev cX2_lost : ByteArray := prog_4_method_33_code
def yX2_lost : MethodName := ⟨RX2, "lost", "()I"⟩
abbrev cX2_marblesIn : ByteArray := prog_4_method_34_code
def yX2_marblesIn : MethodName := ⟨RX2, "marblesIn", "(I)I"⟩
abbrev cX2_columnOf : ByteArray := prog_4_method_35_code
def yX2_columnOf : MethodName := ⟨RX2, "columnOf", "(I)I"⟩
abbrev cX2_togglesNow : ByteArray := prog_4_method_36_code
def yX2_togglesNow : MethodName := ⟨RX2, "togglesNow", "()I"⟩
abbrev cX2_toggles : ByteArray := prog_4_method_37_code
def yX2_toggles : MethodName := ⟨RX2, "toggles", "()I"⟩
abbrev cX2_number : ByteArray := prog_4_method_38_code
def yX2_number : MethodName := ⟨RX2, "number", "(I)I"⟩
abbrev cX2_numberIn : ByteArray := prog_4_method_39_code
def yX2_numberIn : MethodName := ⟨RX2, "numberIn", "(I)I"⟩
abbrev cX2_look : ByteArray := prog_4_method_40_code
def yX2_look : MethodName := ⟨RX2, "look", "(II)I"⟩
abbrev cX2_wouldLand : ByteArray := prog_4_method_41_code
def yX2_wouldLand : MethodName := ⟨RX2, "wouldLand", "(I)I"⟩
abbrev cX2_wouldBeIn : ByteArray := prog_4_method_42_code
def yX2_wouldBeIn : MethodName := ⟨RX2, "wouldBeIn", "(II)I"⟩
abbrev cX2_turnedBy : ByteArray := prog_4_method_43_code
def yX2_turnedBy : MethodName := ⟨RX2, "turnedBy", "(I)I"⟩
abbrev cX2_wouldTurn : ByteArray := prog_4_method_44_code
def yX2_wouldTurn : MethodName := ⟨RX2, "wouldTurn", "(I)I"⟩
abbrev cX2_lastLands : ByteArray := prog_4_method_45_code
def yX2_lastLands : MethodName := ⟨RX2, "lastLands", "(II)I"⟩
abbrev cX2_isAsKept : ByteArray := prog_4_method_46_code
def yX2_isAsKept : MethodName := ⟨RX2, "isAsKept", "()Z"⟩
abbrev cX2_asBefore : ByteArray := prog_4_method_47_code
def yX2_asBefore : MethodName := ⟨RX2, "asBefore", "(I)I"⟩
abbrev cX2_asBeforeIn : ByteArray := prog_4_method_48_code
def yX2_asBeforeIn : MethodName := ⟨RX2, "asBeforeIn", "(I)I"⟩
abbrev cX2_runs : ByteArray := prog_4_method_49_code
def yX2_runs : MethodName := ⟨RX2, "runs", "(I)I"⟩
abbrev cX2_wouldRun : ByteArray := prog_4_method_50_code
def yX2_wouldRun : MethodName := ⟨RX2, "wouldRun", "(I)I"⟩
abbrev cX2_best : ByteArray := prog_4_method_51_code
def yX2_best : MethodName := ⟨RX2, "best", "()I"⟩
abbrev cX2_bestColumn : ByteArray := prog_4_method_52_code
def yX2_bestColumn : MethodName := ⟨RX2, "bestColumn", "()I"⟩
abbrev cX2_meanInBins : ByteArray := prog_4_method_53_code
def yX2_meanInBins : MethodName := ⟨RX2, "meanInBins", "()D"⟩
abbrev cX2_digest : ByteArray := prog_4_method_54_code
def yX2_digest : MethodName := ⟨RX2, "digest", "()J"⟩
def RJx145de : String := "java/io/Serializable"
def TJx145de : u_T := fun k => match k with
  | _ => ("", "", "", false)
def tyJx145de : Nat → FieldType := fun k => match k with
  | _ => .int
abbrev wsJx145de0 : List Cond := u_ws RJx145de TJx145de 0
theorem nmJx145de : ∀ a, a < 0 → ∀ b, b < 0 → a ≠ b → (TJx145de a).2.1 ≠ (TJx145de b).2.1 := by decide +kernel
theorem tyJx145de_ok : ∀ k, k < 0 → parseFieldDescriptor (TJx145de k).2.2.1 = some (tyJx145de k) := by decide +kernel
def RJ6 : String := "java/lang/Integer"
def TJ6 : u_T := fun k => match k with
  | _ => ("", "", "", false)
def tyJ6 : Nat → FieldType := fun k => match k with
  | _ => .int
abbrev wsJ60 : List Cond := u_ws RJ6 TJ6 0
theorem nmJ6 : ∀ a, a < 0 → ∀ b, b < 0 → a ≠ b → (TJ6 a).2.1 ≠ (TJ6 b).2.1 := by decide +kernel
theorem tyJ6_ok : ∀ k, k < 0 → parseFieldDescriptor (TJ6 k).2.2.1 = some (tyJ6 k) := by decide +kernel
abbrev cJ6_signum_0f7a4 : ByteArray := prog_9_method_56_code
def yJ6_signum_0f7a4 : MethodName := ⟨RJ6, "signum", "(I)I"⟩
def RJ0 : String := "java/lang/String"
def TJ0 : u_T := fun k => match k with
  | _ => ("", "", "", false)
def tyJ0 : Nat → FieldType := fun k => match k with
  | _ => .int
abbrev wsJ00 : List Cond := u_ws RJ0 TJ0 0
theorem nmJ0 : ∀ a, a < 0 → ∀ b, b < 0 → a ≠ b → (TJ0 a).2.1 ≠ (TJ0 b).2.1 := by decide +kernel
theorem tyJ0_ok : ∀ k, k < 0 → parseFieldDescriptor (TJ0 k).2.2.1 = some (tyJ0 k) := by decide +kernel
def RJ10 : String := "java/lang/System"
def TJ10 : u_T := fun k => match k with
  | _ => ("", "", "", false)
def tyJ10 : Nat → FieldType := fun k => match k with
  | _ => .int
abbrev wsJ100 : List Cond := u_ws RJ10 TJ10 0
theorem nmJ10 : ∀ a, a < 0 → ∀ b, b < 0 → a ≠ b → (TJ10 a).2.1 ≠ (TJ10 b).2.1 := by decide +kernel
theorem tyJ10_ok : ∀ k, k < 0 → parseFieldDescriptor (TJ10 k).2.2.1 = some (tyJ10 k) := by decide +kernel
def RJ7 : String := "java/util/Arrays"
def TJ7 : u_T := fun k => match k with
  | _ => ("", "", "", false)
def tyJ7 : Nat → FieldType := fun k => match k with
  | _ => .int
abbrev wsJ70 : List Cond := u_ws RJ7 TJ7 0
theorem nmJ7 : ∀ a, a < 0 → ∀ b, b < 0 → a ≠ b → (TJ7 a).2.1 ≠ (TJ7 b).2.1 := by decide +kernel
theorem tyJ7_ok : ∀ k, k < 0 → parseFieldDescriptor (TJ7 k).2.2.1 = some (tyJ7 k) := by decide +kernel
abbrev cJ7_fill_53178 : ByteArray := prog_14_method_103_code
def yJ7_fill_53178 : MethodName := ⟨RJ7, "fill", "([II)V"⟩
def RL : String := "MarbleRampsLaw"
abbrev cL_lay : ByteArray := method_3_code
def yL_lay : MethodName := ⟨RL, "lay", "(LMarbleRamps;II[J)I"⟩
abbrev cL_put : ByteArray := method_4_code
def yL_put : MethodName := ⟨RL, "put", "(LMarbleRamps;III[J)I"⟩
abbrev cL_putCounter : ByteArray := method_5_code
def yL_putCounter : MethodName := ⟨RL, "putCounter", "(LMarbleRamps;III[J)I"⟩
abbrev cL_turn : ByteArray := method_6_code
def yL_turn : MethodName := ⟨RL, "turn", "(LMarbleRamps;II[J)I"⟩
abbrev cL_setHopper : ByteArray := method_7_code
def yL_setHopper : MethodName := ⟨RL, "setHopper", "(LMarbleRamps;III[J)I"⟩
abbrev cL_drop : ByteArray := method_8_code
def yL_drop : MethodName := ⟨RL, "drop", "(LMarbleRamps;I[J)I"⟩
abbrev cL_run : ByteArray := method_9_code
def yL_run : MethodName := ⟨RL, "run", "(LMarbleRamps;II[J)I"⟩
abbrev cL_partAt : ByteArray := method_10_code
def yL_partAt : MethodName := ⟨RL, "partAt", "(LMarbleRamps;II[J)I"⟩
abbrev cL_leadsRight : ByteArray := method_11_code
def yL_leadsRight : MethodName := ⟨RL, "leadsRight", "(LMarbleRamps;II[J)I"⟩
abbrev cL_countAt : ByteArray := method_12_code
def yL_countAt : MethodName := ⟨RL, "countAt", "(LMarbleRamps;II[J)I"⟩
abbrev cL_binOf : ByteArray := method_13_code
def yL_binOf : MethodName := ⟨RL, "binOf", "(LMarbleRamps;I[J)I"⟩
abbrev cL_marblesIn : ByteArray := method_14_code
def yL_marblesIn : MethodName := ⟨RL, "marblesIn", "(LMarbleRamps;I[J)I"⟩
abbrev cL_columnOf : ByteArray := method_15_code
def yL_columnOf : MethodName := ⟨RL, "columnOf", "(LMarbleRamps;I[J)I"⟩
abbrev cL_numberIn : ByteArray := method_16_code
def yL_numberIn : MethodName := ⟨RL, "numberIn", "(LMarbleRamps;I[J)I"⟩
abbrev cL_wouldLand : ByteArray := method_17_code
def yL_wouldLand : MethodName := ⟨RL, "wouldLand", "(LMarbleRamps;I[J)I"⟩
abbrev cL_wouldBeIn : ByteArray := method_18_code
def yL_wouldBeIn : MethodName := ⟨RL, "wouldBeIn", "(LMarbleRamps;II[J)I"⟩
abbrev cL_wouldTurn : ByteArray := method_19_code
def yL_wouldTurn : MethodName := ⟨RL, "wouldTurn", "(LMarbleRamps;I[J)I"⟩
abbrev cL_lastLands : ByteArray := method_20_code
def yL_lastLands : MethodName := ⟨RL, "lastLands", "(LMarbleRamps;II[J)I"⟩
abbrev cL_asBeforeIn : ByteArray := method_21_code
def yL_asBeforeIn : MethodName := ⟨RL, "asBeforeIn", "(LMarbleRamps;I[J)I"⟩
abbrev cL_wouldRun : ByteArray := method_22_code
def yL_wouldRun : MethodName := ⟨RL, "wouldRun", "(LMarbleRamps;I[J)I"⟩
abbrev cL_law : ByteArray := code
def yL_law : MethodName := ⟨RL, "law", "([I)Z"⟩
def wsJ7_fill_53178 : List Cond := .code yJ7_fill_53178 cJ7_fill_53178 4 none :: ([])
def wsX0_clearBins : List Cond := .code yX0_clearBins cX0_clearBins 1 none :: ([.fieldLink RX0 21 "MarbleRamps$Machine" "bins" "[I", .methodLink RX0 44 yJ7_fill_53178, .static yJ7_fill_53178, .initialized RJ7, .code yJ7_fill_53178 cJ7_fill_53178 4 none] ++ wsX00)
def wsX1_setCell : List Cond := .code yX1_setCell cX1_setCell 3 none :: ([])
def wsX0_layBoard : List Cond := .code yX0_layBoard cX0_layBoard 3 none :: ([.fieldLink RX0 34 "MarbleRamps$Machine" "columnCount" "I", .fieldLink RX0 38 "MarbleRamps$Machine" "rowCount" "I", .fieldLink RX0 41 "MarbleRamps$Machine" "lostCount" "I", .fieldLink RX0 9 "MarbleRamps$Machine" "parts" "[I", .fieldLink RX0 15 "MarbleRamps$Machine" "periods" "[I", .fieldLink RX0 18 "MarbleRamps$Machine" "states" "[I", .fieldLink RX0 24 "MarbleRamps$Machine" "hopperColumns" "[I", .methodLink RX0 44 yJ7_fill_53178, .static yJ7_fill_53178, .initialized RJ7, .code yJ7_fill_53178 cJ7_fill_53178 4 none, .methodLink RX0 50 yX0_clearBins, .instanceMethod yX0_clearBins, .selects RX0 yX0_clearBins yX0_clearBins, .initialized RX0, .code yX0_clearBins cX0_clearBins 1 none, .fieldLink RX0 21 "MarbleRamps$Machine" "bins" "[I", .static yX1_setCell, .initialized RX1, .code yX1_setCell cX1_setCell 3 none] ++ wsX00)
def wsX0_init_r1 : List Cond := [Cond.methodLink RX0 3 objectInit, Cond.instanceMethod objectInit, Cond.code objectInit ⟨#[0xb1]⟩ 1 none, Cond.arrayClass .int, Cond.fieldLink RX0 9 "MarbleRamps$Machine" "parts" "[I", Cond.fieldLink RX0 15 "MarbleRamps$Machine" "periods" "[I", Cond.fieldLink RX0 18 "MarbleRamps$Machine" "states" "[I", Cond.fieldLink RX0 21 "MarbleRamps$Machine" "bins" "[I", Cond.fieldLink RX0 24 "MarbleRamps$Machine" "hopperColumns" "[I", Cond.fieldLink RX0 27 "MarbleRamps$Machine" "hopperMarbles" "[I", Cond.methodLink RX0 30 yX0_layBoard, Cond.instanceMethod yX0_layBoard, Cond.selects RX0 yX0_layBoard yX0_layBoard, Cond.initialized RX0, Cond.code yX0_layBoard cX0_layBoard 3 none, Cond.fieldLink RX0 34 "MarbleRamps$Machine" "columnCount" "I", Cond.fieldLink RX0 38 "MarbleRamps$Machine" "rowCount" "I", Cond.fieldLink RX0 41 "MarbleRamps$Machine" "lostCount" "I", Cond.methodLink RX0 44 yJ7_fill_53178, Cond.static yJ7_fill_53178, Cond.initialized RJ7, Cond.code yJ7_fill_53178 cJ7_fill_53178 4 none, Cond.methodLink RX0 50 yX0_clearBins, Cond.instanceMethod yX0_clearBins]
def wsX0_init_r2 : List Cond := [Cond.selects RX0 yX0_clearBins yX0_clearBins, Cond.code yX0_clearBins cX0_clearBins 1 none, Cond.static yX1_setCell, Cond.initialized RX1, Cond.code yX1_setCell cX1_setCell 3 none]
def wsX0_init : List Cond := .code yX0_init cX0_init 1 none :: ((wsX0_init_r1 ++ wsX0_init_r2) ++ wsX00)
def wsX1_copyCells : List Cond := .code yX1_copyCells cX1_copyCells 3 none :: ([.methodLink RX1 204 yX1_setCell, .static yX1_setCell, .initialized RX1, .code yX1_setCell cX1_setCell 3 none])
def wsX0_becomeLike : List Cond := .code yX0_becomeLike cX0_becomeLike 2 none :: ([.fieldLink RX0 34 "MarbleRamps$Machine" "columnCount" "I", .fieldLink RX0 38 "MarbleRamps$Machine" "rowCount" "I", .fieldLink RX0 41 "MarbleRamps$Machine" "lostCount" "I", .fieldLink RX0 9 "MarbleRamps$Machine" "parts" "[I", .fieldLink RX0 15 "MarbleRamps$Machine" "periods" "[I", .fieldLink RX0 18 "MarbleRamps$Machine" "states" "[I", .fieldLink RX0 21 "MarbleRamps$Machine" "bins" "[I", .fieldLink RX0 24 "MarbleRamps$Machine" "hopperColumns" "[I", .fieldLink RX0 27 "MarbleRamps$Machine" "hopperMarbles" "[I", .static yX1_copyCells, .initialized RX1, .code yX1_copyCells cX1_copyCells 3 none, .methodLink RX1 204 yX1_setCell, .static yX1_setCell, .code yX1_setCell cX1_setCell 3 none] ++ wsX00)
def wsX0_hasRow : List Cond := .code yX0_hasRow cX0_hasRow 2 (some .boolean) :: ([.fieldLink RX0 38 "MarbleRamps$Machine" "rowCount" "I"] ++ wsX00)
def wsX0_hasColumn : List Cond := .code yX0_hasColumn cX0_hasColumn 2 (some .boolean) :: ([.fieldLink RX0 34 "MarbleRamps$Machine" "columnCount" "I"] ++ wsX00)
def wsX0_placeOf : List Cond := .code yX0_placeOf cX0_placeOf 3 (some .int) :: ([.fieldLink RX0 34 "MarbleRamps$Machine" "columnCount" "I"] ++ wsX00)
def wsX1_cell : List Cond := .code yX1_cell cX1_cell 2 (some .int) :: ([])
def wsX0_partIn : List Cond := .code yX0_partIn cX0_partIn 2 (some .int) :: ([.fieldLink RX0 9 "MarbleRamps$Machine" "parts" "[I", .static yX1_cell, .initialized RX1, .code yX1_cell cX1_cell 2 (some .int)] ++ wsX00)
def wsX0_isRightToggle : List Cond := .code yX0_isRightToggle cX0_isRightToggle 2 (some .boolean) :: ([.fieldLink RX0 18 "MarbleRamps$Machine" "states" "[I", .methodLink RX0 65 yX0_partIn, .instanceMethod yX0_partIn, .selects RX0 yX0_partIn yX0_partIn, .initialized RX0, .code yX0_partIn cX0_partIn 2 (some .int), .fieldLink RX0 9 "MarbleRamps$Machine" "parts" "[I", .static yX1_cell, .initialized RX1, .code yX1_cell cX1_cell 2 (some .int)] ++ wsX00)
def wsX0_countedIn : List Cond := .code yX0_countedIn cX0_countedIn 2 (some .int) :: ([.fieldLink RX0 18 "MarbleRamps$Machine" "states" "[I", .methodLink RX0 65 yX0_partIn, .instanceMethod yX0_partIn, .selects RX0 yX0_partIn yX0_partIn, .initialized RX0, .code yX0_partIn cX0_partIn 2 (some .int), .fieldLink RX0 9 "MarbleRamps$Machine" "parts" "[I", .static yX1_cell, .initialized RX1, .code yX1_cell cX1_cell 2 (some .int)] ++ wsX00)
def wsX0_replacePart : List Cond := .code yX0_replacePart cX0_replacePart 7 (some .int) :: ([.fieldLink RX0 9 "MarbleRamps$Machine" "parts" "[I", .fieldLink RX0 15 "MarbleRamps$Machine" "periods" "[I", .fieldLink RX0 18 "MarbleRamps$Machine" "states" "[I", .methodLink RX0 69 yX0_placeOf, .instanceMethod yX0_placeOf, .selects RX0 yX0_placeOf yX0_placeOf, .initialized RX0, .code yX0_placeOf cX0_placeOf 3 (some .int), .fieldLink RX0 34 "MarbleRamps$Machine" "columnCount" "I", .methodLink RX0 65 yX0_partIn, .instanceMethod yX0_partIn, .selects RX0 yX0_partIn yX0_partIn, .code yX0_partIn cX0_partIn 2 (some .int), .static yX1_cell, .initialized RX1, .code yX1_cell cX1_cell 2 (some .int), .static yX1_setCell, .code yX1_setCell cX1_setCell 3 none] ++ wsX00)
def wsX0_turnOver : List Cond := .code yX0_turnOver cX0_turnOver 2 none :: ([.fieldLink RX0 18 "MarbleRamps$Machine" "states" "[I", .methodLink RX0 73 yX0_isRightToggle, .instanceMethod yX0_isRightToggle, .selects RX0 yX0_isRightToggle yX0_isRightToggle, .initialized RX0, .code yX0_isRightToggle cX0_isRightToggle 2 (some .boolean), .methodLink RX0 65 yX0_partIn, .instanceMethod yX0_partIn, .selects RX0 yX0_partIn yX0_partIn, .code yX0_partIn cX0_partIn 2 (some .int), .fieldLink RX0 9 "MarbleRamps$Machine" "parts" "[I", .static yX1_cell, .initialized RX1, .code yX1_cell cX1_cell 2 (some .int), .static yX1_setCell, .code yX1_setCell cX1_setCell 3 none] ++ wsX00)
def wsX0_countToggles : List Cond := .code yX0_countToggles cX0_countToggles 6 (some .int) :: ([.fieldLink RX0 9 "MarbleRamps$Machine" "parts" "[I"] ++ wsX00)
def wsX0_numberToldBy : List Cond := .code yX0_numberToldBy cX0_numberToldBy 6 (some .int) :: ([.fieldLink RX0 34 "MarbleRamps$Machine" "columnCount" "I", .methodLink RX0 69 yX0_placeOf, .instanceMethod yX0_placeOf, .selects RX0 yX0_placeOf yX0_placeOf, .initialized RX0, .code yX0_placeOf cX0_placeOf 3 (some .int), .methodLink RX0 65 yX0_partIn, .instanceMethod yX0_partIn, .selects RX0 yX0_partIn yX0_partIn, .code yX0_partIn cX0_partIn 2 (some .int), .fieldLink RX0 9 "MarbleRamps$Machine" "parts" "[I", .static yX1_cell, .initialized RX1, .code yX1_cell cX1_cell 2 (some .int), .methodLink RX0 73 yX0_isRightToggle, .instanceMethod yX0_isRightToggle, .selects RX0 yX0_isRightToggle yX0_isRightToggle, .code yX0_isRightToggle cX0_isRightToggle 2 (some .boolean), .fieldLink RX0 18 "MarbleRamps$Machine" "states" "[I"] ++ wsX00)
def wsX0_togglesUnlike : List Cond := .code yX0_togglesUnlike cX0_togglesUnlike 4 (some .int) :: ([.fieldLink RX0 9 "MarbleRamps$Machine" "parts" "[I", .methodLink RX0 73 yX0_isRightToggle, .instanceMethod yX0_isRightToggle, .selects RX0 yX0_isRightToggle yX0_isRightToggle, .initialized RX0, .code yX0_isRightToggle cX0_isRightToggle 2 (some .boolean), .fieldLink RX0 18 "MarbleRamps$Machine" "states" "[I", .methodLink RX0 65 yX0_partIn, .instanceMethod yX0_partIn, .selects RX0 yX0_partIn yX0_partIn, .code yX0_partIn cX0_partIn 2 (some .int), .static yX1_cell, .initialized RX1, .code yX1_cell cX1_cell 2 (some .int)] ++ wsX00)
def wsX0_hasStatesOf : List Cond := .code yX0_hasStatesOf cX0_hasStatesOf 3 (some .boolean) :: ([.fieldLink RX0 18 "MarbleRamps$Machine" "states" "[I", .static yX1_cell, .initialized RX1, .code yX1_cell cX1_cell 2 (some .int)] ++ wsX00)
def wsX0_wayOut : List Cond := .code yX0_wayOut cX0_wayOut 5 (some .int) :: ([.fieldLink RX0 9 "MarbleRamps$Machine" "parts" "[I", .fieldLink RX0 18 "MarbleRamps$Machine" "states" "[I", .fieldLink RX0 15 "MarbleRamps$Machine" "periods" "[I", .static yX1_cell, .initialized RX1, .code yX1_cell cX1_cell 2 (some .int), .static yX1_setCell, .code yX1_setCell cX1_setCell 3 none] ++ wsX00)
def wsX0_fallTo : List Cond := .code yX0_fallTo cX0_fallTo 6 (some .int) :: ([.methodLink RX0 69 yX0_placeOf, .instanceMethod yX0_placeOf, .selects RX0 yX0_placeOf yX0_placeOf, .initialized RX0, .code yX0_placeOf cX0_placeOf 3 (some .int), .fieldLink RX0 34 "MarbleRamps$Machine" "columnCount" "I", .methodLink RX0 80 yX0_wayOut, .instanceMethod yX0_wayOut, .selects RX0 yX0_wayOut yX0_wayOut, .code yX0_wayOut cX0_wayOut 5 (some .int), .fieldLink RX0 9 "MarbleRamps$Machine" "parts" "[I", .fieldLink RX0 18 "MarbleRamps$Machine" "states" "[I", .fieldLink RX0 15 "MarbleRamps$Machine" "periods" "[I", .static yX1_cell, .initialized RX1, .code yX1_cell cX1_cell 2 (some .int), .static yX1_setCell, .code yX1_setCell cX1_setCell 3 none, .methodLink RX0 83 yX0_hasColumn, .instanceMethod yX0_hasColumn, .selects RX0 yX0_hasColumn yX0_hasColumn, .code yX0_hasColumn cX0_hasColumn 2 (some .boolean)] ++ wsX00)
def wsX0_letFall_r1 : List Cond := [Cond.fieldLink RX0 38 "MarbleRamps$Machine" "rowCount" "I", Cond.fieldLink RX0 41 "MarbleRamps$Machine" "lostCount" "I", Cond.fieldLink RX0 21 "MarbleRamps$Machine" "bins" "[I", Cond.methodLink RX0 77 yX0_fallTo, Cond.instanceMethod yX0_fallTo, Cond.selects RX0 yX0_fallTo yX0_fallTo, Cond.initialized RX0, Cond.code yX0_fallTo cX0_fallTo 6 (some .int), Cond.methodLink RX0 69 yX0_placeOf, Cond.instanceMethod yX0_placeOf, Cond.selects RX0 yX0_placeOf yX0_placeOf, Cond.code yX0_placeOf cX0_placeOf 3 (some .int), Cond.fieldLink RX0 34 "MarbleRamps$Machine" "columnCount" "I", Cond.methodLink RX0 80 yX0_wayOut, Cond.instanceMethod yX0_wayOut, Cond.selects RX0 yX0_wayOut yX0_wayOut, Cond.code yX0_wayOut cX0_wayOut 5 (some .int), Cond.fieldLink RX0 9 "MarbleRamps$Machine" "parts" "[I", Cond.fieldLink RX0 18 "MarbleRamps$Machine" "states" "[I", Cond.fieldLink RX0 15 "MarbleRamps$Machine" "periods" "[I", Cond.static yX1_cell, Cond.initialized RX1, Cond.code yX1_cell cX1_cell 2 (some .int), Cond.static yX1_setCell]
def wsX0_letFall_r2 : List Cond := [Cond.code yX1_setCell cX1_setCell 3 none, Cond.methodLink RX0 83 yX0_hasColumn, Cond.instanceMethod yX0_hasColumn, Cond.selects RX0 yX0_hasColumn yX0_hasColumn, Cond.code yX0_hasColumn cX0_hasColumn 2 (some .boolean)]
def wsX0_letFall : List Cond := .code yX0_letFall cX0_letFall 3 (some .int) :: ((wsX0_letFall_r1 ++ wsX0_letFall_r2) ++ wsX00)
def wsX0_marblesInBins : List Cond := .code yX0_marblesInBins cX0_marblesInBins 6 (some .int) :: ([.fieldLink RX0 21 "MarbleRamps$Machine" "bins" "[I"] ++ wsX00)
def wsX0_fillHopper : List Cond := .code yX0_fillHopper cX0_fillHopper 5 (some .int) :: ([.fieldLink RX0 27 "MarbleRamps$Machine" "hopperMarbles" "[I", .fieldLink RX0 24 "MarbleRamps$Machine" "hopperColumns" "[I", .static yX1_cell, .initialized RX1, .code yX1_cell cX1_cell 2 (some .int), .static yX1_setCell, .code yX1_setCell cX1_setCell 3 none] ++ wsX00)
def wsX0_hopperBehind : List Cond := .code yX0_hopperBehind cX0_hopperBehind 3 (some .int) :: ([.fieldLink RX0 34 "MarbleRamps$Machine" "columnCount" "I"] ++ wsX00)
def wsX0_runFrom_r1 : List Cond := [Cond.fieldLink RX0 27 "MarbleRamps$Machine" "hopperMarbles" "[I", Cond.fieldLink RX0 24 "MarbleRamps$Machine" "hopperColumns" "[I", Cond.static yX1_cell, Cond.initialized RX1, Cond.code yX1_cell cX1_cell 2 (some .int), Cond.static yX1_setCell, Cond.code yX1_setCell cX1_setCell 3 none, Cond.methodLink RX0 86 yX0_letFall, Cond.instanceMethod yX0_letFall, Cond.selects RX0 yX0_letFall yX0_letFall, Cond.initialized RX0, Cond.code yX0_letFall cX0_letFall 3 (some .int), Cond.fieldLink RX0 38 "MarbleRamps$Machine" "rowCount" "I", Cond.fieldLink RX0 41 "MarbleRamps$Machine" "lostCount" "I", Cond.fieldLink RX0 21 "MarbleRamps$Machine" "bins" "[I", Cond.methodLink RX0 77 yX0_fallTo, Cond.instanceMethod yX0_fallTo, Cond.selects RX0 yX0_fallTo yX0_fallTo, Cond.code yX0_fallTo cX0_fallTo 6 (some .int), Cond.methodLink RX0 69 yX0_placeOf, Cond.instanceMethod yX0_placeOf, Cond.selects RX0 yX0_placeOf yX0_placeOf, Cond.code yX0_placeOf cX0_placeOf 3 (some .int), Cond.fieldLink RX0 34 "MarbleRamps$Machine" "columnCount" "I"]
def wsX0_runFrom_r2 : List Cond := [Cond.methodLink RX0 80 yX0_wayOut, Cond.instanceMethod yX0_wayOut, Cond.selects RX0 yX0_wayOut yX0_wayOut, Cond.code yX0_wayOut cX0_wayOut 5 (some .int), Cond.fieldLink RX0 9 "MarbleRamps$Machine" "parts" "[I", Cond.fieldLink RX0 18 "MarbleRamps$Machine" "states" "[I", Cond.fieldLink RX0 15 "MarbleRamps$Machine" "periods" "[I", Cond.methodLink RX0 83 yX0_hasColumn, Cond.instanceMethod yX0_hasColumn, Cond.selects RX0 yX0_hasColumn yX0_hasColumn, Cond.code yX0_hasColumn cX0_hasColumn 2 (some .boolean), Cond.methodLink RX0 89 yX0_hopperBehind, Cond.instanceMethod yX0_hopperBehind, Cond.selects RX0 yX0_hopperBehind yX0_hopperBehind, Cond.code yX0_hopperBehind cX0_hopperBehind 3 (some .int)]
def wsX0_runFrom : List Cond := .code yX0_runFrom cX0_runFrom 5 (some .int) :: ((wsX0_runFrom_r1 ++ wsX0_runFrom_r2) ++ wsX00)
def wsX1_init_r1 : List Cond := [Cond.methodLink RX1 1 objectInit, Cond.instanceMethod objectInit, Cond.code objectInit ⟨#[0xb1]⟩ 1 none, Cond.classLink RX1 7 RX0, Cond.instantiable RX0 9, Cond.initialized RX0, Cond.fieldLink RX1 10 "MarbleRamps" "now" "LMarbleRamps$Machine;", Cond.fieldLink RX1 16 "MarbleRamps" "trial" "LMarbleRamps$Machine;", Cond.methodLink RX1 9 yX0_init, Cond.instanceMethod yX0_init, Cond.code yX0_init cX0_init 1 none, Cond.methodLink RX0 3 objectInit, Cond.arrayClass .int, Cond.fieldLink RX0 9 "MarbleRamps$Machine" "parts" "[I", Cond.fieldLink RX0 15 "MarbleRamps$Machine" "periods" "[I", Cond.fieldLink RX0 18 "MarbleRamps$Machine" "states" "[I", Cond.fieldLink RX0 21 "MarbleRamps$Machine" "bins" "[I", Cond.fieldLink RX0 24 "MarbleRamps$Machine" "hopperColumns" "[I", Cond.fieldLink RX0 27 "MarbleRamps$Machine" "hopperMarbles" "[I", Cond.methodLink RX0 30 yX0_layBoard, Cond.instanceMethod yX0_layBoard, Cond.selects RX0 yX0_layBoard yX0_layBoard, Cond.code yX0_layBoard cX0_layBoard 3 none, Cond.fieldLink RX0 34 "MarbleRamps$Machine" "columnCount" "I"]
def wsX1_init_r2 : List Cond := [Cond.fieldLink RX0 38 "MarbleRamps$Machine" "rowCount" "I", Cond.fieldLink RX0 41 "MarbleRamps$Machine" "lostCount" "I", Cond.methodLink RX0 44 yJ7_fill_53178, Cond.static yJ7_fill_53178, Cond.initialized RJ7, Cond.code yJ7_fill_53178 cJ7_fill_53178 4 none, Cond.methodLink RX0 50 yX0_clearBins, Cond.instanceMethod yX0_clearBins, Cond.selects RX0 yX0_clearBins yX0_clearBins, Cond.code yX0_clearBins cX0_clearBins 1 none, Cond.static yX1_setCell, Cond.initialized RX1, Cond.code yX1_setCell cX1_setCell 3 none]
def wsX1_init : List Cond := .code yX1_init cX1_init 1 none :: ((wsX1_init_r1 ++ wsX1_init_r2) ++ wsX00 ++ wsX10)
def wsX1_needWithin : List Cond := .code yX1_needWithin cX1_needWithin 3 none :: ([.classLink RX1 199 "java/lang/IllegalArgumentException", .initialized "java/lang/IllegalArgumentException"] ++ (vx_atS RX1 203 "java/lang/IllegalArgumentException" ["java/lang/RuntimeException", "java/lang/Exception"]).filter goodWord)
def wsX1_lay_r1 : List Cond := [Cond.fieldLink RX1 10 "MarbleRamps" "now" "LMarbleRamps$Machine;", Cond.methodLink RX1 19 yX1_needWithin, Cond.static yX1_needWithin, Cond.initialized RX1, Cond.code yX1_needWithin cX1_needWithin 3 none, Cond.classLink RX1 199 "java/lang/IllegalArgumentException", Cond.initialized "java/lang/IllegalArgumentException", Cond.methodLink RX1 23 yX0_layBoard, Cond.instanceMethod yX0_layBoard, Cond.selects RX0 yX0_layBoard yX0_layBoard, Cond.initialized RX0, Cond.code yX0_layBoard cX0_layBoard 3 none, Cond.fieldLink RX0 34 "MarbleRamps$Machine" "columnCount" "I", Cond.fieldLink RX0 38 "MarbleRamps$Machine" "rowCount" "I", Cond.fieldLink RX0 41 "MarbleRamps$Machine" "lostCount" "I", Cond.fieldLink RX0 9 "MarbleRamps$Machine" "parts" "[I", Cond.fieldLink RX0 15 "MarbleRamps$Machine" "periods" "[I", Cond.fieldLink RX0 18 "MarbleRamps$Machine" "states" "[I", Cond.fieldLink RX0 24 "MarbleRamps$Machine" "hopperColumns" "[I", Cond.methodLink RX0 44 yJ7_fill_53178, Cond.static yJ7_fill_53178, Cond.initialized RJ7, Cond.code yJ7_fill_53178 cJ7_fill_53178 4 none, Cond.methodLink RX0 50 yX0_clearBins]
def wsX1_lay_r2 : List Cond := [Cond.instanceMethod yX0_clearBins, Cond.selects RX0 yX0_clearBins yX0_clearBins, Cond.code yX0_clearBins cX0_clearBins 1 none, Cond.fieldLink RX0 21 "MarbleRamps$Machine" "bins" "[I", Cond.static yX1_setCell, Cond.code yX1_setCell cX1_setCell 3 none]
def wsX1_lay : List Cond := .code yX1_lay cX1_lay 3 (some .int) :: ((wsX1_lay_r1 ++ wsX1_lay_r2) ++ wsX10 ++ wsX00 ++ (vx_atS RX1 203 "java/lang/IllegalArgumentException" ["java/lang/RuntimeException", "java/lang/Exception"]).filter goodWord)
def wsX1_needRow : List Cond := .code yX1_needRow cX1_needRow 2 none :: ([.classLink RX1 187 "java/lang/IndexOutOfBoundsException", .initialized "java/lang/IndexOutOfBoundsException", .fieldLink RX1 10 "MarbleRamps" "now" "LMarbleRamps$Machine;", .methodLink RX1 184 yX0_hasRow, .instanceMethod yX0_hasRow, .selects RX0 yX0_hasRow yX0_hasRow, .initialized RX0, .code yX0_hasRow cX0_hasRow 2 (some .boolean), .fieldLink RX0 38 "MarbleRamps$Machine" "rowCount" "I"] ++ wsX10 ++ wsX00 ++ (vx_atS RX1 191 "java/lang/IndexOutOfBoundsException" ["java/lang/RuntimeException", "java/lang/Exception"]).filter goodWord)
def wsX1_needColumn : List Cond := .code yX1_needColumn cX1_needColumn 2 none :: ([.classLink RX1 187 "java/lang/IndexOutOfBoundsException", .initialized "java/lang/IndexOutOfBoundsException", .fieldLink RX1 10 "MarbleRamps" "now" "LMarbleRamps$Machine;", .methodLink RX1 192 yX0_hasColumn, .instanceMethod yX0_hasColumn, .selects RX0 yX0_hasColumn yX0_hasColumn, .initialized RX0, .code yX0_hasColumn cX0_hasColumn 2 (some .boolean), .fieldLink RX0 34 "MarbleRamps$Machine" "columnCount" "I"] ++ wsX10 ++ wsX00 ++ (vx_atS RX1 191 "java/lang/IndexOutOfBoundsException" ["java/lang/RuntimeException", "java/lang/Exception"]).filter goodWord)
def wsX1_needPlace : List Cond := .code yX1_needPlace cX1_needPlace 3 none :: ([.methodLink RX1 110 yX1_needRow, .instanceMethod yX1_needRow, .selects RX1 yX1_needRow yX1_needRow, .initialized RX1, .code yX1_needRow cX1_needRow 2 none, .classLink RX1 187 "java/lang/IndexOutOfBoundsException", .initialized "java/lang/IndexOutOfBoundsException", .fieldLink RX1 10 "MarbleRamps" "now" "LMarbleRamps$Machine;", .methodLink RX1 184 yX0_hasRow, .instanceMethod yX0_hasRow, .selects RX0 yX0_hasRow yX0_hasRow, .initialized RX0, .code yX0_hasRow cX0_hasRow 2 (some .boolean), .fieldLink RX0 38 "MarbleRamps$Machine" "rowCount" "I", .methodLink RX1 60 yX1_needColumn, .instanceMethod yX1_needColumn, .selects RX1 yX1_needColumn yX1_needColumn, .code yX1_needColumn cX1_needColumn 2 none, .methodLink RX1 192 yX0_hasColumn, .instanceMethod yX0_hasColumn, .selects RX0 yX0_hasColumn yX0_hasColumn, .code yX0_hasColumn cX0_hasColumn 2 (some .boolean), .fieldLink RX0 34 "MarbleRamps$Machine" "columnCount" "I"] ++ wsX10 ++ wsX00 ++ (vx_atS RX1 191 "java/lang/IndexOutOfBoundsException" ["java/lang/RuntimeException", "java/lang/Exception"]).filter goodWord)
def wsX1_put_r1 : List Cond := [Cond.fieldLink RX1 10 "MarbleRamps" "now" "LMarbleRamps$Machine;", Cond.methodLink RX1 27 yX1_needPlace, Cond.instanceMethod yX1_needPlace, Cond.selects RX1 yX1_needPlace yX1_needPlace, Cond.initialized RX1, Cond.code yX1_needPlace cX1_needPlace 3 none, Cond.methodLink RX1 110 yX1_needRow, Cond.instanceMethod yX1_needRow, Cond.selects RX1 yX1_needRow yX1_needRow, Cond.code yX1_needRow cX1_needRow 2 none, Cond.classLink RX1 187 "java/lang/IndexOutOfBoundsException", Cond.initialized "java/lang/IndexOutOfBoundsException", Cond.methodLink RX1 184 yX0_hasRow, Cond.instanceMethod yX0_hasRow, Cond.selects RX0 yX0_hasRow yX0_hasRow, Cond.initialized RX0, Cond.code yX0_hasRow cX0_hasRow 2 (some .boolean), Cond.fieldLink RX0 38 "MarbleRamps$Machine" "rowCount" "I", Cond.methodLink RX1 60 yX1_needColumn, Cond.instanceMethod yX1_needColumn, Cond.selects RX1 yX1_needColumn yX1_needColumn, Cond.code yX1_needColumn cX1_needColumn 2 none, Cond.methodLink RX1 192 yX0_hasColumn, Cond.instanceMethod yX0_hasColumn]
def wsX1_put_r2 : List Cond := [Cond.selects RX0 yX0_hasColumn yX0_hasColumn, Cond.code yX0_hasColumn cX0_hasColumn 2 (some .boolean), Cond.fieldLink RX0 34 "MarbleRamps$Machine" "columnCount" "I", Cond.methodLink RX1 19 yX1_needWithin, Cond.static yX1_needWithin, Cond.code yX1_needWithin cX1_needWithin 3 none, Cond.classLink RX1 199 "java/lang/IllegalArgumentException", Cond.initialized "java/lang/IllegalArgumentException", Cond.methodLink RX1 30 yX0_replacePart, Cond.instanceMethod yX0_replacePart, Cond.selects RX0 yX0_replacePart yX0_replacePart, Cond.code yX0_replacePart cX0_replacePart 7 (some .int), Cond.fieldLink RX0 9 "MarbleRamps$Machine" "parts" "[I", Cond.fieldLink RX0 15 "MarbleRamps$Machine" "periods" "[I", Cond.fieldLink RX0 18 "MarbleRamps$Machine" "states" "[I", Cond.methodLink RX0 69 yX0_placeOf, Cond.instanceMethod yX0_placeOf, Cond.selects RX0 yX0_placeOf yX0_placeOf, Cond.code yX0_placeOf cX0_placeOf 3 (some .int), Cond.methodLink RX0 65 yX0_partIn, Cond.instanceMethod yX0_partIn, Cond.selects RX0 yX0_partIn yX0_partIn, Cond.code yX0_partIn cX0_partIn 2 (some .int), Cond.static yX1_cell]
def wsX1_put_r3 : List Cond := [Cond.code yX1_cell cX1_cell 2 (some .int), Cond.static yX1_setCell, Cond.code yX1_setCell cX1_setCell 3 none]
def wsX1_put : List Cond := .code yX1_put cX1_put 4 (some .int) :: ((wsX1_put_r1 ++ (wsX1_put_r2 ++ wsX1_put_r3)) ++ wsX10 ++ wsX00 ++ (vx_atS RX1 191 "java/lang/IndexOutOfBoundsException" ["java/lang/RuntimeException", "java/lang/Exception"]).filter goodWord ++ (vx_atS RX1 203 "java/lang/IllegalArgumentException" ["java/lang/RuntimeException", "java/lang/Exception"]).filter goodWord)
def wsX1_putCounter_r1 : List Cond := [Cond.fieldLink RX1 10 "MarbleRamps" "now" "LMarbleRamps$Machine;", Cond.methodLink RX1 27 yX1_needPlace, Cond.instanceMethod yX1_needPlace, Cond.selects RX1 yX1_needPlace yX1_needPlace, Cond.initialized RX1, Cond.code yX1_needPlace cX1_needPlace 3 none, Cond.methodLink RX1 110 yX1_needRow, Cond.instanceMethod yX1_needRow, Cond.selects RX1 yX1_needRow yX1_needRow, Cond.code yX1_needRow cX1_needRow 2 none, Cond.classLink RX1 187 "java/lang/IndexOutOfBoundsException", Cond.initialized "java/lang/IndexOutOfBoundsException", Cond.methodLink RX1 184 yX0_hasRow, Cond.instanceMethod yX0_hasRow, Cond.selects RX0 yX0_hasRow yX0_hasRow, Cond.initialized RX0, Cond.code yX0_hasRow cX0_hasRow 2 (some .boolean), Cond.fieldLink RX0 38 "MarbleRamps$Machine" "rowCount" "I", Cond.methodLink RX1 60 yX1_needColumn, Cond.instanceMethod yX1_needColumn, Cond.selects RX1 yX1_needColumn yX1_needColumn, Cond.code yX1_needColumn cX1_needColumn 2 none, Cond.methodLink RX1 192 yX0_hasColumn, Cond.instanceMethod yX0_hasColumn]
def wsX1_putCounter_r2 : List Cond := [Cond.selects RX0 yX0_hasColumn yX0_hasColumn, Cond.code yX0_hasColumn cX0_hasColumn 2 (some .boolean), Cond.fieldLink RX0 34 "MarbleRamps$Machine" "columnCount" "I", Cond.methodLink RX1 19 yX1_needWithin, Cond.static yX1_needWithin, Cond.code yX1_needWithin cX1_needWithin 3 none, Cond.classLink RX1 199 "java/lang/IllegalArgumentException", Cond.initialized "java/lang/IllegalArgumentException", Cond.methodLink RX1 30 yX0_replacePart, Cond.instanceMethod yX0_replacePart, Cond.selects RX0 yX0_replacePart yX0_replacePart, Cond.code yX0_replacePart cX0_replacePart 7 (some .int), Cond.fieldLink RX0 9 "MarbleRamps$Machine" "parts" "[I", Cond.fieldLink RX0 15 "MarbleRamps$Machine" "periods" "[I", Cond.fieldLink RX0 18 "MarbleRamps$Machine" "states" "[I", Cond.methodLink RX0 69 yX0_placeOf, Cond.instanceMethod yX0_placeOf, Cond.selects RX0 yX0_placeOf yX0_placeOf, Cond.code yX0_placeOf cX0_placeOf 3 (some .int), Cond.methodLink RX0 65 yX0_partIn, Cond.instanceMethod yX0_partIn, Cond.selects RX0 yX0_partIn yX0_partIn, Cond.code yX0_partIn cX0_partIn 2 (some .int), Cond.static yX1_cell]
def wsX1_putCounter_r3 : List Cond := [Cond.code yX1_cell cX1_cell 2 (some .int), Cond.static yX1_setCell, Cond.code yX1_setCell cX1_setCell 3 none]
def wsX1_putCounter : List Cond := .code yX1_putCounter cX1_putCounter 4 (some .int) :: ((wsX1_putCounter_r1 ++ (wsX1_putCounter_r2 ++ wsX1_putCounter_r3)) ++ wsX10 ++ wsX00 ++ (vx_atS RX1 191 "java/lang/IndexOutOfBoundsException" ["java/lang/RuntimeException", "java/lang/Exception"]).filter goodWord ++ (vx_atS RX1 203 "java/lang/IllegalArgumentException" ["java/lang/RuntimeException", "java/lang/Exception"]).filter goodWord)
def wsX1_turn_r1 : List Cond := [Cond.classLink RX1 42 "java/lang/IllegalStateException", Cond.initialized "java/lang/IllegalStateException", Cond.fieldLink RX1 10 "MarbleRamps" "now" "LMarbleRamps$Machine;", Cond.methodLink RX1 27 yX1_needPlace, Cond.instanceMethod yX1_needPlace, Cond.selects RX1 yX1_needPlace yX1_needPlace, Cond.initialized RX1, Cond.code yX1_needPlace cX1_needPlace 3 none, Cond.methodLink RX1 110 yX1_needRow, Cond.instanceMethod yX1_needRow, Cond.selects RX1 yX1_needRow yX1_needRow, Cond.code yX1_needRow cX1_needRow 2 none, Cond.classLink RX1 187 "java/lang/IndexOutOfBoundsException", Cond.initialized "java/lang/IndexOutOfBoundsException", Cond.methodLink RX1 184 yX0_hasRow, Cond.instanceMethod yX0_hasRow, Cond.selects RX0 yX0_hasRow yX0_hasRow, Cond.initialized RX0, Cond.code yX0_hasRow cX0_hasRow 2 (some .boolean), Cond.fieldLink RX0 38 "MarbleRamps$Machine" "rowCount" "I", Cond.methodLink RX1 60 yX1_needColumn, Cond.instanceMethod yX1_needColumn, Cond.selects RX1 yX1_needColumn yX1_needColumn, Cond.code yX1_needColumn cX1_needColumn 2 none]
def wsX1_turn_r2 : List Cond := [Cond.methodLink RX1 192 yX0_hasColumn, Cond.instanceMethod yX0_hasColumn, Cond.selects RX0 yX0_hasColumn yX0_hasColumn, Cond.code yX0_hasColumn cX0_hasColumn 2 (some .boolean), Cond.fieldLink RX0 34 "MarbleRamps$Machine" "columnCount" "I", Cond.methodLink RX1 34 yX0_placeOf, Cond.instanceMethod yX0_placeOf, Cond.selects RX0 yX0_placeOf yX0_placeOf, Cond.code yX0_placeOf cX0_placeOf 3 (some .int), Cond.methodLink RX1 38 yX0_partIn, Cond.instanceMethod yX0_partIn, Cond.selects RX0 yX0_partIn yX0_partIn, Cond.code yX0_partIn cX0_partIn 2 (some .int), Cond.fieldLink RX0 9 "MarbleRamps$Machine" "parts" "[I", Cond.static yX1_cell, Cond.code yX1_cell cX1_cell 2 (some .int), Cond.methodLink RX1 49 yX0_turnOver, Cond.instanceMethod yX0_turnOver, Cond.selects RX0 yX0_turnOver yX0_turnOver, Cond.code yX0_turnOver cX0_turnOver 2 none, Cond.fieldLink RX0 18 "MarbleRamps$Machine" "states" "[I", Cond.methodLink RX0 73 yX0_isRightToggle, Cond.instanceMethod yX0_isRightToggle, Cond.selects RX0 yX0_isRightToggle yX0_isRightToggle]
def wsX1_turn_r3 : List Cond := [Cond.code yX0_isRightToggle cX0_isRightToggle 2 (some .boolean), Cond.methodLink RX0 65 yX0_partIn, Cond.static yX1_setCell, Cond.code yX1_setCell cX1_setCell 3 none, Cond.methodLink RX1 53 yX0_isRightToggle]
def wsX1_turn : List Cond := .code yX1_turn cX1_turn 4 (some .boolean) :: ((wsX1_turn_r1 ++ (wsX1_turn_r2 ++ wsX1_turn_r3)) ++ wsX10 ++ wsX00 ++ (vx_atS RX1 46 "java/lang/IllegalStateException" ["java/lang/RuntimeException", "java/lang/Exception"]).filter goodWord ++ (vx_atS RX1 191 "java/lang/IndexOutOfBoundsException" ["java/lang/RuntimeException", "java/lang/Exception"]).filter goodWord)
def wsX1_needHopper : List Cond := .code yX1_needHopper cX1_needHopper 1 none :: ([.classLink RX1 187 "java/lang/IndexOutOfBoundsException", .initialized "java/lang/IndexOutOfBoundsException"] ++ (vx_atS RX1 191 "java/lang/IndexOutOfBoundsException" ["java/lang/RuntimeException", "java/lang/Exception"]).filter goodWord)
def wsX1_setHopper_r1 : List Cond := [Cond.fieldLink RX1 10 "MarbleRamps" "now" "LMarbleRamps$Machine;", Cond.methodLink RX1 57 yX1_needHopper, Cond.static yX1_needHopper, Cond.initialized RX1, Cond.code yX1_needHopper cX1_needHopper 1 none, Cond.classLink RX1 187 "java/lang/IndexOutOfBoundsException", Cond.initialized "java/lang/IndexOutOfBoundsException", Cond.methodLink RX1 60 yX1_needColumn, Cond.instanceMethod yX1_needColumn, Cond.selects RX1 yX1_needColumn yX1_needColumn, Cond.code yX1_needColumn cX1_needColumn 2 none, Cond.methodLink RX1 192 yX0_hasColumn, Cond.instanceMethod yX0_hasColumn, Cond.selects RX0 yX0_hasColumn yX0_hasColumn, Cond.initialized RX0, Cond.code yX0_hasColumn cX0_hasColumn 2 (some .boolean), Cond.fieldLink RX0 34 "MarbleRamps$Machine" "columnCount" "I", Cond.methodLink RX1 19 yX1_needWithin, Cond.static yX1_needWithin, Cond.code yX1_needWithin cX1_needWithin 3 none, Cond.classLink RX1 199 "java/lang/IllegalArgumentException", Cond.initialized "java/lang/IllegalArgumentException", Cond.methodLink RX1 63 yX0_fillHopper, Cond.instanceMethod yX0_fillHopper]
def wsX1_setHopper_r2 : List Cond := [Cond.selects RX0 yX0_fillHopper yX0_fillHopper, Cond.code yX0_fillHopper cX0_fillHopper 5 (some .int), Cond.fieldLink RX0 27 "MarbleRamps$Machine" "hopperMarbles" "[I", Cond.fieldLink RX0 24 "MarbleRamps$Machine" "hopperColumns" "[I", Cond.static yX1_cell, Cond.code yX1_cell cX1_cell 2 (some .int), Cond.static yX1_setCell, Cond.code yX1_setCell cX1_setCell 3 none]
def wsX1_setHopper : List Cond := .code yX1_setHopper cX1_setHopper 4 (some .int) :: ((wsX1_setHopper_r1 ++ wsX1_setHopper_r2) ++ wsX10 ++ wsX00 ++ (vx_atS RX1 191 "java/lang/IndexOutOfBoundsException" ["java/lang/RuntimeException", "java/lang/Exception"]).filter goodWord ++ (vx_atS RX1 203 "java/lang/IllegalArgumentException" ["java/lang/RuntimeException", "java/lang/Exception"]).filter goodWord)
def wsX1_drop_r1 : List Cond := [Cond.fieldLink RX1 10 "MarbleRamps" "now" "LMarbleRamps$Machine;", Cond.methodLink RX1 60 yX1_needColumn, Cond.instanceMethod yX1_needColumn, Cond.selects RX1 yX1_needColumn yX1_needColumn, Cond.initialized RX1, Cond.code yX1_needColumn cX1_needColumn 2 none, Cond.classLink RX1 187 "java/lang/IndexOutOfBoundsException", Cond.initialized "java/lang/IndexOutOfBoundsException", Cond.methodLink RX1 192 yX0_hasColumn, Cond.instanceMethod yX0_hasColumn, Cond.selects RX0 yX0_hasColumn yX0_hasColumn, Cond.initialized RX0, Cond.code yX0_hasColumn cX0_hasColumn 2 (some .boolean), Cond.fieldLink RX0 34 "MarbleRamps$Machine" "columnCount" "I", Cond.methodLink RX1 67 yX0_letFall, Cond.instanceMethod yX0_letFall, Cond.selects RX0 yX0_letFall yX0_letFall, Cond.code yX0_letFall cX0_letFall 3 (some .int), Cond.fieldLink RX0 38 "MarbleRamps$Machine" "rowCount" "I", Cond.fieldLink RX0 41 "MarbleRamps$Machine" "lostCount" "I", Cond.fieldLink RX0 21 "MarbleRamps$Machine" "bins" "[I", Cond.methodLink RX0 77 yX0_fallTo, Cond.instanceMethod yX0_fallTo, Cond.selects RX0 yX0_fallTo yX0_fallTo]
def wsX1_drop_r2 : List Cond := [Cond.code yX0_fallTo cX0_fallTo 6 (some .int), Cond.methodLink RX0 69 yX0_placeOf, Cond.instanceMethod yX0_placeOf, Cond.selects RX0 yX0_placeOf yX0_placeOf, Cond.code yX0_placeOf cX0_placeOf 3 (some .int), Cond.methodLink RX0 80 yX0_wayOut, Cond.instanceMethod yX0_wayOut, Cond.selects RX0 yX0_wayOut yX0_wayOut, Cond.code yX0_wayOut cX0_wayOut 5 (some .int), Cond.fieldLink RX0 9 "MarbleRamps$Machine" "parts" "[I", Cond.fieldLink RX0 18 "MarbleRamps$Machine" "states" "[I", Cond.fieldLink RX0 15 "MarbleRamps$Machine" "periods" "[I", Cond.static yX1_cell, Cond.code yX1_cell cX1_cell 2 (some .int), Cond.static yX1_setCell, Cond.code yX1_setCell cX1_setCell 3 none, Cond.methodLink RX0 83 yX0_hasColumn]
def wsX1_drop : List Cond := .code yX1_drop cX1_drop 2 (some .int) :: ((wsX1_drop_r1 ++ wsX1_drop_r2) ++ wsX10 ++ wsX00 ++ (vx_atS RX1 191 "java/lang/IndexOutOfBoundsException" ["java/lang/RuntimeException", "java/lang/Exception"]).filter goodWord)
def wsX1_run_r1 : List Cond := [Cond.fieldLink RX1 10 "MarbleRamps" "now" "LMarbleRamps$Machine;", Cond.methodLink RX1 57 yX1_needHopper, Cond.static yX1_needHopper, Cond.initialized RX1, Cond.code yX1_needHopper cX1_needHopper 1 none, Cond.classLink RX1 187 "java/lang/IndexOutOfBoundsException", Cond.initialized "java/lang/IndexOutOfBoundsException", Cond.methodLink RX1 19 yX1_needWithin, Cond.static yX1_needWithin, Cond.code yX1_needWithin cX1_needWithin 3 none, Cond.classLink RX1 199 "java/lang/IllegalArgumentException", Cond.initialized "java/lang/IllegalArgumentException", Cond.methodLink RX1 70 yX0_runFrom, Cond.instanceMethod yX0_runFrom, Cond.selects RX0 yX0_runFrom yX0_runFrom, Cond.initialized RX0, Cond.code yX0_runFrom cX0_runFrom 5 (some .int), Cond.fieldLink RX0 27 "MarbleRamps$Machine" "hopperMarbles" "[I", Cond.fieldLink RX0 24 "MarbleRamps$Machine" "hopperColumns" "[I", Cond.static yX1_cell, Cond.code yX1_cell cX1_cell 2 (some .int), Cond.static yX1_setCell, Cond.code yX1_setCell cX1_setCell 3 none, Cond.methodLink RX0 86 yX0_letFall]
def wsX1_run_r2 : List Cond := [Cond.instanceMethod yX0_letFall, Cond.selects RX0 yX0_letFall yX0_letFall, Cond.code yX0_letFall cX0_letFall 3 (some .int), Cond.fieldLink RX0 38 "MarbleRamps$Machine" "rowCount" "I", Cond.fieldLink RX0 41 "MarbleRamps$Machine" "lostCount" "I", Cond.fieldLink RX0 21 "MarbleRamps$Machine" "bins" "[I", Cond.methodLink RX0 77 yX0_fallTo, Cond.instanceMethod yX0_fallTo, Cond.selects RX0 yX0_fallTo yX0_fallTo, Cond.code yX0_fallTo cX0_fallTo 6 (some .int), Cond.methodLink RX0 69 yX0_placeOf, Cond.instanceMethod yX0_placeOf, Cond.selects RX0 yX0_placeOf yX0_placeOf, Cond.code yX0_placeOf cX0_placeOf 3 (some .int), Cond.fieldLink RX0 34 "MarbleRamps$Machine" "columnCount" "I", Cond.methodLink RX0 80 yX0_wayOut, Cond.instanceMethod yX0_wayOut, Cond.selects RX0 yX0_wayOut yX0_wayOut, Cond.code yX0_wayOut cX0_wayOut 5 (some .int), Cond.fieldLink RX0 9 "MarbleRamps$Machine" "parts" "[I", Cond.fieldLink RX0 18 "MarbleRamps$Machine" "states" "[I", Cond.fieldLink RX0 15 "MarbleRamps$Machine" "periods" "[I", Cond.methodLink RX0 83 yX0_hasColumn, Cond.instanceMethod yX0_hasColumn]
def wsX1_run_r3 : List Cond := [Cond.selects RX0 yX0_hasColumn yX0_hasColumn, Cond.code yX0_hasColumn cX0_hasColumn 2 (some .boolean), Cond.methodLink RX0 89 yX0_hopperBehind, Cond.instanceMethod yX0_hopperBehind, Cond.selects RX0 yX0_hopperBehind yX0_hopperBehind, Cond.code yX0_hopperBehind cX0_hopperBehind 3 (some .int)]
def wsX1_run : List Cond := .code yX1_run cX1_run 3 (some .int) :: ((wsX1_run_r1 ++ (wsX1_run_r2 ++ wsX1_run_r3)) ++ wsX10 ++ wsX00 ++ (vx_atS RX1 191 "java/lang/IndexOutOfBoundsException" ["java/lang/RuntimeException", "java/lang/Exception"]).filter goodWord ++ (vx_atS RX1 203 "java/lang/IllegalArgumentException" ["java/lang/RuntimeException", "java/lang/Exception"]).filter goodWord)
def wsX1_emptyBins : List Cond := .code yX1_emptyBins cX1_emptyBins 2 (some .int) :: ([.fieldLink RX1 10 "MarbleRamps" "now" "LMarbleRamps$Machine;", .methodLink RX1 73 yX0_marblesInBins, .instanceMethod yX0_marblesInBins, .selects RX0 yX0_marblesInBins yX0_marblesInBins, .initialized RX0, .code yX0_marblesInBins cX0_marblesInBins 6 (some .int), .fieldLink RX0 21 "MarbleRamps$Machine" "bins" "[I", .methodLink RX1 77 yX0_clearBins, .instanceMethod yX0_clearBins, .selects RX0 yX0_clearBins yX0_clearBins, .code yX0_clearBins cX0_clearBins 1 none, .methodLink RX0 44 yJ7_fill_53178, .static yJ7_fill_53178, .initialized RJ7, .code yJ7_fill_53178 cJ7_fill_53178 4 none] ++ wsX10 ++ wsX00)
def wsX1_columns : List Cond := .code yX1_columns cX1_columns 1 (some .int) :: ([.fieldLink RX1 10 "MarbleRamps" "now" "LMarbleRamps$Machine;", .fieldLink RX1 80 "MarbleRamps$Machine" "columnCount" "I"] ++ wsX10 ++ wsX00)
def wsX1_rows : List Cond := .code yX1_rows cX1_rows 1 (some .int) :: ([.fieldLink RX1 10 "MarbleRamps" "now" "LMarbleRamps$Machine;", .fieldLink RX1 84 "MarbleRamps$Machine" "rowCount" "I"] ++ wsX10 ++ wsX00)
def wsX1_partAt_r1 : List Cond := [Cond.fieldLink RX1 10 "MarbleRamps" "now" "LMarbleRamps$Machine;", Cond.methodLink RX1 27 yX1_needPlace, Cond.instanceMethod yX1_needPlace, Cond.selects RX1 yX1_needPlace yX1_needPlace, Cond.initialized RX1, Cond.code yX1_needPlace cX1_needPlace 3 none, Cond.methodLink RX1 110 yX1_needRow, Cond.instanceMethod yX1_needRow, Cond.selects RX1 yX1_needRow yX1_needRow, Cond.code yX1_needRow cX1_needRow 2 none, Cond.classLink RX1 187 "java/lang/IndexOutOfBoundsException", Cond.initialized "java/lang/IndexOutOfBoundsException", Cond.methodLink RX1 184 yX0_hasRow, Cond.instanceMethod yX0_hasRow, Cond.selects RX0 yX0_hasRow yX0_hasRow, Cond.initialized RX0, Cond.code yX0_hasRow cX0_hasRow 2 (some .boolean), Cond.fieldLink RX0 38 "MarbleRamps$Machine" "rowCount" "I", Cond.methodLink RX1 60 yX1_needColumn, Cond.instanceMethod yX1_needColumn, Cond.selects RX1 yX1_needColumn yX1_needColumn, Cond.code yX1_needColumn cX1_needColumn 2 none, Cond.methodLink RX1 192 yX0_hasColumn, Cond.instanceMethod yX0_hasColumn]
def wsX1_partAt_r2 : List Cond := [Cond.selects RX0 yX0_hasColumn yX0_hasColumn, Cond.code yX0_hasColumn cX0_hasColumn 2 (some .boolean), Cond.fieldLink RX0 34 "MarbleRamps$Machine" "columnCount" "I", Cond.methodLink RX1 34 yX0_placeOf, Cond.instanceMethod yX0_placeOf, Cond.selects RX0 yX0_placeOf yX0_placeOf, Cond.code yX0_placeOf cX0_placeOf 3 (some .int), Cond.methodLink RX1 38 yX0_partIn, Cond.instanceMethod yX0_partIn, Cond.selects RX0 yX0_partIn yX0_partIn, Cond.code yX0_partIn cX0_partIn 2 (some .int), Cond.fieldLink RX0 9 "MarbleRamps$Machine" "parts" "[I", Cond.static yX1_cell, Cond.code yX1_cell cX1_cell 2 (some .int)]
def wsX1_partAt : List Cond := .code yX1_partAt cX1_partAt 3 (some .int) :: ((wsX1_partAt_r1 ++ wsX1_partAt_r2) ++ wsX10 ++ wsX00 ++ (vx_atS RX1 191 "java/lang/IndexOutOfBoundsException" ["java/lang/RuntimeException", "java/lang/Exception"]).filter goodWord)
def wsX1_leadsRight_r1 : List Cond := [Cond.fieldLink RX1 10 "MarbleRamps" "now" "LMarbleRamps$Machine;", Cond.methodLink RX1 27 yX1_needPlace, Cond.instanceMethod yX1_needPlace, Cond.selects RX1 yX1_needPlace yX1_needPlace, Cond.initialized RX1, Cond.code yX1_needPlace cX1_needPlace 3 none, Cond.methodLink RX1 110 yX1_needRow, Cond.instanceMethod yX1_needRow, Cond.selects RX1 yX1_needRow yX1_needRow, Cond.code yX1_needRow cX1_needRow 2 none, Cond.classLink RX1 187 "java/lang/IndexOutOfBoundsException", Cond.initialized "java/lang/IndexOutOfBoundsException", Cond.methodLink RX1 184 yX0_hasRow, Cond.instanceMethod yX0_hasRow, Cond.selects RX0 yX0_hasRow yX0_hasRow, Cond.initialized RX0, Cond.code yX0_hasRow cX0_hasRow 2 (some .boolean), Cond.fieldLink RX0 38 "MarbleRamps$Machine" "rowCount" "I", Cond.methodLink RX1 60 yX1_needColumn, Cond.instanceMethod yX1_needColumn, Cond.selects RX1 yX1_needColumn yX1_needColumn, Cond.code yX1_needColumn cX1_needColumn 2 none, Cond.methodLink RX1 192 yX0_hasColumn, Cond.instanceMethod yX0_hasColumn]
def wsX1_leadsRight_r2 : List Cond := [Cond.selects RX0 yX0_hasColumn yX0_hasColumn, Cond.code yX0_hasColumn cX0_hasColumn 2 (some .boolean), Cond.fieldLink RX0 34 "MarbleRamps$Machine" "columnCount" "I", Cond.methodLink RX1 34 yX0_placeOf, Cond.instanceMethod yX0_placeOf, Cond.selects RX0 yX0_placeOf yX0_placeOf, Cond.code yX0_placeOf cX0_placeOf 3 (some .int), Cond.methodLink RX1 53 yX0_isRightToggle, Cond.instanceMethod yX0_isRightToggle, Cond.selects RX0 yX0_isRightToggle yX0_isRightToggle, Cond.code yX0_isRightToggle cX0_isRightToggle 2 (some .boolean), Cond.fieldLink RX0 18 "MarbleRamps$Machine" "states" "[I", Cond.methodLink RX0 65 yX0_partIn, Cond.instanceMethod yX0_partIn, Cond.selects RX0 yX0_partIn yX0_partIn, Cond.code yX0_partIn cX0_partIn 2 (some .int), Cond.fieldLink RX0 9 "MarbleRamps$Machine" "parts" "[I", Cond.static yX1_cell, Cond.code yX1_cell cX1_cell 2 (some .int)]
def wsX1_leadsRight : List Cond := .code yX1_leadsRight cX1_leadsRight 3 (some .boolean) :: ((wsX1_leadsRight_r1 ++ wsX1_leadsRight_r2) ++ wsX10 ++ wsX00 ++ (vx_atS RX1 191 "java/lang/IndexOutOfBoundsException" ["java/lang/RuntimeException", "java/lang/Exception"]).filter goodWord)
def wsX1_countAt_r1 : List Cond := [Cond.fieldLink RX1 10 "MarbleRamps" "now" "LMarbleRamps$Machine;", Cond.methodLink RX1 27 yX1_needPlace, Cond.instanceMethod yX1_needPlace, Cond.selects RX1 yX1_needPlace yX1_needPlace, Cond.initialized RX1, Cond.code yX1_needPlace cX1_needPlace 3 none, Cond.methodLink RX1 110 yX1_needRow, Cond.instanceMethod yX1_needRow, Cond.selects RX1 yX1_needRow yX1_needRow, Cond.code yX1_needRow cX1_needRow 2 none, Cond.classLink RX1 187 "java/lang/IndexOutOfBoundsException", Cond.initialized "java/lang/IndexOutOfBoundsException", Cond.methodLink RX1 184 yX0_hasRow, Cond.instanceMethod yX0_hasRow, Cond.selects RX0 yX0_hasRow yX0_hasRow, Cond.initialized RX0, Cond.code yX0_hasRow cX0_hasRow 2 (some .boolean), Cond.fieldLink RX0 38 "MarbleRamps$Machine" "rowCount" "I", Cond.methodLink RX1 60 yX1_needColumn, Cond.instanceMethod yX1_needColumn, Cond.selects RX1 yX1_needColumn yX1_needColumn, Cond.code yX1_needColumn cX1_needColumn 2 none, Cond.methodLink RX1 192 yX0_hasColumn, Cond.instanceMethod yX0_hasColumn]
def wsX1_countAt_r2 : List Cond := [Cond.selects RX0 yX0_hasColumn yX0_hasColumn, Cond.code yX0_hasColumn cX0_hasColumn 2 (some .boolean), Cond.fieldLink RX0 34 "MarbleRamps$Machine" "columnCount" "I", Cond.methodLink RX1 34 yX0_placeOf, Cond.instanceMethod yX0_placeOf, Cond.selects RX0 yX0_placeOf yX0_placeOf, Cond.code yX0_placeOf cX0_placeOf 3 (some .int), Cond.methodLink RX1 87 yX0_countedIn, Cond.instanceMethod yX0_countedIn, Cond.selects RX0 yX0_countedIn yX0_countedIn, Cond.code yX0_countedIn cX0_countedIn 2 (some .int), Cond.fieldLink RX0 18 "MarbleRamps$Machine" "states" "[I", Cond.methodLink RX0 65 yX0_partIn, Cond.instanceMethod yX0_partIn, Cond.selects RX0 yX0_partIn yX0_partIn, Cond.code yX0_partIn cX0_partIn 2 (some .int), Cond.fieldLink RX0 9 "MarbleRamps$Machine" "parts" "[I", Cond.static yX1_cell, Cond.code yX1_cell cX1_cell 2 (some .int)]
def wsX1_countAt : List Cond := .code yX1_countAt cX1_countAt 3 (some .int) :: ((wsX1_countAt_r1 ++ wsX1_countAt_r2) ++ wsX10 ++ wsX00 ++ (vx_atS RX1 191 "java/lang/IndexOutOfBoundsException" ["java/lang/RuntimeException", "java/lang/Exception"]).filter goodWord)
def wsX1_binOf : List Cond := .code yX1_binOf cX1_binOf 2 (some .int) :: ([.fieldLink RX1 10 "MarbleRamps" "now" "LMarbleRamps$Machine;", .fieldLink RX1 90 "MarbleRamps$Machine" "bins" "[I", .methodLink RX1 60 yX1_needColumn, .instanceMethod yX1_needColumn, .selects RX1 yX1_needColumn yX1_needColumn, .initialized RX1, .code yX1_needColumn cX1_needColumn 2 none, .classLink RX1 187 "java/lang/IndexOutOfBoundsException", .initialized "java/lang/IndexOutOfBoundsException", .methodLink RX1 192 yX0_hasColumn, .instanceMethod yX0_hasColumn, .selects RX0 yX0_hasColumn yX0_hasColumn, .initialized RX0, .code yX0_hasColumn cX0_hasColumn 2 (some .boolean), .fieldLink RX0 34 "MarbleRamps$Machine" "columnCount" "I", .methodLink RX1 94 yX1_cell, .static yX1_cell, .code yX1_cell cX1_cell 2 (some .int)] ++ wsX10 ++ wsX00 ++ (vx_atS RX1 191 "java/lang/IndexOutOfBoundsException" ["java/lang/RuntimeException", "java/lang/Exception"]).filter goodWord)
def wsX1_lost : List Cond := .code yX1_lost cX1_lost 1 (some .int) :: ([.fieldLink RX1 10 "MarbleRamps" "now" "LMarbleRamps$Machine;", .fieldLink RX1 98 "MarbleRamps$Machine" "lostCount" "I"] ++ wsX10 ++ wsX00)
def wsX1_marblesIn : List Cond := .code yX1_marblesIn cX1_marblesIn 2 (some .int) :: ([.fieldLink RX1 10 "MarbleRamps" "now" "LMarbleRamps$Machine;", .fieldLink RX1 101 "MarbleRamps$Machine" "hopperMarbles" "[I", .methodLink RX1 57 yX1_needHopper, .static yX1_needHopper, .initialized RX1, .code yX1_needHopper cX1_needHopper 1 none, .classLink RX1 187 "java/lang/IndexOutOfBoundsException", .initialized "java/lang/IndexOutOfBoundsException", .methodLink RX1 94 yX1_cell, .static yX1_cell, .code yX1_cell cX1_cell 2 (some .int)] ++ wsX10 ++ wsX00 ++ (vx_atS RX1 191 "java/lang/IndexOutOfBoundsException" ["java/lang/RuntimeException", "java/lang/Exception"]).filter goodWord)
def wsX1_columnOf : List Cond := .code yX1_columnOf cX1_columnOf 2 (some .int) :: ([.fieldLink RX1 10 "MarbleRamps" "now" "LMarbleRamps$Machine;", .fieldLink RX1 104 "MarbleRamps$Machine" "hopperColumns" "[I", .methodLink RX1 57 yX1_needHopper, .static yX1_needHopper, .initialized RX1, .code yX1_needHopper cX1_needHopper 1 none, .classLink RX1 187 "java/lang/IndexOutOfBoundsException", .initialized "java/lang/IndexOutOfBoundsException", .methodLink RX1 94 yX1_cell, .static yX1_cell, .code yX1_cell cX1_cell 2 (some .int)] ++ wsX10 ++ wsX00 ++ (vx_atS RX1 191 "java/lang/IndexOutOfBoundsException" ["java/lang/RuntimeException", "java/lang/Exception"]).filter goodWord)
def wsX1_toggles : List Cond := .code yX1_toggles cX1_toggles 1 (some .int) :: ([.fieldLink RX1 10 "MarbleRamps" "now" "LMarbleRamps$Machine;", .methodLink RX1 107 yX0_countToggles, .instanceMethod yX0_countToggles, .selects RX0 yX0_countToggles yX0_countToggles, .initialized RX0, .code yX0_countToggles cX0_countToggles 6 (some .int), .fieldLink RX0 9 "MarbleRamps$Machine" "parts" "[I"] ++ wsX10 ++ wsX00)
def wsX1_numberIn_r1 : List Cond := [Cond.fieldLink RX1 10 "MarbleRamps" "now" "LMarbleRamps$Machine;", Cond.methodLink RX1 110 yX1_needRow, Cond.instanceMethod yX1_needRow, Cond.selects RX1 yX1_needRow yX1_needRow, Cond.initialized RX1, Cond.code yX1_needRow cX1_needRow 2 none, Cond.classLink RX1 187 "java/lang/IndexOutOfBoundsException", Cond.initialized "java/lang/IndexOutOfBoundsException", Cond.methodLink RX1 184 yX0_hasRow, Cond.instanceMethod yX0_hasRow, Cond.selects RX0 yX0_hasRow yX0_hasRow, Cond.initialized RX0, Cond.code yX0_hasRow cX0_hasRow 2 (some .boolean), Cond.fieldLink RX0 38 "MarbleRamps$Machine" "rowCount" "I", Cond.methodLink RX1 113 yX0_numberToldBy, Cond.instanceMethod yX0_numberToldBy, Cond.selects RX0 yX0_numberToldBy yX0_numberToldBy, Cond.code yX0_numberToldBy cX0_numberToldBy 6 (some .int), Cond.fieldLink RX0 34 "MarbleRamps$Machine" "columnCount" "I", Cond.methodLink RX0 69 yX0_placeOf, Cond.instanceMethod yX0_placeOf, Cond.selects RX0 yX0_placeOf yX0_placeOf, Cond.code yX0_placeOf cX0_placeOf 3 (some .int), Cond.methodLink RX0 65 yX0_partIn]
def wsX1_numberIn_r2 : List Cond := [Cond.instanceMethod yX0_partIn, Cond.selects RX0 yX0_partIn yX0_partIn, Cond.code yX0_partIn cX0_partIn 2 (some .int), Cond.fieldLink RX0 9 "MarbleRamps$Machine" "parts" "[I", Cond.static yX1_cell, Cond.code yX1_cell cX1_cell 2 (some .int), Cond.methodLink RX0 73 yX0_isRightToggle, Cond.instanceMethod yX0_isRightToggle, Cond.selects RX0 yX0_isRightToggle yX0_isRightToggle, Cond.code yX0_isRightToggle cX0_isRightToggle 2 (some .boolean), Cond.fieldLink RX0 18 "MarbleRamps$Machine" "states" "[I"]
def wsX1_numberIn : List Cond := .code yX1_numberIn cX1_numberIn 2 (some .int) :: ((wsX1_numberIn_r1 ++ wsX1_numberIn_r2) ++ wsX10 ++ wsX00 ++ (vx_atS RX1 191 "java/lang/IndexOutOfBoundsException" ["java/lang/RuntimeException", "java/lang/Exception"]).filter goodWord)
def wsX1_wouldLand_r1 : List Cond := [Cond.fieldLink RX1 16 "MarbleRamps" "trial" "LMarbleRamps$Machine;", Cond.fieldLink RX1 10 "MarbleRamps" "now" "LMarbleRamps$Machine;", Cond.methodLink RX1 60 yX1_needColumn, Cond.instanceMethod yX1_needColumn, Cond.selects RX1 yX1_needColumn yX1_needColumn, Cond.initialized RX1, Cond.code yX1_needColumn cX1_needColumn 2 none, Cond.classLink RX1 187 "java/lang/IndexOutOfBoundsException", Cond.initialized "java/lang/IndexOutOfBoundsException", Cond.methodLink RX1 192 yX0_hasColumn, Cond.instanceMethod yX0_hasColumn, Cond.selects RX0 yX0_hasColumn yX0_hasColumn, Cond.initialized RX0, Cond.code yX0_hasColumn cX0_hasColumn 2 (some .boolean), Cond.fieldLink RX0 34 "MarbleRamps$Machine" "columnCount" "I", Cond.methodLink RX1 116 yX0_becomeLike, Cond.instanceMethod yX0_becomeLike, Cond.selects RX0 yX0_becomeLike yX0_becomeLike, Cond.code yX0_becomeLike cX0_becomeLike 2 none, Cond.fieldLink RX0 38 "MarbleRamps$Machine" "rowCount" "I", Cond.fieldLink RX0 41 "MarbleRamps$Machine" "lostCount" "I", Cond.fieldLink RX0 9 "MarbleRamps$Machine" "parts" "[I", Cond.fieldLink RX0 15 "MarbleRamps$Machine" "periods" "[I", Cond.fieldLink RX0 18 "MarbleRamps$Machine" "states" "[I"]
def wsX1_wouldLand_r2 : List Cond := [Cond.fieldLink RX0 21 "MarbleRamps$Machine" "bins" "[I", Cond.fieldLink RX0 24 "MarbleRamps$Machine" "hopperColumns" "[I", Cond.fieldLink RX0 27 "MarbleRamps$Machine" "hopperMarbles" "[I", Cond.static yX1_copyCells, Cond.code yX1_copyCells cX1_copyCells 3 none, Cond.methodLink RX1 204 yX1_setCell, Cond.static yX1_setCell, Cond.code yX1_setCell cX1_setCell 3 none, Cond.methodLink RX1 67 yX0_letFall, Cond.instanceMethod yX0_letFall, Cond.selects RX0 yX0_letFall yX0_letFall, Cond.code yX0_letFall cX0_letFall 3 (some .int), Cond.methodLink RX0 77 yX0_fallTo, Cond.instanceMethod yX0_fallTo, Cond.selects RX0 yX0_fallTo yX0_fallTo, Cond.code yX0_fallTo cX0_fallTo 6 (some .int), Cond.methodLink RX0 69 yX0_placeOf, Cond.instanceMethod yX0_placeOf, Cond.selects RX0 yX0_placeOf yX0_placeOf, Cond.code yX0_placeOf cX0_placeOf 3 (some .int), Cond.methodLink RX0 80 yX0_wayOut, Cond.instanceMethod yX0_wayOut, Cond.selects RX0 yX0_wayOut yX0_wayOut, Cond.code yX0_wayOut cX0_wayOut 5 (some .int)]
def wsX1_wouldLand_r3 : List Cond := [Cond.static yX1_cell, Cond.code yX1_cell cX1_cell 2 (some .int), Cond.methodLink RX0 83 yX0_hasColumn]
def wsX1_wouldLand : List Cond := .code yX1_wouldLand cX1_wouldLand 2 (some .int) :: ((wsX1_wouldLand_r1 ++ (wsX1_wouldLand_r2 ++ wsX1_wouldLand_r3)) ++ wsX10 ++ wsX00 ++ (vx_atS RX1 191 "java/lang/IndexOutOfBoundsException" ["java/lang/RuntimeException", "java/lang/Exception"]).filter goodWord)
def wsX1_wouldBeIn_r1 : List Cond := [Cond.fieldLink RX1 16 "MarbleRamps" "trial" "LMarbleRamps$Machine;", Cond.fieldLink RX1 10 "MarbleRamps" "now" "LMarbleRamps$Machine;", Cond.methodLink RX1 60 yX1_needColumn, Cond.instanceMethod yX1_needColumn, Cond.selects RX1 yX1_needColumn yX1_needColumn, Cond.initialized RX1, Cond.code yX1_needColumn cX1_needColumn 2 none, Cond.classLink RX1 187 "java/lang/IndexOutOfBoundsException", Cond.initialized "java/lang/IndexOutOfBoundsException", Cond.methodLink RX1 192 yX0_hasColumn, Cond.instanceMethod yX0_hasColumn, Cond.selects RX0 yX0_hasColumn yX0_hasColumn, Cond.initialized RX0, Cond.code yX0_hasColumn cX0_hasColumn 2 (some .boolean), Cond.fieldLink RX0 34 "MarbleRamps$Machine" "columnCount" "I", Cond.methodLink RX1 110 yX1_needRow, Cond.instanceMethod yX1_needRow, Cond.selects RX1 yX1_needRow yX1_needRow, Cond.code yX1_needRow cX1_needRow 2 none, Cond.methodLink RX1 184 yX0_hasRow, Cond.instanceMethod yX0_hasRow, Cond.selects RX0 yX0_hasRow yX0_hasRow, Cond.code yX0_hasRow cX0_hasRow 2 (some .boolean), Cond.fieldLink RX0 38 "MarbleRamps$Machine" "rowCount" "I"]
def wsX1_wouldBeIn_r2 : List Cond := [Cond.methodLink RX1 116 yX0_becomeLike, Cond.instanceMethod yX0_becomeLike, Cond.selects RX0 yX0_becomeLike yX0_becomeLike, Cond.code yX0_becomeLike cX0_becomeLike 2 none, Cond.fieldLink RX0 41 "MarbleRamps$Machine" "lostCount" "I", Cond.fieldLink RX0 9 "MarbleRamps$Machine" "parts" "[I", Cond.fieldLink RX0 15 "MarbleRamps$Machine" "periods" "[I", Cond.fieldLink RX0 18 "MarbleRamps$Machine" "states" "[I", Cond.fieldLink RX0 21 "MarbleRamps$Machine" "bins" "[I", Cond.fieldLink RX0 24 "MarbleRamps$Machine" "hopperColumns" "[I", Cond.fieldLink RX0 27 "MarbleRamps$Machine" "hopperMarbles" "[I", Cond.static yX1_copyCells, Cond.code yX1_copyCells cX1_copyCells 3 none, Cond.methodLink RX1 204 yX1_setCell, Cond.static yX1_setCell, Cond.code yX1_setCell cX1_setCell 3 none, Cond.methodLink RX1 120 yX0_fallTo, Cond.instanceMethod yX0_fallTo, Cond.selects RX0 yX0_fallTo yX0_fallTo, Cond.code yX0_fallTo cX0_fallTo 6 (some .int), Cond.methodLink RX0 69 yX0_placeOf, Cond.instanceMethod yX0_placeOf, Cond.selects RX0 yX0_placeOf yX0_placeOf, Cond.code yX0_placeOf cX0_placeOf 3 (some .int)]
def wsX1_wouldBeIn_r3 : List Cond := [Cond.methodLink RX0 80 yX0_wayOut, Cond.instanceMethod yX0_wayOut, Cond.selects RX0 yX0_wayOut yX0_wayOut, Cond.code yX0_wayOut cX0_wayOut 5 (some .int), Cond.static yX1_cell, Cond.code yX1_cell cX1_cell 2 (some .int), Cond.methodLink RX0 83 yX0_hasColumn]
def wsX1_wouldBeIn : List Cond := .code yX1_wouldBeIn cX1_wouldBeIn 3 (some .int) :: ((wsX1_wouldBeIn_r1 ++ (wsX1_wouldBeIn_r2 ++ wsX1_wouldBeIn_r3)) ++ wsX10 ++ wsX00 ++ (vx_atS RX1 191 "java/lang/IndexOutOfBoundsException" ["java/lang/RuntimeException", "java/lang/Exception"]).filter goodWord)
def wsX1_wouldTurn_r1 : List Cond := [Cond.fieldLink RX1 16 "MarbleRamps" "trial" "LMarbleRamps$Machine;", Cond.fieldLink RX1 10 "MarbleRamps" "now" "LMarbleRamps$Machine;", Cond.methodLink RX1 60 yX1_needColumn, Cond.instanceMethod yX1_needColumn, Cond.selects RX1 yX1_needColumn yX1_needColumn, Cond.initialized RX1, Cond.code yX1_needColumn cX1_needColumn 2 none, Cond.classLink RX1 187 "java/lang/IndexOutOfBoundsException", Cond.initialized "java/lang/IndexOutOfBoundsException", Cond.methodLink RX1 192 yX0_hasColumn, Cond.instanceMethod yX0_hasColumn, Cond.selects RX0 yX0_hasColumn yX0_hasColumn, Cond.initialized RX0, Cond.code yX0_hasColumn cX0_hasColumn 2 (some .boolean), Cond.fieldLink RX0 34 "MarbleRamps$Machine" "columnCount" "I", Cond.methodLink RX1 116 yX0_becomeLike, Cond.instanceMethod yX0_becomeLike, Cond.selects RX0 yX0_becomeLike yX0_becomeLike, Cond.code yX0_becomeLike cX0_becomeLike 2 none, Cond.fieldLink RX0 38 "MarbleRamps$Machine" "rowCount" "I", Cond.fieldLink RX0 41 "MarbleRamps$Machine" "lostCount" "I", Cond.fieldLink RX0 9 "MarbleRamps$Machine" "parts" "[I", Cond.fieldLink RX0 15 "MarbleRamps$Machine" "periods" "[I", Cond.fieldLink RX0 18 "MarbleRamps$Machine" "states" "[I"]
def wsX1_wouldTurn_r2 : List Cond := [Cond.fieldLink RX0 21 "MarbleRamps$Machine" "bins" "[I", Cond.fieldLink RX0 24 "MarbleRamps$Machine" "hopperColumns" "[I", Cond.fieldLink RX0 27 "MarbleRamps$Machine" "hopperMarbles" "[I", Cond.static yX1_copyCells, Cond.code yX1_copyCells cX1_copyCells 3 none, Cond.methodLink RX1 204 yX1_setCell, Cond.static yX1_setCell, Cond.code yX1_setCell cX1_setCell 3 none, Cond.methodLink RX1 67 yX0_letFall, Cond.instanceMethod yX0_letFall, Cond.selects RX0 yX0_letFall yX0_letFall, Cond.code yX0_letFall cX0_letFall 3 (some .int), Cond.methodLink RX0 77 yX0_fallTo, Cond.instanceMethod yX0_fallTo, Cond.selects RX0 yX0_fallTo yX0_fallTo, Cond.code yX0_fallTo cX0_fallTo 6 (some .int), Cond.methodLink RX0 69 yX0_placeOf, Cond.instanceMethod yX0_placeOf, Cond.selects RX0 yX0_placeOf yX0_placeOf, Cond.code yX0_placeOf cX0_placeOf 3 (some .int), Cond.methodLink RX0 80 yX0_wayOut, Cond.instanceMethod yX0_wayOut, Cond.selects RX0 yX0_wayOut yX0_wayOut, Cond.code yX0_wayOut cX0_wayOut 5 (some .int)]
def wsX1_wouldTurn_r3 : List Cond := [Cond.static yX1_cell, Cond.code yX1_cell cX1_cell 2 (some .int), Cond.methodLink RX0 83 yX0_hasColumn, Cond.methodLink RX1 123 yX0_togglesUnlike, Cond.instanceMethod yX0_togglesUnlike, Cond.selects RX0 yX0_togglesUnlike yX0_togglesUnlike, Cond.code yX0_togglesUnlike cX0_togglesUnlike 4 (some .int), Cond.methodLink RX0 73 yX0_isRightToggle, Cond.instanceMethod yX0_isRightToggle, Cond.selects RX0 yX0_isRightToggle yX0_isRightToggle, Cond.code yX0_isRightToggle cX0_isRightToggle 2 (some .boolean), Cond.methodLink RX0 65 yX0_partIn, Cond.instanceMethod yX0_partIn, Cond.selects RX0 yX0_partIn yX0_partIn, Cond.code yX0_partIn cX0_partIn 2 (some .int)]
def wsX1_wouldTurn : List Cond := .code yX1_wouldTurn cX1_wouldTurn 2 (some .int) :: ((wsX1_wouldTurn_r1 ++ (wsX1_wouldTurn_r2 ++ wsX1_wouldTurn_r3)) ++ wsX10 ++ wsX00 ++ (vx_atS RX1 191 "java/lang/IndexOutOfBoundsException" ["java/lang/RuntimeException", "java/lang/Exception"]).filter goodWord)
def wsX1_lastLands_r1 : List Cond := [Cond.fieldLink RX1 16 "MarbleRamps" "trial" "LMarbleRamps$Machine;", Cond.fieldLink RX1 10 "MarbleRamps" "now" "LMarbleRamps$Machine;", Cond.methodLink RX1 60 yX1_needColumn, Cond.instanceMethod yX1_needColumn, Cond.selects RX1 yX1_needColumn yX1_needColumn, Cond.initialized RX1, Cond.code yX1_needColumn cX1_needColumn 2 none, Cond.classLink RX1 187 "java/lang/IndexOutOfBoundsException", Cond.initialized "java/lang/IndexOutOfBoundsException", Cond.methodLink RX1 192 yX0_hasColumn, Cond.instanceMethod yX0_hasColumn, Cond.selects RX0 yX0_hasColumn yX0_hasColumn, Cond.initialized RX0, Cond.code yX0_hasColumn cX0_hasColumn 2 (some .boolean), Cond.fieldLink RX0 34 "MarbleRamps$Machine" "columnCount" "I", Cond.methodLink RX1 19 yX1_needWithin, Cond.static yX1_needWithin, Cond.code yX1_needWithin cX1_needWithin 3 none, Cond.classLink RX1 199 "java/lang/IllegalArgumentException", Cond.initialized "java/lang/IllegalArgumentException", Cond.methodLink RX1 116 yX0_becomeLike, Cond.instanceMethod yX0_becomeLike, Cond.selects RX0 yX0_becomeLike yX0_becomeLike, Cond.code yX0_becomeLike cX0_becomeLike 2 none]
def wsX1_lastLands_r2 : List Cond := [Cond.fieldLink RX0 38 "MarbleRamps$Machine" "rowCount" "I", Cond.fieldLink RX0 41 "MarbleRamps$Machine" "lostCount" "I", Cond.fieldLink RX0 9 "MarbleRamps$Machine" "parts" "[I", Cond.fieldLink RX0 15 "MarbleRamps$Machine" "periods" "[I", Cond.fieldLink RX0 18 "MarbleRamps$Machine" "states" "[I", Cond.fieldLink RX0 21 "MarbleRamps$Machine" "bins" "[I", Cond.fieldLink RX0 24 "MarbleRamps$Machine" "hopperColumns" "[I", Cond.fieldLink RX0 27 "MarbleRamps$Machine" "hopperMarbles" "[I", Cond.static yX1_copyCells, Cond.code yX1_copyCells cX1_copyCells 3 none, Cond.methodLink RX1 204 yX1_setCell, Cond.static yX1_setCell, Cond.code yX1_setCell cX1_setCell 3 none, Cond.methodLink RX1 67 yX0_letFall, Cond.instanceMethod yX0_letFall, Cond.selects RX0 yX0_letFall yX0_letFall, Cond.code yX0_letFall cX0_letFall 3 (some .int), Cond.methodLink RX0 77 yX0_fallTo, Cond.instanceMethod yX0_fallTo, Cond.selects RX0 yX0_fallTo yX0_fallTo, Cond.code yX0_fallTo cX0_fallTo 6 (some .int), Cond.methodLink RX0 69 yX0_placeOf, Cond.instanceMethod yX0_placeOf, Cond.selects RX0 yX0_placeOf yX0_placeOf]
def wsX1_lastLands_r3 : List Cond := [Cond.code yX0_placeOf cX0_placeOf 3 (some .int), Cond.methodLink RX0 80 yX0_wayOut, Cond.instanceMethod yX0_wayOut, Cond.selects RX0 yX0_wayOut yX0_wayOut, Cond.code yX0_wayOut cX0_wayOut 5 (some .int), Cond.static yX1_cell, Cond.code yX1_cell cX1_cell 2 (some .int), Cond.methodLink RX0 83 yX0_hasColumn]
def wsX1_lastLands : List Cond := .code yX1_lastLands cX1_lastLands 5 (some .int) :: ((wsX1_lastLands_r1 ++ (wsX1_lastLands_r2 ++ wsX1_lastLands_r3)) ++ wsX10 ++ wsX00 ++ (vx_atS RX1 191 "java/lang/IndexOutOfBoundsException" ["java/lang/RuntimeException", "java/lang/Exception"]).filter goodWord ++ (vx_atS RX1 203 "java/lang/IllegalArgumentException" ["java/lang/RuntimeException", "java/lang/Exception"]).filter goodWord)
def wsX1_asBeforeIn_r1 : List Cond := [Cond.fieldLink RX1 16 "MarbleRamps" "trial" "LMarbleRamps$Machine;", Cond.fieldLink RX1 10 "MarbleRamps" "now" "LMarbleRamps$Machine;", Cond.methodLink RX1 60 yX1_needColumn, Cond.instanceMethod yX1_needColumn, Cond.selects RX1 yX1_needColumn yX1_needColumn, Cond.initialized RX1, Cond.code yX1_needColumn cX1_needColumn 2 none, Cond.classLink RX1 187 "java/lang/IndexOutOfBoundsException", Cond.initialized "java/lang/IndexOutOfBoundsException", Cond.methodLink RX1 192 yX0_hasColumn, Cond.instanceMethod yX0_hasColumn, Cond.selects RX0 yX0_hasColumn yX0_hasColumn, Cond.initialized RX0, Cond.code yX0_hasColumn cX0_hasColumn 2 (some .boolean), Cond.fieldLink RX0 34 "MarbleRamps$Machine" "columnCount" "I", Cond.methodLink RX1 116 yX0_becomeLike, Cond.instanceMethod yX0_becomeLike, Cond.selects RX0 yX0_becomeLike yX0_becomeLike, Cond.code yX0_becomeLike cX0_becomeLike 2 none, Cond.fieldLink RX0 38 "MarbleRamps$Machine" "rowCount" "I", Cond.fieldLink RX0 41 "MarbleRamps$Machine" "lostCount" "I", Cond.fieldLink RX0 9 "MarbleRamps$Machine" "parts" "[I", Cond.fieldLink RX0 15 "MarbleRamps$Machine" "periods" "[I", Cond.fieldLink RX0 18 "MarbleRamps$Machine" "states" "[I"]
def wsX1_asBeforeIn_r2 : List Cond := [Cond.fieldLink RX0 21 "MarbleRamps$Machine" "bins" "[I", Cond.fieldLink RX0 24 "MarbleRamps$Machine" "hopperColumns" "[I", Cond.fieldLink RX0 27 "MarbleRamps$Machine" "hopperMarbles" "[I", Cond.static yX1_copyCells, Cond.code yX1_copyCells cX1_copyCells 3 none, Cond.methodLink RX1 204 yX1_setCell, Cond.static yX1_setCell, Cond.code yX1_setCell cX1_setCell 3 none, Cond.methodLink RX1 67 yX0_letFall, Cond.instanceMethod yX0_letFall, Cond.selects RX0 yX0_letFall yX0_letFall, Cond.code yX0_letFall cX0_letFall 3 (some .int), Cond.methodLink RX0 77 yX0_fallTo, Cond.instanceMethod yX0_fallTo, Cond.selects RX0 yX0_fallTo yX0_fallTo, Cond.code yX0_fallTo cX0_fallTo 6 (some .int), Cond.methodLink RX0 69 yX0_placeOf, Cond.instanceMethod yX0_placeOf, Cond.selects RX0 yX0_placeOf yX0_placeOf, Cond.code yX0_placeOf cX0_placeOf 3 (some .int), Cond.methodLink RX0 80 yX0_wayOut, Cond.instanceMethod yX0_wayOut, Cond.selects RX0 yX0_wayOut yX0_wayOut, Cond.code yX0_wayOut cX0_wayOut 5 (some .int)]
def wsX1_asBeforeIn_r3 : List Cond := [Cond.static yX1_cell, Cond.code yX1_cell cX1_cell 2 (some .int), Cond.methodLink RX0 83 yX0_hasColumn, Cond.methodLink RX1 127 yX0_hasStatesOf, Cond.instanceMethod yX0_hasStatesOf, Cond.selects RX0 yX0_hasStatesOf yX0_hasStatesOf, Cond.code yX0_hasStatesOf cX0_hasStatesOf 3 (some .boolean)]
def wsX1_asBeforeIn : List Cond := .code yX1_asBeforeIn cX1_asBeforeIn 3 (some .int) :: ((wsX1_asBeforeIn_r1 ++ (wsX1_asBeforeIn_r2 ++ wsX1_asBeforeIn_r3)) ++ wsX10 ++ wsX00 ++ (vx_atS RX1 191 "java/lang/IndexOutOfBoundsException" ["java/lang/RuntimeException", "java/lang/Exception"]).filter goodWord)
def wsX1_wouldRun_r1 : List Cond := [Cond.fieldLink RX1 16 "MarbleRamps" "trial" "LMarbleRamps$Machine;", Cond.fieldLink RX1 10 "MarbleRamps" "now" "LMarbleRamps$Machine;", Cond.methodLink RX1 57 yX1_needHopper, Cond.static yX1_needHopper, Cond.initialized RX1, Cond.code yX1_needHopper cX1_needHopper 1 none, Cond.classLink RX1 187 "java/lang/IndexOutOfBoundsException", Cond.initialized "java/lang/IndexOutOfBoundsException", Cond.methodLink RX1 116 yX0_becomeLike, Cond.instanceMethod yX0_becomeLike, Cond.selects RX0 yX0_becomeLike yX0_becomeLike, Cond.initialized RX0, Cond.code yX0_becomeLike cX0_becomeLike 2 none, Cond.fieldLink RX0 34 "MarbleRamps$Machine" "columnCount" "I", Cond.fieldLink RX0 38 "MarbleRamps$Machine" "rowCount" "I", Cond.fieldLink RX0 41 "MarbleRamps$Machine" "lostCount" "I", Cond.fieldLink RX0 9 "MarbleRamps$Machine" "parts" "[I", Cond.fieldLink RX0 15 "MarbleRamps$Machine" "periods" "[I", Cond.fieldLink RX0 18 "MarbleRamps$Machine" "states" "[I", Cond.fieldLink RX0 21 "MarbleRamps$Machine" "bins" "[I", Cond.fieldLink RX0 24 "MarbleRamps$Machine" "hopperColumns" "[I", Cond.fieldLink RX0 27 "MarbleRamps$Machine" "hopperMarbles" "[I", Cond.static yX1_copyCells, Cond.code yX1_copyCells cX1_copyCells 3 none]
def wsX1_wouldRun_r2 : List Cond := [Cond.methodLink RX1 204 yX1_setCell, Cond.static yX1_setCell, Cond.code yX1_setCell cX1_setCell 3 none, Cond.methodLink RX1 70 yX0_runFrom, Cond.instanceMethod yX0_runFrom, Cond.selects RX0 yX0_runFrom yX0_runFrom, Cond.code yX0_runFrom cX0_runFrom 5 (some .int), Cond.static yX1_cell, Cond.code yX1_cell cX1_cell 2 (some .int), Cond.methodLink RX0 86 yX0_letFall, Cond.instanceMethod yX0_letFall, Cond.selects RX0 yX0_letFall yX0_letFall, Cond.code yX0_letFall cX0_letFall 3 (some .int), Cond.methodLink RX0 77 yX0_fallTo, Cond.instanceMethod yX0_fallTo, Cond.selects RX0 yX0_fallTo yX0_fallTo, Cond.code yX0_fallTo cX0_fallTo 6 (some .int), Cond.methodLink RX0 69 yX0_placeOf, Cond.instanceMethod yX0_placeOf, Cond.selects RX0 yX0_placeOf yX0_placeOf, Cond.code yX0_placeOf cX0_placeOf 3 (some .int), Cond.methodLink RX0 80 yX0_wayOut, Cond.instanceMethod yX0_wayOut, Cond.selects RX0 yX0_wayOut yX0_wayOut]
def wsX1_wouldRun_r3 : List Cond := [Cond.code yX0_wayOut cX0_wayOut 5 (some .int), Cond.methodLink RX0 83 yX0_hasColumn, Cond.instanceMethod yX0_hasColumn, Cond.selects RX0 yX0_hasColumn yX0_hasColumn, Cond.code yX0_hasColumn cX0_hasColumn 2 (some .boolean), Cond.methodLink RX0 89 yX0_hopperBehind, Cond.instanceMethod yX0_hopperBehind, Cond.selects RX0 yX0_hopperBehind yX0_hopperBehind, Cond.code yX0_hopperBehind cX0_hopperBehind 3 (some .int)]
def wsX1_wouldRun : List Cond := .code yX1_wouldRun cX1_wouldRun 2 (some .int) :: ((wsX1_wouldRun_r1 ++ (wsX1_wouldRun_r2 ++ wsX1_wouldRun_r3)) ++ wsX10 ++ wsX00 ++ (vx_atS RX1 191 "java/lang/IndexOutOfBoundsException" ["java/lang/RuntimeException", "java/lang/Exception"]).filter goodWord)
def wsX1_bestColumn_r1 : List Cond := [Cond.methodLink RX1 131 yX1_columns, Cond.instanceMethod yX1_columns, Cond.selects RX1 yX1_columns yX1_columns, Cond.initialized RX1, Cond.code yX1_columns cX1_columns 1 (some .int), Cond.fieldLink RX1 10 "MarbleRamps" "now" "LMarbleRamps$Machine;", Cond.fieldLink RX1 80 "MarbleRamps$Machine" "columnCount" "I", Cond.methodLink RX1 134 yX1_wouldTurn, Cond.instanceMethod yX1_wouldTurn, Cond.selects RX1 yX1_wouldTurn yX1_wouldTurn, Cond.code yX1_wouldTurn cX1_wouldTurn 2 (some .int), Cond.fieldLink RX1 16 "MarbleRamps" "trial" "LMarbleRamps$Machine;", Cond.methodLink RX1 60 yX1_needColumn, Cond.instanceMethod yX1_needColumn, Cond.selects RX1 yX1_needColumn yX1_needColumn, Cond.code yX1_needColumn cX1_needColumn 2 none, Cond.classLink RX1 187 "java/lang/IndexOutOfBoundsException", Cond.initialized "java/lang/IndexOutOfBoundsException", Cond.methodLink RX1 192 yX0_hasColumn, Cond.instanceMethod yX0_hasColumn, Cond.selects RX0 yX0_hasColumn yX0_hasColumn, Cond.initialized RX0, Cond.code yX0_hasColumn cX0_hasColumn 2 (some .boolean), Cond.fieldLink RX0 34 "MarbleRamps$Machine" "columnCount" "I"]
def wsX1_bestColumn_r2 : List Cond := [Cond.methodLink RX1 116 yX0_becomeLike, Cond.instanceMethod yX0_becomeLike, Cond.selects RX0 yX0_becomeLike yX0_becomeLike, Cond.code yX0_becomeLike cX0_becomeLike 2 none, Cond.fieldLink RX0 38 "MarbleRamps$Machine" "rowCount" "I", Cond.fieldLink RX0 41 "MarbleRamps$Machine" "lostCount" "I", Cond.fieldLink RX0 9 "MarbleRamps$Machine" "parts" "[I", Cond.fieldLink RX0 15 "MarbleRamps$Machine" "periods" "[I", Cond.fieldLink RX0 18 "MarbleRamps$Machine" "states" "[I", Cond.fieldLink RX0 21 "MarbleRamps$Machine" "bins" "[I", Cond.fieldLink RX0 24 "MarbleRamps$Machine" "hopperColumns" "[I", Cond.fieldLink RX0 27 "MarbleRamps$Machine" "hopperMarbles" "[I", Cond.static yX1_copyCells, Cond.code yX1_copyCells cX1_copyCells 3 none, Cond.methodLink RX1 204 yX1_setCell, Cond.static yX1_setCell, Cond.code yX1_setCell cX1_setCell 3 none, Cond.methodLink RX1 67 yX0_letFall, Cond.instanceMethod yX0_letFall, Cond.selects RX0 yX0_letFall yX0_letFall, Cond.code yX0_letFall cX0_letFall 3 (some .int), Cond.methodLink RX0 77 yX0_fallTo, Cond.instanceMethod yX0_fallTo, Cond.selects RX0 yX0_fallTo yX0_fallTo]
def wsX1_bestColumn_r3 : List Cond := [Cond.code yX0_fallTo cX0_fallTo 6 (some .int), Cond.methodLink RX0 69 yX0_placeOf, Cond.instanceMethod yX0_placeOf, Cond.selects RX0 yX0_placeOf yX0_placeOf, Cond.code yX0_placeOf cX0_placeOf 3 (some .int), Cond.methodLink RX0 80 yX0_wayOut, Cond.instanceMethod yX0_wayOut, Cond.selects RX0 yX0_wayOut yX0_wayOut, Cond.code yX0_wayOut cX0_wayOut 5 (some .int), Cond.static yX1_cell, Cond.code yX1_cell cX1_cell 2 (some .int), Cond.methodLink RX0 83 yX0_hasColumn, Cond.methodLink RX1 123 yX0_togglesUnlike, Cond.instanceMethod yX0_togglesUnlike, Cond.selects RX0 yX0_togglesUnlike yX0_togglesUnlike, Cond.code yX0_togglesUnlike cX0_togglesUnlike 4 (some .int), Cond.methodLink RX0 73 yX0_isRightToggle, Cond.instanceMethod yX0_isRightToggle, Cond.selects RX0 yX0_isRightToggle yX0_isRightToggle, Cond.code yX0_isRightToggle cX0_isRightToggle 2 (some .boolean), Cond.methodLink RX0 65 yX0_partIn, Cond.instanceMethod yX0_partIn, Cond.selects RX0 yX0_partIn yX0_partIn, Cond.code yX0_partIn cX0_partIn 2 (some .int)]
def wsX1_bestColumn : List Cond := .code yX1_bestColumn cX1_bestColumn 5 (some .int) :: ((wsX1_bestColumn_r1 ++ (wsX1_bestColumn_r2 ++ wsX1_bestColumn_r3)) ++ wsX10 ++ wsX00 ++ (vx_atS RX1 191 "java/lang/IndexOutOfBoundsException" ["java/lang/RuntimeException", "java/lang/Exception"]).filter goodWord)
def wsX1_meanInBins : List Cond := .code yX1_meanInBins cX1_meanInBins 2 (some .double) :: ([.fieldLink RX1 10 "MarbleRamps" "now" "LMarbleRamps$Machine;", .methodLink RX1 131 yX1_columns, .instanceMethod yX1_columns, .selects RX1 yX1_columns yX1_columns, .initialized RX1, .code yX1_columns cX1_columns 1 (some .int), .fieldLink RX1 80 "MarbleRamps$Machine" "columnCount" "I", .methodLink RX1 73 yX0_marblesInBins, .instanceMethod yX0_marblesInBins, .selects RX0 yX0_marblesInBins yX0_marblesInBins, .initialized RX0, .code yX0_marblesInBins cX0_marblesInBins 6 (some .int), .fieldLink RX0 21 "MarbleRamps$Machine" "bins" "[I"] ++ wsX10 ++ wsX00)
def wsX1_digest_r1 : List Cond := [Cond.constantLong RX1 137 (2239), Cond.constantLong RX1 139 (31), Cond.methodLink RX1 131 yX1_columns, Cond.instanceMethod yX1_columns, Cond.selects RX1 yX1_columns yX1_columns, Cond.initialized RX1, Cond.code yX1_columns cX1_columns 1 (some .int), Cond.fieldLink RX1 10 "MarbleRamps" "now" "LMarbleRamps$Machine;", Cond.fieldLink RX1 80 "MarbleRamps$Machine" "columnCount" "I", Cond.methodLink RX1 141 yX1_rows, Cond.instanceMethod yX1_rows, Cond.selects RX1 yX1_rows yX1_rows, Cond.code yX1_rows cX1_rows 1 (some .int), Cond.fieldLink RX1 84 "MarbleRamps$Machine" "rowCount" "I", Cond.methodLink RX1 144 yX1_lost, Cond.instanceMethod yX1_lost, Cond.selects RX1 yX1_lost yX1_lost, Cond.code yX1_lost cX1_lost 1 (some .int), Cond.fieldLink RX1 98 "MarbleRamps$Machine" "lostCount" "I", Cond.methodLink RX1 147 yX1_toggles, Cond.instanceMethod yX1_toggles, Cond.selects RX1 yX1_toggles yX1_toggles, Cond.code yX1_toggles cX1_toggles 1 (some .int), Cond.methodLink RX1 107 yX0_countToggles]
def wsX1_digest_r2 : List Cond := [Cond.instanceMethod yX0_countToggles, Cond.selects RX0 yX0_countToggles yX0_countToggles, Cond.initialized RX0, Cond.code yX0_countToggles cX0_countToggles 6 (some .int), Cond.fieldLink RX0 9 "MarbleRamps$Machine" "parts" "[I", Cond.methodLink RX1 150 yX1_bestColumn, Cond.instanceMethod yX1_bestColumn, Cond.selects RX1 yX1_bestColumn yX1_bestColumn, Cond.code yX1_bestColumn cX1_bestColumn 5 (some .int), Cond.methodLink RX1 134 yX1_wouldTurn, Cond.instanceMethod yX1_wouldTurn, Cond.selects RX1 yX1_wouldTurn yX1_wouldTurn, Cond.code yX1_wouldTurn cX1_wouldTurn 2 (some .int), Cond.fieldLink RX1 16 "MarbleRamps" "trial" "LMarbleRamps$Machine;", Cond.methodLink RX1 60 yX1_needColumn, Cond.instanceMethod yX1_needColumn, Cond.selects RX1 yX1_needColumn yX1_needColumn, Cond.code yX1_needColumn cX1_needColumn 2 none, Cond.classLink RX1 187 "java/lang/IndexOutOfBoundsException", Cond.initialized "java/lang/IndexOutOfBoundsException", Cond.methodLink RX1 192 yX0_hasColumn, Cond.instanceMethod yX0_hasColumn, Cond.selects RX0 yX0_hasColumn yX0_hasColumn, Cond.code yX0_hasColumn cX0_hasColumn 2 (some .boolean)]
def wsX1_digest_r3 : List Cond := [Cond.fieldLink RX0 34 "MarbleRamps$Machine" "columnCount" "I", Cond.methodLink RX1 116 yX0_becomeLike, Cond.instanceMethod yX0_becomeLike, Cond.selects RX0 yX0_becomeLike yX0_becomeLike, Cond.code yX0_becomeLike cX0_becomeLike 2 none, Cond.fieldLink RX0 38 "MarbleRamps$Machine" "rowCount" "I", Cond.fieldLink RX0 41 "MarbleRamps$Machine" "lostCount" "I", Cond.fieldLink RX0 15 "MarbleRamps$Machine" "periods" "[I", Cond.fieldLink RX0 18 "MarbleRamps$Machine" "states" "[I", Cond.fieldLink RX0 21 "MarbleRamps$Machine" "bins" "[I", Cond.fieldLink RX0 24 "MarbleRamps$Machine" "hopperColumns" "[I", Cond.fieldLink RX0 27 "MarbleRamps$Machine" "hopperMarbles" "[I", Cond.static yX1_copyCells, Cond.code yX1_copyCells cX1_copyCells 3 none, Cond.methodLink RX1 204 yX1_setCell, Cond.static yX1_setCell, Cond.code yX1_setCell cX1_setCell 3 none, Cond.methodLink RX1 67 yX0_letFall, Cond.instanceMethod yX0_letFall, Cond.selects RX0 yX0_letFall yX0_letFall, Cond.code yX0_letFall cX0_letFall 3 (some .int), Cond.methodLink RX0 77 yX0_fallTo, Cond.instanceMethod yX0_fallTo, Cond.selects RX0 yX0_fallTo yX0_fallTo]
def wsX1_digest_r4 : List Cond := [Cond.code yX0_fallTo cX0_fallTo 6 (some .int), Cond.methodLink RX0 69 yX0_placeOf, Cond.instanceMethod yX0_placeOf, Cond.selects RX0 yX0_placeOf yX0_placeOf, Cond.code yX0_placeOf cX0_placeOf 3 (some .int), Cond.methodLink RX0 80 yX0_wayOut, Cond.instanceMethod yX0_wayOut, Cond.selects RX0 yX0_wayOut yX0_wayOut, Cond.code yX0_wayOut cX0_wayOut 5 (some .int), Cond.static yX1_cell, Cond.code yX1_cell cX1_cell 2 (some .int), Cond.methodLink RX0 83 yX0_hasColumn, Cond.methodLink RX1 123 yX0_togglesUnlike, Cond.instanceMethod yX0_togglesUnlike, Cond.selects RX0 yX0_togglesUnlike yX0_togglesUnlike, Cond.code yX0_togglesUnlike cX0_togglesUnlike 4 (some .int), Cond.methodLink RX0 73 yX0_isRightToggle, Cond.instanceMethod yX0_isRightToggle, Cond.selects RX0 yX0_isRightToggle yX0_isRightToggle, Cond.code yX0_isRightToggle cX0_isRightToggle 2 (some .boolean), Cond.methodLink RX0 65 yX0_partIn, Cond.instanceMethod yX0_partIn, Cond.selects RX0 yX0_partIn yX0_partIn, Cond.code yX0_partIn cX0_partIn 2 (some .int)]
def wsX1_digest_r5 : List Cond := [Cond.methodLink RX1 153 yX1_marblesIn, Cond.instanceMethod yX1_marblesIn, Cond.selects RX1 yX1_marblesIn yX1_marblesIn, Cond.code yX1_marblesIn cX1_marblesIn 2 (some .int), Cond.fieldLink RX1 101 "MarbleRamps$Machine" "hopperMarbles" "[I", Cond.methodLink RX1 57 yX1_needHopper, Cond.static yX1_needHopper, Cond.code yX1_needHopper cX1_needHopper 1 none, Cond.methodLink RX1 94 yX1_cell, Cond.methodLink RX1 156 yX1_columnOf, Cond.instanceMethod yX1_columnOf, Cond.selects RX1 yX1_columnOf yX1_columnOf, Cond.code yX1_columnOf cX1_columnOf 2 (some .int), Cond.fieldLink RX1 104 "MarbleRamps$Machine" "hopperColumns" "[I", Cond.methodLink RX1 159 yX1_wouldRun, Cond.instanceMethod yX1_wouldRun, Cond.selects RX1 yX1_wouldRun yX1_wouldRun, Cond.code yX1_wouldRun cX1_wouldRun 2 (some .int), Cond.methodLink RX1 70 yX0_runFrom, Cond.instanceMethod yX0_runFrom, Cond.selects RX0 yX0_runFrom yX0_runFrom, Cond.code yX0_runFrom cX0_runFrom 5 (some .int), Cond.methodLink RX0 86 yX0_letFall, Cond.methodLink RX0 89 yX0_hopperBehind]
def wsX1_digest_r6 : List Cond := [Cond.instanceMethod yX0_hopperBehind, Cond.selects RX0 yX0_hopperBehind yX0_hopperBehind, Cond.code yX0_hopperBehind cX0_hopperBehind 3 (some .int), Cond.methodLink RX1 162 yX1_numberIn, Cond.instanceMethod yX1_numberIn, Cond.selects RX1 yX1_numberIn yX1_numberIn, Cond.code yX1_numberIn cX1_numberIn 2 (some .int), Cond.methodLink RX1 110 yX1_needRow, Cond.instanceMethod yX1_needRow, Cond.selects RX1 yX1_needRow yX1_needRow, Cond.code yX1_needRow cX1_needRow 2 none, Cond.methodLink RX1 184 yX0_hasRow, Cond.instanceMethod yX0_hasRow, Cond.selects RX0 yX0_hasRow yX0_hasRow, Cond.code yX0_hasRow cX0_hasRow 2 (some .boolean), Cond.methodLink RX1 113 yX0_numberToldBy, Cond.instanceMethod yX0_numberToldBy, Cond.selects RX0 yX0_numberToldBy yX0_numberToldBy, Cond.code yX0_numberToldBy cX0_numberToldBy 6 (some .int), Cond.methodLink RX1 165 yX1_partAt, Cond.instanceMethod yX1_partAt, Cond.selects RX1 yX1_partAt yX1_partAt, Cond.code yX1_partAt cX1_partAt 3 (some .int), Cond.methodLink RX1 27 yX1_needPlace]
def wsX1_digest_r7 : List Cond := [Cond.instanceMethod yX1_needPlace, Cond.selects RX1 yX1_needPlace yX1_needPlace, Cond.code yX1_needPlace cX1_needPlace 3 none, Cond.methodLink RX1 34 yX0_placeOf, Cond.methodLink RX1 38 yX0_partIn, Cond.methodLink RX1 168 yX1_leadsRight, Cond.instanceMethod yX1_leadsRight, Cond.selects RX1 yX1_leadsRight yX1_leadsRight, Cond.code yX1_leadsRight cX1_leadsRight 3 (some .boolean), Cond.methodLink RX1 53 yX0_isRightToggle, Cond.methodLink RX1 172 yX1_countAt, Cond.instanceMethod yX1_countAt, Cond.selects RX1 yX1_countAt yX1_countAt, Cond.code yX1_countAt cX1_countAt 3 (some .int), Cond.methodLink RX1 87 yX0_countedIn, Cond.instanceMethod yX0_countedIn, Cond.selects RX0 yX0_countedIn yX0_countedIn, Cond.code yX0_countedIn cX0_countedIn 2 (some .int), Cond.methodLink RX1 175 yX1_binOf, Cond.instanceMethod yX1_binOf, Cond.selects RX1 yX1_binOf yX1_binOf, Cond.code yX1_binOf cX1_binOf 2 (some .int), Cond.fieldLink RX1 90 "MarbleRamps$Machine" "bins" "[I", Cond.methodLink RX1 178 yX1_wouldLand]
def wsX1_digest_r8 : List Cond := [Cond.instanceMethod yX1_wouldLand, Cond.selects RX1 yX1_wouldLand yX1_wouldLand, Cond.code yX1_wouldLand cX1_wouldLand 2 (some .int), Cond.methodLink RX1 181 yX1_asBeforeIn, Cond.instanceMethod yX1_asBeforeIn, Cond.selects RX1 yX1_asBeforeIn yX1_asBeforeIn, Cond.code yX1_asBeforeIn cX1_asBeforeIn 3 (some .int), Cond.methodLink RX1 127 yX0_hasStatesOf, Cond.instanceMethod yX0_hasStatesOf, Cond.selects RX0 yX0_hasStatesOf yX0_hasStatesOf, Cond.code yX0_hasStatesOf cX0_hasStatesOf 3 (some .boolean)]
def wsX1_digest : List Cond := .code yX1_digest cX1_digest 5 (some .long) :: ((wsX1_digest_r1 ++ (wsX1_digest_r2 ++ (wsX1_digest_r3 ++ (wsX1_digest_r4 ++ (wsX1_digest_r5 ++ (wsX1_digest_r6 ++ (wsX1_digest_r7 ++ wsX1_digest_r8))))))) ++ wsX10 ++ wsX00 ++ (vx_atS RX1 191 "java/lang/IndexOutOfBoundsException" ["java/lang/RuntimeException", "java/lang/Exception"]).filter goodWord)
def wsX2_init : List Cond := .code yX2_init cX2_init 1 none :: ([.methodLink RX2 3 objectInit, .instanceMethod objectInit, .code objectInit ⟨#[0xb1]⟩ 1 none, .fieldLink RX2 9 "MarbleRampsModel" "columns" "I", .fieldLink RX2 13 "MarbleRampsModel" "rows" "I", .arrayClass .int, .fieldLink RX2 16 "MarbleRampsModel" "part" "[I", .fieldLink RX2 20 "MarbleRampsModel" "period" "[I", .fieldLink RX2 23 "MarbleRampsModel" "above" "[I", .fieldLink RX2 26 "MarbleRampsModel" "now" "[I", .fieldLink RX2 29 "MarbleRampsModel" "kept" "[I", .fieldLink RX2 32 "MarbleRampsModel" "way" "[I"] ++ wsX20)
def wsX2_thrown : List Cond := .code yX2_thrown cX2_thrown 1 (some .int) :: ([.fieldLink RX2 35 "MarbleRampsModel" "thrown" "I"] ++ wsX20)
def wsX2_no : List Cond := .code yX2_no cX2_no 2 (some .int) :: ([.fieldLink RX2 35 "MarbleRampsModel" "thrown" "I"] ++ wsX20)
def wsX2_isNot : List Cond := .code yX2_isNot cX2_isNot 2 (some .boolean) :: ([.fieldLink RX2 35 "MarbleRampsModel" "thrown" "I"] ++ wsX20)
def wsX2_ok : List Cond := .code yX2_ok cX2_ok 2 (some .int) :: ([.fieldLink RX2 35 "MarbleRampsModel" "thrown" "I"] ++ wsX20)
def wsX2_isFrom : List Cond := .code yX2_isFrom cX2_isFrom 3 (some .boolean) :: ([])
def wsX2_isColumn : List Cond := .code yX2_isColumn cX2_isColumn 2 (some .boolean) :: ([.fieldLink RX2 9 "MarbleRampsModel" "columns" "I", .methodLink RX2 38 yX2_isFrom, .static yX2_isFrom, .initialized RX2, .code yX2_isFrom cX2_isFrom 3 (some .boolean)] ++ wsX20)
def wsX2_isRow : List Cond := .code yX2_isRow cX2_isRow 2 (some .boolean) :: ([.fieldLink RX2 13 "MarbleRampsModel" "rows" "I", .methodLink RX2 38 yX2_isFrom, .static yX2_isFrom, .initialized RX2, .code yX2_isFrom cX2_isFrom 3 (some .boolean)] ++ wsX20)
def wsX2_isPlace : List Cond := .code yX2_isPlace cX2_isPlace 3 (some .boolean) :: ([.methodLink RX2 42 yX2_isRow, .instanceMethod yX2_isRow, .selects RX2 yX2_isRow yX2_isRow, .initialized RX2, .code yX2_isRow cX2_isRow 2 (some .boolean), .fieldLink RX2 13 "MarbleRampsModel" "rows" "I", .methodLink RX2 38 yX2_isFrom, .static yX2_isFrom, .code yX2_isFrom cX2_isFrom 3 (some .boolean), .methodLink RX2 46 yX2_isColumn, .instanceMethod yX2_isColumn, .selects RX2 yX2_isColumn yX2_isColumn, .code yX2_isColumn cX2_isColumn 2 (some .boolean), .fieldLink RX2 9 "MarbleRampsModel" "columns" "I"] ++ wsX20)
def wsX2_keep : List Cond := .code yX2_keep cX2_keep 1 none :: ([.fieldLink RX2 26 "MarbleRampsModel" "now" "[I", .fieldLink RX2 29 "MarbleRampsModel" "kept" "[I", .methodLink RX2 49 arraycopyName, .native arraycopyName, .static arraycopyName, .initialized "java/lang/System"] ++ wsX20)
def wsX2_bringBack : List Cond := .code yX2_bringBack cX2_bringBack 1 none :: ([.fieldLink RX2 29 "MarbleRampsModel" "kept" "[I", .fieldLink RX2 26 "MarbleRampsModel" "now" "[I", .methodLink RX2 49 arraycopyName, .native arraycopyName, .static arraycopyName, .initialized "java/lang/System"] ++ wsX20)
def wsX2_goes : List Cond := .code yX2_goes cX2_goes 4 (some .int) :: ([.fieldLink RX2 26 "MarbleRampsModel" "now" "[I", .fieldLink RX2 16 "MarbleRampsModel" "part" "[I", .fieldLink RX2 55 "MarbleRampsModel" "turned" "I", .fieldLink RX2 20 "MarbleRampsModel" "period" "[I"] ++ wsX20)
def wsX2_fall : List Cond := .code yX2_fall cX2_fall 5 (some .int) :: ([.fieldLink RX2 55 "MarbleRampsModel" "turned" "I", .fieldLink RX2 32 "MarbleRampsModel" "way" "[I", .fieldLink RX2 13 "MarbleRampsModel" "rows" "I", .fieldLink RX2 26 "MarbleRampsModel" "now" "[I", .methodLink RX2 58 yX2_goes, .instanceMethod yX2_goes, .selects RX2 yX2_goes yX2_goes, .initialized RX2, .code yX2_goes cX2_goes 4 (some .int), .fieldLink RX2 16 "MarbleRampsModel" "part" "[I", .fieldLink RX2 20 "MarbleRampsModel" "period" "[I", .methodLink RX2 46 yX2_isColumn, .instanceMethod yX2_isColumn, .selects RX2 yX2_isColumn yX2_isColumn, .code yX2_isColumn cX2_isColumn 2 (some .boolean), .fieldLink RX2 9 "MarbleRampsModel" "columns" "I", .methodLink RX2 38 yX2_isFrom, .static yX2_isFrom, .code yX2_isFrom cX2_isFrom 3 (some .boolean)] ++ wsX20)
def wsJ6_signum_0f7a4 : List Cond := .code yJ6_signum_0f7a4 cJ6_signum_0f7a4 1 (some .int) :: ([])
def wsX2_runFrom_r1 : List Cond := [Cond.fieldLink RX2 26 "MarbleRampsModel" "now" "[I", Cond.fieldLink RX2 23 "MarbleRampsModel" "above" "[I", Cond.fieldLink RX2 9 "MarbleRampsModel" "columns" "I", Cond.methodLink RX2 62 yX2_fall, Cond.instanceMethod yX2_fall, Cond.selects RX2 yX2_fall yX2_fall, Cond.initialized RX2, Cond.code yX2_fall cX2_fall 5 (some .int), Cond.fieldLink RX2 55 "MarbleRampsModel" "turned" "I", Cond.fieldLink RX2 32 "MarbleRampsModel" "way" "[I", Cond.fieldLink RX2 13 "MarbleRampsModel" "rows" "I", Cond.methodLink RX2 58 yX2_goes, Cond.instanceMethod yX2_goes, Cond.selects RX2 yX2_goes yX2_goes, Cond.code yX2_goes cX2_goes 4 (some .int), Cond.fieldLink RX2 16 "MarbleRampsModel" "part" "[I", Cond.fieldLink RX2 20 "MarbleRampsModel" "period" "[I", Cond.methodLink RX2 46 yX2_isColumn, Cond.instanceMethod yX2_isColumn, Cond.selects RX2 yX2_isColumn yX2_isColumn, Cond.code yX2_isColumn cX2_isColumn 2 (some .boolean), Cond.methodLink RX2 38 yX2_isFrom, Cond.static yX2_isFrom, Cond.code yX2_isFrom cX2_isFrom 3 (some .boolean)]
def wsX2_runFrom_r2 : List Cond := [Cond.methodLink RX2 66 yJ6_signum_0f7a4, Cond.static yJ6_signum_0f7a4, Cond.initialized RJ6, Cond.code yJ6_signum_0f7a4 cJ6_signum_0f7a4 1 (some .int)]
def wsX2_runFrom : List Cond := .code yX2_runFrom cX2_runFrom 7 (some .int) :: ((wsX2_runFrom_r1 ++ wsX2_runFrom_r2) ++ wsX20)
def wsX2_lay : List Cond := .code yX2_lay cX2_lay 4 (some .int) :: ([.fieldLink RX2 35 "MarbleRampsModel" "thrown" "I", .fieldLink RX2 9 "MarbleRampsModel" "columns" "I", .fieldLink RX2 13 "MarbleRampsModel" "rows" "I", .fieldLink RX2 16 "MarbleRampsModel" "part" "[I", .fieldLink RX2 26 "MarbleRampsModel" "now" "[I", .fieldLink RX2 23 "MarbleRampsModel" "above" "[I", .methodLink RX2 38 yX2_isFrom, .static yX2_isFrom, .initialized RX2, .code yX2_isFrom cX2_isFrom 3 (some .boolean), .methodLink RX2 71 yX2_no, .instanceMethod yX2_no, .selects RX2 yX2_no yX2_no, .code yX2_no cX2_no 2 (some .int)] ++ wsX20)
def wsX2_placed : List Cond := .code yX2_placed cX2_placed 6 (some .int) :: ([.fieldLink RX2 16 "MarbleRampsModel" "part" "[I", .fieldLink RX2 26 "MarbleRampsModel" "now" "[I"] ++ wsX20)
def wsX2_put_r1 : List Cond := [Cond.fieldLink RX2 35 "MarbleRampsModel" "thrown" "I", Cond.methodLink RX2 74 yX2_isPlace, Cond.instanceMethod yX2_isPlace, Cond.selects RX2 yX2_isPlace yX2_isPlace, Cond.initialized RX2, Cond.code yX2_isPlace cX2_isPlace 3 (some .boolean), Cond.methodLink RX2 42 yX2_isRow, Cond.instanceMethod yX2_isRow, Cond.selects RX2 yX2_isRow yX2_isRow, Cond.code yX2_isRow cX2_isRow 2 (some .boolean), Cond.fieldLink RX2 13 "MarbleRampsModel" "rows" "I", Cond.methodLink RX2 38 yX2_isFrom, Cond.static yX2_isFrom, Cond.code yX2_isFrom cX2_isFrom 3 (some .boolean), Cond.methodLink RX2 46 yX2_isColumn, Cond.instanceMethod yX2_isColumn, Cond.selects RX2 yX2_isColumn yX2_isColumn, Cond.code yX2_isColumn cX2_isColumn 2 (some .boolean), Cond.fieldLink RX2 9 "MarbleRampsModel" "columns" "I", Cond.methodLink RX2 71 yX2_no, Cond.instanceMethod yX2_no, Cond.selects RX2 yX2_no yX2_no, Cond.code yX2_no cX2_no 2 (some .int), Cond.methodLink RX2 78 yX2_placed]
def wsX2_put_r2 : List Cond := [Cond.instanceMethod yX2_placed, Cond.selects RX2 yX2_placed yX2_placed, Cond.code yX2_placed cX2_placed 6 (some .int), Cond.fieldLink RX2 16 "MarbleRampsModel" "part" "[I", Cond.fieldLink RX2 26 "MarbleRampsModel" "now" "[I"]
def wsX2_put : List Cond := .code yX2_put cX2_put 4 (some .int) :: ((wsX2_put_r1 ++ wsX2_put_r2) ++ wsX20)
def wsX2_putCounter_r1 : List Cond := [Cond.fieldLink RX2 35 "MarbleRampsModel" "thrown" "I", Cond.fieldLink RX2 20 "MarbleRampsModel" "period" "[I", Cond.methodLink RX2 74 yX2_isPlace, Cond.instanceMethod yX2_isPlace, Cond.selects RX2 yX2_isPlace yX2_isPlace, Cond.initialized RX2, Cond.code yX2_isPlace cX2_isPlace 3 (some .boolean), Cond.methodLink RX2 42 yX2_isRow, Cond.instanceMethod yX2_isRow, Cond.selects RX2 yX2_isRow yX2_isRow, Cond.code yX2_isRow cX2_isRow 2 (some .boolean), Cond.fieldLink RX2 13 "MarbleRampsModel" "rows" "I", Cond.methodLink RX2 38 yX2_isFrom, Cond.static yX2_isFrom, Cond.code yX2_isFrom cX2_isFrom 3 (some .boolean), Cond.methodLink RX2 46 yX2_isColumn, Cond.instanceMethod yX2_isColumn, Cond.selects RX2 yX2_isColumn yX2_isColumn, Cond.code yX2_isColumn cX2_isColumn 2 (some .boolean), Cond.fieldLink RX2 9 "MarbleRampsModel" "columns" "I", Cond.methodLink RX2 71 yX2_no, Cond.instanceMethod yX2_no, Cond.selects RX2 yX2_no yX2_no, Cond.code yX2_no cX2_no 2 (some .int)]
def wsX2_putCounter_r2 : List Cond := [Cond.methodLink RX2 78 yX2_placed, Cond.instanceMethod yX2_placed, Cond.selects RX2 yX2_placed yX2_placed, Cond.code yX2_placed cX2_placed 6 (some .int), Cond.fieldLink RX2 16 "MarbleRampsModel" "part" "[I", Cond.fieldLink RX2 26 "MarbleRampsModel" "now" "[I"]
def wsX2_putCounter : List Cond := .code yX2_putCounter cX2_putCounter 4 (some .int) :: ((wsX2_putCounter_r1 ++ wsX2_putCounter_r2) ++ wsX20)
def wsX2_turn_r1 : List Cond := [Cond.fieldLink RX2 35 "MarbleRampsModel" "thrown" "I", Cond.fieldLink RX2 16 "MarbleRampsModel" "part" "[I", Cond.fieldLink RX2 26 "MarbleRampsModel" "now" "[I", Cond.methodLink RX2 74 yX2_isPlace, Cond.instanceMethod yX2_isPlace, Cond.selects RX2 yX2_isPlace yX2_isPlace, Cond.initialized RX2, Cond.code yX2_isPlace cX2_isPlace 3 (some .boolean), Cond.methodLink RX2 42 yX2_isRow, Cond.instanceMethod yX2_isRow, Cond.selects RX2 yX2_isRow yX2_isRow, Cond.code yX2_isRow cX2_isRow 2 (some .boolean), Cond.fieldLink RX2 13 "MarbleRampsModel" "rows" "I", Cond.methodLink RX2 38 yX2_isFrom, Cond.static yX2_isFrom, Cond.code yX2_isFrom cX2_isFrom 3 (some .boolean), Cond.methodLink RX2 46 yX2_isColumn, Cond.instanceMethod yX2_isColumn, Cond.selects RX2 yX2_isColumn yX2_isColumn, Cond.code yX2_isColumn cX2_isColumn 2 (some .boolean), Cond.fieldLink RX2 9 "MarbleRampsModel" "columns" "I", Cond.methodLink RX2 82 yX2_isNot, Cond.instanceMethod yX2_isNot, Cond.selects RX2 yX2_isNot yX2_isNot]
def wsX2_turn_r2 : List Cond := [Cond.code yX2_isNot cX2_isNot 2 (some .boolean)]
def wsX2_turn : List Cond := .code yX2_turn cX2_turn 4 (some .boolean) :: ((wsX2_turn_r1 ++ wsX2_turn_r2) ++ wsX20)
def wsX2_setHopper : List Cond := .code yX2_setHopper cX2_setHopper 5 (some .int) :: ([.fieldLink RX2 35 "MarbleRampsModel" "thrown" "I", .fieldLink RX2 26 "MarbleRampsModel" "now" "[I", .fieldLink RX2 23 "MarbleRampsModel" "above" "[I", .methodLink RX2 38 yX2_isFrom, .static yX2_isFrom, .initialized RX2, .code yX2_isFrom cX2_isFrom 3 (some .boolean), .methodLink RX2 46 yX2_isColumn, .instanceMethod yX2_isColumn, .selects RX2 yX2_isColumn yX2_isColumn, .code yX2_isColumn cX2_isColumn 2 (some .boolean), .fieldLink RX2 9 "MarbleRampsModel" "columns" "I", .methodLink RX2 71 yX2_no, .instanceMethod yX2_no, .selects RX2 yX2_no yX2_no, .code yX2_no cX2_no 2 (some .int)] ++ wsX20)
def wsX2_drop_r1 : List Cond := [Cond.fieldLink RX2 35 "MarbleRampsModel" "thrown" "I", Cond.methodLink RX2 46 yX2_isColumn, Cond.instanceMethod yX2_isColumn, Cond.selects RX2 yX2_isColumn yX2_isColumn, Cond.initialized RX2, Cond.code yX2_isColumn cX2_isColumn 2 (some .boolean), Cond.fieldLink RX2 9 "MarbleRampsModel" "columns" "I", Cond.methodLink RX2 38 yX2_isFrom, Cond.static yX2_isFrom, Cond.code yX2_isFrom cX2_isFrom 3 (some .boolean), Cond.methodLink RX2 62 yX2_fall, Cond.instanceMethod yX2_fall, Cond.selects RX2 yX2_fall yX2_fall, Cond.code yX2_fall cX2_fall 5 (some .int), Cond.fieldLink RX2 55 "MarbleRampsModel" "turned" "I", Cond.fieldLink RX2 32 "MarbleRampsModel" "way" "[I", Cond.fieldLink RX2 13 "MarbleRampsModel" "rows" "I", Cond.fieldLink RX2 26 "MarbleRampsModel" "now" "[I", Cond.methodLink RX2 58 yX2_goes, Cond.instanceMethod yX2_goes, Cond.selects RX2 yX2_goes yX2_goes, Cond.code yX2_goes cX2_goes 4 (some .int), Cond.fieldLink RX2 16 "MarbleRampsModel" "part" "[I", Cond.fieldLink RX2 20 "MarbleRampsModel" "period" "[I"]
def wsX2_drop_r2 : List Cond := [Cond.methodLink RX2 71 yX2_no, Cond.instanceMethod yX2_no, Cond.selects RX2 yX2_no yX2_no, Cond.code yX2_no cX2_no 2 (some .int)]
def wsX2_drop : List Cond := .code yX2_drop cX2_drop 2 (some .int) :: ((wsX2_drop_r1 ++ wsX2_drop_r2) ++ wsX20)
def wsX2_run_r1 : List Cond := [Cond.fieldLink RX2 35 "MarbleRampsModel" "thrown" "I", Cond.methodLink RX2 38 yX2_isFrom, Cond.static yX2_isFrom, Cond.initialized RX2, Cond.code yX2_isFrom cX2_isFrom 3 (some .boolean), Cond.methodLink RX2 71 yX2_no, Cond.instanceMethod yX2_no, Cond.selects RX2 yX2_no yX2_no, Cond.code yX2_no cX2_no 2 (some .int), Cond.methodLink RX2 85 yX2_runFrom, Cond.instanceMethod yX2_runFrom, Cond.selects RX2 yX2_runFrom yX2_runFrom, Cond.code yX2_runFrom cX2_runFrom 7 (some .int), Cond.fieldLink RX2 26 "MarbleRampsModel" "now" "[I", Cond.fieldLink RX2 23 "MarbleRampsModel" "above" "[I", Cond.fieldLink RX2 9 "MarbleRampsModel" "columns" "I", Cond.methodLink RX2 62 yX2_fall, Cond.instanceMethod yX2_fall, Cond.selects RX2 yX2_fall yX2_fall, Cond.code yX2_fall cX2_fall 5 (some .int), Cond.fieldLink RX2 55 "MarbleRampsModel" "turned" "I", Cond.fieldLink RX2 32 "MarbleRampsModel" "way" "[I", Cond.fieldLink RX2 13 "MarbleRampsModel" "rows" "I", Cond.methodLink RX2 58 yX2_goes]
def wsX2_run_r2 : List Cond := [Cond.instanceMethod yX2_goes, Cond.selects RX2 yX2_goes yX2_goes, Cond.code yX2_goes cX2_goes 4 (some .int), Cond.fieldLink RX2 16 "MarbleRampsModel" "part" "[I", Cond.fieldLink RX2 20 "MarbleRampsModel" "period" "[I", Cond.methodLink RX2 46 yX2_isColumn, Cond.instanceMethod yX2_isColumn, Cond.selects RX2 yX2_isColumn yX2_isColumn, Cond.code yX2_isColumn cX2_isColumn 2 (some .boolean), Cond.methodLink RX2 66 yJ6_signum_0f7a4, Cond.static yJ6_signum_0f7a4, Cond.initialized RJ6, Cond.code yJ6_signum_0f7a4 cJ6_signum_0f7a4 1 (some .int)]
def wsX2_run : List Cond := .code yX2_run cX2_run 3 (some .int) :: ((wsX2_run_r1 ++ wsX2_run_r2) ++ wsX20)
def wsX2_inBins : List Cond := .code yX2_inBins cX2_inBins 3 (some .int) :: ([.fieldLink RX2 9 "MarbleRampsModel" "columns" "I", .fieldLink RX2 26 "MarbleRampsModel" "now" "[I"] ++ wsX20)
def wsX2_emptyBins : List Cond := .code yX2_emptyBins cX2_emptyBins 3 (some .int) :: ([.fieldLink RX2 9 "MarbleRampsModel" "columns" "I", .fieldLink RX2 26 "MarbleRampsModel" "now" "[I", .methodLink RX2 88 yX2_inBins, .instanceMethod yX2_inBins, .selects RX2 yX2_inBins yX2_inBins, .initialized RX2, .code yX2_inBins cX2_inBins 3 (some .int), .methodLink RX2 92 yX2_ok, .instanceMethod yX2_ok, .selects RX2 yX2_ok yX2_ok, .code yX2_ok cX2_ok 2 (some .int), .fieldLink RX2 35 "MarbleRampsModel" "thrown" "I"] ++ wsX20)
def wsX2_columns : List Cond := .code yX2_columns cX2_columns 1 (some .int) :: ([.fieldLink RX2 9 "MarbleRampsModel" "columns" "I", .methodLink RX2 92 yX2_ok, .instanceMethod yX2_ok, .selects RX2 yX2_ok yX2_ok, .initialized RX2, .code yX2_ok cX2_ok 2 (some .int), .fieldLink RX2 35 "MarbleRampsModel" "thrown" "I"] ++ wsX20)
def wsX2_rows : List Cond := .code yX2_rows cX2_rows 1 (some .int) :: ([.fieldLink RX2 13 "MarbleRampsModel" "rows" "I", .methodLink RX2 92 yX2_ok, .instanceMethod yX2_ok, .selects RX2 yX2_ok yX2_ok, .initialized RX2, .code yX2_ok cX2_ok 2 (some .int), .fieldLink RX2 35 "MarbleRampsModel" "thrown" "I"] ++ wsX20)
def wsX2_partAt : List Cond := .code yX2_partAt cX2_partAt 3 (some .int) :: ([.fieldLink RX2 35 "MarbleRampsModel" "thrown" "I", .fieldLink RX2 16 "MarbleRampsModel" "part" "[I", .methodLink RX2 74 yX2_isPlace, .instanceMethod yX2_isPlace, .selects RX2 yX2_isPlace yX2_isPlace, .initialized RX2, .code yX2_isPlace cX2_isPlace 3 (some .boolean), .methodLink RX2 42 yX2_isRow, .instanceMethod yX2_isRow, .selects RX2 yX2_isRow yX2_isRow, .code yX2_isRow cX2_isRow 2 (some .boolean), .fieldLink RX2 13 "MarbleRampsModel" "rows" "I", .methodLink RX2 38 yX2_isFrom, .static yX2_isFrom, .code yX2_isFrom cX2_isFrom 3 (some .boolean), .methodLink RX2 46 yX2_isColumn, .instanceMethod yX2_isColumn, .selects RX2 yX2_isColumn yX2_isColumn, .code yX2_isColumn cX2_isColumn 2 (some .boolean), .fieldLink RX2 9 "MarbleRampsModel" "columns" "I", .methodLink RX2 71 yX2_no, .instanceMethod yX2_no, .selects RX2 yX2_no yX2_no, .code yX2_no cX2_no 2 (some .int)] ++ wsX20)
def wsX2_isRight : List Cond := .code yX2_isRight cX2_isRight 3 (some .boolean) :: ([.fieldLink RX2 16 "MarbleRampsModel" "part" "[I", .fieldLink RX2 26 "MarbleRampsModel" "now" "[I"] ++ wsX20)
def wsX2_leadsRight_r1 : List Cond := [Cond.fieldLink RX2 35 "MarbleRampsModel" "thrown" "I", Cond.methodLink RX2 74 yX2_isPlace, Cond.instanceMethod yX2_isPlace, Cond.selects RX2 yX2_isPlace yX2_isPlace, Cond.initialized RX2, Cond.code yX2_isPlace cX2_isPlace 3 (some .boolean), Cond.methodLink RX2 42 yX2_isRow, Cond.instanceMethod yX2_isRow, Cond.selects RX2 yX2_isRow yX2_isRow, Cond.code yX2_isRow cX2_isRow 2 (some .boolean), Cond.fieldLink RX2 13 "MarbleRampsModel" "rows" "I", Cond.methodLink RX2 38 yX2_isFrom, Cond.static yX2_isFrom, Cond.code yX2_isFrom cX2_isFrom 3 (some .boolean), Cond.methodLink RX2 46 yX2_isColumn, Cond.instanceMethod yX2_isColumn, Cond.selects RX2 yX2_isColumn yX2_isColumn, Cond.code yX2_isColumn cX2_isColumn 2 (some .boolean), Cond.fieldLink RX2 9 "MarbleRampsModel" "columns" "I", Cond.methodLink RX2 95 yX2_isRight, Cond.instanceMethod yX2_isRight, Cond.selects RX2 yX2_isRight yX2_isRight, Cond.code yX2_isRight cX2_isRight 3 (some .boolean), Cond.fieldLink RX2 16 "MarbleRampsModel" "part" "[I"]
def wsX2_leadsRight_r2 : List Cond := [Cond.fieldLink RX2 26 "MarbleRampsModel" "now" "[I", Cond.methodLink RX2 82 yX2_isNot, Cond.instanceMethod yX2_isNot, Cond.selects RX2 yX2_isNot yX2_isNot, Cond.code yX2_isNot cX2_isNot 2 (some .boolean)]
def wsX2_leadsRight : List Cond := .code yX2_leadsRight cX2_leadsRight 3 (some .boolean) :: ((wsX2_leadsRight_r1 ++ wsX2_leadsRight_r2) ++ wsX20)
def wsX2_counted : List Cond := .code yX2_counted cX2_counted 3 (some .int) :: ([.fieldLink RX2 16 "MarbleRampsModel" "part" "[I", .fieldLink RX2 26 "MarbleRampsModel" "now" "[I"] ++ wsX20)
def wsX2_countAt_r1 : List Cond := [Cond.fieldLink RX2 35 "MarbleRampsModel" "thrown" "I", Cond.methodLink RX2 74 yX2_isPlace, Cond.instanceMethod yX2_isPlace, Cond.selects RX2 yX2_isPlace yX2_isPlace, Cond.initialized RX2, Cond.code yX2_isPlace cX2_isPlace 3 (some .boolean), Cond.methodLink RX2 42 yX2_isRow, Cond.instanceMethod yX2_isRow, Cond.selects RX2 yX2_isRow yX2_isRow, Cond.code yX2_isRow cX2_isRow 2 (some .boolean), Cond.fieldLink RX2 13 "MarbleRampsModel" "rows" "I", Cond.methodLink RX2 38 yX2_isFrom, Cond.static yX2_isFrom, Cond.code yX2_isFrom cX2_isFrom 3 (some .boolean), Cond.methodLink RX2 46 yX2_isColumn, Cond.instanceMethod yX2_isColumn, Cond.selects RX2 yX2_isColumn yX2_isColumn, Cond.code yX2_isColumn cX2_isColumn 2 (some .boolean), Cond.fieldLink RX2 9 "MarbleRampsModel" "columns" "I", Cond.methodLink RX2 98 yX2_counted, Cond.instanceMethod yX2_counted, Cond.selects RX2 yX2_counted yX2_counted, Cond.code yX2_counted cX2_counted 3 (some .int), Cond.fieldLink RX2 16 "MarbleRampsModel" "part" "[I"]
def wsX2_countAt_r2 : List Cond := [Cond.fieldLink RX2 26 "MarbleRampsModel" "now" "[I", Cond.methodLink RX2 71 yX2_no, Cond.instanceMethod yX2_no, Cond.selects RX2 yX2_no yX2_no, Cond.code yX2_no cX2_no 2 (some .int)]
def wsX2_countAt : List Cond := .code yX2_countAt cX2_countAt 3 (some .int) :: ((wsX2_countAt_r1 ++ wsX2_countAt_r2) ++ wsX20)
def wsX2_binOf : List Cond := .code yX2_binOf cX2_binOf 2 (some .int) :: ([.fieldLink RX2 35 "MarbleRampsModel" "thrown" "I", .fieldLink RX2 26 "MarbleRampsModel" "now" "[I", .methodLink RX2 46 yX2_isColumn, .instanceMethod yX2_isColumn, .selects RX2 yX2_isColumn yX2_isColumn, .initialized RX2, .code yX2_isColumn cX2_isColumn 2 (some .boolean), .fieldLink RX2 9 "MarbleRampsModel" "columns" "I", .methodLink RX2 38 yX2_isFrom, .static yX2_isFrom, .code yX2_isFrom cX2_isFrom 3 (some .boolean), .methodLink RX2 71 yX2_no, .instanceMethod yX2_no, .selects RX2 yX2_no yX2_no, .code yX2_no cX2_no 2 (some .int)] ++ wsX20)
def wsX2_lost : List Cond := .code yX2_lost cX2_lost 1 (some .int) :: ([.fieldLink RX2 26 "MarbleRampsModel" "now" "[I", .methodLink RX2 92 yX2_ok, .instanceMethod yX2_ok, .selects RX2 yX2_ok yX2_ok, .initialized RX2, .code yX2_ok cX2_ok 2 (some .int), .fieldLink RX2 35 "MarbleRampsModel" "thrown" "I"] ++ wsX20)
def wsX2_marblesIn : List Cond := .code yX2_marblesIn cX2_marblesIn 2 (some .int) :: ([.fieldLink RX2 35 "MarbleRampsModel" "thrown" "I", .fieldLink RX2 26 "MarbleRampsModel" "now" "[I", .methodLink RX2 38 yX2_isFrom, .static yX2_isFrom, .initialized RX2, .code yX2_isFrom cX2_isFrom 3 (some .boolean), .methodLink RX2 71 yX2_no, .instanceMethod yX2_no, .selects RX2 yX2_no yX2_no, .code yX2_no cX2_no 2 (some .int)] ++ wsX20)
def wsX2_columnOf : List Cond := .code yX2_columnOf cX2_columnOf 2 (some .int) :: ([.fieldLink RX2 35 "MarbleRampsModel" "thrown" "I", .fieldLink RX2 23 "MarbleRampsModel" "above" "[I", .methodLink RX2 38 yX2_isFrom, .static yX2_isFrom, .initialized RX2, .code yX2_isFrom cX2_isFrom 3 (some .boolean), .methodLink RX2 71 yX2_no, .instanceMethod yX2_no, .selects RX2 yX2_no yX2_no, .code yX2_no cX2_no 2 (some .int)] ++ wsX20)
def wsX2_togglesNow : List Cond := .code yX2_togglesNow cX2_togglesNow 3 (some .int) :: ([.fieldLink RX2 16 "MarbleRampsModel" "part" "[I"] ++ wsX20)
def wsX2_toggles : List Cond := .code yX2_toggles cX2_toggles 1 (some .int) :: ([.methodLink RX2 101 yX2_togglesNow, .instanceMethod yX2_togglesNow, .selects RX2 yX2_togglesNow yX2_togglesNow, .initialized RX2, .code yX2_togglesNow cX2_togglesNow 3 (some .int), .fieldLink RX2 16 "MarbleRampsModel" "part" "[I", .methodLink RX2 92 yX2_ok, .instanceMethod yX2_ok, .selects RX2 yX2_ok yX2_ok, .code yX2_ok cX2_ok 2 (some .int), .fieldLink RX2 35 "MarbleRampsModel" "thrown" "I"] ++ wsX20)
def wsX2_number : List Cond := .code yX2_number cX2_number 5 (some .int) :: ([.fieldLink RX2 9 "MarbleRampsModel" "columns" "I", .fieldLink RX2 16 "MarbleRampsModel" "part" "[I", .methodLink RX2 95 yX2_isRight, .instanceMethod yX2_isRight, .selects RX2 yX2_isRight yX2_isRight, .initialized RX2, .code yX2_isRight cX2_isRight 3 (some .boolean), .fieldLink RX2 26 "MarbleRampsModel" "now" "[I"] ++ wsX20)
def wsX2_numberIn_r1 : List Cond := [Cond.fieldLink RX2 35 "MarbleRampsModel" "thrown" "I", Cond.methodLink RX2 42 yX2_isRow, Cond.instanceMethod yX2_isRow, Cond.selects RX2 yX2_isRow yX2_isRow, Cond.initialized RX2, Cond.code yX2_isRow cX2_isRow 2 (some .boolean), Cond.fieldLink RX2 13 "MarbleRampsModel" "rows" "I", Cond.methodLink RX2 38 yX2_isFrom, Cond.static yX2_isFrom, Cond.code yX2_isFrom cX2_isFrom 3 (some .boolean), Cond.methodLink RX2 104 yX2_number, Cond.instanceMethod yX2_number, Cond.selects RX2 yX2_number yX2_number, Cond.code yX2_number cX2_number 5 (some .int), Cond.fieldLink RX2 9 "MarbleRampsModel" "columns" "I", Cond.fieldLink RX2 16 "MarbleRampsModel" "part" "[I", Cond.methodLink RX2 95 yX2_isRight, Cond.instanceMethod yX2_isRight, Cond.selects RX2 yX2_isRight yX2_isRight, Cond.code yX2_isRight cX2_isRight 3 (some .boolean), Cond.fieldLink RX2 26 "MarbleRampsModel" "now" "[I", Cond.methodLink RX2 71 yX2_no, Cond.instanceMethod yX2_no, Cond.selects RX2 yX2_no yX2_no]
def wsX2_numberIn_r2 : List Cond := [Cond.code yX2_no cX2_no 2 (some .int)]
def wsX2_numberIn : List Cond := .code yX2_numberIn cX2_numberIn 2 (some .int) :: ((wsX2_numberIn_r1 ++ wsX2_numberIn_r2) ++ wsX20)
def wsX2_look_r1 : List Cond := [Cond.methodLink RX2 107 yX2_keep, Cond.instanceMethod yX2_keep, Cond.selects RX2 yX2_keep yX2_keep, Cond.initialized RX2, Cond.code yX2_keep cX2_keep 1 none, Cond.fieldLink RX2 26 "MarbleRampsModel" "now" "[I", Cond.fieldLink RX2 29 "MarbleRampsModel" "kept" "[I", Cond.methodLink RX2 49 arraycopyName, Cond.native arraycopyName, Cond.static arraycopyName, Cond.initialized "java/lang/System", Cond.methodLink RX2 62 yX2_fall, Cond.instanceMethod yX2_fall, Cond.selects RX2 yX2_fall yX2_fall, Cond.code yX2_fall cX2_fall 5 (some .int), Cond.fieldLink RX2 55 "MarbleRampsModel" "turned" "I", Cond.fieldLink RX2 32 "MarbleRampsModel" "way" "[I", Cond.fieldLink RX2 13 "MarbleRampsModel" "rows" "I", Cond.methodLink RX2 58 yX2_goes, Cond.instanceMethod yX2_goes, Cond.selects RX2 yX2_goes yX2_goes, Cond.code yX2_goes cX2_goes 4 (some .int), Cond.fieldLink RX2 16 "MarbleRampsModel" "part" "[I", Cond.fieldLink RX2 20 "MarbleRampsModel" "period" "[I"]
def wsX2_look_r2 : List Cond := [Cond.methodLink RX2 46 yX2_isColumn, Cond.instanceMethod yX2_isColumn, Cond.selects RX2 yX2_isColumn yX2_isColumn, Cond.code yX2_isColumn cX2_isColumn 2 (some .boolean), Cond.fieldLink RX2 9 "MarbleRampsModel" "columns" "I", Cond.methodLink RX2 38 yX2_isFrom, Cond.static yX2_isFrom, Cond.code yX2_isFrom cX2_isFrom 3 (some .boolean), Cond.methodLink RX2 110 yX2_bringBack, Cond.instanceMethod yX2_bringBack, Cond.selects RX2 yX2_bringBack yX2_bringBack, Cond.code yX2_bringBack cX2_bringBack 1 none]
def wsX2_look : List Cond := .code yX2_look cX2_look 5 (some .int) :: ((wsX2_look_r1 ++ wsX2_look_r2) ++ wsX20)
def wsX2_wouldLand_r1 : List Cond := [Cond.fieldLink RX2 35 "MarbleRampsModel" "thrown" "I", Cond.methodLink RX2 46 yX2_isColumn, Cond.instanceMethod yX2_isColumn, Cond.selects RX2 yX2_isColumn yX2_isColumn, Cond.initialized RX2, Cond.code yX2_isColumn cX2_isColumn 2 (some .boolean), Cond.fieldLink RX2 9 "MarbleRampsModel" "columns" "I", Cond.methodLink RX2 38 yX2_isFrom, Cond.static yX2_isFrom, Cond.code yX2_isFrom cX2_isFrom 3 (some .boolean), Cond.methodLink RX2 113 yX2_look, Cond.instanceMethod yX2_look, Cond.selects RX2 yX2_look yX2_look, Cond.code yX2_look cX2_look 5 (some .int), Cond.methodLink RX2 107 yX2_keep, Cond.instanceMethod yX2_keep, Cond.selects RX2 yX2_keep yX2_keep, Cond.code yX2_keep cX2_keep 1 none, Cond.fieldLink RX2 26 "MarbleRampsModel" "now" "[I", Cond.fieldLink RX2 29 "MarbleRampsModel" "kept" "[I", Cond.methodLink RX2 49 arraycopyName, Cond.native arraycopyName, Cond.static arraycopyName, Cond.initialized "java/lang/System"]
def wsX2_wouldLand_r2 : List Cond := [Cond.methodLink RX2 62 yX2_fall, Cond.instanceMethod yX2_fall, Cond.selects RX2 yX2_fall yX2_fall, Cond.code yX2_fall cX2_fall 5 (some .int), Cond.fieldLink RX2 55 "MarbleRampsModel" "turned" "I", Cond.fieldLink RX2 32 "MarbleRampsModel" "way" "[I", Cond.fieldLink RX2 13 "MarbleRampsModel" "rows" "I", Cond.methodLink RX2 58 yX2_goes, Cond.instanceMethod yX2_goes, Cond.selects RX2 yX2_goes yX2_goes, Cond.code yX2_goes cX2_goes 4 (some .int), Cond.fieldLink RX2 16 "MarbleRampsModel" "part" "[I", Cond.fieldLink RX2 20 "MarbleRampsModel" "period" "[I", Cond.methodLink RX2 110 yX2_bringBack, Cond.instanceMethod yX2_bringBack, Cond.selects RX2 yX2_bringBack yX2_bringBack, Cond.code yX2_bringBack cX2_bringBack 1 none, Cond.methodLink RX2 71 yX2_no, Cond.instanceMethod yX2_no, Cond.selects RX2 yX2_no yX2_no, Cond.code yX2_no cX2_no 2 (some .int)]
def wsX2_wouldLand : List Cond := .code yX2_wouldLand cX2_wouldLand 2 (some .int) :: ((wsX2_wouldLand_r1 ++ wsX2_wouldLand_r2) ++ wsX20)
def wsX2_wouldBeIn_r1 : List Cond := [Cond.fieldLink RX2 35 "MarbleRampsModel" "thrown" "I", Cond.fieldLink RX2 32 "MarbleRampsModel" "way" "[I", Cond.methodLink RX2 46 yX2_isColumn, Cond.instanceMethod yX2_isColumn, Cond.selects RX2 yX2_isColumn yX2_isColumn, Cond.initialized RX2, Cond.code yX2_isColumn cX2_isColumn 2 (some .boolean), Cond.fieldLink RX2 9 "MarbleRampsModel" "columns" "I", Cond.methodLink RX2 38 yX2_isFrom, Cond.static yX2_isFrom, Cond.code yX2_isFrom cX2_isFrom 3 (some .boolean), Cond.methodLink RX2 42 yX2_isRow, Cond.instanceMethod yX2_isRow, Cond.selects RX2 yX2_isRow yX2_isRow, Cond.code yX2_isRow cX2_isRow 2 (some .boolean), Cond.fieldLink RX2 13 "MarbleRampsModel" "rows" "I", Cond.methodLink RX2 71 yX2_no, Cond.instanceMethod yX2_no, Cond.selects RX2 yX2_no yX2_no, Cond.code yX2_no cX2_no 2 (some .int), Cond.methodLink RX2 113 yX2_look, Cond.instanceMethod yX2_look, Cond.selects RX2 yX2_look yX2_look, Cond.code yX2_look cX2_look 5 (some .int)]
def wsX2_wouldBeIn_r2 : List Cond := [Cond.methodLink RX2 107 yX2_keep, Cond.instanceMethod yX2_keep, Cond.selects RX2 yX2_keep yX2_keep, Cond.code yX2_keep cX2_keep 1 none, Cond.fieldLink RX2 26 "MarbleRampsModel" "now" "[I", Cond.fieldLink RX2 29 "MarbleRampsModel" "kept" "[I", Cond.methodLink RX2 49 arraycopyName, Cond.native arraycopyName, Cond.static arraycopyName, Cond.initialized "java/lang/System", Cond.methodLink RX2 62 yX2_fall, Cond.instanceMethod yX2_fall, Cond.selects RX2 yX2_fall yX2_fall, Cond.code yX2_fall cX2_fall 5 (some .int), Cond.fieldLink RX2 55 "MarbleRampsModel" "turned" "I", Cond.methodLink RX2 58 yX2_goes, Cond.instanceMethod yX2_goes, Cond.selects RX2 yX2_goes yX2_goes, Cond.code yX2_goes cX2_goes 4 (some .int), Cond.fieldLink RX2 16 "MarbleRampsModel" "part" "[I", Cond.fieldLink RX2 20 "MarbleRampsModel" "period" "[I", Cond.methodLink RX2 110 yX2_bringBack, Cond.instanceMethod yX2_bringBack, Cond.selects RX2 yX2_bringBack yX2_bringBack]
def wsX2_wouldBeIn_r3 : List Cond := [Cond.code yX2_bringBack cX2_bringBack 1 none]
def wsX2_wouldBeIn : List Cond := .code yX2_wouldBeIn cX2_wouldBeIn 3 (some .int) :: ((wsX2_wouldBeIn_r1 ++ (wsX2_wouldBeIn_r2 ++ wsX2_wouldBeIn_r3)) ++ wsX20)
def wsX2_turnedBy_r1 : List Cond := [Cond.fieldLink RX2 55 "MarbleRampsModel" "turned" "I", Cond.methodLink RX2 113 yX2_look, Cond.instanceMethod yX2_look, Cond.selects RX2 yX2_look yX2_look, Cond.initialized RX2, Cond.code yX2_look cX2_look 5 (some .int), Cond.methodLink RX2 107 yX2_keep, Cond.instanceMethod yX2_keep, Cond.selects RX2 yX2_keep yX2_keep, Cond.code yX2_keep cX2_keep 1 none, Cond.fieldLink RX2 26 "MarbleRampsModel" "now" "[I", Cond.fieldLink RX2 29 "MarbleRampsModel" "kept" "[I", Cond.methodLink RX2 49 arraycopyName, Cond.native arraycopyName, Cond.static arraycopyName, Cond.initialized "java/lang/System", Cond.methodLink RX2 62 yX2_fall, Cond.instanceMethod yX2_fall, Cond.selects RX2 yX2_fall yX2_fall, Cond.code yX2_fall cX2_fall 5 (some .int), Cond.fieldLink RX2 32 "MarbleRampsModel" "way" "[I", Cond.fieldLink RX2 13 "MarbleRampsModel" "rows" "I", Cond.methodLink RX2 58 yX2_goes, Cond.instanceMethod yX2_goes]
def wsX2_turnedBy_r2 : List Cond := [Cond.selects RX2 yX2_goes yX2_goes, Cond.code yX2_goes cX2_goes 4 (some .int), Cond.fieldLink RX2 16 "MarbleRampsModel" "part" "[I", Cond.fieldLink RX2 20 "MarbleRampsModel" "period" "[I", Cond.methodLink RX2 46 yX2_isColumn, Cond.instanceMethod yX2_isColumn, Cond.selects RX2 yX2_isColumn yX2_isColumn, Cond.code yX2_isColumn cX2_isColumn 2 (some .boolean), Cond.fieldLink RX2 9 "MarbleRampsModel" "columns" "I", Cond.methodLink RX2 38 yX2_isFrom, Cond.static yX2_isFrom, Cond.code yX2_isFrom cX2_isFrom 3 (some .boolean), Cond.methodLink RX2 110 yX2_bringBack, Cond.instanceMethod yX2_bringBack, Cond.selects RX2 yX2_bringBack yX2_bringBack, Cond.code yX2_bringBack cX2_bringBack 1 none]
def wsX2_turnedBy : List Cond := .code yX2_turnedBy cX2_turnedBy 2 (some .int) :: ((wsX2_turnedBy_r1 ++ wsX2_turnedBy_r2) ++ wsX20)
def wsX2_wouldTurn_r1 : List Cond := [Cond.fieldLink RX2 35 "MarbleRampsModel" "thrown" "I", Cond.methodLink RX2 46 yX2_isColumn, Cond.instanceMethod yX2_isColumn, Cond.selects RX2 yX2_isColumn yX2_isColumn, Cond.initialized RX2, Cond.code yX2_isColumn cX2_isColumn 2 (some .boolean), Cond.fieldLink RX2 9 "MarbleRampsModel" "columns" "I", Cond.methodLink RX2 38 yX2_isFrom, Cond.static yX2_isFrom, Cond.code yX2_isFrom cX2_isFrom 3 (some .boolean), Cond.methodLink RX2 116 yX2_turnedBy, Cond.instanceMethod yX2_turnedBy, Cond.selects RX2 yX2_turnedBy yX2_turnedBy, Cond.code yX2_turnedBy cX2_turnedBy 2 (some .int), Cond.fieldLink RX2 55 "MarbleRampsModel" "turned" "I", Cond.methodLink RX2 113 yX2_look, Cond.instanceMethod yX2_look, Cond.selects RX2 yX2_look yX2_look, Cond.code yX2_look cX2_look 5 (some .int), Cond.methodLink RX2 107 yX2_keep, Cond.instanceMethod yX2_keep, Cond.selects RX2 yX2_keep yX2_keep, Cond.code yX2_keep cX2_keep 1 none, Cond.fieldLink RX2 26 "MarbleRampsModel" "now" "[I"]
def wsX2_wouldTurn_r2 : List Cond := [Cond.fieldLink RX2 29 "MarbleRampsModel" "kept" "[I", Cond.methodLink RX2 49 arraycopyName, Cond.native arraycopyName, Cond.static arraycopyName, Cond.initialized "java/lang/System", Cond.methodLink RX2 62 yX2_fall, Cond.instanceMethod yX2_fall, Cond.selects RX2 yX2_fall yX2_fall, Cond.code yX2_fall cX2_fall 5 (some .int), Cond.fieldLink RX2 32 "MarbleRampsModel" "way" "[I", Cond.fieldLink RX2 13 "MarbleRampsModel" "rows" "I", Cond.methodLink RX2 58 yX2_goes, Cond.instanceMethod yX2_goes, Cond.selects RX2 yX2_goes yX2_goes, Cond.code yX2_goes cX2_goes 4 (some .int), Cond.fieldLink RX2 16 "MarbleRampsModel" "part" "[I", Cond.fieldLink RX2 20 "MarbleRampsModel" "period" "[I", Cond.methodLink RX2 110 yX2_bringBack, Cond.instanceMethod yX2_bringBack, Cond.selects RX2 yX2_bringBack yX2_bringBack, Cond.code yX2_bringBack cX2_bringBack 1 none, Cond.methodLink RX2 71 yX2_no, Cond.instanceMethod yX2_no, Cond.selects RX2 yX2_no yX2_no]
def wsX2_wouldTurn_r3 : List Cond := [Cond.code yX2_no cX2_no 2 (some .int)]
def wsX2_wouldTurn : List Cond := .code yX2_wouldTurn cX2_wouldTurn 2 (some .int) :: ((wsX2_wouldTurn_r1 ++ (wsX2_wouldTurn_r2 ++ wsX2_wouldTurn_r3)) ++ wsX20)
def wsX2_lastLands_r1 : List Cond := [Cond.fieldLink RX2 35 "MarbleRampsModel" "thrown" "I", Cond.methodLink RX2 46 yX2_isColumn, Cond.instanceMethod yX2_isColumn, Cond.selects RX2 yX2_isColumn yX2_isColumn, Cond.initialized RX2, Cond.code yX2_isColumn cX2_isColumn 2 (some .boolean), Cond.fieldLink RX2 9 "MarbleRampsModel" "columns" "I", Cond.methodLink RX2 38 yX2_isFrom, Cond.static yX2_isFrom, Cond.code yX2_isFrom cX2_isFrom 3 (some .boolean), Cond.methodLink RX2 71 yX2_no, Cond.instanceMethod yX2_no, Cond.selects RX2 yX2_no yX2_no, Cond.code yX2_no cX2_no 2 (some .int), Cond.methodLink RX2 113 yX2_look, Cond.instanceMethod yX2_look, Cond.selects RX2 yX2_look yX2_look, Cond.code yX2_look cX2_look 5 (some .int), Cond.methodLink RX2 107 yX2_keep, Cond.instanceMethod yX2_keep, Cond.selects RX2 yX2_keep yX2_keep, Cond.code yX2_keep cX2_keep 1 none, Cond.fieldLink RX2 26 "MarbleRampsModel" "now" "[I", Cond.fieldLink RX2 29 "MarbleRampsModel" "kept" "[I"]
def wsX2_lastLands_r2 : List Cond := [Cond.methodLink RX2 49 arraycopyName, Cond.native arraycopyName, Cond.static arraycopyName, Cond.initialized "java/lang/System", Cond.methodLink RX2 62 yX2_fall, Cond.instanceMethod yX2_fall, Cond.selects RX2 yX2_fall yX2_fall, Cond.code yX2_fall cX2_fall 5 (some .int), Cond.fieldLink RX2 55 "MarbleRampsModel" "turned" "I", Cond.fieldLink RX2 32 "MarbleRampsModel" "way" "[I", Cond.fieldLink RX2 13 "MarbleRampsModel" "rows" "I", Cond.methodLink RX2 58 yX2_goes, Cond.instanceMethod yX2_goes, Cond.selects RX2 yX2_goes yX2_goes, Cond.code yX2_goes cX2_goes 4 (some .int), Cond.fieldLink RX2 16 "MarbleRampsModel" "part" "[I", Cond.fieldLink RX2 20 "MarbleRampsModel" "period" "[I", Cond.methodLink RX2 110 yX2_bringBack, Cond.instanceMethod yX2_bringBack, Cond.selects RX2 yX2_bringBack yX2_bringBack, Cond.code yX2_bringBack cX2_bringBack 1 none]
def wsX2_lastLands : List Cond := .code yX2_lastLands cX2_lastLands 3 (some .int) :: ((wsX2_lastLands_r1 ++ wsX2_lastLands_r2) ++ wsX20)
def wsX2_isAsKept : List Cond := .code yX2_isAsKept cX2_isAsKept 2 (some .boolean) :: ([.fieldLink RX2 26 "MarbleRampsModel" "now" "[I", .fieldLink RX2 29 "MarbleRampsModel" "kept" "[I"] ++ wsX20)
def wsX2_asBefore_r1 : List Cond := [Cond.methodLink RX2 107 yX2_keep, Cond.instanceMethod yX2_keep, Cond.selects RX2 yX2_keep yX2_keep, Cond.initialized RX2, Cond.code yX2_keep cX2_keep 1 none, Cond.fieldLink RX2 26 "MarbleRampsModel" "now" "[I", Cond.fieldLink RX2 29 "MarbleRampsModel" "kept" "[I", Cond.methodLink RX2 49 arraycopyName, Cond.native arraycopyName, Cond.static arraycopyName, Cond.initialized "java/lang/System", Cond.methodLink RX2 62 yX2_fall, Cond.instanceMethod yX2_fall, Cond.selects RX2 yX2_fall yX2_fall, Cond.code yX2_fall cX2_fall 5 (some .int), Cond.fieldLink RX2 55 "MarbleRampsModel" "turned" "I", Cond.fieldLink RX2 32 "MarbleRampsModel" "way" "[I", Cond.fieldLink RX2 13 "MarbleRampsModel" "rows" "I", Cond.methodLink RX2 58 yX2_goes, Cond.instanceMethod yX2_goes, Cond.selects RX2 yX2_goes yX2_goes, Cond.code yX2_goes cX2_goes 4 (some .int), Cond.fieldLink RX2 16 "MarbleRampsModel" "part" "[I", Cond.fieldLink RX2 20 "MarbleRampsModel" "period" "[I"]
def wsX2_asBefore_r2 : List Cond := [Cond.methodLink RX2 46 yX2_isColumn, Cond.instanceMethod yX2_isColumn, Cond.selects RX2 yX2_isColumn yX2_isColumn, Cond.code yX2_isColumn cX2_isColumn 2 (some .boolean), Cond.fieldLink RX2 9 "MarbleRampsModel" "columns" "I", Cond.methodLink RX2 38 yX2_isFrom, Cond.static yX2_isFrom, Cond.code yX2_isFrom cX2_isFrom 3 (some .boolean), Cond.methodLink RX2 119 yX2_isAsKept, Cond.instanceMethod yX2_isAsKept, Cond.selects RX2 yX2_isAsKept yX2_isAsKept, Cond.code yX2_isAsKept cX2_isAsKept 2 (some .boolean), Cond.methodLink RX2 110 yX2_bringBack, Cond.instanceMethod yX2_bringBack, Cond.selects RX2 yX2_bringBack yX2_bringBack, Cond.code yX2_bringBack cX2_bringBack 1 none]
def wsX2_asBefore : List Cond := .code yX2_asBefore cX2_asBefore 4 (some .int) :: ((wsX2_asBefore_r1 ++ wsX2_asBefore_r2) ++ wsX20)
def wsX2_asBeforeIn_r1 : List Cond := [Cond.fieldLink RX2 35 "MarbleRampsModel" "thrown" "I", Cond.methodLink RX2 46 yX2_isColumn, Cond.instanceMethod yX2_isColumn, Cond.selects RX2 yX2_isColumn yX2_isColumn, Cond.initialized RX2, Cond.code yX2_isColumn cX2_isColumn 2 (some .boolean), Cond.fieldLink RX2 9 "MarbleRampsModel" "columns" "I", Cond.methodLink RX2 38 yX2_isFrom, Cond.static yX2_isFrom, Cond.code yX2_isFrom cX2_isFrom 3 (some .boolean), Cond.methodLink RX2 123 yX2_asBefore, Cond.instanceMethod yX2_asBefore, Cond.selects RX2 yX2_asBefore yX2_asBefore, Cond.code yX2_asBefore cX2_asBefore 4 (some .int), Cond.methodLink RX2 107 yX2_keep, Cond.instanceMethod yX2_keep, Cond.selects RX2 yX2_keep yX2_keep, Cond.code yX2_keep cX2_keep 1 none, Cond.fieldLink RX2 26 "MarbleRampsModel" "now" "[I", Cond.fieldLink RX2 29 "MarbleRampsModel" "kept" "[I", Cond.methodLink RX2 49 arraycopyName, Cond.native arraycopyName, Cond.static arraycopyName, Cond.initialized "java/lang/System"]
def wsX2_asBeforeIn_r2 : List Cond := [Cond.methodLink RX2 62 yX2_fall, Cond.instanceMethod yX2_fall, Cond.selects RX2 yX2_fall yX2_fall, Cond.code yX2_fall cX2_fall 5 (some .int), Cond.fieldLink RX2 55 "MarbleRampsModel" "turned" "I", Cond.fieldLink RX2 32 "MarbleRampsModel" "way" "[I", Cond.fieldLink RX2 13 "MarbleRampsModel" "rows" "I", Cond.methodLink RX2 58 yX2_goes, Cond.instanceMethod yX2_goes, Cond.selects RX2 yX2_goes yX2_goes, Cond.code yX2_goes cX2_goes 4 (some .int), Cond.fieldLink RX2 16 "MarbleRampsModel" "part" "[I", Cond.fieldLink RX2 20 "MarbleRampsModel" "period" "[I", Cond.methodLink RX2 119 yX2_isAsKept, Cond.instanceMethod yX2_isAsKept, Cond.selects RX2 yX2_isAsKept yX2_isAsKept, Cond.code yX2_isAsKept cX2_isAsKept 2 (some .boolean), Cond.methodLink RX2 110 yX2_bringBack, Cond.instanceMethod yX2_bringBack, Cond.selects RX2 yX2_bringBack yX2_bringBack, Cond.code yX2_bringBack cX2_bringBack 1 none, Cond.methodLink RX2 71 yX2_no, Cond.instanceMethod yX2_no, Cond.selects RX2 yX2_no yX2_no]
def wsX2_asBeforeIn_r3 : List Cond := [Cond.code yX2_no cX2_no 2 (some .int)]
def wsX2_asBeforeIn : List Cond := .code yX2_asBeforeIn cX2_asBeforeIn 2 (some .int) :: ((wsX2_asBeforeIn_r1 ++ (wsX2_asBeforeIn_r2 ++ wsX2_asBeforeIn_r3)) ++ wsX20)
def wsX2_runs_r1 : List Cond := [Cond.methodLink RX2 107 yX2_keep, Cond.instanceMethod yX2_keep, Cond.selects RX2 yX2_keep yX2_keep, Cond.initialized RX2, Cond.code yX2_keep cX2_keep 1 none, Cond.fieldLink RX2 26 "MarbleRampsModel" "now" "[I", Cond.fieldLink RX2 29 "MarbleRampsModel" "kept" "[I", Cond.methodLink RX2 49 arraycopyName, Cond.native arraycopyName, Cond.static arraycopyName, Cond.initialized "java/lang/System", Cond.methodLink RX2 85 yX2_runFrom, Cond.instanceMethod yX2_runFrom, Cond.selects RX2 yX2_runFrom yX2_runFrom, Cond.code yX2_runFrom cX2_runFrom 7 (some .int), Cond.fieldLink RX2 23 "MarbleRampsModel" "above" "[I", Cond.fieldLink RX2 9 "MarbleRampsModel" "columns" "I", Cond.methodLink RX2 62 yX2_fall, Cond.instanceMethod yX2_fall, Cond.selects RX2 yX2_fall yX2_fall, Cond.code yX2_fall cX2_fall 5 (some .int), Cond.fieldLink RX2 55 "MarbleRampsModel" "turned" "I", Cond.fieldLink RX2 32 "MarbleRampsModel" "way" "[I", Cond.fieldLink RX2 13 "MarbleRampsModel" "rows" "I"]
def wsX2_runs_r2 : List Cond := [Cond.methodLink RX2 58 yX2_goes, Cond.instanceMethod yX2_goes, Cond.selects RX2 yX2_goes yX2_goes, Cond.code yX2_goes cX2_goes 4 (some .int), Cond.fieldLink RX2 16 "MarbleRampsModel" "part" "[I", Cond.fieldLink RX2 20 "MarbleRampsModel" "period" "[I", Cond.methodLink RX2 46 yX2_isColumn, Cond.instanceMethod yX2_isColumn, Cond.selects RX2 yX2_isColumn yX2_isColumn, Cond.code yX2_isColumn cX2_isColumn 2 (some .boolean), Cond.methodLink RX2 38 yX2_isFrom, Cond.static yX2_isFrom, Cond.code yX2_isFrom cX2_isFrom 3 (some .boolean), Cond.methodLink RX2 66 yJ6_signum_0f7a4, Cond.static yJ6_signum_0f7a4, Cond.initialized RJ6, Cond.code yJ6_signum_0f7a4 cJ6_signum_0f7a4 1 (some .int), Cond.methodLink RX2 110 yX2_bringBack, Cond.instanceMethod yX2_bringBack, Cond.selects RX2 yX2_bringBack yX2_bringBack, Cond.code yX2_bringBack cX2_bringBack 1 none]
def wsX2_runs : List Cond := .code yX2_runs cX2_runs 3 (some .int) :: ((wsX2_runs_r1 ++ wsX2_runs_r2) ++ wsX20)
def wsX2_wouldRun_r1 : List Cond := [Cond.fieldLink RX2 35 "MarbleRampsModel" "thrown" "I", Cond.methodLink RX2 38 yX2_isFrom, Cond.static yX2_isFrom, Cond.initialized RX2, Cond.code yX2_isFrom cX2_isFrom 3 (some .boolean), Cond.methodLink RX2 126 yX2_runs, Cond.instanceMethod yX2_runs, Cond.selects RX2 yX2_runs yX2_runs, Cond.code yX2_runs cX2_runs 3 (some .int), Cond.methodLink RX2 107 yX2_keep, Cond.instanceMethod yX2_keep, Cond.selects RX2 yX2_keep yX2_keep, Cond.code yX2_keep cX2_keep 1 none, Cond.fieldLink RX2 26 "MarbleRampsModel" "now" "[I", Cond.fieldLink RX2 29 "MarbleRampsModel" "kept" "[I", Cond.methodLink RX2 49 arraycopyName, Cond.native arraycopyName, Cond.static arraycopyName, Cond.initialized "java/lang/System", Cond.methodLink RX2 85 yX2_runFrom, Cond.instanceMethod yX2_runFrom, Cond.selects RX2 yX2_runFrom yX2_runFrom, Cond.code yX2_runFrom cX2_runFrom 7 (some .int), Cond.fieldLink RX2 23 "MarbleRampsModel" "above" "[I"]
def wsX2_wouldRun_r2 : List Cond := [Cond.fieldLink RX2 9 "MarbleRampsModel" "columns" "I", Cond.methodLink RX2 62 yX2_fall, Cond.instanceMethod yX2_fall, Cond.selects RX2 yX2_fall yX2_fall, Cond.code yX2_fall cX2_fall 5 (some .int), Cond.fieldLink RX2 55 "MarbleRampsModel" "turned" "I", Cond.fieldLink RX2 32 "MarbleRampsModel" "way" "[I", Cond.fieldLink RX2 13 "MarbleRampsModel" "rows" "I", Cond.methodLink RX2 58 yX2_goes, Cond.instanceMethod yX2_goes, Cond.selects RX2 yX2_goes yX2_goes, Cond.code yX2_goes cX2_goes 4 (some .int), Cond.fieldLink RX2 16 "MarbleRampsModel" "part" "[I", Cond.fieldLink RX2 20 "MarbleRampsModel" "period" "[I", Cond.methodLink RX2 46 yX2_isColumn, Cond.instanceMethod yX2_isColumn, Cond.selects RX2 yX2_isColumn yX2_isColumn, Cond.code yX2_isColumn cX2_isColumn 2 (some .boolean), Cond.methodLink RX2 66 yJ6_signum_0f7a4, Cond.static yJ6_signum_0f7a4, Cond.initialized RJ6, Cond.code yJ6_signum_0f7a4 cJ6_signum_0f7a4 1 (some .int), Cond.methodLink RX2 110 yX2_bringBack, Cond.instanceMethod yX2_bringBack]
def wsX2_wouldRun_r3 : List Cond := [Cond.selects RX2 yX2_bringBack yX2_bringBack, Cond.code yX2_bringBack cX2_bringBack 1 none, Cond.methodLink RX2 71 yX2_no, Cond.instanceMethod yX2_no, Cond.selects RX2 yX2_no yX2_no, Cond.code yX2_no cX2_no 2 (some .int)]
def wsX2_wouldRun : List Cond := .code yX2_wouldRun cX2_wouldRun 2 (some .int) :: ((wsX2_wouldRun_r1 ++ (wsX2_wouldRun_r2 ++ wsX2_wouldRun_r3)) ++ wsX20)
def wsX2_best_r1 : List Cond := [Cond.fieldLink RX2 9 "MarbleRampsModel" "columns" "I", Cond.methodLink RX2 116 yX2_turnedBy, Cond.instanceMethod yX2_turnedBy, Cond.selects RX2 yX2_turnedBy yX2_turnedBy, Cond.initialized RX2, Cond.code yX2_turnedBy cX2_turnedBy 2 (some .int), Cond.fieldLink RX2 55 "MarbleRampsModel" "turned" "I", Cond.methodLink RX2 113 yX2_look, Cond.instanceMethod yX2_look, Cond.selects RX2 yX2_look yX2_look, Cond.code yX2_look cX2_look 5 (some .int), Cond.methodLink RX2 107 yX2_keep, Cond.instanceMethod yX2_keep, Cond.selects RX2 yX2_keep yX2_keep, Cond.code yX2_keep cX2_keep 1 none, Cond.fieldLink RX2 26 "MarbleRampsModel" "now" "[I", Cond.fieldLink RX2 29 "MarbleRampsModel" "kept" "[I", Cond.methodLink RX2 49 arraycopyName, Cond.native arraycopyName, Cond.static arraycopyName, Cond.initialized "java/lang/System", Cond.methodLink RX2 62 yX2_fall, Cond.instanceMethod yX2_fall, Cond.selects RX2 yX2_fall yX2_fall]
def wsX2_best_r2 : List Cond := [Cond.code yX2_fall cX2_fall 5 (some .int), Cond.fieldLink RX2 32 "MarbleRampsModel" "way" "[I", Cond.fieldLink RX2 13 "MarbleRampsModel" "rows" "I", Cond.methodLink RX2 58 yX2_goes, Cond.instanceMethod yX2_goes, Cond.selects RX2 yX2_goes yX2_goes, Cond.code yX2_goes cX2_goes 4 (some .int), Cond.fieldLink RX2 16 "MarbleRampsModel" "part" "[I", Cond.fieldLink RX2 20 "MarbleRampsModel" "period" "[I", Cond.methodLink RX2 46 yX2_isColumn, Cond.instanceMethod yX2_isColumn, Cond.selects RX2 yX2_isColumn yX2_isColumn, Cond.code yX2_isColumn cX2_isColumn 2 (some .boolean), Cond.methodLink RX2 38 yX2_isFrom, Cond.static yX2_isFrom, Cond.code yX2_isFrom cX2_isFrom 3 (some .boolean), Cond.methodLink RX2 110 yX2_bringBack, Cond.instanceMethod yX2_bringBack, Cond.selects RX2 yX2_bringBack yX2_bringBack, Cond.code yX2_bringBack cX2_bringBack 1 none]
def wsX2_best : List Cond := .code yX2_best cX2_best 5 (some .int) :: ((wsX2_best_r1 ++ wsX2_best_r2) ++ wsX20)
def wsX2_bestColumn_r1 : List Cond := [Cond.methodLink RX2 129 yX2_best, Cond.instanceMethod yX2_best, Cond.selects RX2 yX2_best yX2_best, Cond.initialized RX2, Cond.code yX2_best cX2_best 5 (some .int), Cond.fieldLink RX2 9 "MarbleRampsModel" "columns" "I", Cond.methodLink RX2 116 yX2_turnedBy, Cond.instanceMethod yX2_turnedBy, Cond.selects RX2 yX2_turnedBy yX2_turnedBy, Cond.code yX2_turnedBy cX2_turnedBy 2 (some .int), Cond.fieldLink RX2 55 "MarbleRampsModel" "turned" "I", Cond.methodLink RX2 113 yX2_look, Cond.instanceMethod yX2_look, Cond.selects RX2 yX2_look yX2_look, Cond.code yX2_look cX2_look 5 (some .int), Cond.methodLink RX2 107 yX2_keep, Cond.instanceMethod yX2_keep, Cond.selects RX2 yX2_keep yX2_keep, Cond.code yX2_keep cX2_keep 1 none, Cond.fieldLink RX2 26 "MarbleRampsModel" "now" "[I", Cond.fieldLink RX2 29 "MarbleRampsModel" "kept" "[I", Cond.methodLink RX2 49 arraycopyName, Cond.native arraycopyName, Cond.static arraycopyName]
def wsX2_bestColumn_r2 : List Cond := [Cond.initialized "java/lang/System", Cond.methodLink RX2 62 yX2_fall, Cond.instanceMethod yX2_fall, Cond.selects RX2 yX2_fall yX2_fall, Cond.code yX2_fall cX2_fall 5 (some .int), Cond.fieldLink RX2 32 "MarbleRampsModel" "way" "[I", Cond.fieldLink RX2 13 "MarbleRampsModel" "rows" "I", Cond.methodLink RX2 58 yX2_goes, Cond.instanceMethod yX2_goes, Cond.selects RX2 yX2_goes yX2_goes, Cond.code yX2_goes cX2_goes 4 (some .int), Cond.fieldLink RX2 16 "MarbleRampsModel" "part" "[I", Cond.fieldLink RX2 20 "MarbleRampsModel" "period" "[I", Cond.methodLink RX2 46 yX2_isColumn, Cond.instanceMethod yX2_isColumn, Cond.selects RX2 yX2_isColumn yX2_isColumn, Cond.code yX2_isColumn cX2_isColumn 2 (some .boolean), Cond.methodLink RX2 38 yX2_isFrom, Cond.static yX2_isFrom, Cond.code yX2_isFrom cX2_isFrom 3 (some .boolean), Cond.methodLink RX2 110 yX2_bringBack, Cond.instanceMethod yX2_bringBack, Cond.selects RX2 yX2_bringBack yX2_bringBack, Cond.code yX2_bringBack cX2_bringBack 1 none]
def wsX2_bestColumn_r3 : List Cond := [Cond.methodLink RX2 92 yX2_ok, Cond.instanceMethod yX2_ok, Cond.selects RX2 yX2_ok yX2_ok, Cond.code yX2_ok cX2_ok 2 (some .int), Cond.fieldLink RX2 35 "MarbleRampsModel" "thrown" "I"]
def wsX2_bestColumn : List Cond := .code yX2_bestColumn cX2_bestColumn 1 (some .int) :: ((wsX2_bestColumn_r1 ++ (wsX2_bestColumn_r2 ++ wsX2_bestColumn_r3)) ++ wsX20)
def wsX2_meanInBins : List Cond := .code yX2_meanInBins cX2_meanInBins 1 (some .double) :: ([.fieldLink RX2 35 "MarbleRampsModel" "thrown" "I", .fieldLink RX2 9 "MarbleRampsModel" "columns" "I", .methodLink RX2 88 yX2_inBins, .instanceMethod yX2_inBins, .selects RX2 yX2_inBins yX2_inBins, .initialized RX2, .code yX2_inBins cX2_inBins 3 (some .int), .fieldLink RX2 26 "MarbleRampsModel" "now" "[I"] ++ wsX20)
def wsX2_digest_r1 : List Cond := [Cond.fieldLink RX2 35 "MarbleRampsModel" "thrown" "I", Cond.arrayClass .int, Cond.fieldLink RX2 9 "MarbleRampsModel" "columns" "I", Cond.fieldLink RX2 13 "MarbleRampsModel" "rows" "I", Cond.fieldLink RX2 26 "MarbleRampsModel" "now" "[I", Cond.constantLong RX2 132 (2239), Cond.constantLong RX2 134 (31), Cond.fieldLink RX2 23 "MarbleRampsModel" "above" "[I", Cond.fieldLink RX2 16 "MarbleRampsModel" "part" "[I", Cond.methodLink RX2 101 yX2_togglesNow, Cond.instanceMethod yX2_togglesNow, Cond.selects RX2 yX2_togglesNow yX2_togglesNow, Cond.initialized RX2, Cond.code yX2_togglesNow cX2_togglesNow 3 (some .int), Cond.methodLink RX2 129 yX2_best, Cond.instanceMethod yX2_best, Cond.selects RX2 yX2_best yX2_best, Cond.code yX2_best cX2_best 5 (some .int), Cond.methodLink RX2 116 yX2_turnedBy, Cond.instanceMethod yX2_turnedBy, Cond.selects RX2 yX2_turnedBy yX2_turnedBy, Cond.code yX2_turnedBy cX2_turnedBy 2 (some .int), Cond.fieldLink RX2 55 "MarbleRampsModel" "turned" "I", Cond.methodLink RX2 113 yX2_look]
def wsX2_digest_r2 : List Cond := [Cond.instanceMethod yX2_look, Cond.selects RX2 yX2_look yX2_look, Cond.code yX2_look cX2_look 5 (some .int), Cond.methodLink RX2 107 yX2_keep, Cond.instanceMethod yX2_keep, Cond.selects RX2 yX2_keep yX2_keep, Cond.code yX2_keep cX2_keep 1 none, Cond.fieldLink RX2 29 "MarbleRampsModel" "kept" "[I", Cond.methodLink RX2 49 arraycopyName, Cond.native arraycopyName, Cond.static arraycopyName, Cond.initialized "java/lang/System", Cond.methodLink RX2 62 yX2_fall, Cond.instanceMethod yX2_fall, Cond.selects RX2 yX2_fall yX2_fall, Cond.code yX2_fall cX2_fall 5 (some .int), Cond.fieldLink RX2 32 "MarbleRampsModel" "way" "[I", Cond.methodLink RX2 58 yX2_goes, Cond.instanceMethod yX2_goes, Cond.selects RX2 yX2_goes yX2_goes, Cond.code yX2_goes cX2_goes 4 (some .int), Cond.fieldLink RX2 20 "MarbleRampsModel" "period" "[I", Cond.methodLink RX2 46 yX2_isColumn, Cond.instanceMethod yX2_isColumn]
def wsX2_digest_r3 : List Cond := [Cond.selects RX2 yX2_isColumn yX2_isColumn, Cond.code yX2_isColumn cX2_isColumn 2 (some .boolean), Cond.methodLink RX2 38 yX2_isFrom, Cond.static yX2_isFrom, Cond.code yX2_isFrom cX2_isFrom 3 (some .boolean), Cond.methodLink RX2 110 yX2_bringBack, Cond.instanceMethod yX2_bringBack, Cond.selects RX2 yX2_bringBack yX2_bringBack, Cond.code yX2_bringBack cX2_bringBack 1 none, Cond.methodLink RX2 126 yX2_runs, Cond.instanceMethod yX2_runs, Cond.selects RX2 yX2_runs yX2_runs, Cond.code yX2_runs cX2_runs 3 (some .int), Cond.methodLink RX2 85 yX2_runFrom, Cond.instanceMethod yX2_runFrom, Cond.selects RX2 yX2_runFrom yX2_runFrom, Cond.code yX2_runFrom cX2_runFrom 7 (some .int), Cond.methodLink RX2 66 yJ6_signum_0f7a4, Cond.static yJ6_signum_0f7a4, Cond.initialized RJ6, Cond.code yJ6_signum_0f7a4 cJ6_signum_0f7a4 1 (some .int), Cond.methodLink RX2 104 yX2_number, Cond.instanceMethod yX2_number, Cond.selects RX2 yX2_number yX2_number]
def wsX2_digest_r4 : List Cond := [Cond.code yX2_number cX2_number 5 (some .int), Cond.methodLink RX2 95 yX2_isRight, Cond.instanceMethod yX2_isRight, Cond.selects RX2 yX2_isRight yX2_isRight, Cond.code yX2_isRight cX2_isRight 3 (some .boolean), Cond.methodLink RX2 98 yX2_counted, Cond.instanceMethod yX2_counted, Cond.selects RX2 yX2_counted yX2_counted, Cond.code yX2_counted cX2_counted 3 (some .int), Cond.methodLink RX2 123 yX2_asBefore, Cond.instanceMethod yX2_asBefore, Cond.selects RX2 yX2_asBefore yX2_asBefore, Cond.code yX2_asBefore cX2_asBefore 4 (some .int), Cond.methodLink RX2 119 yX2_isAsKept, Cond.instanceMethod yX2_isAsKept, Cond.selects RX2 yX2_isAsKept yX2_isAsKept, Cond.code yX2_isAsKept cX2_isAsKept 2 (some .boolean)]
def wsX2_digest : List Cond := .code yX2_digest cX2_digest 10 (some .long) :: ((wsX2_digest_r1 ++ (wsX2_digest_r2 ++ (wsX2_digest_r3 ++ wsX2_digest_r4))) ++ wsX20)
def wsL_lay_r1 : List Cond := [Cond.classLink RL 13 "java/lang/IllegalArgumentException", Cond.methodLink RL 7 yX1_lay, Cond.instanceMethod yX1_lay, Cond.selects RX1 yX1_lay yX1_lay, Cond.initialized RX1, Cond.code yX1_lay cX1_lay 3 (some .int), Cond.fieldLink RX1 10 "MarbleRamps" "now" "LMarbleRamps$Machine;", Cond.methodLink RX1 19 yX1_needWithin, Cond.static yX1_needWithin, Cond.code yX1_needWithin cX1_needWithin 3 none, Cond.classLink RX1 199 "java/lang/IllegalArgumentException", Cond.initialized "java/lang/IllegalArgumentException", Cond.methodLink RX1 23 yX0_layBoard, Cond.instanceMethod yX0_layBoard, Cond.selects RX0 yX0_layBoard yX0_layBoard, Cond.initialized RX0, Cond.code yX0_layBoard cX0_layBoard 3 none, Cond.fieldLink RX0 34 "MarbleRamps$Machine" "columnCount" "I", Cond.fieldLink RX0 38 "MarbleRamps$Machine" "rowCount" "I", Cond.fieldLink RX0 41 "MarbleRamps$Machine" "lostCount" "I", Cond.fieldLink RX0 9 "MarbleRamps$Machine" "parts" "[I", Cond.fieldLink RX0 15 "MarbleRamps$Machine" "periods" "[I", Cond.fieldLink RX0 18 "MarbleRamps$Machine" "states" "[I", Cond.fieldLink RX0 24 "MarbleRamps$Machine" "hopperColumns" "[I"]
def wsL_lay_r2 : List Cond := [Cond.methodLink RX0 44 yJ7_fill_53178, Cond.static yJ7_fill_53178, Cond.initialized RJ7, Cond.code yJ7_fill_53178 cJ7_fill_53178 4 none, Cond.methodLink RX0 50 yX0_clearBins, Cond.instanceMethod yX0_clearBins, Cond.selects RX0 yX0_clearBins yX0_clearBins, Cond.code yX0_clearBins cX0_clearBins 1 none, Cond.fieldLink RX0 21 "MarbleRamps$Machine" "bins" "[I", Cond.static yX1_setCell, Cond.code yX1_setCell cX1_setCell 3 none]
def wsL_lay : List Cond := .codeWith yL_lay cL_lay 5 (some .int) [(0, 10, 13, 13)] :: ((wsL_lay_r1 ++ wsL_lay_r2) ++ wsX10 ++ wsX00 ++ (vx_atS RX1 203 "java/lang/IllegalArgumentException" ["java/lang/RuntimeException", "java/lang/Exception"]).filter goodWord)
def wsL_put_r1 : List Cond := [Cond.classLink RL 19 "java/lang/IndexOutOfBoundsException", Cond.classLink RL 13 "java/lang/IllegalArgumentException", Cond.methodLink RL 15 yX1_put, Cond.instanceMethod yX1_put, Cond.selects RX1 yX1_put yX1_put, Cond.initialized RX1, Cond.code yX1_put cX1_put 4 (some .int), Cond.fieldLink RX1 10 "MarbleRamps" "now" "LMarbleRamps$Machine;", Cond.methodLink RX1 27 yX1_needPlace, Cond.instanceMethod yX1_needPlace, Cond.selects RX1 yX1_needPlace yX1_needPlace, Cond.code yX1_needPlace cX1_needPlace 3 none, Cond.methodLink RX1 110 yX1_needRow, Cond.instanceMethod yX1_needRow, Cond.selects RX1 yX1_needRow yX1_needRow, Cond.code yX1_needRow cX1_needRow 2 none, Cond.classLink RX1 187 "java/lang/IndexOutOfBoundsException", Cond.initialized "java/lang/IndexOutOfBoundsException", Cond.methodLink RX1 184 yX0_hasRow, Cond.instanceMethod yX0_hasRow, Cond.selects RX0 yX0_hasRow yX0_hasRow, Cond.initialized RX0, Cond.code yX0_hasRow cX0_hasRow 2 (some .boolean), Cond.fieldLink RX0 38 "MarbleRamps$Machine" "rowCount" "I"]
def wsL_put_r2 : List Cond := [Cond.methodLink RX1 60 yX1_needColumn, Cond.instanceMethod yX1_needColumn, Cond.selects RX1 yX1_needColumn yX1_needColumn, Cond.code yX1_needColumn cX1_needColumn 2 none, Cond.methodLink RX1 192 yX0_hasColumn, Cond.instanceMethod yX0_hasColumn, Cond.selects RX0 yX0_hasColumn yX0_hasColumn, Cond.code yX0_hasColumn cX0_hasColumn 2 (some .boolean), Cond.fieldLink RX0 34 "MarbleRamps$Machine" "columnCount" "I", Cond.methodLink RX1 19 yX1_needWithin, Cond.static yX1_needWithin, Cond.code yX1_needWithin cX1_needWithin 3 none, Cond.classLink RX1 199 "java/lang/IllegalArgumentException", Cond.initialized "java/lang/IllegalArgumentException", Cond.methodLink RX1 30 yX0_replacePart, Cond.instanceMethod yX0_replacePart, Cond.selects RX0 yX0_replacePart yX0_replacePart, Cond.code yX0_replacePart cX0_replacePart 7 (some .int), Cond.fieldLink RX0 9 "MarbleRamps$Machine" "parts" "[I", Cond.fieldLink RX0 15 "MarbleRamps$Machine" "periods" "[I", Cond.fieldLink RX0 18 "MarbleRamps$Machine" "states" "[I", Cond.methodLink RX0 69 yX0_placeOf, Cond.instanceMethod yX0_placeOf, Cond.selects RX0 yX0_placeOf yX0_placeOf]
def wsL_put_r3 : List Cond := [Cond.code yX0_placeOf cX0_placeOf 3 (some .int), Cond.methodLink RX0 65 yX0_partIn, Cond.instanceMethod yX0_partIn, Cond.selects RX0 yX0_partIn yX0_partIn, Cond.code yX0_partIn cX0_partIn 2 (some .int), Cond.static yX1_cell, Cond.code yX1_cell cX1_cell 2 (some .int), Cond.static yX1_setCell, Cond.code yX1_setCell cX1_setCell 3 none]
def wsL_put : List Cond := .codeWith yL_put cL_put 6 (some .int) [(0, 12, 15, 19), (0, 12, 19, 13)] :: ((wsL_put_r1 ++ (wsL_put_r2 ++ wsL_put_r3)) ++ wsX10 ++ wsX00 ++ (vx_atS RX1 191 "java/lang/IndexOutOfBoundsException" ["java/lang/RuntimeException", "java/lang/Exception"]).filter goodWord ++ (vx_atS RX1 203 "java/lang/IllegalArgumentException" ["java/lang/RuntimeException", "java/lang/Exception"]).filter goodWord)
def wsL_putCounter_r1 : List Cond := [Cond.classLink RL 19 "java/lang/IndexOutOfBoundsException", Cond.classLink RL 13 "java/lang/IllegalArgumentException", Cond.methodLink RL 21 yX1_putCounter, Cond.instanceMethod yX1_putCounter, Cond.selects RX1 yX1_putCounter yX1_putCounter, Cond.initialized RX1, Cond.code yX1_putCounter cX1_putCounter 4 (some .int), Cond.fieldLink RX1 10 "MarbleRamps" "now" "LMarbleRamps$Machine;", Cond.methodLink RX1 27 yX1_needPlace, Cond.instanceMethod yX1_needPlace, Cond.selects RX1 yX1_needPlace yX1_needPlace, Cond.code yX1_needPlace cX1_needPlace 3 none, Cond.methodLink RX1 110 yX1_needRow, Cond.instanceMethod yX1_needRow, Cond.selects RX1 yX1_needRow yX1_needRow, Cond.code yX1_needRow cX1_needRow 2 none, Cond.classLink RX1 187 "java/lang/IndexOutOfBoundsException", Cond.initialized "java/lang/IndexOutOfBoundsException", Cond.methodLink RX1 184 yX0_hasRow, Cond.instanceMethod yX0_hasRow, Cond.selects RX0 yX0_hasRow yX0_hasRow, Cond.initialized RX0, Cond.code yX0_hasRow cX0_hasRow 2 (some .boolean), Cond.fieldLink RX0 38 "MarbleRamps$Machine" "rowCount" "I"]
def wsL_putCounter_r2 : List Cond := [Cond.methodLink RX1 60 yX1_needColumn, Cond.instanceMethod yX1_needColumn, Cond.selects RX1 yX1_needColumn yX1_needColumn, Cond.code yX1_needColumn cX1_needColumn 2 none, Cond.methodLink RX1 192 yX0_hasColumn, Cond.instanceMethod yX0_hasColumn, Cond.selects RX0 yX0_hasColumn yX0_hasColumn, Cond.code yX0_hasColumn cX0_hasColumn 2 (some .boolean), Cond.fieldLink RX0 34 "MarbleRamps$Machine" "columnCount" "I", Cond.methodLink RX1 19 yX1_needWithin, Cond.static yX1_needWithin, Cond.code yX1_needWithin cX1_needWithin 3 none, Cond.classLink RX1 199 "java/lang/IllegalArgumentException", Cond.initialized "java/lang/IllegalArgumentException", Cond.methodLink RX1 30 yX0_replacePart, Cond.instanceMethod yX0_replacePart, Cond.selects RX0 yX0_replacePart yX0_replacePart, Cond.code yX0_replacePart cX0_replacePart 7 (some .int), Cond.fieldLink RX0 9 "MarbleRamps$Machine" "parts" "[I", Cond.fieldLink RX0 15 "MarbleRamps$Machine" "periods" "[I", Cond.fieldLink RX0 18 "MarbleRamps$Machine" "states" "[I", Cond.methodLink RX0 69 yX0_placeOf, Cond.instanceMethod yX0_placeOf, Cond.selects RX0 yX0_placeOf yX0_placeOf]
def wsL_putCounter_r3 : List Cond := [Cond.code yX0_placeOf cX0_placeOf 3 (some .int), Cond.methodLink RX0 65 yX0_partIn, Cond.instanceMethod yX0_partIn, Cond.selects RX0 yX0_partIn yX0_partIn, Cond.code yX0_partIn cX0_partIn 2 (some .int), Cond.static yX1_cell, Cond.code yX1_cell cX1_cell 2 (some .int), Cond.static yX1_setCell, Cond.code yX1_setCell cX1_setCell 3 none]
def wsL_putCounter : List Cond := .codeWith yL_putCounter cL_putCounter 6 (some .int) [(0, 12, 15, 19), (0, 12, 19, 13)] :: ((wsL_putCounter_r1 ++ (wsL_putCounter_r2 ++ wsL_putCounter_r3)) ++ wsX10 ++ wsX00 ++ (vx_atS RX1 191 "java/lang/IndexOutOfBoundsException" ["java/lang/RuntimeException", "java/lang/Exception"]).filter goodWord ++ (vx_atS RX1 203 "java/lang/IllegalArgumentException" ["java/lang/RuntimeException", "java/lang/Exception"]).filter goodWord)
def wsL_turn_r1 : List Cond := [Cond.classLink RL 19 "java/lang/IndexOutOfBoundsException", Cond.classLink RL 28 "java/lang/IllegalStateException", Cond.methodLink RL 24 yX1_turn, Cond.instanceMethod yX1_turn, Cond.selects RX1 yX1_turn yX1_turn, Cond.initialized RX1, Cond.code yX1_turn cX1_turn 4 (some .boolean), Cond.classLink RX1 42 "java/lang/IllegalStateException", Cond.initialized "java/lang/IllegalStateException", Cond.fieldLink RX1 10 "MarbleRamps" "now" "LMarbleRamps$Machine;", Cond.methodLink RX1 27 yX1_needPlace, Cond.instanceMethod yX1_needPlace, Cond.selects RX1 yX1_needPlace yX1_needPlace, Cond.code yX1_needPlace cX1_needPlace 3 none, Cond.methodLink RX1 110 yX1_needRow, Cond.instanceMethod yX1_needRow, Cond.selects RX1 yX1_needRow yX1_needRow, Cond.code yX1_needRow cX1_needRow 2 none, Cond.classLink RX1 187 "java/lang/IndexOutOfBoundsException", Cond.initialized "java/lang/IndexOutOfBoundsException", Cond.methodLink RX1 184 yX0_hasRow, Cond.instanceMethod yX0_hasRow, Cond.selects RX0 yX0_hasRow yX0_hasRow, Cond.initialized RX0]
def wsL_turn_r2 : List Cond := [Cond.code yX0_hasRow cX0_hasRow 2 (some .boolean), Cond.fieldLink RX0 38 "MarbleRamps$Machine" "rowCount" "I", Cond.methodLink RX1 60 yX1_needColumn, Cond.instanceMethod yX1_needColumn, Cond.selects RX1 yX1_needColumn yX1_needColumn, Cond.code yX1_needColumn cX1_needColumn 2 none, Cond.methodLink RX1 192 yX0_hasColumn, Cond.instanceMethod yX0_hasColumn, Cond.selects RX0 yX0_hasColumn yX0_hasColumn, Cond.code yX0_hasColumn cX0_hasColumn 2 (some .boolean), Cond.fieldLink RX0 34 "MarbleRamps$Machine" "columnCount" "I", Cond.methodLink RX1 34 yX0_placeOf, Cond.instanceMethod yX0_placeOf, Cond.selects RX0 yX0_placeOf yX0_placeOf, Cond.code yX0_placeOf cX0_placeOf 3 (some .int), Cond.methodLink RX1 38 yX0_partIn, Cond.instanceMethod yX0_partIn, Cond.selects RX0 yX0_partIn yX0_partIn, Cond.code yX0_partIn cX0_partIn 2 (some .int), Cond.fieldLink RX0 9 "MarbleRamps$Machine" "parts" "[I", Cond.static yX1_cell, Cond.code yX1_cell cX1_cell 2 (some .int), Cond.methodLink RX1 49 yX0_turnOver, Cond.instanceMethod yX0_turnOver]
def wsL_turn_r3 : List Cond := [Cond.selects RX0 yX0_turnOver yX0_turnOver, Cond.code yX0_turnOver cX0_turnOver 2 none, Cond.fieldLink RX0 18 "MarbleRamps$Machine" "states" "[I", Cond.methodLink RX0 73 yX0_isRightToggle, Cond.instanceMethod yX0_isRightToggle, Cond.selects RX0 yX0_isRightToggle yX0_isRightToggle, Cond.code yX0_isRightToggle cX0_isRightToggle 2 (some .boolean), Cond.methodLink RX0 65 yX0_partIn, Cond.static yX1_setCell, Cond.code yX1_setCell cX1_setCell 3 none, Cond.methodLink RX1 53 yX0_isRightToggle]
def wsL_turn : List Cond := .codeWith yL_turn cL_turn 5 (some .int) [(0, 17, 20, 19), (0, 17, 24, 28)] :: ((wsL_turn_r1 ++ (wsL_turn_r2 ++ wsL_turn_r3)) ++ wsX10 ++ wsX00 ++ (vx_atS RX1 46 "java/lang/IllegalStateException" ["java/lang/RuntimeException", "java/lang/Exception"]).filter goodWord ++ (vx_atS RX1 191 "java/lang/IndexOutOfBoundsException" ["java/lang/RuntimeException", "java/lang/Exception"]).filter goodWord)
def wsL_setHopper_r1 : List Cond := [Cond.classLink RL 19 "java/lang/IndexOutOfBoundsException", Cond.classLink RL 13 "java/lang/IllegalArgumentException", Cond.methodLink RL 30 yX1_setHopper, Cond.instanceMethod yX1_setHopper, Cond.selects RX1 yX1_setHopper yX1_setHopper, Cond.initialized RX1, Cond.code yX1_setHopper cX1_setHopper 4 (some .int), Cond.fieldLink RX1 10 "MarbleRamps" "now" "LMarbleRamps$Machine;", Cond.methodLink RX1 57 yX1_needHopper, Cond.static yX1_needHopper, Cond.code yX1_needHopper cX1_needHopper 1 none, Cond.classLink RX1 187 "java/lang/IndexOutOfBoundsException", Cond.initialized "java/lang/IndexOutOfBoundsException", Cond.methodLink RX1 60 yX1_needColumn, Cond.instanceMethod yX1_needColumn, Cond.selects RX1 yX1_needColumn yX1_needColumn, Cond.code yX1_needColumn cX1_needColumn 2 none, Cond.methodLink RX1 192 yX0_hasColumn, Cond.instanceMethod yX0_hasColumn, Cond.selects RX0 yX0_hasColumn yX0_hasColumn, Cond.initialized RX0, Cond.code yX0_hasColumn cX0_hasColumn 2 (some .boolean), Cond.fieldLink RX0 34 "MarbleRamps$Machine" "columnCount" "I", Cond.methodLink RX1 19 yX1_needWithin]
def wsL_setHopper_r2 : List Cond := [Cond.static yX1_needWithin, Cond.code yX1_needWithin cX1_needWithin 3 none, Cond.classLink RX1 199 "java/lang/IllegalArgumentException", Cond.initialized "java/lang/IllegalArgumentException", Cond.methodLink RX1 63 yX0_fillHopper, Cond.instanceMethod yX0_fillHopper, Cond.selects RX0 yX0_fillHopper yX0_fillHopper, Cond.code yX0_fillHopper cX0_fillHopper 5 (some .int), Cond.fieldLink RX0 27 "MarbleRamps$Machine" "hopperMarbles" "[I", Cond.fieldLink RX0 24 "MarbleRamps$Machine" "hopperColumns" "[I", Cond.static yX1_cell, Cond.code yX1_cell cX1_cell 2 (some .int), Cond.static yX1_setCell, Cond.code yX1_setCell cX1_setCell 3 none]
def wsL_setHopper : List Cond := .codeWith yL_setHopper cL_setHopper 6 (some .int) [(0, 12, 15, 19), (0, 12, 19, 13)] :: ((wsL_setHopper_r1 ++ wsL_setHopper_r2) ++ wsX10 ++ wsX00 ++ (vx_atS RX1 191 "java/lang/IndexOutOfBoundsException" ["java/lang/RuntimeException", "java/lang/Exception"]).filter goodWord ++ (vx_atS RX1 203 "java/lang/IllegalArgumentException" ["java/lang/RuntimeException", "java/lang/Exception"]).filter goodWord)
def wsL_drop_r1 : List Cond := [Cond.classLink RL 19 "java/lang/IndexOutOfBoundsException", Cond.methodLink RL 33 yX1_drop, Cond.instanceMethod yX1_drop, Cond.selects RX1 yX1_drop yX1_drop, Cond.initialized RX1, Cond.code yX1_drop cX1_drop 2 (some .int), Cond.fieldLink RX1 10 "MarbleRamps" "now" "LMarbleRamps$Machine;", Cond.methodLink RX1 60 yX1_needColumn, Cond.instanceMethod yX1_needColumn, Cond.selects RX1 yX1_needColumn yX1_needColumn, Cond.code yX1_needColumn cX1_needColumn 2 none, Cond.classLink RX1 187 "java/lang/IndexOutOfBoundsException", Cond.initialized "java/lang/IndexOutOfBoundsException", Cond.methodLink RX1 192 yX0_hasColumn, Cond.instanceMethod yX0_hasColumn, Cond.selects RX0 yX0_hasColumn yX0_hasColumn, Cond.initialized RX0, Cond.code yX0_hasColumn cX0_hasColumn 2 (some .boolean), Cond.fieldLink RX0 34 "MarbleRamps$Machine" "columnCount" "I", Cond.methodLink RX1 67 yX0_letFall, Cond.instanceMethod yX0_letFall, Cond.selects RX0 yX0_letFall yX0_letFall, Cond.code yX0_letFall cX0_letFall 3 (some .int), Cond.fieldLink RX0 38 "MarbleRamps$Machine" "rowCount" "I"]
def wsL_drop_r2 : List Cond := [Cond.fieldLink RX0 41 "MarbleRamps$Machine" "lostCount" "I", Cond.fieldLink RX0 21 "MarbleRamps$Machine" "bins" "[I", Cond.methodLink RX0 77 yX0_fallTo, Cond.instanceMethod yX0_fallTo, Cond.selects RX0 yX0_fallTo yX0_fallTo, Cond.code yX0_fallTo cX0_fallTo 6 (some .int), Cond.methodLink RX0 69 yX0_placeOf, Cond.instanceMethod yX0_placeOf, Cond.selects RX0 yX0_placeOf yX0_placeOf, Cond.code yX0_placeOf cX0_placeOf 3 (some .int), Cond.methodLink RX0 80 yX0_wayOut, Cond.instanceMethod yX0_wayOut, Cond.selects RX0 yX0_wayOut yX0_wayOut, Cond.code yX0_wayOut cX0_wayOut 5 (some .int), Cond.fieldLink RX0 9 "MarbleRamps$Machine" "parts" "[I", Cond.fieldLink RX0 18 "MarbleRamps$Machine" "states" "[I", Cond.fieldLink RX0 15 "MarbleRamps$Machine" "periods" "[I", Cond.static yX1_cell, Cond.code yX1_cell cX1_cell 2 (some .int), Cond.static yX1_setCell, Cond.code yX1_setCell cX1_setCell 3 none, Cond.methodLink RX0 83 yX0_hasColumn]
def wsL_drop : List Cond := .codeWith yL_drop cL_drop 4 (some .int) [(0, 9, 12, 19)] :: ((wsL_drop_r1 ++ wsL_drop_r2) ++ wsX10 ++ wsX00 ++ (vx_atS RX1 191 "java/lang/IndexOutOfBoundsException" ["java/lang/RuntimeException", "java/lang/Exception"]).filter goodWord)
def wsL_run_r1 : List Cond := [Cond.classLink RL 19 "java/lang/IndexOutOfBoundsException", Cond.classLink RL 13 "java/lang/IllegalArgumentException", Cond.methodLink RL 37 yX1_run, Cond.instanceMethod yX1_run, Cond.selects RX1 yX1_run yX1_run, Cond.initialized RX1, Cond.code yX1_run cX1_run 3 (some .int), Cond.fieldLink RX1 10 "MarbleRamps" "now" "LMarbleRamps$Machine;", Cond.methodLink RX1 57 yX1_needHopper, Cond.static yX1_needHopper, Cond.code yX1_needHopper cX1_needHopper 1 none, Cond.classLink RX1 187 "java/lang/IndexOutOfBoundsException", Cond.initialized "java/lang/IndexOutOfBoundsException", Cond.methodLink RX1 19 yX1_needWithin, Cond.static yX1_needWithin, Cond.code yX1_needWithin cX1_needWithin 3 none, Cond.classLink RX1 199 "java/lang/IllegalArgumentException", Cond.initialized "java/lang/IllegalArgumentException", Cond.methodLink RX1 70 yX0_runFrom, Cond.instanceMethod yX0_runFrom, Cond.selects RX0 yX0_runFrom yX0_runFrom, Cond.initialized RX0, Cond.code yX0_runFrom cX0_runFrom 5 (some .int), Cond.fieldLink RX0 27 "MarbleRamps$Machine" "hopperMarbles" "[I"]
def wsL_run_r2 : List Cond := [Cond.fieldLink RX0 24 "MarbleRamps$Machine" "hopperColumns" "[I", Cond.static yX1_cell, Cond.code yX1_cell cX1_cell 2 (some .int), Cond.static yX1_setCell, Cond.code yX1_setCell cX1_setCell 3 none, Cond.methodLink RX0 86 yX0_letFall, Cond.instanceMethod yX0_letFall, Cond.selects RX0 yX0_letFall yX0_letFall, Cond.code yX0_letFall cX0_letFall 3 (some .int), Cond.fieldLink RX0 38 "MarbleRamps$Machine" "rowCount" "I", Cond.fieldLink RX0 41 "MarbleRamps$Machine" "lostCount" "I", Cond.fieldLink RX0 21 "MarbleRamps$Machine" "bins" "[I", Cond.methodLink RX0 77 yX0_fallTo, Cond.instanceMethod yX0_fallTo, Cond.selects RX0 yX0_fallTo yX0_fallTo, Cond.code yX0_fallTo cX0_fallTo 6 (some .int), Cond.methodLink RX0 69 yX0_placeOf, Cond.instanceMethod yX0_placeOf, Cond.selects RX0 yX0_placeOf yX0_placeOf, Cond.code yX0_placeOf cX0_placeOf 3 (some .int), Cond.fieldLink RX0 34 "MarbleRamps$Machine" "columnCount" "I", Cond.methodLink RX0 80 yX0_wayOut, Cond.instanceMethod yX0_wayOut, Cond.selects RX0 yX0_wayOut yX0_wayOut]
def wsL_run_r3 : List Cond := [Cond.code yX0_wayOut cX0_wayOut 5 (some .int), Cond.fieldLink RX0 9 "MarbleRamps$Machine" "parts" "[I", Cond.fieldLink RX0 18 "MarbleRamps$Machine" "states" "[I", Cond.fieldLink RX0 15 "MarbleRamps$Machine" "periods" "[I", Cond.methodLink RX0 83 yX0_hasColumn, Cond.instanceMethod yX0_hasColumn, Cond.selects RX0 yX0_hasColumn yX0_hasColumn, Cond.code yX0_hasColumn cX0_hasColumn 2 (some .boolean), Cond.methodLink RX0 89 yX0_hopperBehind, Cond.instanceMethod yX0_hopperBehind, Cond.selects RX0 yX0_hopperBehind yX0_hopperBehind, Cond.code yX0_hopperBehind cX0_hopperBehind 3 (some .int)]
def wsL_run : List Cond := .codeWith yL_run cL_run 5 (some .int) [(0, 10, 13, 19), (0, 10, 17, 13)] :: ((wsL_run_r1 ++ (wsL_run_r2 ++ wsL_run_r3)) ++ wsX10 ++ wsX00 ++ (vx_atS RX1 191 "java/lang/IndexOutOfBoundsException" ["java/lang/RuntimeException", "java/lang/Exception"]).filter goodWord ++ (vx_atS RX1 203 "java/lang/IllegalArgumentException" ["java/lang/RuntimeException", "java/lang/Exception"]).filter goodWord)
def wsL_partAt_r1 : List Cond := [Cond.classLink RL 19 "java/lang/IndexOutOfBoundsException", Cond.methodLink RL 40 yX1_partAt, Cond.instanceMethod yX1_partAt, Cond.selects RX1 yX1_partAt yX1_partAt, Cond.initialized RX1, Cond.code yX1_partAt cX1_partAt 3 (some .int), Cond.fieldLink RX1 10 "MarbleRamps" "now" "LMarbleRamps$Machine;", Cond.methodLink RX1 27 yX1_needPlace, Cond.instanceMethod yX1_needPlace, Cond.selects RX1 yX1_needPlace yX1_needPlace, Cond.code yX1_needPlace cX1_needPlace 3 none, Cond.methodLink RX1 110 yX1_needRow, Cond.instanceMethod yX1_needRow, Cond.selects RX1 yX1_needRow yX1_needRow, Cond.code yX1_needRow cX1_needRow 2 none, Cond.classLink RX1 187 "java/lang/IndexOutOfBoundsException", Cond.initialized "java/lang/IndexOutOfBoundsException", Cond.methodLink RX1 184 yX0_hasRow, Cond.instanceMethod yX0_hasRow, Cond.selects RX0 yX0_hasRow yX0_hasRow, Cond.initialized RX0, Cond.code yX0_hasRow cX0_hasRow 2 (some .boolean), Cond.fieldLink RX0 38 "MarbleRamps$Machine" "rowCount" "I", Cond.methodLink RX1 60 yX1_needColumn]
def wsL_partAt_r2 : List Cond := [Cond.instanceMethod yX1_needColumn, Cond.selects RX1 yX1_needColumn yX1_needColumn, Cond.code yX1_needColumn cX1_needColumn 2 none, Cond.methodLink RX1 192 yX0_hasColumn, Cond.instanceMethod yX0_hasColumn, Cond.selects RX0 yX0_hasColumn yX0_hasColumn, Cond.code yX0_hasColumn cX0_hasColumn 2 (some .boolean), Cond.fieldLink RX0 34 "MarbleRamps$Machine" "columnCount" "I", Cond.methodLink RX1 34 yX0_placeOf, Cond.instanceMethod yX0_placeOf, Cond.selects RX0 yX0_placeOf yX0_placeOf, Cond.code yX0_placeOf cX0_placeOf 3 (some .int), Cond.methodLink RX1 38 yX0_partIn, Cond.instanceMethod yX0_partIn, Cond.selects RX0 yX0_partIn yX0_partIn, Cond.code yX0_partIn cX0_partIn 2 (some .int), Cond.fieldLink RX0 9 "MarbleRamps$Machine" "parts" "[I", Cond.static yX1_cell, Cond.code yX1_cell cX1_cell 2 (some .int)]
def wsL_partAt : List Cond := .codeWith yL_partAt cL_partAt 5 (some .int) [(0, 10, 13, 19)] :: ((wsL_partAt_r1 ++ wsL_partAt_r2) ++ wsX10 ++ wsX00 ++ (vx_atS RX1 191 "java/lang/IndexOutOfBoundsException" ["java/lang/RuntimeException", "java/lang/Exception"]).filter goodWord)
def wsL_leadsRight_r1 : List Cond := [Cond.classLink RL 19 "java/lang/IndexOutOfBoundsException", Cond.methodLink RL 43 yX1_leadsRight, Cond.instanceMethod yX1_leadsRight, Cond.selects RX1 yX1_leadsRight yX1_leadsRight, Cond.initialized RX1, Cond.code yX1_leadsRight cX1_leadsRight 3 (some .boolean), Cond.fieldLink RX1 10 "MarbleRamps" "now" "LMarbleRamps$Machine;", Cond.methodLink RX1 27 yX1_needPlace, Cond.instanceMethod yX1_needPlace, Cond.selects RX1 yX1_needPlace yX1_needPlace, Cond.code yX1_needPlace cX1_needPlace 3 none, Cond.methodLink RX1 110 yX1_needRow, Cond.instanceMethod yX1_needRow, Cond.selects RX1 yX1_needRow yX1_needRow, Cond.code yX1_needRow cX1_needRow 2 none, Cond.classLink RX1 187 "java/lang/IndexOutOfBoundsException", Cond.initialized "java/lang/IndexOutOfBoundsException", Cond.methodLink RX1 184 yX0_hasRow, Cond.instanceMethod yX0_hasRow, Cond.selects RX0 yX0_hasRow yX0_hasRow, Cond.initialized RX0, Cond.code yX0_hasRow cX0_hasRow 2 (some .boolean), Cond.fieldLink RX0 38 "MarbleRamps$Machine" "rowCount" "I", Cond.methodLink RX1 60 yX1_needColumn]
def wsL_leadsRight_r2 : List Cond := [Cond.instanceMethod yX1_needColumn, Cond.selects RX1 yX1_needColumn yX1_needColumn, Cond.code yX1_needColumn cX1_needColumn 2 none, Cond.methodLink RX1 192 yX0_hasColumn, Cond.instanceMethod yX0_hasColumn, Cond.selects RX0 yX0_hasColumn yX0_hasColumn, Cond.code yX0_hasColumn cX0_hasColumn 2 (some .boolean), Cond.fieldLink RX0 34 "MarbleRamps$Machine" "columnCount" "I", Cond.methodLink RX1 34 yX0_placeOf, Cond.instanceMethod yX0_placeOf, Cond.selects RX0 yX0_placeOf yX0_placeOf, Cond.code yX0_placeOf cX0_placeOf 3 (some .int), Cond.methodLink RX1 53 yX0_isRightToggle, Cond.instanceMethod yX0_isRightToggle, Cond.selects RX0 yX0_isRightToggle yX0_isRightToggle, Cond.code yX0_isRightToggle cX0_isRightToggle 2 (some .boolean), Cond.fieldLink RX0 18 "MarbleRamps$Machine" "states" "[I", Cond.methodLink RX0 65 yX0_partIn, Cond.instanceMethod yX0_partIn, Cond.selects RX0 yX0_partIn yX0_partIn, Cond.code yX0_partIn cX0_partIn 2 (some .int), Cond.fieldLink RX0 9 "MarbleRamps$Machine" "parts" "[I", Cond.static yX1_cell, Cond.code yX1_cell cX1_cell 2 (some .int)]
def wsL_leadsRight : List Cond := .codeWith yL_leadsRight cL_leadsRight 5 (some .int) [(0, 17, 20, 19)] :: ((wsL_leadsRight_r1 ++ wsL_leadsRight_r2) ++ wsX10 ++ wsX00 ++ (vx_atS RX1 191 "java/lang/IndexOutOfBoundsException" ["java/lang/RuntimeException", "java/lang/Exception"]).filter goodWord)
def wsL_countAt_r1 : List Cond := [Cond.classLink RL 19 "java/lang/IndexOutOfBoundsException", Cond.methodLink RL 46 yX1_countAt, Cond.instanceMethod yX1_countAt, Cond.selects RX1 yX1_countAt yX1_countAt, Cond.initialized RX1, Cond.code yX1_countAt cX1_countAt 3 (some .int), Cond.fieldLink RX1 10 "MarbleRamps" "now" "LMarbleRamps$Machine;", Cond.methodLink RX1 27 yX1_needPlace, Cond.instanceMethod yX1_needPlace, Cond.selects RX1 yX1_needPlace yX1_needPlace, Cond.code yX1_needPlace cX1_needPlace 3 none, Cond.methodLink RX1 110 yX1_needRow, Cond.instanceMethod yX1_needRow, Cond.selects RX1 yX1_needRow yX1_needRow, Cond.code yX1_needRow cX1_needRow 2 none, Cond.classLink RX1 187 "java/lang/IndexOutOfBoundsException", Cond.initialized "java/lang/IndexOutOfBoundsException", Cond.methodLink RX1 184 yX0_hasRow, Cond.instanceMethod yX0_hasRow, Cond.selects RX0 yX0_hasRow yX0_hasRow, Cond.initialized RX0, Cond.code yX0_hasRow cX0_hasRow 2 (some .boolean), Cond.fieldLink RX0 38 "MarbleRamps$Machine" "rowCount" "I", Cond.methodLink RX1 60 yX1_needColumn]
def wsL_countAt_r2 : List Cond := [Cond.instanceMethod yX1_needColumn, Cond.selects RX1 yX1_needColumn yX1_needColumn, Cond.code yX1_needColumn cX1_needColumn 2 none, Cond.methodLink RX1 192 yX0_hasColumn, Cond.instanceMethod yX0_hasColumn, Cond.selects RX0 yX0_hasColumn yX0_hasColumn, Cond.code yX0_hasColumn cX0_hasColumn 2 (some .boolean), Cond.fieldLink RX0 34 "MarbleRamps$Machine" "columnCount" "I", Cond.methodLink RX1 34 yX0_placeOf, Cond.instanceMethod yX0_placeOf, Cond.selects RX0 yX0_placeOf yX0_placeOf, Cond.code yX0_placeOf cX0_placeOf 3 (some .int), Cond.methodLink RX1 87 yX0_countedIn, Cond.instanceMethod yX0_countedIn, Cond.selects RX0 yX0_countedIn yX0_countedIn, Cond.code yX0_countedIn cX0_countedIn 2 (some .int), Cond.fieldLink RX0 18 "MarbleRamps$Machine" "states" "[I", Cond.methodLink RX0 65 yX0_partIn, Cond.instanceMethod yX0_partIn, Cond.selects RX0 yX0_partIn yX0_partIn, Cond.code yX0_partIn cX0_partIn 2 (some .int), Cond.fieldLink RX0 9 "MarbleRamps$Machine" "parts" "[I", Cond.static yX1_cell, Cond.code yX1_cell cX1_cell 2 (some .int)]
def wsL_countAt : List Cond := .codeWith yL_countAt cL_countAt 5 (some .int) [(0, 10, 13, 19)] :: ((wsL_countAt_r1 ++ wsL_countAt_r2) ++ wsX10 ++ wsX00 ++ (vx_atS RX1 191 "java/lang/IndexOutOfBoundsException" ["java/lang/RuntimeException", "java/lang/Exception"]).filter goodWord)
def wsL_binOf : List Cond := .codeWith yL_binOf cL_binOf 4 (some .int) [(0, 9, 12, 19)] :: ([.classLink RL 19 "java/lang/IndexOutOfBoundsException", .methodLink RL 49 yX1_binOf, .instanceMethod yX1_binOf, .selects RX1 yX1_binOf yX1_binOf, .initialized RX1, .code yX1_binOf cX1_binOf 2 (some .int), .fieldLink RX1 10 "MarbleRamps" "now" "LMarbleRamps$Machine;", .fieldLink RX1 90 "MarbleRamps$Machine" "bins" "[I", .methodLink RX1 60 yX1_needColumn, .instanceMethod yX1_needColumn, .selects RX1 yX1_needColumn yX1_needColumn, .code yX1_needColumn cX1_needColumn 2 none, .classLink RX1 187 "java/lang/IndexOutOfBoundsException", .initialized "java/lang/IndexOutOfBoundsException", .methodLink RX1 192 yX0_hasColumn, .instanceMethod yX0_hasColumn, .selects RX0 yX0_hasColumn yX0_hasColumn, .initialized RX0, .code yX0_hasColumn cX0_hasColumn 2 (some .boolean), .fieldLink RX0 34 "MarbleRamps$Machine" "columnCount" "I", .methodLink RX1 94 yX1_cell, .static yX1_cell, .code yX1_cell cX1_cell 2 (some .int)] ++ wsX10 ++ wsX00 ++ (vx_atS RX1 191 "java/lang/IndexOutOfBoundsException" ["java/lang/RuntimeException", "java/lang/Exception"]).filter goodWord)
def wsL_marblesIn : List Cond := .codeWith yL_marblesIn cL_marblesIn 4 (some .int) [(0, 9, 12, 19)] :: ([.classLink RL 19 "java/lang/IndexOutOfBoundsException", .methodLink RL 52 yX1_marblesIn, .instanceMethod yX1_marblesIn, .selects RX1 yX1_marblesIn yX1_marblesIn, .initialized RX1, .code yX1_marblesIn cX1_marblesIn 2 (some .int), .fieldLink RX1 10 "MarbleRamps" "now" "LMarbleRamps$Machine;", .fieldLink RX1 101 "MarbleRamps$Machine" "hopperMarbles" "[I", .methodLink RX1 57 yX1_needHopper, .static yX1_needHopper, .code yX1_needHopper cX1_needHopper 1 none, .classLink RX1 187 "java/lang/IndexOutOfBoundsException", .initialized "java/lang/IndexOutOfBoundsException", .methodLink RX1 94 yX1_cell, .static yX1_cell, .code yX1_cell cX1_cell 2 (some .int)] ++ wsX10 ++ wsX00 ++ (vx_atS RX1 191 "java/lang/IndexOutOfBoundsException" ["java/lang/RuntimeException", "java/lang/Exception"]).filter goodWord)
def wsL_columnOf : List Cond := .codeWith yL_columnOf cL_columnOf 4 (some .int) [(0, 9, 12, 19)] :: ([.classLink RL 19 "java/lang/IndexOutOfBoundsException", .methodLink RL 55 yX1_columnOf, .instanceMethod yX1_columnOf, .selects RX1 yX1_columnOf yX1_columnOf, .initialized RX1, .code yX1_columnOf cX1_columnOf 2 (some .int), .fieldLink RX1 10 "MarbleRamps" "now" "LMarbleRamps$Machine;", .fieldLink RX1 104 "MarbleRamps$Machine" "hopperColumns" "[I", .methodLink RX1 57 yX1_needHopper, .static yX1_needHopper, .code yX1_needHopper cX1_needHopper 1 none, .classLink RX1 187 "java/lang/IndexOutOfBoundsException", .initialized "java/lang/IndexOutOfBoundsException", .methodLink RX1 94 yX1_cell, .static yX1_cell, .code yX1_cell cX1_cell 2 (some .int)] ++ wsX10 ++ wsX00 ++ (vx_atS RX1 191 "java/lang/IndexOutOfBoundsException" ["java/lang/RuntimeException", "java/lang/Exception"]).filter goodWord)
def wsL_numberIn_r1 : List Cond := [Cond.classLink RL 19 "java/lang/IndexOutOfBoundsException", Cond.methodLink RL 58 yX1_numberIn, Cond.instanceMethod yX1_numberIn, Cond.selects RX1 yX1_numberIn yX1_numberIn, Cond.initialized RX1, Cond.code yX1_numberIn cX1_numberIn 2 (some .int), Cond.fieldLink RX1 10 "MarbleRamps" "now" "LMarbleRamps$Machine;", Cond.methodLink RX1 110 yX1_needRow, Cond.instanceMethod yX1_needRow, Cond.selects RX1 yX1_needRow yX1_needRow, Cond.code yX1_needRow cX1_needRow 2 none, Cond.classLink RX1 187 "java/lang/IndexOutOfBoundsException", Cond.initialized "java/lang/IndexOutOfBoundsException", Cond.methodLink RX1 184 yX0_hasRow, Cond.instanceMethod yX0_hasRow, Cond.selects RX0 yX0_hasRow yX0_hasRow, Cond.initialized RX0, Cond.code yX0_hasRow cX0_hasRow 2 (some .boolean), Cond.fieldLink RX0 38 "MarbleRamps$Machine" "rowCount" "I", Cond.methodLink RX1 113 yX0_numberToldBy, Cond.instanceMethod yX0_numberToldBy, Cond.selects RX0 yX0_numberToldBy yX0_numberToldBy, Cond.code yX0_numberToldBy cX0_numberToldBy 6 (some .int), Cond.fieldLink RX0 34 "MarbleRamps$Machine" "columnCount" "I"]
def wsL_numberIn_r2 : List Cond := [Cond.methodLink RX0 69 yX0_placeOf, Cond.instanceMethod yX0_placeOf, Cond.selects RX0 yX0_placeOf yX0_placeOf, Cond.code yX0_placeOf cX0_placeOf 3 (some .int), Cond.methodLink RX0 65 yX0_partIn, Cond.instanceMethod yX0_partIn, Cond.selects RX0 yX0_partIn yX0_partIn, Cond.code yX0_partIn cX0_partIn 2 (some .int), Cond.fieldLink RX0 9 "MarbleRamps$Machine" "parts" "[I", Cond.static yX1_cell, Cond.code yX1_cell cX1_cell 2 (some .int), Cond.methodLink RX0 73 yX0_isRightToggle, Cond.instanceMethod yX0_isRightToggle, Cond.selects RX0 yX0_isRightToggle yX0_isRightToggle, Cond.code yX0_isRightToggle cX0_isRightToggle 2 (some .boolean), Cond.fieldLink RX0 18 "MarbleRamps$Machine" "states" "[I"]
def wsL_numberIn : List Cond := .codeWith yL_numberIn cL_numberIn 4 (some .int) [(0, 9, 12, 19)] :: ((wsL_numberIn_r1 ++ wsL_numberIn_r2) ++ wsX10 ++ wsX00 ++ (vx_atS RX1 191 "java/lang/IndexOutOfBoundsException" ["java/lang/RuntimeException", "java/lang/Exception"]).filter goodWord)
def wsL_wouldLand_r1 : List Cond := [Cond.classLink RL 19 "java/lang/IndexOutOfBoundsException", Cond.methodLink RL 61 yX1_wouldLand, Cond.instanceMethod yX1_wouldLand, Cond.selects RX1 yX1_wouldLand yX1_wouldLand, Cond.initialized RX1, Cond.code yX1_wouldLand cX1_wouldLand 2 (some .int), Cond.fieldLink RX1 16 "MarbleRamps" "trial" "LMarbleRamps$Machine;", Cond.fieldLink RX1 10 "MarbleRamps" "now" "LMarbleRamps$Machine;", Cond.methodLink RX1 60 yX1_needColumn, Cond.instanceMethod yX1_needColumn, Cond.selects RX1 yX1_needColumn yX1_needColumn, Cond.code yX1_needColumn cX1_needColumn 2 none, Cond.classLink RX1 187 "java/lang/IndexOutOfBoundsException", Cond.initialized "java/lang/IndexOutOfBoundsException", Cond.methodLink RX1 192 yX0_hasColumn, Cond.instanceMethod yX0_hasColumn, Cond.selects RX0 yX0_hasColumn yX0_hasColumn, Cond.initialized RX0, Cond.code yX0_hasColumn cX0_hasColumn 2 (some .boolean), Cond.fieldLink RX0 34 "MarbleRamps$Machine" "columnCount" "I", Cond.methodLink RX1 116 yX0_becomeLike, Cond.instanceMethod yX0_becomeLike, Cond.selects RX0 yX0_becomeLike yX0_becomeLike, Cond.code yX0_becomeLike cX0_becomeLike 2 none]
def wsL_wouldLand_r2 : List Cond := [Cond.fieldLink RX0 38 "MarbleRamps$Machine" "rowCount" "I", Cond.fieldLink RX0 41 "MarbleRamps$Machine" "lostCount" "I", Cond.fieldLink RX0 9 "MarbleRamps$Machine" "parts" "[I", Cond.fieldLink RX0 15 "MarbleRamps$Machine" "periods" "[I", Cond.fieldLink RX0 18 "MarbleRamps$Machine" "states" "[I", Cond.fieldLink RX0 21 "MarbleRamps$Machine" "bins" "[I", Cond.fieldLink RX0 24 "MarbleRamps$Machine" "hopperColumns" "[I", Cond.fieldLink RX0 27 "MarbleRamps$Machine" "hopperMarbles" "[I", Cond.static yX1_copyCells, Cond.code yX1_copyCells cX1_copyCells 3 none, Cond.methodLink RX1 204 yX1_setCell, Cond.static yX1_setCell, Cond.code yX1_setCell cX1_setCell 3 none, Cond.methodLink RX1 67 yX0_letFall, Cond.instanceMethod yX0_letFall, Cond.selects RX0 yX0_letFall yX0_letFall, Cond.code yX0_letFall cX0_letFall 3 (some .int), Cond.methodLink RX0 77 yX0_fallTo, Cond.instanceMethod yX0_fallTo, Cond.selects RX0 yX0_fallTo yX0_fallTo, Cond.code yX0_fallTo cX0_fallTo 6 (some .int), Cond.methodLink RX0 69 yX0_placeOf, Cond.instanceMethod yX0_placeOf, Cond.selects RX0 yX0_placeOf yX0_placeOf]
def wsL_wouldLand_r3 : List Cond := [Cond.code yX0_placeOf cX0_placeOf 3 (some .int), Cond.methodLink RX0 80 yX0_wayOut, Cond.instanceMethod yX0_wayOut, Cond.selects RX0 yX0_wayOut yX0_wayOut, Cond.code yX0_wayOut cX0_wayOut 5 (some .int), Cond.static yX1_cell, Cond.code yX1_cell cX1_cell 2 (some .int), Cond.methodLink RX0 83 yX0_hasColumn]
def wsL_wouldLand : List Cond := .codeWith yL_wouldLand cL_wouldLand 4 (some .int) [(0, 9, 12, 19)] :: ((wsL_wouldLand_r1 ++ (wsL_wouldLand_r2 ++ wsL_wouldLand_r3)) ++ wsX10 ++ wsX00 ++ (vx_atS RX1 191 "java/lang/IndexOutOfBoundsException" ["java/lang/RuntimeException", "java/lang/Exception"]).filter goodWord)
def wsL_wouldBeIn_r1 : List Cond := [Cond.classLink RL 19 "java/lang/IndexOutOfBoundsException", Cond.methodLink RL 64 yX1_wouldBeIn, Cond.instanceMethod yX1_wouldBeIn, Cond.selects RX1 yX1_wouldBeIn yX1_wouldBeIn, Cond.initialized RX1, Cond.code yX1_wouldBeIn cX1_wouldBeIn 3 (some .int), Cond.fieldLink RX1 16 "MarbleRamps" "trial" "LMarbleRamps$Machine;", Cond.fieldLink RX1 10 "MarbleRamps" "now" "LMarbleRamps$Machine;", Cond.methodLink RX1 60 yX1_needColumn, Cond.instanceMethod yX1_needColumn, Cond.selects RX1 yX1_needColumn yX1_needColumn, Cond.code yX1_needColumn cX1_needColumn 2 none, Cond.classLink RX1 187 "java/lang/IndexOutOfBoundsException", Cond.initialized "java/lang/IndexOutOfBoundsException", Cond.methodLink RX1 192 yX0_hasColumn, Cond.instanceMethod yX0_hasColumn, Cond.selects RX0 yX0_hasColumn yX0_hasColumn, Cond.initialized RX0, Cond.code yX0_hasColumn cX0_hasColumn 2 (some .boolean), Cond.fieldLink RX0 34 "MarbleRamps$Machine" "columnCount" "I", Cond.methodLink RX1 110 yX1_needRow, Cond.instanceMethod yX1_needRow, Cond.selects RX1 yX1_needRow yX1_needRow, Cond.code yX1_needRow cX1_needRow 2 none]
def wsL_wouldBeIn_r2 : List Cond := [Cond.methodLink RX1 184 yX0_hasRow, Cond.instanceMethod yX0_hasRow, Cond.selects RX0 yX0_hasRow yX0_hasRow, Cond.code yX0_hasRow cX0_hasRow 2 (some .boolean), Cond.fieldLink RX0 38 "MarbleRamps$Machine" "rowCount" "I", Cond.methodLink RX1 116 yX0_becomeLike, Cond.instanceMethod yX0_becomeLike, Cond.selects RX0 yX0_becomeLike yX0_becomeLike, Cond.code yX0_becomeLike cX0_becomeLike 2 none, Cond.fieldLink RX0 41 "MarbleRamps$Machine" "lostCount" "I", Cond.fieldLink RX0 9 "MarbleRamps$Machine" "parts" "[I", Cond.fieldLink RX0 15 "MarbleRamps$Machine" "periods" "[I", Cond.fieldLink RX0 18 "MarbleRamps$Machine" "states" "[I", Cond.fieldLink RX0 21 "MarbleRamps$Machine" "bins" "[I", Cond.fieldLink RX0 24 "MarbleRamps$Machine" "hopperColumns" "[I", Cond.fieldLink RX0 27 "MarbleRamps$Machine" "hopperMarbles" "[I", Cond.static yX1_copyCells, Cond.code yX1_copyCells cX1_copyCells 3 none, Cond.methodLink RX1 204 yX1_setCell, Cond.static yX1_setCell, Cond.code yX1_setCell cX1_setCell 3 none, Cond.methodLink RX1 120 yX0_fallTo, Cond.instanceMethod yX0_fallTo, Cond.selects RX0 yX0_fallTo yX0_fallTo]
def wsL_wouldBeIn_r3 : List Cond := [Cond.code yX0_fallTo cX0_fallTo 6 (some .int), Cond.methodLink RX0 69 yX0_placeOf, Cond.instanceMethod yX0_placeOf, Cond.selects RX0 yX0_placeOf yX0_placeOf, Cond.code yX0_placeOf cX0_placeOf 3 (some .int), Cond.methodLink RX0 80 yX0_wayOut, Cond.instanceMethod yX0_wayOut, Cond.selects RX0 yX0_wayOut yX0_wayOut, Cond.code yX0_wayOut cX0_wayOut 5 (some .int), Cond.static yX1_cell, Cond.code yX1_cell cX1_cell 2 (some .int), Cond.methodLink RX0 83 yX0_hasColumn]
def wsL_wouldBeIn : List Cond := .codeWith yL_wouldBeIn cL_wouldBeIn 5 (some .int) [(0, 10, 13, 19)] :: ((wsL_wouldBeIn_r1 ++ (wsL_wouldBeIn_r2 ++ wsL_wouldBeIn_r3)) ++ wsX10 ++ wsX00 ++ (vx_atS RX1 191 "java/lang/IndexOutOfBoundsException" ["java/lang/RuntimeException", "java/lang/Exception"]).filter goodWord)
def wsL_wouldTurn_r1 : List Cond := [Cond.classLink RL 19 "java/lang/IndexOutOfBoundsException", Cond.methodLink RL 67 yX1_wouldTurn, Cond.instanceMethod yX1_wouldTurn, Cond.selects RX1 yX1_wouldTurn yX1_wouldTurn, Cond.initialized RX1, Cond.code yX1_wouldTurn cX1_wouldTurn 2 (some .int), Cond.fieldLink RX1 16 "MarbleRamps" "trial" "LMarbleRamps$Machine;", Cond.fieldLink RX1 10 "MarbleRamps" "now" "LMarbleRamps$Machine;", Cond.methodLink RX1 60 yX1_needColumn, Cond.instanceMethod yX1_needColumn, Cond.selects RX1 yX1_needColumn yX1_needColumn, Cond.code yX1_needColumn cX1_needColumn 2 none, Cond.classLink RX1 187 "java/lang/IndexOutOfBoundsException", Cond.initialized "java/lang/IndexOutOfBoundsException", Cond.methodLink RX1 192 yX0_hasColumn, Cond.instanceMethod yX0_hasColumn, Cond.selects RX0 yX0_hasColumn yX0_hasColumn, Cond.initialized RX0, Cond.code yX0_hasColumn cX0_hasColumn 2 (some .boolean), Cond.fieldLink RX0 34 "MarbleRamps$Machine" "columnCount" "I", Cond.methodLink RX1 116 yX0_becomeLike, Cond.instanceMethod yX0_becomeLike, Cond.selects RX0 yX0_becomeLike yX0_becomeLike, Cond.code yX0_becomeLike cX0_becomeLike 2 none]
def wsL_wouldTurn_r2 : List Cond := [Cond.fieldLink RX0 38 "MarbleRamps$Machine" "rowCount" "I", Cond.fieldLink RX0 41 "MarbleRamps$Machine" "lostCount" "I", Cond.fieldLink RX0 9 "MarbleRamps$Machine" "parts" "[I", Cond.fieldLink RX0 15 "MarbleRamps$Machine" "periods" "[I", Cond.fieldLink RX0 18 "MarbleRamps$Machine" "states" "[I", Cond.fieldLink RX0 21 "MarbleRamps$Machine" "bins" "[I", Cond.fieldLink RX0 24 "MarbleRamps$Machine" "hopperColumns" "[I", Cond.fieldLink RX0 27 "MarbleRamps$Machine" "hopperMarbles" "[I", Cond.static yX1_copyCells, Cond.code yX1_copyCells cX1_copyCells 3 none, Cond.methodLink RX1 204 yX1_setCell, Cond.static yX1_setCell, Cond.code yX1_setCell cX1_setCell 3 none, Cond.methodLink RX1 67 yX0_letFall, Cond.instanceMethod yX0_letFall, Cond.selects RX0 yX0_letFall yX0_letFall, Cond.code yX0_letFall cX0_letFall 3 (some .int), Cond.methodLink RX0 77 yX0_fallTo, Cond.instanceMethod yX0_fallTo, Cond.selects RX0 yX0_fallTo yX0_fallTo, Cond.code yX0_fallTo cX0_fallTo 6 (some .int), Cond.methodLink RX0 69 yX0_placeOf, Cond.instanceMethod yX0_placeOf, Cond.selects RX0 yX0_placeOf yX0_placeOf]
def wsL_wouldTurn_r3 : List Cond := [Cond.code yX0_placeOf cX0_placeOf 3 (some .int), Cond.methodLink RX0 80 yX0_wayOut, Cond.instanceMethod yX0_wayOut, Cond.selects RX0 yX0_wayOut yX0_wayOut, Cond.code yX0_wayOut cX0_wayOut 5 (some .int), Cond.static yX1_cell, Cond.code yX1_cell cX1_cell 2 (some .int), Cond.methodLink RX0 83 yX0_hasColumn, Cond.methodLink RX1 123 yX0_togglesUnlike, Cond.instanceMethod yX0_togglesUnlike, Cond.selects RX0 yX0_togglesUnlike yX0_togglesUnlike, Cond.code yX0_togglesUnlike cX0_togglesUnlike 4 (some .int), Cond.methodLink RX0 73 yX0_isRightToggle, Cond.instanceMethod yX0_isRightToggle, Cond.selects RX0 yX0_isRightToggle yX0_isRightToggle, Cond.code yX0_isRightToggle cX0_isRightToggle 2 (some .boolean), Cond.methodLink RX0 65 yX0_partIn, Cond.instanceMethod yX0_partIn, Cond.selects RX0 yX0_partIn yX0_partIn, Cond.code yX0_partIn cX0_partIn 2 (some .int)]
def wsL_wouldTurn : List Cond := .codeWith yL_wouldTurn cL_wouldTurn 4 (some .int) [(0, 9, 12, 19)] :: ((wsL_wouldTurn_r1 ++ (wsL_wouldTurn_r2 ++ wsL_wouldTurn_r3)) ++ wsX10 ++ wsX00 ++ (vx_atS RX1 191 "java/lang/IndexOutOfBoundsException" ["java/lang/RuntimeException", "java/lang/Exception"]).filter goodWord)
def wsL_lastLands_r1 : List Cond := [Cond.classLink RL 19 "java/lang/IndexOutOfBoundsException", Cond.classLink RL 13 "java/lang/IllegalArgumentException", Cond.methodLink RL 70 yX1_lastLands, Cond.instanceMethod yX1_lastLands, Cond.selects RX1 yX1_lastLands yX1_lastLands, Cond.initialized RX1, Cond.code yX1_lastLands cX1_lastLands 5 (some .int), Cond.fieldLink RX1 16 "MarbleRamps" "trial" "LMarbleRamps$Machine;", Cond.fieldLink RX1 10 "MarbleRamps" "now" "LMarbleRamps$Machine;", Cond.methodLink RX1 60 yX1_needColumn, Cond.instanceMethod yX1_needColumn, Cond.selects RX1 yX1_needColumn yX1_needColumn, Cond.code yX1_needColumn cX1_needColumn 2 none, Cond.classLink RX1 187 "java/lang/IndexOutOfBoundsException", Cond.initialized "java/lang/IndexOutOfBoundsException", Cond.methodLink RX1 192 yX0_hasColumn, Cond.instanceMethod yX0_hasColumn, Cond.selects RX0 yX0_hasColumn yX0_hasColumn, Cond.initialized RX0, Cond.code yX0_hasColumn cX0_hasColumn 2 (some .boolean), Cond.fieldLink RX0 34 "MarbleRamps$Machine" "columnCount" "I", Cond.methodLink RX1 19 yX1_needWithin, Cond.static yX1_needWithin, Cond.code yX1_needWithin cX1_needWithin 3 none]
def wsL_lastLands_r2 : List Cond := [Cond.classLink RX1 199 "java/lang/IllegalArgumentException", Cond.initialized "java/lang/IllegalArgumentException", Cond.methodLink RX1 116 yX0_becomeLike, Cond.instanceMethod yX0_becomeLike, Cond.selects RX0 yX0_becomeLike yX0_becomeLike, Cond.code yX0_becomeLike cX0_becomeLike 2 none, Cond.fieldLink RX0 38 "MarbleRamps$Machine" "rowCount" "I", Cond.fieldLink RX0 41 "MarbleRamps$Machine" "lostCount" "I", Cond.fieldLink RX0 9 "MarbleRamps$Machine" "parts" "[I", Cond.fieldLink RX0 15 "MarbleRamps$Machine" "periods" "[I", Cond.fieldLink RX0 18 "MarbleRamps$Machine" "states" "[I", Cond.fieldLink RX0 21 "MarbleRamps$Machine" "bins" "[I", Cond.fieldLink RX0 24 "MarbleRamps$Machine" "hopperColumns" "[I", Cond.fieldLink RX0 27 "MarbleRamps$Machine" "hopperMarbles" "[I", Cond.static yX1_copyCells, Cond.code yX1_copyCells cX1_copyCells 3 none, Cond.methodLink RX1 204 yX1_setCell, Cond.static yX1_setCell, Cond.code yX1_setCell cX1_setCell 3 none, Cond.methodLink RX1 67 yX0_letFall, Cond.instanceMethod yX0_letFall, Cond.selects RX0 yX0_letFall yX0_letFall, Cond.code yX0_letFall cX0_letFall 3 (some .int), Cond.methodLink RX0 77 yX0_fallTo]
def wsL_lastLands_r3 : List Cond := [Cond.instanceMethod yX0_fallTo, Cond.selects RX0 yX0_fallTo yX0_fallTo, Cond.code yX0_fallTo cX0_fallTo 6 (some .int), Cond.methodLink RX0 69 yX0_placeOf, Cond.instanceMethod yX0_placeOf, Cond.selects RX0 yX0_placeOf yX0_placeOf, Cond.code yX0_placeOf cX0_placeOf 3 (some .int), Cond.methodLink RX0 80 yX0_wayOut, Cond.instanceMethod yX0_wayOut, Cond.selects RX0 yX0_wayOut yX0_wayOut, Cond.code yX0_wayOut cX0_wayOut 5 (some .int), Cond.static yX1_cell, Cond.code yX1_cell cX1_cell 2 (some .int), Cond.methodLink RX0 83 yX0_hasColumn]
def wsL_lastLands : List Cond := .codeWith yL_lastLands cL_lastLands 5 (some .int) [(0, 10, 13, 19), (0, 10, 17, 13)] :: ((wsL_lastLands_r1 ++ (wsL_lastLands_r2 ++ wsL_lastLands_r3)) ++ wsX10 ++ wsX00 ++ (vx_atS RX1 191 "java/lang/IndexOutOfBoundsException" ["java/lang/RuntimeException", "java/lang/Exception"]).filter goodWord ++ (vx_atS RX1 203 "java/lang/IllegalArgumentException" ["java/lang/RuntimeException", "java/lang/Exception"]).filter goodWord)
def wsL_asBeforeIn_r1 : List Cond := [Cond.classLink RL 19 "java/lang/IndexOutOfBoundsException", Cond.methodLink RL 73 yX1_asBeforeIn, Cond.instanceMethod yX1_asBeforeIn, Cond.selects RX1 yX1_asBeforeIn yX1_asBeforeIn, Cond.initialized RX1, Cond.code yX1_asBeforeIn cX1_asBeforeIn 3 (some .int), Cond.fieldLink RX1 16 "MarbleRamps" "trial" "LMarbleRamps$Machine;", Cond.fieldLink RX1 10 "MarbleRamps" "now" "LMarbleRamps$Machine;", Cond.methodLink RX1 60 yX1_needColumn, Cond.instanceMethod yX1_needColumn, Cond.selects RX1 yX1_needColumn yX1_needColumn, Cond.code yX1_needColumn cX1_needColumn 2 none, Cond.classLink RX1 187 "java/lang/IndexOutOfBoundsException", Cond.initialized "java/lang/IndexOutOfBoundsException", Cond.methodLink RX1 192 yX0_hasColumn, Cond.instanceMethod yX0_hasColumn, Cond.selects RX0 yX0_hasColumn yX0_hasColumn, Cond.initialized RX0, Cond.code yX0_hasColumn cX0_hasColumn 2 (some .boolean), Cond.fieldLink RX0 34 "MarbleRamps$Machine" "columnCount" "I", Cond.methodLink RX1 116 yX0_becomeLike, Cond.instanceMethod yX0_becomeLike, Cond.selects RX0 yX0_becomeLike yX0_becomeLike, Cond.code yX0_becomeLike cX0_becomeLike 2 none]
def wsL_asBeforeIn_r2 : List Cond := [Cond.fieldLink RX0 38 "MarbleRamps$Machine" "rowCount" "I", Cond.fieldLink RX0 41 "MarbleRamps$Machine" "lostCount" "I", Cond.fieldLink RX0 9 "MarbleRamps$Machine" "parts" "[I", Cond.fieldLink RX0 15 "MarbleRamps$Machine" "periods" "[I", Cond.fieldLink RX0 18 "MarbleRamps$Machine" "states" "[I", Cond.fieldLink RX0 21 "MarbleRamps$Machine" "bins" "[I", Cond.fieldLink RX0 24 "MarbleRamps$Machine" "hopperColumns" "[I", Cond.fieldLink RX0 27 "MarbleRamps$Machine" "hopperMarbles" "[I", Cond.static yX1_copyCells, Cond.code yX1_copyCells cX1_copyCells 3 none, Cond.methodLink RX1 204 yX1_setCell, Cond.static yX1_setCell, Cond.code yX1_setCell cX1_setCell 3 none, Cond.methodLink RX1 67 yX0_letFall, Cond.instanceMethod yX0_letFall, Cond.selects RX0 yX0_letFall yX0_letFall, Cond.code yX0_letFall cX0_letFall 3 (some .int), Cond.methodLink RX0 77 yX0_fallTo, Cond.instanceMethod yX0_fallTo, Cond.selects RX0 yX0_fallTo yX0_fallTo, Cond.code yX0_fallTo cX0_fallTo 6 (some .int), Cond.methodLink RX0 69 yX0_placeOf, Cond.instanceMethod yX0_placeOf, Cond.selects RX0 yX0_placeOf yX0_placeOf]
def wsL_asBeforeIn_r3 : List Cond := [Cond.code yX0_placeOf cX0_placeOf 3 (some .int), Cond.methodLink RX0 80 yX0_wayOut, Cond.instanceMethod yX0_wayOut, Cond.selects RX0 yX0_wayOut yX0_wayOut, Cond.code yX0_wayOut cX0_wayOut 5 (some .int), Cond.static yX1_cell, Cond.code yX1_cell cX1_cell 2 (some .int), Cond.methodLink RX0 83 yX0_hasColumn, Cond.methodLink RX1 127 yX0_hasStatesOf, Cond.instanceMethod yX0_hasStatesOf, Cond.selects RX0 yX0_hasStatesOf yX0_hasStatesOf, Cond.code yX0_hasStatesOf cX0_hasStatesOf 3 (some .boolean)]
def wsL_asBeforeIn : List Cond := .codeWith yL_asBeforeIn cL_asBeforeIn 4 (some .int) [(0, 9, 12, 19)] :: ((wsL_asBeforeIn_r1 ++ (wsL_asBeforeIn_r2 ++ wsL_asBeforeIn_r3)) ++ wsX10 ++ wsX00 ++ (vx_atS RX1 191 "java/lang/IndexOutOfBoundsException" ["java/lang/RuntimeException", "java/lang/Exception"]).filter goodWord)
def wsL_wouldRun_r1 : List Cond := [Cond.classLink RL 19 "java/lang/IndexOutOfBoundsException", Cond.methodLink RL 76 yX1_wouldRun, Cond.instanceMethod yX1_wouldRun, Cond.selects RX1 yX1_wouldRun yX1_wouldRun, Cond.initialized RX1, Cond.code yX1_wouldRun cX1_wouldRun 2 (some .int), Cond.fieldLink RX1 16 "MarbleRamps" "trial" "LMarbleRamps$Machine;", Cond.fieldLink RX1 10 "MarbleRamps" "now" "LMarbleRamps$Machine;", Cond.methodLink RX1 57 yX1_needHopper, Cond.static yX1_needHopper, Cond.code yX1_needHopper cX1_needHopper 1 none, Cond.classLink RX1 187 "java/lang/IndexOutOfBoundsException", Cond.initialized "java/lang/IndexOutOfBoundsException", Cond.methodLink RX1 116 yX0_becomeLike, Cond.instanceMethod yX0_becomeLike, Cond.selects RX0 yX0_becomeLike yX0_becomeLike, Cond.initialized RX0, Cond.code yX0_becomeLike cX0_becomeLike 2 none, Cond.fieldLink RX0 34 "MarbleRamps$Machine" "columnCount" "I", Cond.fieldLink RX0 38 "MarbleRamps$Machine" "rowCount" "I", Cond.fieldLink RX0 41 "MarbleRamps$Machine" "lostCount" "I", Cond.fieldLink RX0 9 "MarbleRamps$Machine" "parts" "[I", Cond.fieldLink RX0 15 "MarbleRamps$Machine" "periods" "[I", Cond.fieldLink RX0 18 "MarbleRamps$Machine" "states" "[I"]
def wsL_wouldRun_r2 : List Cond := [Cond.fieldLink RX0 21 "MarbleRamps$Machine" "bins" "[I", Cond.fieldLink RX0 24 "MarbleRamps$Machine" "hopperColumns" "[I", Cond.fieldLink RX0 27 "MarbleRamps$Machine" "hopperMarbles" "[I", Cond.static yX1_copyCells, Cond.code yX1_copyCells cX1_copyCells 3 none, Cond.methodLink RX1 204 yX1_setCell, Cond.static yX1_setCell, Cond.code yX1_setCell cX1_setCell 3 none, Cond.methodLink RX1 70 yX0_runFrom, Cond.instanceMethod yX0_runFrom, Cond.selects RX0 yX0_runFrom yX0_runFrom, Cond.code yX0_runFrom cX0_runFrom 5 (some .int), Cond.static yX1_cell, Cond.code yX1_cell cX1_cell 2 (some .int), Cond.methodLink RX0 86 yX0_letFall, Cond.instanceMethod yX0_letFall, Cond.selects RX0 yX0_letFall yX0_letFall, Cond.code yX0_letFall cX0_letFall 3 (some .int), Cond.methodLink RX0 77 yX0_fallTo, Cond.instanceMethod yX0_fallTo, Cond.selects RX0 yX0_fallTo yX0_fallTo, Cond.code yX0_fallTo cX0_fallTo 6 (some .int), Cond.methodLink RX0 69 yX0_placeOf, Cond.instanceMethod yX0_placeOf]
def wsL_wouldRun_r3 : List Cond := [Cond.selects RX0 yX0_placeOf yX0_placeOf, Cond.code yX0_placeOf cX0_placeOf 3 (some .int), Cond.methodLink RX0 80 yX0_wayOut, Cond.instanceMethod yX0_wayOut, Cond.selects RX0 yX0_wayOut yX0_wayOut, Cond.code yX0_wayOut cX0_wayOut 5 (some .int), Cond.methodLink RX0 83 yX0_hasColumn, Cond.instanceMethod yX0_hasColumn, Cond.selects RX0 yX0_hasColumn yX0_hasColumn, Cond.code yX0_hasColumn cX0_hasColumn 2 (some .boolean), Cond.methodLink RX0 89 yX0_hopperBehind, Cond.instanceMethod yX0_hopperBehind, Cond.selects RX0 yX0_hopperBehind yX0_hopperBehind, Cond.code yX0_hopperBehind cX0_hopperBehind 3 (some .int)]
def wsL_wouldRun : List Cond := .codeWith yL_wouldRun cL_wouldRun 4 (some .int) [(0, 9, 12, 19)] :: ((wsL_wouldRun_r1 ++ (wsL_wouldRun_r2 ++ wsL_wouldRun_r3)) ++ wsX10 ++ wsX00 ++ (vx_atS RX1 191 "java/lang/IndexOutOfBoundsException" ["java/lang/RuntimeException", "java/lang/Exception"]).filter goodWord)
def wsL_law0_r1 : List Cond := [Cond.classLink RL 8 RX1, Cond.instantiable RX1 2, Cond.initialized RX1, Cond.classLink RL 80 RX2, Cond.instantiable RX2 10, Cond.initialized RX2, Cond.arrayClass .long, Cond.methodLink RL 79 yX1_init, Cond.instanceMethod yX1_init, Cond.code yX1_init cX1_init 1 none, Cond.methodLink RX1 1 objectInit, Cond.instanceMethod objectInit, Cond.code objectInit ⟨#[0xb1]⟩ 1 none, Cond.classLink RX1 7 RX0, Cond.instantiable RX0 9, Cond.initialized RX0, Cond.fieldLink RX1 10 "MarbleRamps" "now" "LMarbleRamps$Machine;", Cond.fieldLink RX1 16 "MarbleRamps" "trial" "LMarbleRamps$Machine;", Cond.methodLink RX1 9 yX0_init, Cond.instanceMethod yX0_init, Cond.code yX0_init cX0_init 1 none, Cond.methodLink RX0 3 objectInit, Cond.arrayClass .int, Cond.fieldLink RX0 9 "MarbleRamps$Machine" "parts" "[I"]
def wsL_law0_r2 : List Cond := [Cond.fieldLink RX0 15 "MarbleRamps$Machine" "periods" "[I", Cond.fieldLink RX0 18 "MarbleRamps$Machine" "states" "[I", Cond.fieldLink RX0 21 "MarbleRamps$Machine" "bins" "[I", Cond.fieldLink RX0 24 "MarbleRamps$Machine" "hopperColumns" "[I", Cond.fieldLink RX0 27 "MarbleRamps$Machine" "hopperMarbles" "[I", Cond.methodLink RX0 30 yX0_layBoard, Cond.instanceMethod yX0_layBoard, Cond.selects RX0 yX0_layBoard yX0_layBoard, Cond.code yX0_layBoard cX0_layBoard 3 none, Cond.fieldLink RX0 34 "MarbleRamps$Machine" "columnCount" "I", Cond.fieldLink RX0 38 "MarbleRamps$Machine" "rowCount" "I", Cond.fieldLink RX0 41 "MarbleRamps$Machine" "lostCount" "I", Cond.methodLink RX0 44 yJ7_fill_53178, Cond.static yJ7_fill_53178, Cond.initialized RJ7, Cond.code yJ7_fill_53178 cJ7_fill_53178 4 none, Cond.methodLink RX0 50 yX0_clearBins, Cond.instanceMethod yX0_clearBins, Cond.selects RX0 yX0_clearBins yX0_clearBins, Cond.code yX0_clearBins cX0_clearBins 1 none, Cond.static yX1_setCell, Cond.code yX1_setCell cX1_setCell 3 none, Cond.methodLink RL 82 yX2_init, Cond.instanceMethod yX2_init]
def wsL_law0_r3 : List Cond := [Cond.code yX2_init cX2_init 1 none, Cond.methodLink RX2 3 objectInit, Cond.fieldLink RX2 9 "MarbleRampsModel" "columns" "I", Cond.fieldLink RX2 13 "MarbleRampsModel" "rows" "I", Cond.fieldLink RX2 16 "MarbleRampsModel" "part" "[I", Cond.fieldLink RX2 20 "MarbleRampsModel" "period" "[I", Cond.fieldLink RX2 23 "MarbleRampsModel" "above" "[I", Cond.fieldLink RX2 26 "MarbleRampsModel" "now" "[I", Cond.fieldLink RX2 29 "MarbleRampsModel" "kept" "[I", Cond.fieldLink RX2 32 "MarbleRampsModel" "way" "[I", Cond.methodLink RL 83 yL_lay, Cond.static yL_lay, Cond.initialized RL, Cond.codeWith yL_lay cL_lay 5 (some .int) [(0, 10, 13, 13)], Cond.classLink RL 13 "java/lang/IllegalArgumentException", Cond.methodLink RL 7 yX1_lay, Cond.instanceMethod yX1_lay, Cond.selects RX1 yX1_lay yX1_lay, Cond.code yX1_lay cX1_lay 3 (some .int), Cond.methodLink RX1 19 yX1_needWithin, Cond.static yX1_needWithin, Cond.code yX1_needWithin cX1_needWithin 3 none, Cond.classLink RX1 199 "java/lang/IllegalArgumentException", Cond.initialized "java/lang/IllegalArgumentException"]
def wsL_law0_r4 : List Cond := [Cond.methodLink RX1 23 yX0_layBoard, Cond.methodLink RL 88 yX2_lay, Cond.instanceMethod yX2_lay, Cond.selects RX2 yX2_lay yX2_lay, Cond.code yX2_lay cX2_lay 4 (some .int), Cond.fieldLink RX2 35 "MarbleRampsModel" "thrown" "I", Cond.methodLink RX2 38 yX2_isFrom, Cond.static yX2_isFrom, Cond.code yX2_isFrom cX2_isFrom 3 (some .boolean), Cond.methodLink RX2 71 yX2_no, Cond.instanceMethod yX2_no, Cond.selects RX2 yX2_no yX2_no, Cond.code yX2_no cX2_no 2 (some .int), Cond.methodLink RL 89 yX2_thrown, Cond.instanceMethod yX2_thrown, Cond.selects RX2 yX2_thrown yX2_thrown, Cond.code yX2_thrown cX2_thrown 1 (some .int), Cond.methodLink RL 93 yL_put, Cond.static yL_put, Cond.codeWith yL_put cL_put 6 (some .int) [(0, 12, 15, 19), (0, 12, 19, 13)], Cond.classLink RL 19 "java/lang/IndexOutOfBoundsException", Cond.methodLink RL 15 yX1_put, Cond.instanceMethod yX1_put, Cond.selects RX1 yX1_put yX1_put]
def wsL_law0_r5 : List Cond := [Cond.code yX1_put cX1_put 4 (some .int), Cond.methodLink RX1 27 yX1_needPlace, Cond.instanceMethod yX1_needPlace, Cond.selects RX1 yX1_needPlace yX1_needPlace, Cond.code yX1_needPlace cX1_needPlace 3 none, Cond.methodLink RX1 110 yX1_needRow, Cond.instanceMethod yX1_needRow, Cond.selects RX1 yX1_needRow yX1_needRow, Cond.code yX1_needRow cX1_needRow 2 none, Cond.classLink RX1 187 "java/lang/IndexOutOfBoundsException", Cond.initialized "java/lang/IndexOutOfBoundsException", Cond.methodLink RX1 184 yX0_hasRow, Cond.instanceMethod yX0_hasRow, Cond.selects RX0 yX0_hasRow yX0_hasRow, Cond.code yX0_hasRow cX0_hasRow 2 (some .boolean), Cond.methodLink RX1 60 yX1_needColumn, Cond.instanceMethod yX1_needColumn, Cond.selects RX1 yX1_needColumn yX1_needColumn, Cond.code yX1_needColumn cX1_needColumn 2 none, Cond.methodLink RX1 192 yX0_hasColumn, Cond.instanceMethod yX0_hasColumn, Cond.selects RX0 yX0_hasColumn yX0_hasColumn, Cond.code yX0_hasColumn cX0_hasColumn 2 (some .boolean), Cond.methodLink RX1 30 yX0_replacePart]
def wsL_law0_r6 : List Cond := [Cond.instanceMethod yX0_replacePart, Cond.selects RX0 yX0_replacePart yX0_replacePart, Cond.code yX0_replacePart cX0_replacePart 7 (some .int), Cond.methodLink RX0 69 yX0_placeOf, Cond.instanceMethod yX0_placeOf, Cond.selects RX0 yX0_placeOf yX0_placeOf, Cond.code yX0_placeOf cX0_placeOf 3 (some .int), Cond.methodLink RX0 65 yX0_partIn, Cond.instanceMethod yX0_partIn, Cond.selects RX0 yX0_partIn yX0_partIn, Cond.code yX0_partIn cX0_partIn 2 (some .int), Cond.static yX1_cell, Cond.code yX1_cell cX1_cell 2 (some .int), Cond.methodLink RL 96 yX2_put, Cond.instanceMethod yX2_put, Cond.selects RX2 yX2_put yX2_put, Cond.code yX2_put cX2_put 4 (some .int), Cond.methodLink RX2 74 yX2_isPlace, Cond.instanceMethod yX2_isPlace, Cond.selects RX2 yX2_isPlace yX2_isPlace, Cond.code yX2_isPlace cX2_isPlace 3 (some .boolean), Cond.methodLink RX2 42 yX2_isRow, Cond.instanceMethod yX2_isRow, Cond.selects RX2 yX2_isRow yX2_isRow]
def wsL_law0_r7 : List Cond := [Cond.code yX2_isRow cX2_isRow 2 (some .boolean), Cond.methodLink RX2 46 yX2_isColumn, Cond.instanceMethod yX2_isColumn, Cond.selects RX2 yX2_isColumn yX2_isColumn, Cond.code yX2_isColumn cX2_isColumn 2 (some .boolean), Cond.methodLink RX2 78 yX2_placed, Cond.instanceMethod yX2_placed, Cond.selects RX2 yX2_placed yX2_placed, Cond.code yX2_placed cX2_placed 6 (some .int), Cond.methodLink RL 97 yL_putCounter, Cond.static yL_putCounter, Cond.codeWith yL_putCounter cL_putCounter 6 (some .int) [(0, 12, 15, 19), (0, 12, 19, 13)], Cond.methodLink RL 21 yX1_putCounter, Cond.instanceMethod yX1_putCounter, Cond.selects RX1 yX1_putCounter yX1_putCounter, Cond.code yX1_putCounter cX1_putCounter 4 (some .int), Cond.methodLink RL 99 yX2_putCounter, Cond.instanceMethod yX2_putCounter, Cond.selects RX2 yX2_putCounter yX2_putCounter, Cond.code yX2_putCounter cX2_putCounter 4 (some .int), Cond.methodLink RL 100 yL_turn, Cond.static yL_turn, Cond.codeWith yL_turn cL_turn 5 (some .int) [(0, 17, 20, 19), (0, 17, 24, 28)], Cond.classLink RL 28 "java/lang/IllegalStateException"]
def wsL_law0_r8 : List Cond := [Cond.methodLink RL 24 yX1_turn, Cond.instanceMethod yX1_turn, Cond.selects RX1 yX1_turn yX1_turn, Cond.code yX1_turn cX1_turn 4 (some .boolean), Cond.classLink RX1 42 "java/lang/IllegalStateException", Cond.initialized "java/lang/IllegalStateException", Cond.methodLink RX1 34 yX0_placeOf, Cond.methodLink RX1 38 yX0_partIn, Cond.methodLink RX1 49 yX0_turnOver, Cond.instanceMethod yX0_turnOver, Cond.selects RX0 yX0_turnOver yX0_turnOver, Cond.code yX0_turnOver cX0_turnOver 2 none, Cond.methodLink RX0 73 yX0_isRightToggle, Cond.instanceMethod yX0_isRightToggle, Cond.selects RX0 yX0_isRightToggle yX0_isRightToggle, Cond.code yX0_isRightToggle cX0_isRightToggle 2 (some .boolean), Cond.methodLink RX1 53 yX0_isRightToggle, Cond.methodLink RL 102 yX2_turn, Cond.instanceMethod yX2_turn, Cond.selects RX2 yX2_turn yX2_turn, Cond.code yX2_turn cX2_turn 4 (some .boolean), Cond.methodLink RX2 82 yX2_isNot, Cond.instanceMethod yX2_isNot, Cond.selects RX2 yX2_isNot yX2_isNot]
def wsL_law0_r9 : List Cond := [Cond.code yX2_isNot cX2_isNot 2 (some .boolean), Cond.methodLink RL 103 yL_setHopper, Cond.static yL_setHopper, Cond.codeWith yL_setHopper cL_setHopper 6 (some .int) [(0, 12, 15, 19), (0, 12, 19, 13)], Cond.methodLink RL 30 yX1_setHopper, Cond.instanceMethod yX1_setHopper, Cond.selects RX1 yX1_setHopper yX1_setHopper, Cond.code yX1_setHopper cX1_setHopper 4 (some .int), Cond.methodLink RX1 57 yX1_needHopper, Cond.static yX1_needHopper, Cond.code yX1_needHopper cX1_needHopper 1 none, Cond.methodLink RX1 63 yX0_fillHopper, Cond.instanceMethod yX0_fillHopper, Cond.selects RX0 yX0_fillHopper yX0_fillHopper, Cond.code yX0_fillHopper cX0_fillHopper 5 (some .int), Cond.methodLink RL 105 yX2_setHopper, Cond.instanceMethod yX2_setHopper, Cond.selects RX2 yX2_setHopper yX2_setHopper, Cond.code yX2_setHopper cX2_setHopper 5 (some .int), Cond.methodLink RL 106 yL_drop, Cond.static yL_drop, Cond.codeWith yL_drop cL_drop 4 (some .int) [(0, 9, 12, 19)], Cond.methodLink RL 33 yX1_drop, Cond.instanceMethod yX1_drop]
def wsL_law0_r10 : List Cond := [Cond.selects RX1 yX1_drop yX1_drop, Cond.code yX1_drop cX1_drop 2 (some .int), Cond.methodLink RX1 67 yX0_letFall, Cond.instanceMethod yX0_letFall, Cond.selects RX0 yX0_letFall yX0_letFall, Cond.code yX0_letFall cX0_letFall 3 (some .int), Cond.methodLink RX0 77 yX0_fallTo, Cond.instanceMethod yX0_fallTo, Cond.selects RX0 yX0_fallTo yX0_fallTo, Cond.code yX0_fallTo cX0_fallTo 6 (some .int), Cond.methodLink RX0 80 yX0_wayOut, Cond.instanceMethod yX0_wayOut, Cond.selects RX0 yX0_wayOut yX0_wayOut, Cond.code yX0_wayOut cX0_wayOut 5 (some .int), Cond.methodLink RX0 83 yX0_hasColumn, Cond.methodLink RL 109 yX2_drop, Cond.instanceMethod yX2_drop, Cond.selects RX2 yX2_drop yX2_drop, Cond.code yX2_drop cX2_drop 2 (some .int), Cond.methodLink RX2 62 yX2_fall, Cond.instanceMethod yX2_fall, Cond.selects RX2 yX2_fall yX2_fall, Cond.code yX2_fall cX2_fall 5 (some .int), Cond.fieldLink RX2 55 "MarbleRampsModel" "turned" "I"]
def wsL_law0_r11 : List Cond := [Cond.methodLink RX2 58 yX2_goes, Cond.instanceMethod yX2_goes, Cond.selects RX2 yX2_goes yX2_goes, Cond.code yX2_goes cX2_goes 4 (some .int), Cond.methodLink RL 110 yL_run, Cond.static yL_run, Cond.codeWith yL_run cL_run 5 (some .int) [(0, 10, 13, 19), (0, 10, 17, 13)], Cond.methodLink RL 37 yX1_run, Cond.instanceMethod yX1_run, Cond.selects RX1 yX1_run yX1_run, Cond.code yX1_run cX1_run 3 (some .int), Cond.methodLink RX1 70 yX0_runFrom, Cond.instanceMethod yX0_runFrom, Cond.selects RX0 yX0_runFrom yX0_runFrom, Cond.code yX0_runFrom cX0_runFrom 5 (some .int), Cond.methodLink RX0 86 yX0_letFall, Cond.methodLink RX0 89 yX0_hopperBehind, Cond.instanceMethod yX0_hopperBehind, Cond.selects RX0 yX0_hopperBehind yX0_hopperBehind, Cond.code yX0_hopperBehind cX0_hopperBehind 3 (some .int), Cond.methodLink RL 112 yX2_run, Cond.instanceMethod yX2_run, Cond.selects RX2 yX2_run yX2_run, Cond.code yX2_run cX2_run 3 (some .int)]
def wsL_law0_r12 : List Cond := [Cond.methodLink RX2 85 yX2_runFrom, Cond.instanceMethod yX2_runFrom, Cond.selects RX2 yX2_runFrom yX2_runFrom, Cond.code yX2_runFrom cX2_runFrom 7 (some .int), Cond.methodLink RX2 66 yJ6_signum_0f7a4, Cond.static yJ6_signum_0f7a4, Cond.initialized RJ6, Cond.code yJ6_signum_0f7a4 cJ6_signum_0f7a4 1 (some .int), Cond.methodLink RL 113 yX1_emptyBins, Cond.instanceMethod yX1_emptyBins, Cond.selects RX1 yX1_emptyBins yX1_emptyBins, Cond.code yX1_emptyBins cX1_emptyBins 2 (some .int), Cond.methodLink RX1 73 yX0_marblesInBins, Cond.instanceMethod yX0_marblesInBins, Cond.selects RX0 yX0_marblesInBins yX0_marblesInBins, Cond.code yX0_marblesInBins cX0_marblesInBins 6 (some .int), Cond.methodLink RX1 77 yX0_clearBins, Cond.methodLink RL 116 yX2_emptyBins, Cond.instanceMethod yX2_emptyBins, Cond.selects RX2 yX2_emptyBins yX2_emptyBins, Cond.code yX2_emptyBins cX2_emptyBins 3 (some .int), Cond.methodLink RX2 88 yX2_inBins, Cond.instanceMethod yX2_inBins, Cond.selects RX2 yX2_inBins yX2_inBins]
def wsL_law0_r13 : List Cond := [Cond.code yX2_inBins cX2_inBins 3 (some .int), Cond.methodLink RX2 92 yX2_ok, Cond.instanceMethod yX2_ok, Cond.selects RX2 yX2_ok yX2_ok, Cond.code yX2_ok cX2_ok 2 (some .int), Cond.methodLink RL 117 yX1_columns, Cond.instanceMethod yX1_columns, Cond.selects RX1 yX1_columns yX1_columns, Cond.code yX1_columns cX1_columns 1 (some .int), Cond.fieldLink RX1 80 "MarbleRamps$Machine" "columnCount" "I", Cond.methodLink RL 120 yX2_columns, Cond.instanceMethod yX2_columns, Cond.selects RX2 yX2_columns yX2_columns, Cond.code yX2_columns cX2_columns 1 (some .int), Cond.methodLink RL 121 yX1_rows, Cond.instanceMethod yX1_rows, Cond.selects RX1 yX1_rows yX1_rows, Cond.code yX1_rows cX1_rows 1 (some .int), Cond.fieldLink RX1 84 "MarbleRamps$Machine" "rowCount" "I", Cond.methodLink RL 124 yX2_rows, Cond.instanceMethod yX2_rows, Cond.selects RX2 yX2_rows yX2_rows, Cond.code yX2_rows cX2_rows 1 (some .int), Cond.methodLink RL 125 yL_partAt]
def wsL_law0_r14 : List Cond := [Cond.static yL_partAt, Cond.codeWith yL_partAt cL_partAt 5 (some .int) [(0, 10, 13, 19)], Cond.methodLink RL 40 yX1_partAt, Cond.instanceMethod yX1_partAt, Cond.selects RX1 yX1_partAt yX1_partAt, Cond.code yX1_partAt cX1_partAt 3 (some .int), Cond.methodLink RL 127 yX2_partAt, Cond.instanceMethod yX2_partAt, Cond.selects RX2 yX2_partAt yX2_partAt, Cond.code yX2_partAt cX2_partAt 3 (some .int), Cond.methodLink RL 128 yL_leadsRight, Cond.static yL_leadsRight, Cond.codeWith yL_leadsRight cL_leadsRight 5 (some .int) [(0, 17, 20, 19)], Cond.methodLink RL 43 yX1_leadsRight, Cond.instanceMethod yX1_leadsRight, Cond.selects RX1 yX1_leadsRight yX1_leadsRight, Cond.code yX1_leadsRight cX1_leadsRight 3 (some .boolean), Cond.methodLink RL 130 yX2_leadsRight, Cond.instanceMethod yX2_leadsRight, Cond.selects RX2 yX2_leadsRight yX2_leadsRight, Cond.code yX2_leadsRight cX2_leadsRight 3 (some .boolean), Cond.methodLink RX2 95 yX2_isRight, Cond.instanceMethod yX2_isRight, Cond.selects RX2 yX2_isRight yX2_isRight]
def wsL_law0_r15 : List Cond := [Cond.code yX2_isRight cX2_isRight 3 (some .boolean), Cond.methodLink RL 131 yL_countAt, Cond.static yL_countAt, Cond.codeWith yL_countAt cL_countAt 5 (some .int) [(0, 10, 13, 19)], Cond.methodLink RL 46 yX1_countAt, Cond.instanceMethod yX1_countAt, Cond.selects RX1 yX1_countAt yX1_countAt, Cond.code yX1_countAt cX1_countAt 3 (some .int), Cond.methodLink RX1 87 yX0_countedIn, Cond.instanceMethod yX0_countedIn, Cond.selects RX0 yX0_countedIn yX0_countedIn, Cond.code yX0_countedIn cX0_countedIn 2 (some .int), Cond.methodLink RL 133 yX2_countAt, Cond.instanceMethod yX2_countAt, Cond.selects RX2 yX2_countAt yX2_countAt, Cond.code yX2_countAt cX2_countAt 3 (some .int), Cond.methodLink RX2 98 yX2_counted, Cond.instanceMethod yX2_counted, Cond.selects RX2 yX2_counted yX2_counted, Cond.code yX2_counted cX2_counted 3 (some .int), Cond.methodLink RL 134 yL_binOf, Cond.static yL_binOf, Cond.codeWith yL_binOf cL_binOf 4 (some .int) [(0, 9, 12, 19)], Cond.methodLink RL 49 yX1_binOf]
def wsL_law0_r16 : List Cond := [Cond.instanceMethod yX1_binOf, Cond.selects RX1 yX1_binOf yX1_binOf, Cond.code yX1_binOf cX1_binOf 2 (some .int), Cond.fieldLink RX1 90 "MarbleRamps$Machine" "bins" "[I", Cond.methodLink RX1 94 yX1_cell, Cond.methodLink RL 136 yX2_binOf, Cond.instanceMethod yX2_binOf, Cond.selects RX2 yX2_binOf yX2_binOf, Cond.code yX2_binOf cX2_binOf 2 (some .int), Cond.methodLink RL 137 yX1_lost, Cond.instanceMethod yX1_lost, Cond.selects RX1 yX1_lost yX1_lost, Cond.code yX1_lost cX1_lost 1 (some .int), Cond.fieldLink RX1 98 "MarbleRamps$Machine" "lostCount" "I", Cond.methodLink RL 140 yX2_lost, Cond.instanceMethod yX2_lost, Cond.selects RX2 yX2_lost yX2_lost, Cond.code yX2_lost cX2_lost 1 (some .int), Cond.methodLink RL 141 yL_marblesIn, Cond.static yL_marblesIn, Cond.codeWith yL_marblesIn cL_marblesIn 4 (some .int) [(0, 9, 12, 19)], Cond.methodLink RL 52 yX1_marblesIn, Cond.instanceMethod yX1_marblesIn, Cond.selects RX1 yX1_marblesIn yX1_marblesIn]
def wsL_law0_r17 : List Cond := [Cond.code yX1_marblesIn cX1_marblesIn 2 (some .int), Cond.fieldLink RX1 101 "MarbleRamps$Machine" "hopperMarbles" "[I", Cond.methodLink RL 143 yX2_marblesIn, Cond.instanceMethod yX2_marblesIn, Cond.selects RX2 yX2_marblesIn yX2_marblesIn, Cond.code yX2_marblesIn cX2_marblesIn 2 (some .int), Cond.methodLink RL 144 yL_columnOf, Cond.static yL_columnOf, Cond.codeWith yL_columnOf cL_columnOf 4 (some .int) [(0, 9, 12, 19)], Cond.methodLink RL 55 yX1_columnOf, Cond.instanceMethod yX1_columnOf, Cond.selects RX1 yX1_columnOf yX1_columnOf, Cond.code yX1_columnOf cX1_columnOf 2 (some .int), Cond.fieldLink RX1 104 "MarbleRamps$Machine" "hopperColumns" "[I", Cond.methodLink RL 146 yX2_columnOf, Cond.instanceMethod yX2_columnOf, Cond.selects RX2 yX2_columnOf yX2_columnOf, Cond.code yX2_columnOf cX2_columnOf 2 (some .int), Cond.methodLink RL 147 yX1_toggles, Cond.instanceMethod yX1_toggles, Cond.selects RX1 yX1_toggles yX1_toggles, Cond.code yX1_toggles cX1_toggles 1 (some .int), Cond.methodLink RX1 107 yX0_countToggles, Cond.instanceMethod yX0_countToggles]
def wsL_law0_r18 : List Cond := [Cond.selects RX0 yX0_countToggles yX0_countToggles, Cond.code yX0_countToggles cX0_countToggles 6 (some .int), Cond.methodLink RL 150 yX2_toggles, Cond.instanceMethod yX2_toggles, Cond.selects RX2 yX2_toggles yX2_toggles, Cond.code yX2_toggles cX2_toggles 1 (some .int), Cond.methodLink RX2 101 yX2_togglesNow, Cond.instanceMethod yX2_togglesNow, Cond.selects RX2 yX2_togglesNow yX2_togglesNow, Cond.code yX2_togglesNow cX2_togglesNow 3 (some .int), Cond.methodLink RL 151 yL_numberIn, Cond.static yL_numberIn, Cond.codeWith yL_numberIn cL_numberIn 4 (some .int) [(0, 9, 12, 19)], Cond.methodLink RL 58 yX1_numberIn, Cond.instanceMethod yX1_numberIn, Cond.selects RX1 yX1_numberIn yX1_numberIn, Cond.code yX1_numberIn cX1_numberIn 2 (some .int), Cond.methodLink RX1 113 yX0_numberToldBy, Cond.instanceMethod yX0_numberToldBy, Cond.selects RX0 yX0_numberToldBy yX0_numberToldBy, Cond.code yX0_numberToldBy cX0_numberToldBy 6 (some .int), Cond.methodLink RL 153 yX2_numberIn, Cond.instanceMethod yX2_numberIn, Cond.selects RX2 yX2_numberIn yX2_numberIn]
def wsL_law0_r19 : List Cond := [Cond.code yX2_numberIn cX2_numberIn 2 (some .int), Cond.methodLink RX2 104 yX2_number, Cond.instanceMethod yX2_number, Cond.selects RX2 yX2_number yX2_number, Cond.code yX2_number cX2_number 5 (some .int), Cond.methodLink RL 154 yL_wouldLand, Cond.static yL_wouldLand, Cond.codeWith yL_wouldLand cL_wouldLand 4 (some .int) [(0, 9, 12, 19)], Cond.methodLink RL 61 yX1_wouldLand, Cond.instanceMethod yX1_wouldLand, Cond.selects RX1 yX1_wouldLand yX1_wouldLand, Cond.code yX1_wouldLand cX1_wouldLand 2 (some .int), Cond.methodLink RX1 116 yX0_becomeLike, Cond.instanceMethod yX0_becomeLike, Cond.selects RX0 yX0_becomeLike yX0_becomeLike, Cond.code yX0_becomeLike cX0_becomeLike 2 none, Cond.static yX1_copyCells, Cond.code yX1_copyCells cX1_copyCells 3 none, Cond.methodLink RX1 204 yX1_setCell, Cond.methodLink RL 156 yX2_wouldLand, Cond.instanceMethod yX2_wouldLand, Cond.selects RX2 yX2_wouldLand yX2_wouldLand, Cond.code yX2_wouldLand cX2_wouldLand 2 (some .int), Cond.methodLink RX2 113 yX2_look]
def wsL_law0_r20 : List Cond := [Cond.instanceMethod yX2_look, Cond.selects RX2 yX2_look yX2_look, Cond.code yX2_look cX2_look 5 (some .int), Cond.methodLink RX2 107 yX2_keep, Cond.instanceMethod yX2_keep, Cond.selects RX2 yX2_keep yX2_keep, Cond.code yX2_keep cX2_keep 1 none, Cond.methodLink RX2 49 arraycopyName, Cond.native arraycopyName, Cond.static arraycopyName, Cond.initialized "java/lang/System", Cond.methodLink RX2 110 yX2_bringBack, Cond.instanceMethod yX2_bringBack, Cond.selects RX2 yX2_bringBack yX2_bringBack, Cond.code yX2_bringBack cX2_bringBack 1 none, Cond.methodLink RL 157 yL_wouldBeIn, Cond.static yL_wouldBeIn, Cond.codeWith yL_wouldBeIn cL_wouldBeIn 5 (some .int) [(0, 10, 13, 19)], Cond.methodLink RL 64 yX1_wouldBeIn, Cond.instanceMethod yX1_wouldBeIn, Cond.selects RX1 yX1_wouldBeIn yX1_wouldBeIn, Cond.code yX1_wouldBeIn cX1_wouldBeIn 3 (some .int), Cond.methodLink RX1 120 yX0_fallTo, Cond.methodLink RL 159 yX2_wouldBeIn]
def wsL_law0_r21 : List Cond := [Cond.instanceMethod yX2_wouldBeIn, Cond.selects RX2 yX2_wouldBeIn yX2_wouldBeIn, Cond.code yX2_wouldBeIn cX2_wouldBeIn 3 (some .int), Cond.methodLink RL 160 yL_wouldTurn, Cond.static yL_wouldTurn, Cond.codeWith yL_wouldTurn cL_wouldTurn 4 (some .int) [(0, 9, 12, 19)], Cond.methodLink RL 67 yX1_wouldTurn, Cond.instanceMethod yX1_wouldTurn, Cond.selects RX1 yX1_wouldTurn yX1_wouldTurn, Cond.code yX1_wouldTurn cX1_wouldTurn 2 (some .int), Cond.methodLink RX1 123 yX0_togglesUnlike, Cond.instanceMethod yX0_togglesUnlike, Cond.selects RX0 yX0_togglesUnlike yX0_togglesUnlike, Cond.code yX0_togglesUnlike cX0_togglesUnlike 4 (some .int), Cond.methodLink RL 162 yX2_wouldTurn, Cond.instanceMethod yX2_wouldTurn, Cond.selects RX2 yX2_wouldTurn yX2_wouldTurn, Cond.code yX2_wouldTurn cX2_wouldTurn 2 (some .int), Cond.methodLink RX2 116 yX2_turnedBy, Cond.instanceMethod yX2_turnedBy, Cond.selects RX2 yX2_turnedBy yX2_turnedBy, Cond.code yX2_turnedBy cX2_turnedBy 2 (some .int), Cond.methodLink RL 163 yL_lastLands, Cond.static yL_lastLands]
def wsL_law0_r22 : List Cond := [Cond.codeWith yL_lastLands cL_lastLands 5 (some .int) [(0, 10, 13, 19), (0, 10, 17, 13)], Cond.methodLink RL 70 yX1_lastLands, Cond.instanceMethod yX1_lastLands, Cond.selects RX1 yX1_lastLands yX1_lastLands, Cond.code yX1_lastLands cX1_lastLands 5 (some .int), Cond.methodLink RL 165 yX2_lastLands, Cond.instanceMethod yX2_lastLands, Cond.selects RX2 yX2_lastLands yX2_lastLands, Cond.code yX2_lastLands cX2_lastLands 3 (some .int), Cond.methodLink RL 166 yL_asBeforeIn, Cond.static yL_asBeforeIn, Cond.codeWith yL_asBeforeIn cL_asBeforeIn 4 (some .int) [(0, 9, 12, 19)], Cond.methodLink RL 73 yX1_asBeforeIn, Cond.instanceMethod yX1_asBeforeIn, Cond.selects RX1 yX1_asBeforeIn yX1_asBeforeIn, Cond.code yX1_asBeforeIn cX1_asBeforeIn 3 (some .int), Cond.methodLink RX1 127 yX0_hasStatesOf, Cond.instanceMethod yX0_hasStatesOf, Cond.selects RX0 yX0_hasStatesOf yX0_hasStatesOf, Cond.code yX0_hasStatesOf cX0_hasStatesOf 3 (some .boolean), Cond.methodLink RL 168 yX2_asBeforeIn, Cond.instanceMethod yX2_asBeforeIn, Cond.selects RX2 yX2_asBeforeIn yX2_asBeforeIn, Cond.code yX2_asBeforeIn cX2_asBeforeIn 2 (some .int)]
def wsL_law0_r23 : List Cond := [Cond.methodLink RX2 123 yX2_asBefore, Cond.instanceMethod yX2_asBefore, Cond.selects RX2 yX2_asBefore yX2_asBefore, Cond.code yX2_asBefore cX2_asBefore 4 (some .int), Cond.methodLink RX2 119 yX2_isAsKept, Cond.instanceMethod yX2_isAsKept, Cond.selects RX2 yX2_isAsKept yX2_isAsKept, Cond.code yX2_isAsKept cX2_isAsKept 2 (some .boolean), Cond.methodLink RL 169 yL_wouldRun, Cond.static yL_wouldRun, Cond.codeWith yL_wouldRun cL_wouldRun 4 (some .int) [(0, 9, 12, 19)], Cond.methodLink RL 76 yX1_wouldRun, Cond.instanceMethod yX1_wouldRun, Cond.selects RX1 yX1_wouldRun yX1_wouldRun, Cond.code yX1_wouldRun cX1_wouldRun 2 (some .int), Cond.methodLink RL 171 yX2_wouldRun, Cond.instanceMethod yX2_wouldRun, Cond.selects RX2 yX2_wouldRun yX2_wouldRun, Cond.code yX2_wouldRun cX2_wouldRun 2 (some .int), Cond.methodLink RX2 126 yX2_runs, Cond.instanceMethod yX2_runs, Cond.selects RX2 yX2_runs yX2_runs, Cond.code yX2_runs cX2_runs 3 (some .int), Cond.methodLink RL 172 yX1_bestColumn]
def wsL_law0_r24 : List Cond := [Cond.instanceMethod yX1_bestColumn, Cond.selects RX1 yX1_bestColumn yX1_bestColumn, Cond.code yX1_bestColumn cX1_bestColumn 5 (some .int), Cond.methodLink RX1 131 yX1_columns, Cond.methodLink RX1 134 yX1_wouldTurn, Cond.methodLink RL 175 yX2_bestColumn, Cond.instanceMethod yX2_bestColumn, Cond.selects RX2 yX2_bestColumn yX2_bestColumn, Cond.code yX2_bestColumn cX2_bestColumn 1 (some .int), Cond.methodLink RX2 129 yX2_best, Cond.instanceMethod yX2_best, Cond.selects RX2 yX2_best yX2_best, Cond.code yX2_best cX2_best 5 (some .int), Cond.methodLink RL 176 yX1_meanInBins, Cond.instanceMethod yX1_meanInBins, Cond.selects RX1 yX1_meanInBins yX1_meanInBins, Cond.code yX1_meanInBins cX1_meanInBins 2 (some .double), Cond.methodLink RL 180 yX2_meanInBins, Cond.instanceMethod yX2_meanInBins, Cond.selects RX2 yX2_meanInBins yX2_meanInBins, Cond.code yX2_meanInBins cX2_meanInBins 1 (some .double), Cond.methodLink RL 181 yX1_digest, Cond.instanceMethod yX1_digest, Cond.selects RX1 yX1_digest yX1_digest]
def wsL_law0_r25 : List Cond := [Cond.code yX1_digest cX1_digest 5 (some .long), Cond.constantLong RX1 137 (2239), Cond.constantLong RX1 139 (31), Cond.methodLink RX1 141 yX1_rows, Cond.methodLink RX1 144 yX1_lost, Cond.methodLink RX1 147 yX1_toggles, Cond.methodLink RX1 150 yX1_bestColumn, Cond.methodLink RX1 153 yX1_marblesIn, Cond.methodLink RX1 156 yX1_columnOf, Cond.methodLink RX1 159 yX1_wouldRun, Cond.methodLink RX1 162 yX1_numberIn, Cond.methodLink RX1 165 yX1_partAt, Cond.methodLink RX1 168 yX1_leadsRight, Cond.methodLink RX1 172 yX1_countAt, Cond.methodLink RX1 175 yX1_binOf, Cond.methodLink RX1 178 yX1_wouldLand, Cond.methodLink RX1 181 yX1_asBeforeIn, Cond.methodLink RL 185 yX2_digest, Cond.instanceMethod yX2_digest, Cond.selects RX2 yX2_digest yX2_digest, Cond.code yX2_digest cX2_digest 10 (some .long), Cond.constantLong RX2 132 (2239), Cond.constantLong RX2 134 (31)]
def wsL_law0 : List Cond := (wsL_law0_r1 ++ (wsL_law0_r2 ++ (wsL_law0_r3 ++ (wsL_law0_r4 ++ (wsL_law0_r5 ++ (wsL_law0_r6 ++ (wsL_law0_r7 ++ (wsL_law0_r8 ++ (wsL_law0_r9 ++ (wsL_law0_r10 ++ (wsL_law0_r11 ++ (wsL_law0_r12 ++ (wsL_law0_r13 ++ (wsL_law0_r14 ++ (wsL_law0_r15 ++ (wsL_law0_r16 ++ (wsL_law0_r17 ++ (wsL_law0_r18 ++ (wsL_law0_r19 ++ (wsL_law0_r20 ++ (wsL_law0_r21 ++ (wsL_law0_r22 ++ (wsL_law0_r23 ++ (wsL_law0_r24 ++ wsL_law0_r25)))))))))))))))))))))))) ++ wsX10 ++ wsX20 ++ wsX00 ++ ([] : List Cond)
def wsL_law : List Cond := wsL_law0 ++ (vx_atS RX1 203 "java/lang/IllegalArgumentException" ["java/lang/RuntimeException", "java/lang/Exception"]).filter goodWord ++ (vx_atS RX1 191 "java/lang/IndexOutOfBoundsException" ["java/lang/RuntimeException", "java/lang/Exception"]).filter goodWord ++ (vx_atS RX1 46 "java/lang/IllegalStateException" ["java/lang/RuntimeException", "java/lang/Exception"]).filter goodWord
end
section
theorem mem_pos {big ws : List Cond} (ps : List Nat) (h : ws.map some = ps.map (fun i => big[i]?)) : ∀ w ∈ ws, w ∈ big := by
  intro w hw
  have h1 : some w ∈ ws.map some := List.mem_map_of_mem hw
  rw [h] at h1
  obtain ⟨i, -, hi⟩ := List.mem_map.mp h1
  exact List.mem_of_getElem? hi
set_option maxRecDepth 20000 in
theorem wsL_law_in0_r1 : ∀ w ∈ wsL_law0_r1, w ∈ lw_tbl := mem_pos [40, 41, 28, 519, 520, 31, 775, 42, 43, 44, 45, 46, 47, 48, 49, 29, 103, 104, 50, 51, 52, 53, 102, 68] (by decide +kernel)
set_option maxRecDepth 20000 in
theorem wsL_law_in0_r2 : ∀ w ∈ wsL_law0_r2, w ∈ lw_tbl := mem_pos [69, 70, 71, 73, 75, 54, 55, 56, 57, 77, 79, 81, 58, 59, 30, 60, 61, 62, 63, 64, 66, 67, 521, 522] (by decide +kernel)
set_option maxRecDepth 20000 in
theorem wsL_law_in0_r3 : ∀ w ∈ wsL_law0_r3, w ∈ lw_tbl := mem_pos [523, 524, 526, 527, 528, 529, 530, 531, 532, 534, 360, 361, 27, 362, 363, 364, 365, 366, 367, 368, 369, 370, 371, 35] (by decide +kernel)
set_option maxRecDepth 20000 in
theorem wsL_law_in0_r4 : ∀ w ∈ wsL_law0_r4, w ∈ lw_tbl := mem_pos [387, 560, 561, 562, 563, 525, 564, 565, 566, 567, 569, 4, 570, 556, 557, 558, 559, 388, 389, 390, 391, 392, 393, 394] (by decide +kernel)
set_option maxRecDepth 20000 in
theorem wsL_law_in0_r5 : ∀ w ∈ wsL_law0_r5, w ∈ lw_tbl := mem_pos [395, 325, 327, 3, 328, 308, 310, 2, 311, 156, 36, 312, 313, 314, 315, 148, 150, 0, 151, 152, 153, 154, 155, 396] (by decide +kernel)
set_option maxRecDepth 20000 in
theorem wsL_law_in0_r6 : ∀ w ∈ wsL_law0_r6, w ∈ lw_tbl := mem_pos [397, 398, 399, 240, 241, 242, 243, 260, 261, 262, 263, 249, 250, 571, 572, 573, 574, 575, 577, 5, 578, 579, 581, 6] (by decide +kernel)
set_option maxRecDepth 20000 in
theorem wsL_law_in0_r7 : ∀ w ∈ wsL_law0_r7, w ∈ lw_tbl := mem_pos [582, 583, 585, 7, 586, 587, 589, 8, 590, 400, 401, 402, 403, 404, 405, 406, 591, 592, 593, 594, 407, 408, 409, 410] (by decide +kernel)
set_option maxRecDepth 20000 in
theorem wsL_law_in0_r8 : ∀ w ∈ wsL_law0_r8, w ∈ lw_tbl := mem_pos [411, 412, 413, 414, 415, 37, 329, 330, 431, 432, 433, 434, 256, 257, 258, 259, 335, 595, 596, 597, 598, 599, 601, 9] (by decide +kernel)
set_option maxRecDepth 20000 in
theorem wsL_law_in0_r9 : ∀ w ∈ wsL_law0_r9, w ∈ lw_tbl := mem_pos [602, 435, 436, 437, 438, 439, 440, 441, 282, 283, 284, 442, 443, 444, 445, 603, 604, 605, 606, 446, 447, 448, 449, 450] (by decide +kernel)
set_option maxRecDepth 20000 in
theorem wsL_law_in0_r10 : ∀ w ∈ wsL_law0_r10, w ∈ lw_tbl := mem_pos [451, 452, 232, 233, 234, 235, 236, 237, 238, 239, 244, 245, 246, 247, 251, 607, 608, 609, 610, 611, 613, 10, 614, 533] (by decide +kernel)
set_option maxRecDepth 20000 in
theorem wsL_law_in0_r11 : ∀ w ∈ wsL_law0_r11, w ∈ lw_tbl := mem_pos [615, 617, 11, 618, 453, 454, 455, 456, 457, 458, 459, 295, 296, 297, 298, 299, 300, 301, 302, 303, 619, 620, 621, 622] (by decide +kernel)
set_option maxRecDepth 20000 in
theorem wsL_law_in0_r12 : ∀ w ∈ wsL_law0_r12, w ∈ lw_tbl := mem_pos [623, 625, 12, 626, 627, 628, 38, 629, 110, 111, 112, 113, 114, 115, 116, 117, 118, 630, 631, 632, 633, 634, 636, 13] (by decide +kernel)
set_option maxRecDepth 20000 in
theorem wsL_law_in0_r13 : ∀ w ∈ wsL_law0_r13, w ∈ lw_tbl := mem_pos [637, 638, 640, 14, 641, 119, 120, 121, 122, 78, 642, 643, 644, 645, 123, 124, 125, 126, 80, 646, 647, 648, 649, 460] (by decide +kernel)
set_option maxRecDepth 20000 in
theorem wsL_law_in0_r14 : ∀ w ∈ wsL_law0_r14, w ∈ lw_tbl := mem_pos [461, 462, 463, 322, 323, 324, 650, 651, 652, 653, 464, 465, 466, 467, 332, 333, 334, 654, 655, 656, 657, 658, 660, 15] (by decide +kernel)
set_option maxRecDepth 20000 in
theorem wsL_law_in0_r15 : ∀ w ∈ wsL_law0_r15, w ∈ lw_tbl := mem_pos [661, 468, 469, 470, 471, 337, 338, 339, 340, 341, 342, 343, 662, 663, 664, 665, 666, 668, 16, 669, 472, 473, 474, 475] (by decide +kernel)
set_option maxRecDepth 20000 in
theorem wsL_law_in0_r16 : ∀ w ∈ wsL_law0_r16, w ∈ lw_tbl := mem_pos [345, 346, 347, 72, 286, 670, 671, 672, 673, 127, 128, 129, 130, 82, 674, 675, 676, 677, 476, 477, 478, 479, 279, 280] (by decide +kernel)
set_option maxRecDepth 20000 in
theorem wsL_law_in0_r17 : ∀ w ∈ wsL_law0_r17, w ∈ lw_tbl := mem_pos [281, 76, 678, 679, 680, 681, 480, 481, 482, 483, 288, 289, 290, 74, 682, 683, 684, 685, 131, 132, 133, 134, 135, 136] (by decide +kernel)
set_option maxRecDepth 20000 in
theorem wsL_law_in0_r18 : ∀ w ∈ wsL_law0_r18, w ∈ lw_tbl := mem_pos [137, 138, 686, 687, 688, 689, 690, 692, 17, 693, 484, 485, 486, 487, 305, 306, 307, 317, 318, 319, 320, 694, 695, 696] (by decide +kernel)
set_option maxRecDepth 20000 in
theorem wsL_law_in0_r19 : ∀ w ∈ wsL_law0_r19, w ∈ lw_tbl := mem_pos [697, 698, 700, 18, 701, 488, 489, 490, 491, 349, 350, 351, 224, 225, 226, 227, 229, 230, 231, 702, 703, 704, 705, 706] (by decide +kernel)
set_option maxRecDepth 20000 in
theorem wsL_law_in0_r20 : ∀ w ∈ wsL_law0_r20, w ∈ lw_tbl := mem_pos [708, 19, 709, 710, 712, 20, 713, 714, 716, 715, 39, 717, 719, 21, 720, 492, 493, 494, 495, 496, 497, 498, 499, 721] (by decide +kernel)
set_option maxRecDepth 20000 in
theorem wsL_law_in0_r21 : ∀ w ∈ wsL_law0_r21, w ∈ lw_tbl := mem_pos [722, 723, 724, 500, 501, 502, 503, 145, 146, 147, 252, 253, 254, 255, 725, 726, 727, 728, 729, 731, 22, 732, 504, 505] (by decide +kernel)
set_option maxRecDepth 20000 in
theorem wsL_law_in0_r22 : ∀ w ∈ wsL_law0_r22, w ∈ lw_tbl := mem_pos [506, 507, 508, 509, 510, 733, 734, 735, 736, 511, 512, 513, 514, 353, 354, 355, 356, 357, 358, 359, 737, 738, 739, 740] (by decide +kernel)
set_option maxRecDepth 20000 in
theorem wsL_law_in0_r23 : ∀ w ∈ wsL_law0_r23, w ∈ lw_tbl := mem_pos [741, 743, 23, 744, 745, 747, 24, 748, 515, 516, 517, 518, 292, 293, 294, 749, 750, 751, 752, 753, 755, 25, 756, 139] (by decide +kernel)
set_option maxRecDepth 20000 in
theorem wsL_law_in0_r24 : ∀ w ∈ wsL_law0_r24, w ∈ lw_tbl := mem_pos [140, 141, 142, 143, 144, 757, 758, 759, 760, 761, 763, 26, 764, 264, 265, 266, 267, 765, 766, 767, 768, 268, 269, 270] (by decide +kernel)
set_option maxRecDepth 20000 in
theorem wsL_law_in0_r25 : ∀ w ∈ wsL_law0_r25, w ∈ lw_tbl := mem_pos [271, 272, 273, 274, 275, 276, 277, 278, 287, 291, 304, 321, 331, 336, 344, 348, 352, 769, 770, 771, 772, 773, 774] (by decide +kernel)
theorem wsX00_tbl : ∀ w ∈ wsX00, w ∈ lw_tbl := mem_pos [83, 85, 87, 89, 91, 93, 95, 97, 99] (by decide +kernel)
theorem wsX10_tbl : ∀ w ∈ wsX10, w ∈ lw_tbl := mem_pos [105, 107] (by decide +kernel)
theorem wsX20_tbl : ∀ w ∈ wsX20, w ∈ lw_tbl := mem_pos [535, 537, 539, 541, 543, 545, 547, 549, 551, 553] (by decide +kernel)
theorem wsL_law_in0 : ∀ w ∈ wsL_law0, w ∈ lw_tbl := fun w h => (List.mem_append.mp h).elim (fun h => (List.mem_append.mp h).elim (fun h => (List.mem_append.mp h).elim (fun h => (List.mem_append.mp h).elim (fun h => (List.mem_append.mp h).elim (fun h => wsL_law_in0_r1 w h) (fun h => (List.mem_append.mp h).elim (fun h => wsL_law_in0_r2 w h) (fun h => (List.mem_append.mp h).elim (fun h => wsL_law_in0_r3 w h) (fun h => (List.mem_append.mp h).elim (fun h => wsL_law_in0_r4 w h) (fun h => (List.mem_append.mp h).elim (fun h => wsL_law_in0_r5 w h) (fun h => (List.mem_append.mp h).elim (fun h => wsL_law_in0_r6 w h) (fun h => (List.mem_append.mp h).elim (fun h => wsL_law_in0_r7 w h) (fun h => (List.mem_append.mp h).elim (fun h => wsL_law_in0_r8 w h) (fun h => (List.mem_append.mp h).elim (fun h => wsL_law_in0_r9 w h) (fun h => (List.mem_append.mp h).elim (fun h => wsL_law_in0_r10 w h) (fun h => (List.mem_append.mp h).elim (fun h => wsL_law_in0_r11 w h) (fun h => (List.mem_append.mp h).elim (fun h => wsL_law_in0_r12 w h) (fun h => (List.mem_append.mp h).elim (fun h => wsL_law_in0_r13 w h) (fun h => (List.mem_append.mp h).elim (fun h => wsL_law_in0_r14 w h) (fun h => (List.mem_append.mp h).elim (fun h => wsL_law_in0_r15 w h) (fun h => (List.mem_append.mp h).elim (fun h => wsL_law_in0_r16 w h) (fun h => (List.mem_append.mp h).elim (fun h => wsL_law_in0_r17 w h) (fun h => (List.mem_append.mp h).elim (fun h => wsL_law_in0_r18 w h) (fun h => (List.mem_append.mp h).elim (fun h => wsL_law_in0_r19 w h) (fun h => (List.mem_append.mp h).elim (fun h => wsL_law_in0_r20 w h) (fun h => (List.mem_append.mp h).elim (fun h => wsL_law_in0_r21 w h) (fun h => (List.mem_append.mp h).elim (fun h => wsL_law_in0_r22 w h) (fun h => (List.mem_append.mp h).elim (fun h => wsL_law_in0_r23 w h) (fun h => (List.mem_append.mp h).elim (fun h => wsL_law_in0_r24 w h) (fun h => wsL_law_in0_r25 w h))))))))))))))))))))))))) (fun h => wsX10_tbl w h)) (fun h => wsX20_tbl w h)) (fun h => wsX00_tbl w h)) (fun h => absurd h List.not_mem_nil)
theorem wsL_law_x0 : ∀ w ∈ (vx_atS RX1 203 "java/lang/IllegalArgumentException" ["java/lang/RuntimeException", "java/lang/Exception"]).filter goodWord, w ∈ lw_tbl := by decide +kernel
theorem wsL_law_x1 : ∀ w ∈ (vx_atS RX1 191 "java/lang/IndexOutOfBoundsException" ["java/lang/RuntimeException", "java/lang/Exception"]).filter goodWord, w ∈ lw_tbl := by decide +kernel
theorem wsL_law_x2 : ∀ w ∈ (vx_atS RX1 46 "java/lang/IllegalStateException" ["java/lang/RuntimeException", "java/lang/Exception"]).filter goodWord, w ∈ lw_tbl := by decide +kernel
theorem wsL_law_in : ∀ w ∈ wsL_law, w ∈ lw_tbl := fun w h => (List.mem_append.mp h).elim (fun h => (List.mem_append.mp h).elim (fun h => (List.mem_append.mp h).elim (fun h => wsL_law_in0 w h) (fun h => wsL_law_x0 w h)) (fun h => wsL_law_x1 w h)) (fun h => wsL_law_x2 w h)
theorem inlX0 : ∀ w ∈ wsX00, w ∈ wsL_law := fun _ h => List.mem_append_left _ (List.mem_append_left _ (List.mem_append_left _ (List.mem_append_left _ (List.mem_append_right _ h))))
theorem inX0 : ∀ w ∈ wsX00, w ∈ lw_tbl := fun w h => wsL_law_in w (inlX0 w h)
theorem inlX1 : ∀ w ∈ wsX10, w ∈ wsL_law := fun _ h => List.mem_append_left _ (List.mem_append_left _ (List.mem_append_left _ (List.mem_append_left _ (List.mem_append_left _ (List.mem_append_left _ (List.mem_append_right _ h))))))
theorem inX1 : ∀ w ∈ wsX10, w ∈ lw_tbl := fun w h => wsL_law_in w (inlX1 w h)
theorem inlX2 : ∀ w ∈ wsX20, w ∈ wsL_law := fun _ h => List.mem_append_left _ (List.mem_append_left _ (List.mem_append_left _ (List.mem_append_left _ (List.mem_append_left _ (List.mem_append_right _ h)))))
theorem inX2 : ∀ w ∈ wsX20, w ∈ lw_tbl := fun w h => wsL_law_in w (inlX2 w h)
theorem inJx145de : ∀ w ∈ wsJx145de0, w ∈ lw_tbl := by decide +kernel
theorem inJ6 : ∀ w ∈ wsJ60, w ∈ lw_tbl := by decide +kernel
theorem inJ0 : ∀ w ∈ wsJ00, w ∈ lw_tbl := by decide +kernel
theorem inJ10 : ∀ w ∈ wsJ100, w ∈ lw_tbl := by decide +kernel
theorem inJ7 : ∀ w ∈ wsJ70, w ∈ lw_tbl := by decide +kernel
end
