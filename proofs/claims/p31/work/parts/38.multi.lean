/-! ===== new int[n][m], new int[n][m][k]: arrays of arrays, made in one go ===== -/
section MU
/-- what a maker of one array does to a state -/
def muG (g : State → State) (cn sl : Nat) : Prop :=
  (∀ s, (g s).heap.size = s.heap.size + cn) ∧ (∀ s, (g s).vm = s.vm) ∧ (∀ s, (g s).slotsUsed = s.slotsUsed + sl) ∧
  (∀ (s : State) (a : Nat), a < s.heap.size → (g s).heap[a]? = s.heap[a]?) ∧ (∀ (s : State) (f : JFrame), g (s.setTop f) = (g s).setTop f) ∧
  (∀ (p : Program) (l : Launch) (e : Env) (R : Room) (s : State) (m : MethodId) (args : Array Value) (below : List Frame) (meth : Method) (c : Code) (T : State) (locs : List Loc) (cells slots : Nat), Stand p l e R s m args below meth c T locs cells slots →
    ∃ L : List Loc, Stand p l e R s m args below meth c (g T) (locs ++ L) (cells + cn) (slots + sl) ∧ ∀ q ∈ L, T.heap.size ≤ q.base)
def muL (c : ClassId) (M : Nat) (dv : Value) (s : State) : State := s.pushCell { cls := c, slots := Array.replicate M dv, vm := .none }
theorem muL_G (c : ClassId) (M : Nat) (dv : Value) : muG (muL c M dv) 1 M := by
  refine ⟨fun s => by simp [muL], fun s => rfl, fun s => by simp [muL], fun s a ha => State.heap_pushCell_of_lt _ _ ha, fun s f => by simp [muL, State.pushCell_setTop], ?_⟩
  intro p l e R s m args below meth c2 T locs cells slots X
  have h := X.pushed { cls := c, slots := Array.replicate M dv, vm := .none }
  refine ⟨[], ?_, fun q hq => absurd hq List.not_mem_nil⟩
  simpa [muL] using h
def muO (c : ClassId) (N h cn : Nat) : Nat → Cell
  | 0 => { cls := c, slots := Array.replicate N .null, vm := .none }
  | i + 1 => (muO c N h cn i).setSlot i (.ref (h + 1 + i * cn))
theorem muO_f (c : ClassId) (N h cn : Nat) : ∀ i, (muO c N h cn i).cls = c ∧ (muO c N h cn i).vm = .none ∧ (muO c N h cn i).slots.size = N
  | 0 => ⟨rfl, rfl, by simp [muO]⟩
  | i + 1 => by
    obtain ⟨a, b, d⟩ := muO_f c N h cn i
    exact ⟨by simp [muO, Cell.setSlot, a], by simp [muO, Cell.setSlot, b], by simp [muO, Cell.setSlot, d]⟩
theorem muO_s (c : ClassId) (N h cn : Nat) : ∀ i j, j < N → (muO c N h cn i).slots[j]? = some (if j < i then .ref (h + 1 + j * cn) else .null)
  | 0, j, hj => by simp [muO, hj]
  | i + 1, j, hj => by
    have ih := muO_s c N h cn i j hj
    have hs := (muO_f c N h cn i).2.2
    show ((muO c N h cn i).setSlot i (.ref (h + 1 + i * cn))).slots[j]? = _
    simp only [Cell.setSlot, Array.getElem?_setIfInBounds]
    by_cases e : i = j
    · subst e; simp [hs, hj]
    · rw [if_neg e, ih]
      by_cases q : j < i
      · rw [if_pos q, if_pos (by omega)]
      · rw [if_neg q, if_neg (by omega)]
def muF (g : State → State) (cn : Nat) (c : ClassId) (N : Nat) (s : State) : Nat → State
  | 0 => s.pushCell (muO c N s.heap.size cn 0)
  | i + 1 => (g (muF g cn c N s i)).setCell s.heap.size (muO c N s.heap.size cn (i + 1))
theorem muF_f {g : State → State} {cn sl : Nat} (G : muG g cn sl) (c : ClassId) (N : Nat) (s : State) : ∀ i, (muF g cn c N s i).heap.size = s.heap.size + 1 + i * cn ∧ (muF g cn c N s i).heap[s.heap.size]? = some (muO c N s.heap.size cn i) ∧ (muF g cn c N s i).vm = s.vm ∧ (muF g cn c N s i).slotsUsed = s.slotsUsed + N + i * sl
  | 0 => ⟨by simp [muF], by simp [muF], rfl, by simp [muF, (muO_f c N s.heap.size cn 0).2.2]⟩
  | i + 1 => by
    obtain ⟨a, b, d, u⟩ := muF_f G c N s i
    obtain ⟨g1, g2, g3, g4, -, -⟩ := G
    have b2 : (g (muF g cn c N s i)).heap[s.heap.size]? = some (muO c N s.heap.size cn i) := by rw [g4 _ _ (by rw [a]; omega)]; exact b
    refine ⟨?_, State.heap_setCell_self b2, ?_, ?_⟩
    · simp [muF, State.setCell, g1, a, Nat.succ_mul]; omega
    · simp [muF, g2, d]
    · simp [muF, g3, u, Nat.succ_mul]; omega
theorem muF_old {g : State → State} {cn sl : Nat} (G : muG g cn sl) (c : ClassId) (N : Nat) (s : State) {a : Nat} (ha : a < s.heap.size) : ∀ i, (muF g cn c N s i).heap[a]? = s.heap[a]?
  | 0 => State.heap_pushCell_of_lt _ _ ha
  | i + 1 => by
    have f1 := (muF_f G c N s i).1
    show ((g (muF g cn c N s i)).setCell s.heap.size _).heap[a]? = _
    rw [State.heap_setCell_other (Nat.ne_of_gt ha), G.2.2.2.1 _ _ (by rw [f1]; omega)]
    exact muF_old G c N s ha i
theorem muF_top {g : State → State} {cn sl : Nat} (G : muG g cn sl) (c : ClassId) (N : Nat) (s : State) (f : JFrame) : ∀ i, muF g cn c N (s.setTop f) i = (muF g cn c N s i).setTop f
  | 0 => by simp only [muF, State.heap_setTop, State.pushCell_setTop]
  | i + 1 => by simp only [muF, muF_top G c N s f i, State.heap_setTop, G.2.2.2.2.1, State.setCell_setTop]
theorem muF_in {g : State → State} {cn sl : Nat} (G : muG g cn sl) (c : ClassId) (N : Nat) (s : State) : ∀ i j, j < i → ∀ a, s.heap.size + 1 + j * cn ≤ a → a < s.heap.size + 1 + (j + 1) * cn → (muF g cn c N s i).heap[a]? = (g (muF g cn c N s j)).heap[a]?
  | 0, _, h, _, _, _ => absurd h (Nat.not_lt_zero _)
  | i + 1, j, h, a, h1, h2 => by
    have f1 := (muF_f G c N s i).1
    show ((g (muF g cn c N s i)).setCell s.heap.size _).heap[a]? = _
    rw [State.heap_setCell_other (show s.heap.size ≠ a by omega)]
    rcases Nat.lt_or_ge j i with hj | hj
    · have := Nat.mul_le_mul_right cn (show j + 1 ≤ i from hj)
      rw [G.2.2.2.1 _ _ (by rw [f1]; omega)]
      exact muF_in G c N s i j hj a h1 h2
    · have e : j = i := by omega
      subst e
      rfl
theorem muF_X {g : State → State} {cn sl : Nat} (G : muG g cn sl) (c0 : ClassId) (N : Nat) {p : Program} {l : Launch} {e : Env} {R : Room} {s : State} {m : MethodId} {args : Array Value} {below : List Frame} {meth : Method} {c : Code} {T : State} {locs : List Loc} {cells slots : Nat} (X : Stand p l e R s m args below meth c T locs cells slots) : ∀ i, ∃ L : List Loc, Stand p l e R s m args below meth c (muF g cn c0 N T i) (locs ++ L) (cells + (1 + i * cn)) (slots + (N + i * sl)) ∧ ∀ q ∈ L, T.heap.size ≤ q.base
  | 0 => by
    have h := X.pushed (muO c0 N T.heap.size cn 0)
    rw [(muO_f c0 N T.heap.size cn 0).2.2] at h
    refine ⟨[], ?_, fun q hq => absurd hq List.not_mem_nil⟩
    simpa [muF] using h
  | i + 1 => by
    obtain ⟨L, Xi, hL⟩ := muF_X G c0 N X i
    obtain ⟨f1, f2, -, -⟩ := muF_f G c0 N T i
    obtain ⟨L2, X2, hL2⟩ := G.2.2.2.2.2 _ _ _ _ _ _ _ _ _ _ _ _ _ _ Xi
    have hcell : (g (muF g cn c0 N T i)).heap[T.heap.size]? = some (muO c0 N T.heap.size cn i) := by rw [G.2.2.2.1 _ _ (by rw [f1]; omega)]; exact f2
    have h := X2.stored hcell i (.ref (T.heap.size + 1 + i * cn))
    refine ⟨L ++ L2 ++ [⟨T.heap.size, i⟩], ?_, fun q hq => ?_⟩
    · have e1 : cells + (1 + (i + 1) * cn) = cells + (1 + i * cn) + cn := by rw [Nat.succ_mul]; omega
      have e2 : slots + (N + (i + 1) * sl) = slots + (N + i * sl) + sl := by rw [Nat.succ_mul]; omega
      rw [e1, e2, ← List.append_assoc, ← List.append_assoc]
      exact h
    · rcases List.mem_append.mp hq with hq | hq
      · rcases List.mem_append.mp hq with hq | hq
        · exact hL q hq
        · have := hL2 q hq; omega
      · rw [List.mem_singleton] at hq
        subst hq
        exact Nat.le_refl _
theorem muF_G {g : State → State} {cn sl : Nat} (G : muG g cn sl) (c : ClassId) (N : Nat) : muG (fun s => muF g cn c N s N) (1 + N * cn) (N + N * sl) := by
  refine ⟨fun s => ?_, fun s => (muF_f G c N s N).2.2.1, fun s => ?_, fun s a ha => muF_old G c N s ha N, fun s f => muF_top G c N s f N, fun p l e R s m args below meth c2 T locs cells slots X => muF_X G c N X N⟩
  · show (muF g cn c N s N).heap.size = _
    rw [(muF_f G c N s N).1]; omega
  · show (muF g cn c N s N).slotsUsed = _
    rw [(muF_f G c N s N).2.2.2]; omega
section
variable {E : CtlPost} {e : Env} {d : Bool} {acts : List Action} {s : State}
theorem mu_new {c comp : ClassId} {k : Class} {type : FieldType} {len : Nat} {init : Value} (hk : s.vm.classes[c]? = some k) (hkind : k.kind = .array comp type)
    (hlimit : ¬ len > e.platform.arrayLengthLimit) (hheap : ¬ len * componentBytes type > e.platform.maxHeapBytes) (hfit : fits type init = true) (hdef : init.isDefault = true) {Q : Addr → Pre}
    (h1 : s.heap.size < e.platform.maxCells) (h2 : s.slotsUsed + len ≤ e.platform.maxSlots)
    (hq : Q s.heap.size d acts (s.pushCell { cls := c, slots := Array.replicate len init, vm := .none })) :
    wp (Jvm.newArray c len init) Q E e d acts s := by
  have hfits : ∀ i v, (Array.replicate len init)[i]? = some v → s.fitsSlot c .none i v = true := by
    intro i v hv
    simp only [Array.getElem?_replicate] at hv
    split at hv
    · cases hv; simp [State.fitsSlot, State.slotType?, hk, hkind, hfit]
    · cases hv
  have hda : allocActs (Array.replicate len init) s.heap.size acts = acts := by
    have hall : ((Array.replicate len init).all (·.isDefault)) = true := by
      rw [Array.all_replicate]; split <;> simp [hdef]
    unfold allocActs; rw [if_pos hall]
  simp only [Jvm.newArray, Jvm.arrayFits, wp_bind', W.ask, W.ite, hlimit, if_false, wp_pure', W.theClass, hk, hkind, hheap, W.alloc, W.stop, Option.some.injEq, exists_eq_left', Array.size_replicate, hda]
  rw [if_neg (by omega)]
  exact ⟨h1, h2, hfits, hq⟩
theorem mu_rf {t : FieldType} (h : t.isReference = true) (v : Value) (hv : v = .null ∨ ∃ a, v = .ref a) : fits t v = true := by
  rcases hv with rfl | ⟨a, rfl⟩ <;> cases t <;> simp [FieldType.isReference] at h <;> rfl
theorem mu_wp1 {comp cc : ClassId} {kc : Class} {type : FieldType} {m : Int32} (hkc : s.vm.classes[comp]? = some kc) (hkindc : kc.kind = .array cc type) (hm : ¬ m < 0)
    (hl2 : ¬ m.toNatClampNeg > e.platform.arrayLengthLimit) (hh2 : ¬ m.toNatClampNeg * componentBytes type > e.platform.maxHeapBytes)
    (hdf : fits type (defaultValue type) = true) (hdd : (defaultValue type).isDefault = true)
    (h1 : s.heap.size < e.platform.maxCells) (h2 : s.slotsUsed + m.toNatClampNeg ≤ e.platform.maxSlots)
    {Q : Addr → Pre} (hq : Q s.heap.size d acts (muL comp m.toNatClampNeg (defaultValue type) s)) :
    wp (multianewarray.make comp [m]) Q E e d acts s := by
  rw [multianewarray.make]
  simp only [wp_bind', W.ite, hm, if_false, wp_pure', W.theClass, hkc, hkindc, Option.some.injEq, exists_eq_left']
  exact mu_new hkc hkindc hl2 hh2 hdf hdd h1 h2 hq
theorem mu_wpN {g : State → State} {cn sl : Nat} (G : muG g cn sl) {c comp : ClassId} {k : Class} {t0 : FieldType} {n r1 : Int32} {rs : List Int32} (hk : s.vm.classes[c]? = some k) (hkind : k.kind = .array comp t0) (href : t0.isReference = true) (hn : ¬ n < 0) (hfind : (r1 :: rs).find? (· < 0) = none)
    (hl1 : ¬ n.toNatClampNeg > e.platform.arrayLengthLimit) (hh1 : ¬ n.toNatClampNeg * componentBytes t0 > e.platform.maxHeapBytes)
    (hw : ∀ (s' : State) (d' : Bool) (acts' : List Action) (Q : Addr → Pre), s'.vm = s.vm → s'.heap.size + cn ≤ e.platform.maxCells → s'.slotsUsed + sl ≤ e.platform.maxSlots → (∀ d'' acts'', Q s'.heap.size d'' acts'' (g s')) → wp (multianewarray.make comp (r1 :: rs)) Q E e d' acts' s')
    (hc : s.heap.size + (1 + n.toNatClampNeg * cn) ≤ e.platform.maxCells) (hs : s.slotsUsed + (n.toNatClampNeg + n.toNatClampNeg * sl) ≤ e.platform.maxSlots)
    {Q : Addr → Pre} (hq : ∀ d' acts', Q s.heap.size d' acts' (muF g cn c n.toNatClampNeg s n.toNatClampNeg)) :
    wp (multianewarray.make c (n :: r1 :: rs)) Q E e d acts s := by
  rw [multianewarray.make]
  simp only [wp_bind', W.ite, hn, if_false, wp_pure', W.theClass, hk, hkind, Option.some.injEq, exists_eq_left']
  refine mu_new hk hkind hl1 hh1 (mu_rf href _ (Or.inl rfl)) rfl (by omega) (by omega) ?_
  simp only [hfind]
  rw [ite_self, wp_bind', Std.Legacy.Range.forIn_eq_forIn_range']
  have hsz : ([:n.toNatClampNeg] : Std.Legacy.Range).size = n.toNatClampNeg := by simp [Std.Legacy.Range.size]
  rw [hsz]
  show wp (forIn (List.range' 0 n.toNatClampNeg 1) PUnit.unit _) _ E e d acts _
  refine wp_forIn_inv (fun rest s' => ∃ i, i ≤ n.toNatClampNeg ∧ rest = List.range' i (n.toNatClampNeg - i) ∧ s' = muF g cn c n.toNatClampNeg s i) _ _ ⟨0, Nat.zero_le _, rfl, rfl⟩ ?_ ?_
  · rintro x rest s' d' acts' Q' ⟨i, hi, hl, rfl⟩ hnext
    have hlt : i < n.toNatClampNeg := by
      rcases Nat.lt_or_ge i n.toNatClampNeg with h | h
      · exact h
      · rw [show n.toNatClampNeg - i = 0 from by omega] at hl; simp at hl
    obtain ⟨rfl, hrest⟩ : x = i ∧ rest = List.range' (i + 1) (n.toNatClampNeg - (i + 1)) := by
      rw [show n.toNatClampNeg - i = (n.toNatClampNeg - (i + 1)) + 1 from by omega, List.range'_succ] at hl
      exact ⟨(List.cons.inj hl).1, (List.cons.inj hl).2⟩
    obtain ⟨f1, f2, f3, f4⟩ := muF_f G c n.toNatClampNeg s x
    obtain ⟨o1, o2, o3⟩ := muO_f c n.toNatClampNeg s.heap.size cn x
    have hm1 : x * cn + cn ≤ n.toNatClampNeg * cn := by
      have := Nat.mul_le_mul_right cn (show x + 1 ≤ n.toNatClampNeg from hlt)
      rw [Nat.succ_mul] at this; exact this
    have hm2 : x * sl + sl ≤ n.toNatClampNeg * sl := by
      have := Nat.mul_le_mul_right sl (show x + 1 ≤ n.toNatClampNeg from hlt)
      rw [Nat.succ_mul] at this; exact this
    simp only [wp_bind']
    refine hw _ _ _ _ f3 (by rw [f1]; omega) (by rw [f4]; omega) (fun d2 acts2 => ?_)
    have hb : (g (muF g cn c n.toNatClampNeg s x)).heap[s.heap.size]? = some (muO c n.toNatClampNeg s.heap.size cn x) := by rw [G.2.2.2.1 _ _ (by rw [f1]; omega)]; exact f2
    simp only [wp_bind', W.writeLoc, wp_pure']
    refine ⟨muO c n.toNatClampNeg s.heap.size cn x, hb, by rw [o2]; simp, by rw [o3]; exact hlt, ?_, hnext _ _ _ ⟨x + 1, hlt, hrest, ?_⟩⟩
    · rw [o1, o2]
      simp [State.fitsSlot, State.slotType?, G.2.1, f3, hk, hkind, mu_rf href _ (Or.inr ⟨_, rfl⟩)]
    · rw [f1]; rfl
  · rintro s' d' acts' ⟨i, hi, hl, rfl⟩
    have hiN : i = n.toNatClampNeg := by
      rcases Nat.lt_or_ge i n.toNatClampNeg with h | h
      · rw [show n.toNatClampNeg - i = (n.toNatClampNeg - (i + 1)) + 1 from by omega, List.range'_succ] at hl; cases hl
      · omega
    subst hiN
    simp only [wp_pure']
    exact hq _ _
end
end MU
