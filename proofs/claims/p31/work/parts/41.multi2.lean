/-! ===== the instruction itself ===== -/
section MU2
variable {p : Program} {l : Launch} {e : Env} {R : Room} {s : State} {m : MethodId} {args : Array Value} {below : List Frame} {meth : Method} {c : Code} {H : Heap} {locs : List Loc} {cells slots : Nat} {Q : State → Prop}
theorem muO_i (c : ClassId) (N h cn : Nat) : ∀ i : Nat, muO c N h cn i = arrV c N (fun j => va_rf (if j < i then some (h + 1 + j * cn) else none))
  | 0 => by
    show ({ cls := c, slots := Array.replicate N .null, vm := .none } : Cell) = _
    rw [arrV_new]
    refine congrArg (arrV c N) (funext fun j => ?_)
    simp [va_rf]
  | i + 1 => by
    show (muO c N h cn i).setSlot i (.ref (h + 1 + i * cn)) = _
    rw [muO_i c N h cn i, arrV_store]
    refine congrArg (arrV c N) (funext fun j => ?_)
    by_cases e : j = i
    · subst e
      simp [updV, va_rf]
    · by_cases h : j < i
      · simp [updV, e, h, Nat.lt_succ_of_lt h]
      · simp [updV, e, h, show ¬ j < i + 1 by omega]
theorem arrV_ext {c : ClassId} {N : Nat} {f g : Nat → Value} (h : ∀ j, j < N → f j = g j) : arrV c N f = arrV c N g := by
  unfold arrV
  have h2 : (fun j : Fin N => f j.val) = (fun j : Fin N => g j.val) := funext fun j => h j.val j.isLt
  rw [h2]
theorem muO_V (c : ClassId) (N h cn : Nat) : muO c N h cn N = arrV c N (fun j => va_rf (some (h + 1 + j * cn))) := by
  rw [muO_i]
  exact arrV_ext fun j hj => by rw [if_pos hj]
theorem W_mu {own nm : String} {index dims : Nat} {cO : ClassId} {g0 : State → State} {cn sl : Nat} {counts : List Int32} (G : muG g0 cn sl) (hexec : p.tables.exec = Jvm.exec) {cc : ByteArray} (hb : c.code = cc) (hown : s.vm.findClass own = some m.cls) (hclink : (Cond.classLink own index nm).before args s = true) (hnm : s.vm.findClass nm = some cO)
    (hd0 : ¬ dims = 0) (hlen : counts.length = dims) (hcnt : (∃ n k, counts = [n, k]) ∨ ∃ n k z, counts = [n, k, z]) {g : JFrame} (hg : g.method = m) (hdg : decode cc g.pc = .ok (.multianewarray index dims, 4)) {rest : List Value} (hstack : g.stack = (counts.map Value.int).reverse ++ rest)
    (hcells : cells + cn ≤ R.cells) (hslots : slots + sl ≤ R.slots)
    (hw : l.admits e → ∀ (s' : State) (d' : Bool) (acts' : List Action) (E : CtlPost) (Q : Addr → Pre), s.vm.Alike s'.vm → s'.heap.size + cn ≤ e.platform.maxCells → s'.slotsUsed + sl ≤ e.platform.maxSlots → (∀ d'' acts'', Q s'.heap.size d'' acts'' (g0 s')) → wp (multianewarray.make cO counts) Q E e d' acts' s')
    (kk : ∀ (T1 : State) (L : List Loc), T1.heap = H → (∀ q ∈ L, H.size ≤ q.base) → W p l e R s m args below meth c (g0 T1).heap (locs ++ L) (cells + cn) (slots + sl) Q { g with pc := g.pc + 4, stack := .ref H.size :: rest }) : W p l e R s m args below meth c H locs cells slots Q g := by
  intro T hT X
  subst hb
  subst hg
  subst hT
  have hpl : e.platform.magicAccessors = ({} : Platform).magicAccessors := by rw [X.admits.platform]
  obtain ⟨c0, hfc0, hcl⟩ := Cond.classLink_spec hown hclink e.platform hpl
  cases hnm.symm.trans hfc0
  obtain ⟨hg₁, hwarm₁, hready₁⟩ := State.classEntry (e := e) X.warmed hcl
  generalize T.vm.noted g.method.cls index (.cls cO) = vm₁ at hg₁ hwarm₁ hready₁
  have X₁ := X.noted hwarm₁
  obtain ⟨hr1, hr2⟩ := X.roomAbove hcells hslots
  obtain ⟨L, XF, hL⟩ := G.2.2.2.2.2 _ _ _ _ _ _ _ _ _ _ _ _ _ _ X₁
  obtain ⟨t, a1, b1⟩ := kk (T.setVm vm₁) L rfl hL (g0 (T.setVm vm₁)) rfl XF
  refine ⟨t, ?_, b1⟩
  jvm_step X.here [hexec, hdg]
  simp only [multianewarray.sem, wp_bind', W.resolveClassAt_links (State.method?_setTop g X.here.top) hg₁]
  rw [W.popN, if_neg hd0]
  refine ⟨g, State.topJava?_setTop' (s := T.setVm vm₁) g X.here.top, counts.map Value.int, rest, by simpa using hlen, hstack, ?_⟩
  have eS : ((T.setTop g).setVm vm₁).setTop { g with stack := rest } = (T.setVm vm₁).setTop { g with stack := rest } := by
    show ((T.setVm vm₁).setTop g).setTop _ = _
    rw [State.setTop_setTop]
  rw [eS]
  rcases hcnt with ⟨n, k, rfl⟩ | ⟨n, k, z, rfl⟩ <;> simp only [List.map_cons, List.map_nil, List.mapM_cons, List.mapM_nil, wp_bind', wp_pure']
  all_goals
    refine hw X.admits _ _ _ _ _ hwarm₁.alike (by show T.heap.size + _ ≤ _; omega) (by show T.slotsUsed + _ ≤ _; omega) (fun d2 acts2 => ?_)
    rw [G.2.2.2.2.1]
    simp only [wp_bind', W.mark, W.pushRef, State.topJava?_setTop' _ XF.here.top, Option.some.injEq, exists_eq_left', State.setTop_setTop, State.heap_setTop]
    intro acts
    simp [jvm, XF.here.top]
    exact a1
end MU2
