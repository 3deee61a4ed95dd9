/-! ===== the law's body: what holds all along ===== -/
def LC2 (p : Program) (l : Launch) (s : State) (m : MethodId) (b0 : Nat) (c : Code) (D : va_G) (cI c2 c3 : ClassId) (L : Nat) (xs : Nat → Int32) (A : Nat → Prop) : Prop := p.tables.exec = Jvm.exec ∧ c.code = cL_law ∧ c.maxLocals = 27 ∧ s.vm.findClass RL = some m.cls ∧ (∀ w ∈ wsL_law, w.before #[Value.ref b0] s = true) ∧ va_K D vwCl [(cI, .int), (c2, .array .int), (c3, .array (.array .int))] s ∧ KS s ∧ KG cI c2 c3 s ∧ KX s ∧ ZA A s s.heap ∧ (∀ q, s.heap.size ≤ q → A q) ∧ va_X b0 L xs s s.heap ∧ b0 < s.heap.size ∧ ¬ A b0 ∧ l.stackTraces = false ∧ L < 1000 ∧ va_Nw (.methodLinkNest RL 68 yX2_init RL) s ∧ va_Nw (.classLink RL 144 "[[I") s
theorem cnt_v {p e d v : Int32} (h : OK1 p e d v) (h5 : p = 5) : ∃ x : Nat, x ≤ 8 ∧ v = nI x := by
  rcases h with h | h | h
  · rw [h5] at h
    rcases h with h | h | h | h <;> exact absurd h (by decide)
  · rw [h5] at h
    exact absurd h.1 (by decide)
  · obtain ⟨_, q, k, h2, h9, _, _, hk, hv⟩ := h
    exact ⟨k, by omega, hv⟩
theorem nlt_of {a b : Nat} (ha : a < 2 ^ 31) (hb : b < 2 ^ 31) (h : ¬ nI b ≤ nI a) : a < b := by
  rw [nI_leI hb ha] at h
  omega
theorem le_of {a b : Nat} (ha : a < 2 ^ 31) (hb : b < 2 ^ 31) (h : nI b ≤ nI a) : b ≤ a := (nI_leI hb ha).mp h
theorem pmx_4_013 {α : Type} (g0 g1 g2 g3 : List α) : (g0 ++ g1 ++ g2 ++ g3).Perm ((g0 ++ g1 ++ g3) ++ (g2)) := by
  classical
  rw [List.perm_iff_count]
  intro x
  simp only [List.count_append, List.count_nil, Nat.add_zero]
  ac_rfl
theorem pmx_5_013 {α : Type} (g0 g1 g2 g3 g4 : List α) : (g0 ++ g1 ++ g2 ++ g3 ++ g4).Perm ((g0 ++ g1 ++ g3) ++ (g2 ++ g4)) := by
  classical
  rw [List.perm_iff_count]
  intro x
  simp only [List.count_append, List.count_nil, Nat.add_zero]
  ac_rfl
theorem pmx_5_01 {α : Type} (g0 g1 g2 g3 g4 : List α) : (g0 ++ g1 ++ g2 ++ g3 ++ g4).Perm ((g0 ++ g1) ++ (g2 ++ g3 ++ g4)) := by
  classical
  rw [List.perm_iff_count]
  intro x
  simp only [List.count_append, List.count_nil, Nat.add_zero]
  ac_rfl
theorem pmx_6_01 {α : Type} (g0 g1 g2 g3 g4 g5 : List α) : (g0 ++ g1 ++ g2 ++ g3 ++ g4 ++ g5).Perm ((g0 ++ g1) ++ (g2 ++ g3 ++ g4 ++ g5)) := by
  classical
  rw [List.perm_iff_count]
  intro x
  simp only [List.count_append, List.count_nil, Nat.add_zero]
  ac_rfl
theorem pmx_6_2 {α : Type} (g0 g1 g2 g3 g4 g5 : List α) : (g0 ++ g1 ++ g2 ++ g3 ++ g4 ++ g5).Perm ((g2) ++ (g0 ++ g1 ++ g3 ++ g4 ++ g5)) := by
  classical
  rw [List.perm_iff_count]
  intro x
  simp only [List.count_append, List.count_nil, Nat.add_zero]
  ac_rfl
theorem pmx_5_24 {α : Type} (g0 g1 g2 g3 g4 : List α) : (g0 ++ g1 ++ g2 ++ g3 ++ g4).Perm ((g2 ++ g4) ++ (g0 ++ g1 ++ g3)) := by
  classical
  rw [List.perm_iff_count]
  intro x
  simp only [List.count_append, List.count_nil, Nat.add_zero]
  ac_rfl
theorem pmx_4_2 {α : Type} (g0 g1 g2 g3 : List α) : (g0 ++ g1 ++ g2 ++ g3).Perm ((g2) ++ (g0 ++ g1 ++ g3)) := by
  classical
  rw [List.perm_iff_count]
  intro x
  simp only [List.count_append, List.count_nil, Nat.add_zero]
  ac_rfl
theorem pmx_4_01 {α : Type} (g0 g1 g2 g3 : List α) : (g0 ++ g1 ++ g2 ++ g3).Perm ((g0 ++ g1) ++ (g2 ++ g3)) := by
  classical
  rw [List.perm_iff_count]
  intro x
  simp only [List.count_append, List.count_nil, Nat.add_zero]
  ac_rfl
