/-! ===== what the law asks of the class's answers: counts, falls, the best column ===== -/
/-- how many places' toggles lead otherwise -/
def dfn (pa st st2 : Nat → Int32) : Nat → Nat
  | 0 => 0
  | n + 1 => dfn pa st st2 n + if pa n = 3 ∧ ¬ ((st n = 1) ↔ (st2 n = 1)) then 1 else 0
theorem dfn_le (pa st st2 : Nat → Int32) : ∀ n, dfn pa st st2 n ≤ tg pa n
  | 0 => Nat.le_refl _
  | n + 1 => by
    have := dfn_le pa st st2 n
    show dfn pa st st2 n + _ ≤ tg pa n + _
    by_cases h : pa n = 3 ∧ ¬ ((st n = 1) ↔ (st2 n = 1))
    · rw [if_pos h, if_pos h.1]; omega
    · rw [if_neg h]; omega
theorem dfn_t {pa st st2 : Nat → Int32} {n : Nat} (h3 : pa n = 3) (h : ¬ ((st n = 1) ↔ (st2 n = 1))) : dfn pa st st2 (n + 1) = dfn pa st st2 n + 1 := by rw [dfn, if_pos ⟨h3, h⟩]
theorem dfn_f {pa st st2 : Nat → Int32} {n : Nat} (h : ¬ (pa n = 3 ∧ ¬ ((st n = 1) ↔ (st2 n = 1)))) : dfn pa st st2 (n + 1) = dfn pa st st2 n := by rw [dfn, if_neg h]; rfl
theorem xRight_n (pa st : Nat → Int32) {k : Nat} (h : k < 72) : xRight pa st (nI k) = if pa k = 3 then (if st k = 1 then true else false) else false := by
  rw [xRight, xcl_n h (by decide), xcl_n h (by decide)]
theorem unl_dfn (pa st st2 : Nat → Int32) : ∀ n k : Nat, k + n ≤ 72 → xUnlL pa st pa st2 n k (nI (dfn pa st st2 k)) = nI (dfn pa st st2 (k + n)) := by
  intro n
  induction n with
  | zero => intro k _; rfl
  | succ n ih =>
    intro k hk
    rw [xUnlL, show k + (n + 1) = k + 1 + n by omega, ← ih (k + 1) (by omega), xRight_n _ _ (by omega), xRight_n _ _ (by omega)]
    by_cases h3 : pa k = 3
    · rw [if_pos h3, if_pos h3]
      by_cases a : st k = 1 <;> by_cases b : st2 k = 1
      · rw [if_pos a, if_pos b, if_pos rfl, dfn_f (fun z => z.2 ⟨fun _ => b, fun _ => a⟩)]
      · rw [if_pos a, if_neg b, if_neg (by decide), nI_1, dfn_t h3 (fun z => b (z.mp a))]
      · rw [if_neg a, if_pos b, if_neg (by decide), nI_1, dfn_t h3 (fun z => a (z.mpr b))]
      · rw [if_neg a, if_neg b, if_pos rfl, dfn_f (fun z => z.2 ⟨fun q => absurd q a, fun q => absurd q b⟩)]
    · rw [if_neg h3, if_neg h3, if_pos rfl, dfn_f (fun z => h3 z.1)]
theorem dfn_tail {pa st st2 : Nat → Int32} {m : Nat} : ∀ d : Nat, (∀ p, m ≤ p → p < m + d → pa p = 0) → dfn pa st st2 (m + d) = dfn pa st st2 m
  | 0, _ => rfl
  | d + 1, h => by
    rw [← Nat.add_assoc, dfn_f (fun z => by rw [h (m + d) (by omega) (by omega)] at z; exact absurd z.1 (by decide))]
    exact dfn_tail d fun p h1 h2 => h p h1 (by omega)
theorem unl_all {pa : Nat → Int32} {n : Nat} (st st2 : Nat → Int32) (hn : n ≤ 72) (hz : ∀ p, n ≤ p → p < 72 → pa p = 0) : xUnl pa st pa st2 = nI (dfn pa st st2 n) := by
  have h := unl_dfn pa st st2 72 0 (by omega)
  have e := dfn_tail (pa := pa) (st := st) (st2 := st2) (m := n) (72 - n) (fun p h1 h2 => hz p h1 (by omega))
  rw [show n + (72 - n) = 72 by omega] at e
  rw [show (0 : Nat) + 72 = 72 from rfl, e] at h
  exact h
section LP
variable {cN rN : Nat} {pa pe pd st bn hc hm : Nat → Int32}
/-- how many toggles a marble would turn over -/
def wt (cN rN : Nat) (pa pe st : Nat → Int32) (j : Nat) : Nat := dfn pa (xFall pa pe st (nI cN) (nI j) (nI rN)).2 st (rN * cN)
theorem wt_eq (h9 : cN ≤ 9) (h8 : rN ≤ 8) (hz : ∀ p, rN * cN ≤ p → p < 72 → pa p = 0) (j : Nat) : xWTurn pa pe st (nI cN) (nI rN) (nI j) = nI (wt cN rN pa pe st j) := unl_all _ _ (pl_72 h8 h9) hz
theorem wt_le (h9 : cN ≤ 9) (h8 : rN ≤ 8) (j : Nat) : wt cN rN pa pe st j ≤ tg pa (rN * cN) ∧ wt cN rN pa pe st j ≤ 72 := by
  have h1 := dfn_le pa (xFall pa pe st (nI cN) (nI j) (nI rN)).2 st (rN * cN)
  have h2 := tg_le pa (rN * cN)
  have h3 := pl_72 h8 h9
  exact ⟨h1, by unfold wt; omega⟩
theorem best_ok (h9 : cN ≤ 9) (h8 : rN ≤ 8) (hz : ∀ p, rN * cN ≤ p → p < 72 → pa p = 0) : ∀ (n k be M : Nat), k + n = cN → be ≤ k → M ≤ 72 → (∀ c, c < k → wt cN rN pa pe st c ≤ M) → ((M = 0 ∧ be = 0) ∨ (be < k ∧ M = wt cN rN pa pe st be)) → (∀ c, c < be → wt cN rN pa pe st c < M) →
    ∃ b B, xBestL pa pe st (nI cN) (nI rN) n k (nI be) (nI M) = nI b ∧ (∀ c, c < cN → wt cN rN pa pe st c ≤ B) ∧ ((B = 0 ∧ b = 0) ∨ (b < cN ∧ B = wt cN rN pa pe st b)) ∧ (∀ c, c < b → wt cN rN pa pe st c < B) := by
  intro n
  induction n with
  | zero =>
    intro k be M hk _ _ h1 h2 h3
    exact ⟨be, M, rfl, fun c hc => h1 c (by omega), h2.imp id (fun z => ⟨by omega, z.2⟩), h3⟩
  | succ n ih =>
    intro k be M hk hbk hM h1 h2 h3
    rw [xBestL, wt_eq h9 h8 hz]
    have hw := (wt_le (pa := pa) (pe := pe) (st := st) h9 h8 k).2
    by_cases c : wt cN rN pa pe st k ≤ M
    · rw [if_pos (nI_le c (by omega))]
      refine ih (k + 1) be M (by omega) (by omega) hM (fun c2 hc2 => ?_) (h2.imp id (fun z => ⟨by omega, z.2⟩)) h3
      by_cases e : c2 = k
      · rw [e]; exact c
      · exact h1 c2 (by omega)
    · rw [if_neg (nI_ge (by omega) (by omega))]
      refine ih (k + 1) k _ (by omega) (by omega) hw (fun c2 hc2 => ?_) (Or.inr ⟨by omega, rfl⟩) (fun c2 hc2 => ?_)
      · by_cases e : c2 = k
        · rw [e]; exact Nat.le_refl _
        · have := h1 c2 (by omega); omega
      · have := h1 c2 hc2; omega
theorem PI.best (h : PI cN rN pa pe pd st bn hc hm) : ∃ b, b < cN ∧ xBest pa pe st (nI cN) (nI rN) = nI b ∧ (∀ c, c < cN → wt cN rN pa pe st c ≤ wt cN rN pa pe st b) ∧ (∀ c, c < b → wt cN rN pa pe st c < wt cN rN pa pe st b) := by
  have h2 := h.c2
  have h9 := h.c9
  obtain ⟨b, B, e, q1, q2, q3⟩ := best_ok (pa := pa) (pe := pe) (st := st) h.c9 h.r8 h.z cN 0 0 0 (by omega) (by omega) (by omega) (fun c hc => absurd hc (Nat.not_lt_zero _)) (Or.inl ⟨rfl, rfl⟩) (fun c hc => absurd hc (Nat.not_lt_zero _))
  have e2 : xBest pa pe st (nI cN) (nI rN) = nI b := by
    unfold xBest
    rw [nI_clamp (show cN < 2 ^ 31 by omega)]
    exact e
  rcases q2 with ⟨rfl, rfl⟩ | ⟨q4, rfl⟩
  · refine ⟨0, by omega, e2, fun c hc => ?_, fun c hc => absurd hc (Nat.not_lt_zero _)⟩
    have := q1 c hc; omega
  · exact ⟨b, q4, e2, q1, q3⟩
/-- a row's number -/
theorem num_ok (h9 : cN ≤ 9) (h8 : rN ≤ 8) {k : Nat} (hk : k < rN) : ∀ (n j h t : Nat), j + n = cN → t < 2 ^ h → h ≤ j → ∃ m, xNumL pa st (nI cN) (nI k) n j (nI t) (nI (2 ^ h)) = nI m ∧ m < 2 ^ (h + (tg pa (k * cN + cN) - tg pa (k * cN + j))) := by
  intro n
  induction n with
  | zero =>
    intro j h t hj ht _
    refine ⟨t, rfl, ?_⟩
    rw [show cN = j by omega, Nat.sub_self, Nat.add_zero]
    exact ht
  | succ n ih =>
    intro j h t hj ht hhj
    have hjc : j < cN := by omega
    by_cases h3 : pa (k * cN + j) = 3
    · have e1 : tg pa (k * cN + (j + 1)) = tg pa (k * cN + j) + 1 := tg_t h3
      have mono : tg pa (k * cN + (j + 1)) ≤ tg pa (k * cN + cN) := by
        have : ∀ d i : Nat, tg pa i ≤ tg pa (i + d) := by
          intro d
          induction d with
          | zero => intro i; exact Nat.le_refl _
          | succ d ihd =>
            intro i
            have h5 := ihd i
            have : tg pa (i + d) ≤ tg pa (i + d + 1) := by rw [tg]; omega
            exact Nat.le_trans h5 this
        have h6 := this (cN - (j + 1)) (k * cN + (j + 1))
        rw [show k * cN + (j + 1) + (cN - (j + 1)) = k * cN + cN by omega] at h6
        exact h6
      have e2 : h + 1 + (tg pa (k * cN + cN) - tg pa (k * cN + (j + 1))) = h + (tg pa (k * cN + cN) - tg pa (k * cN + j)) := by omega
      by_cases hs : st (k * cN + j) = 1
      · rw [num_t h9 h8 hk hjc h3 hs, nI_add]
        obtain ⟨m, m1, m2⟩ := ih (j + 1) (h + 1) (t + 2 ^ h) (by omega) (by rw [Nat.pow_succ]; omega) (by omega)
        exact ⟨m, m1, by rw [← e2]; exact m2⟩
      · rw [num_f h9 h8 hk hjc h3 hs]
        obtain ⟨m, m1, m2⟩ := ih (j + 1) (h + 1) t (by omega) (by rw [Nat.pow_succ]; omega) (by omega)
        exact ⟨m, m1, by rw [← e2]; exact m2⟩
    · rw [num_n h9 h8 hk hjc h3]
      obtain ⟨m, m1, m2⟩ := ih (j + 1) h t (by omega) ht (by omega)
      have e1 : tg pa (k * cN + (j + 1)) = tg pa (k * cN + j) := tg_f h3
      exact ⟨m, m1, by rw [← e1]; exact m2⟩
theorem PI.num (h : PI cN rN pa pe pd st bn hc hm) {k hh : Nat} (hk : k < rN) (he : tg pa (k * cN) + hh = tg pa (k * cN + cN)) : ∃ m, xNum pa st (nI cN) (nI k) = nI m ∧ m < 2 ^ hh ∧ hh ≤ 9 := by
  have h9 := h.c9
  obtain ⟨m, m1, m2⟩ := num_ok (pa := pa) (st := st) h.c9 h.r8 hk cN 0 0 0 (by omega) (by decide) (by omega)
  have hle : hh ≤ 9 := by
    have : ∀ d i : Nat, tg pa (i + d) ≤ tg pa i + d := by
      intro d
      induction d with
      | zero => intro i; exact Nat.le_refl _
      | succ d ihd =>
        intro i
        have h5 := ihd i
        by_cases q : pa (i + d) = 3
        · have e9 : tg pa (i + (d + 1)) = tg pa (i + d) + 1 := tg_t q
          omega
        · have e9 : tg pa (i + (d + 1)) = tg pa (i + d) := tg_f q
          omega
    have := this cN (k * cN)
    omega
  refine ⟨m, ?_, ?_, hle⟩
  · unfold xNum
    rw [nI_clamp (show cN < 2 ^ 31 by omega)]
    exact m1
  · rw [Nat.add_zero, Nat.zero_add, show tg pa (k * cN + cN) - tg pa (k * cN) = hh by omega] at m2
    exact m2
/-- one row more of a fall -/
theorem fall_more (h2 : 1 ≤ cN) (h9 : cN ≤ 9) (h8 : rN ≤ 8) : ∀ (n k j : Nat) (came : Int32) (st : Nat → Int32), k + n + 1 ≤ rN → j < cN → W3 came → OKs (rN * cN) pa pe pd st →
    ((xFallL pa pe (nI cN) n k (nI j) came st).1 = -1 ∧ (xFallL pa pe (nI cN) (n + 1) k (nI j) came st).1 = -1) ∨ (∃ j1, j1 < cN ∧ (xFallL pa pe (nI cN) n k (nI j) came st).1 = nI j1 ∧ (((xFallL pa pe (nI cN) (n + 1) k (nI j) came st).1 = -1 ∧ (j1 = 0 ∨ j1 = cN - 1)) ∨ ∃ j2, j2 < cN ∧ (xFallL pa pe (nI cN) (n + 1) k (nI j) came st).1 = nI j2 ∧ j2 ≤ j1 + 1 ∧ j1 ≤ j2 + 1)) := by
  intro n
  induction n with
  | zero =>
    intro k j came st hk hj hw hO
    refine Or.inr ⟨j, hj, rfl, ?_⟩
    have step : ∃ w st2, xWay pa pe st (nI k * nI cN + nI j) came = (w, st2) ∧ W3 w := by
      rcases way_cases h9 h8 hO (show k < rN by omega) hj came with ⟨_, e⟩ | ⟨_, e⟩ | ⟨_, e⟩ | ⟨_, e⟩ | ⟨_, _, e, o⟩ | ⟨_, _, e, o⟩ | ⟨_, q, x, _, _, _, _, e, o⟩ | ⟨_, q, x, _, _, _, _, e, o⟩
      · exact ⟨_, _, e, Or.inr (Or.inl rfl)⟩
      · exact ⟨_, _, e, Or.inl rfl⟩
      · exact ⟨_, _, e, Or.inr (Or.inr rfl)⟩
      · exact ⟨_, _, e, hw⟩
      · exact ⟨_, _, e, Or.inl rfl⟩
      · exact ⟨_, _, e, Or.inr (Or.inr rfl)⟩
      · exact ⟨_, _, e, Or.inl rfl⟩
      · exact ⟨_, _, e, Or.inr (Or.inr rfl)⟩
    obtain ⟨w, st2, e, hw2⟩ := step
    rw [xFallL, e]
    dsimp only
    by_cases c1 : nI j + w < 0
    · rw [tl_neg c1, if_neg (by decide)]
      refine Or.inl ⟨rfl, Or.inl ?_⟩
      rcases Nat.eq_zero_or_pos j with z | z
      · exact z
      · exfalso
        obtain ⟨i, rfl⟩ : ∃ i, j = i + 1 := ⟨j - 1, by omega⟩
        rcases hw2 with rfl | rfl | rfl
        · rw [← Int32.sub_eq_add_neg, nI_pred] at c1
          exact nI_pos (by omega) c1
        · rw [Int32.add_zero] at c1
          exact nI_pos (by omega) c1
        · rw [nI_1] at c1
          exact nI_pos (by omega) c1
    · by_cases c2 : nI j + w = nI cN
      · rw [tl_eq c1 c2, if_neg (by decide)]
        refine Or.inl ⟨rfl, Or.inr ?_⟩
        rcases hw2 with rfl | rfl | rfl
        · exfalso
          rcases Nat.eq_zero_or_pos j with z | z
          · subst z
            exact c1 (by decide)
          · obtain ⟨i, rfl⟩ : ∃ i, j = i + 1 := ⟨j - 1, by omega⟩
            rw [← Int32.sub_eq_add_neg, nI_pred] at c2
            have := nI_inj (by omega) (by omega) c2
            omega
        · rw [Int32.add_zero] at c2
          have := nI_inj (by omega) (by omega) c2
          omega
        · rw [nI_1] at c2
          have := nI_inj (by omega) (by omega) c2
          omega
      · obtain ⟨j2, h3, h4, h5, h6, h7⟩ := tl_ok h9 hj hw2 c1 c2
        rw [h5, if_pos rfl, h4]
        exact Or.inr ⟨j2, h3, rfl, h6, h7⟩
  | succ n ih =>
    intro k j came st hk hj hw hO
    have step : ∃ w st2, xWay pa pe st (nI k * nI cN + nI j) came = (w, st2) ∧ W3 w ∧ OKs (rN * cN) pa pe pd st2 := by
      rcases way_cases h9 h8 hO (show k < rN by omega) hj came with ⟨_, e⟩ | ⟨_, e⟩ | ⟨_, e⟩ | ⟨_, e⟩ | ⟨_, _, e, o⟩ | ⟨_, _, e, o⟩ | ⟨_, q, x, _, _, _, _, e, o⟩ | ⟨_, q, x, _, _, _, _, e, o⟩
      · exact ⟨_, _, e, Or.inr (Or.inl rfl), hO⟩
      · exact ⟨_, _, e, Or.inl rfl, hO⟩
      · exact ⟨_, _, e, Or.inr (Or.inr rfl), hO⟩
      · exact ⟨_, _, e, hw, hO⟩
      · exact ⟨_, _, e, Or.inl rfl, hO.set o⟩
      · exact ⟨_, _, e, Or.inr (Or.inr rfl), hO.set o⟩
      · exact ⟨_, _, e, Or.inl rfl, hO.set o⟩
      · exact ⟨_, _, e, Or.inr (Or.inr rfl), hO.set o⟩
    obtain ⟨w, st2, e, hw2, hO2⟩ := step
    have e1 : ∀ i, xFallL pa pe (nI cN) (i + 1) k (nI j) came st = if xhas (nI cN) (nI j + w) = true then xFallL pa pe (nI cN) i (k + 1) (nI j + w) w st2 else (-1, st2) := fun i => by
      rw [xFallL, e]
    rw [e1 n, e1 (n + 1)]
    by_cases c1 : nI j + w < 0
    · rw [tl_neg c1, if_neg (by decide), if_neg (by decide)]
      exact Or.inl ⟨rfl, rfl⟩
    · by_cases c2 : nI j + w = nI cN
      · rw [tl_eq c1 c2, if_neg (by decide), if_neg (by decide)]
        exact Or.inl ⟨rfl, rfl⟩
      · obtain ⟨j2, h3, h4, h5, h6, h7⟩ := tl_ok h9 hj hw2 c1 c2
        rw [h5, if_pos rfl, if_pos rfl, h4]
        exact ih (k + 1) j2 w st2 (by omega) h3 hw2 hO2
/-- where a marble is in a row -/
def ft (cN : Nat) (pa pe st : Nat → Int32) (j r : Nat) : Int32 := (xFall pa pe st (nI cN) (nI j) (nI r)).1
theorem ft_0 (j : Nat) : ft cN pa pe st j 0 = nI j := rfl
theorem PI.fts (h : PI cN rN pa pe pd st bn hc hm) {j r : Nat} (hj : j < cN) (hr : r < rN) : (ft cN pa pe st j r = -1 ∧ ft cN pa pe st j (r + 1) = -1) ∨ (∃ j1, j1 < cN ∧ ft cN pa pe st j r = nI j1 ∧ ((ft cN pa pe st j (r + 1) = -1 ∧ (j1 = 0 ∨ j1 = cN - 1)) ∨ ∃ j2, j2 < cN ∧ ft cN pa pe st j (r + 1) = nI j2 ∧ j2 ≤ j1 + 1 ∧ j1 ≤ j2 + 1)) := by
  have h2 := h.c2
  have h8 := h.r8
  unfold ft xFall
  rw [nI_clamp (show r < 2 ^ 31 by omega), nI_clamp (show r + 1 < 2 ^ 31 by omega)]
  exact fall_more (by omega) h.c9 h8 r 0 j 0 st (by omega) hj (Or.inr (Or.inl rfl)) h.ok
theorem asb_ok {pa pe st0 : Nat → Int32} {C R col : Int32} : ∀ (n k : Nat) (sv : Nat → Int32), xAsbL pa pe st0 C R col n k sv = -1 ∨ ∃ i, k ≤ i ∧ i < k + n ∧ xAsbL pa pe st0 C R col n k sv = nI i := by
  intro n
  induction n with
  | zero => intro k sv; exact Or.inl rfl
  | succ n ih =>
    intro k sv
    rw [xAsbL]
    by_cases c : xSame (xFall pa pe sv C col R).2 st0 = true
    · rw [if_pos c]; exact Or.inr ⟨k, by omega, by omega, rfl⟩
    · rw [if_neg c]
      rcases ih (k + 1) (xFall pa pe sv C col R).2 with e | ⟨i, h1, h2, e⟩
      · exact Or.inl e
      · exact Or.inr ⟨i, by omega, by omega, e⟩
theorem xSameL_e (st st2 : Nat → Int32) : ∀ (n k : Nat), k + n ≤ 72 → (xSameL st st2 n k = true ↔ ∀ p, k ≤ p → p < k + n → st p = st2 p) := by
  intro n
  induction n with
  | zero => intro k _; exact ⟨fun _ p h1 h2 => absurd h2 (by omega), fun _ => rfl⟩
  | succ n ih =>
    intro k hk
    rw [xSameL, xcl_n (by omega) (by decide), xcl_n (by omega) (by decide)]
    by_cases e : st k = st2 k
    · rw [if_pos e, ih (k + 1) (by omega)]
      refine ⟨fun h p h1 h2 => ?_, fun h p h1 h2 => h p (by omega) (by omega)⟩
      by_cases c : p = k
      · rw [c, e]
      · exact h p (by omega) (by omega)
    · rw [if_neg e]
      exact ⟨fun h => absurd h (by decide), fun h => absurd (h k (by omega) (by omega)) e⟩
theorem same_eq {n : Nat} {st st2 : Nat → Int32} (hn : n ≤ 72) (hoff : ∀ p, n ≤ p → st p = st2 p) : xSame st st2 = sSame n st st2 := by
  have e : (xSame st st2 = true) ↔ (sSame n st st2 = true) := by
    unfold xSame sSame
    rw [xSameL_e _ _ _ _ (by omega), decide_eq_true_eq]
    refine ⟨fun h p hp => h p (by omega) (by omega), fun h p _ hp => ?_⟩
    rcases Nat.lt_or_ge p n with z | z
    · exact h p z
    · exact hoff p z
  cases a : xSame st st2 <;> cases b : sSame n st st2 <;> simp_all
end LP
