/-! ===== a fall, alike ===== -/
/-- how many places of a run of places two rows of answers differ in -/
def cL (g h : Nat → Bool) : Nat → Nat → Int32 → Int32
  | 0, _, t => t
  | n + 1, k, t => cL g h n (k + 1) (if bi (g k) = bi (h k) then t else t + 1)
theorem xUnlL_c (pa st pa2 st2 : Nat → Int32) : ∀ (n k : Nat) (t : Int32), xUnlL pa st pa2 st2 n k t = cL (fun k => xRight pa st (nI k)) (fun k => xRight pa2 st2 (nI k)) n k t := by
  intro n
  induction n with
  | zero => intro k t; rfl
  | succ n ih => intro k t; rw [xUnlL, cL, ih]
theorem cL_t (g h : Nat → Bool) : ∀ (n k : Nat) (t : Int32), cL g h n k (t + 1) = cL g h n k t + 1 := by
  intro n
  induction n with
  | zero => intro k t; rfl
  | succ n ih =>
    intro k t
    rw [cL, cL]
    by_cases e : bi (g k) = bi (h k)
    · rw [if_pos e, if_pos e, ih]
    · rw [if_neg e, if_neg e, ih]
theorem cL_e (g h h2 : Nat → Bool) : ∀ (n k : Nat) (t : Int32), (∀ i, k ≤ i → i < k + n → h i = h2 i) → cL g h n k t = cL g h2 n k t := by
  intro n
  induction n with
  | zero => intro k t _; rfl
  | succ n ih =>
    intro k t he
    rw [cL, cL, he k (by omega) (by omega)]
    exact ih _ _ fun i h1 h2 => he i (by omega) (by omega)
theorem cL_1 (g h h2 : Nat → Bool) {p N : Nat} (hn : ¬ g p = h p) (hy : g p = h2 p) (ho : ∀ i, i < N → i ≠ p → h i = h2 i) : ∀ (n k : Nat) (t : Int32), k ≤ p → p < k + n → k + n ≤ N → cL g h n k t = cL g h2 n k t + 1 := by
  intro n
  induction n with
  | zero => intro k t q1 q2 _; omega
  | succ n ih =>
    intro k t q1 q2 q3
    rw [cL, cL]
    by_cases e : k = p
    · subst e
      have a : ¬ bi (g k) = bi (h k) := by revert hn; cases g k <;> cases h k <;> decide
      have b : bi (g k) = bi (h2 k) := by rw [hy]
      rw [if_neg a, if_pos b, cL_t, cL_e g h h2 _ _ _ fun i i1 i2 => ho i (by omega) (by omega)]
    · rw [ho k (by omega) e]
      exact ih _ _ (by omega) (by omega) (by omega)
theorem cL_0 (g : Nat → Bool) : ∀ (n k : Nat) (t : Int32), cL g g n k t = t := by
  intro n
  induction n with
  | zero => intro k t; rfl
  | succ n ih => intro k t; rw [cL, if_pos rfl, ih]
theorem xRight_n (pa st : Nat → Int32) {k : Nat} (h : k < 72) : xRight pa st (nI k) = if pa k = 3 then (if st k = 1 then true else false) else false := by
  rw [xRight, xcl_n h (by decide), xcl_n h (by decide)]
/-- one place changed, a place that the fall's end shows as changed -/
theorem xUnl_1 {pa f st : Nat → Int32} {p : Nat} {v : Int32} (hp : p < 72) (hf : f p = v) (h3 : pa p = 3) (hv : (v = 1 ∧ st p = 0) ∨ (v = 0 ∧ st p = 1)) : xUnl pa f pa st = xUnl pa f pa (upd st p v) + 1 := by
  unfold xUnl
  rw [xUnlL_c, xUnlL_c]
  refine cL_1 _ _ _ (p := p) (N := 72) ?_ ?_ ?_ 72 0 0 (by omega) (by omega) (by omega)
  · show ¬ xRight pa f (nI p) = xRight pa st (nI p)
    rw [xRight_n _ _ hp, xRight_n _ _ hp, hf, if_pos h3]
    rcases hv with ⟨rfl, e⟩ | ⟨rfl, e⟩ <;> rw [e, if_pos h3] <;> decide
  · show xRight pa f (nI p) = xRight pa (upd st p v) (nI p)
    rw [xRight_n _ _ hp, xRight_n _ _ hp, hf, pk_us]
  · intro i hi hn
    show xRight pa st (nI i) = xRight pa (upd st p v) (nI i)
    rw [xRight_n _ _ hi, xRight_n _ _ hi, pk_un hn]
theorem xUnl_0 {pa f st : Nat → Int32} {p : Nat} {v : Int32} (hp : p < 72) (h3 : ¬ pa p = 3) : xUnl pa f pa st = xUnl pa f pa (upd st p v) := by
  unfold xUnl
  rw [xUnlL_c, xUnlL_c]
  refine cL_e _ _ _ 72 0 0 ?_
  intro i _ hi
  show xRight pa st (nI i) = xRight pa (upd st p v) (nI i)
  rw [xRight_n _ _ (by omega), xRight_n _ _ (by omega)]
  by_cases e : i = p
  · subst e; rw [if_neg h3, if_neg h3]
  · rw [pk_un e]

theorem xUnl_s (pa st : Nat → Int32) : xUnl pa st pa st = 0 := by
  unfold xUnl
  rw [xUnlL_c, cL_0]
/-- what a fall leaves as it was: the places off the board -/
def FR (cN rN : Nat) (st nw st2 nw2 : Nat → Int32) : Prop := (∀ p, rN * cN ≤ p → st2 p = st p) ∧ ∀ q, q < 72 → ¬ (q / 9 < rN ∧ q % 9 < cN) → nw2 q = nw q
theorem FR.refl (cN rN : Nat) (st nw : Nat → Int32) : FR cN rN st nw st nw := ⟨fun _ _ => rfl, fun _ _ _ => rfl⟩
theorem FR.trans {cN rN : Nat} {st nw st2 nw2 st3 nw3 : Nat → Int32} (h : FR cN rN st nw st2 nw2) (h2 : FR cN rN st2 nw2 st3 nw3) : FR cN rN st nw st3 nw3 := ⟨fun p hp => (h2.1 p hp).trans (h.1 p hp), fun q h1 hq => (h2.2 q h1 hq).trans (h.2 q h1 hq)⟩
theorem FR.step {cN rN k j : Nat} (h9 : cN ≤ 9) (hk : k < rN) (hj : j < cN) (st nw : Nat → Int32) (v w : Int32) : FR cN rN st nw (upd st (k * cN + j) v) (upd nw (9 * k + j) w) := by
  have := pl_lt hk hj
  refine ⟨fun p hp => pk_un (by omega), fun q _ hn => pk_un ?_⟩
  intro e
  subst e
  exact hn ⟨by omega, by omega⟩
/-- where a fall puts its marble, among the tallies behind the board -/
def tal (nw : Nat → Int32) (e : Int32) : Nat → Int32 := if e = -1 then upd nw 83 (nw 83 + 1) else upd nw (72 + e).toNatClampNeg (nw (72 + e).toNatClampNeg + 1)
theorem fallSim {cN rN : Nat} {pa pe pt pd : Nat → Int32} (h1 : 1 ≤ cN) (h9 : cN ≤ 9) (h8 : rN ≤ 8) : ∀ (n k j : Nat) (came : Int32) (st nw : Nat → Int32) (tn : Int32) (wy : Nat → Int32), k + n = rN → j < cN → RS cN rN pa pe pt pd st nw →
    (xFallL pa pe (nI cN) n k (nI j) came st).1 = (mFallL pt pd cN n k (nI j) came nw tn wy).1 ∧
    ((xFallL pa pe (nI cN) n k (nI j) came st).1 = -1 ∨ ∃ i, i < cN ∧ (xFallL pa pe (nI cN) n k (nI j) came st).1 = nI i) ∧
    (∃ nw1, (mFallL pt pd cN n k (nI j) came nw tn wy).2.1 = tal nw1 (xFallL pa pe (nI cN) n k (nI j) came st).1 ∧ (∀ q, 72 ≤ q → nw1 q = nw q) ∧ RS cN rN pa pe pt pd (xFallL pa pe (nI cN) n k (nI j) came st).2 nw1 ∧ FR cN rN st nw (xFallL pa pe (nI cN) n k (nI j) came st).2 nw1) ∧
    (∀ p, p < k * cN → (xFallL pa pe (nI cN) n k (nI j) came st).2 p = st p) ∧
    (mFallL pt pd cN n k (nI j) came nw tn wy).2.2.1 = tn + xUnl pa (xFallL pa pe (nI cN) n k (nI j) came st).2 pa st ∧
    ((∀ i, k ≤ i → wy i = -1) → (∀ i, i < k → (mFallL pt pd cN n k (nI j) came nw tn wy).2.2.2 i = wy i) ∧ ∀ i, i < n → (mFallL pt pd cN n k (nI j) came nw tn wy).2.2.2 (k + i) = (xFallL pa pe (nI cN) i k (nI j) came st).1) := by
  intro n
  induction n with
  | zero =>
    intro k j came st nw tn wy hkn hj hR
    have hne : ¬ nI j = -1 := by
      intro e
      have := congrArg Int32.toInt e
      rw [nI_toInt (by omega)] at this
      have e2 : (-1 : Int32).toInt = -1 := by decide
      omega
    refine ⟨rfl, Or.inr ⟨j, hj, rfl⟩, ⟨nw, ?_, fun _ _ => rfl, hR, FR.refl _ _ _ _⟩, fun _ _ => rfl, ?_, fun _ => ⟨fun _ _ => rfl, fun i hi => absurd hi (by omega)⟩⟩
    · show _ = tal nw (nI j)
      rw [tal, if_neg hne]
      rfl
    · show tn = tn + xUnl pa st pa st
      rw [xUnl_s, Int32.add_zero]
  | succ n ih =>
    intro k j came st nw tn wy hkn hj hR
    have hk : k < rN := by omega
    obtain ⟨s1, v, s2, s3, s4, s5⟩ := stepSim h9 h8 hR hk hj came tn
    have hlt := pl_lt hk hj
    have h72 := pl_72 h8 h9
    obtain ⟨w, hw⟩ : ∃ w, (xWay pa pe st (nI k * nI cN + nI j) came).1 = w := ⟨_, rfl⟩
    obtain ⟨tn1, htn⟩ : ∃ t, (mGo pt pd nw tn (9 * k + j) came).2.2 = t := ⟨_, rfl⟩
    have hw2 : (mGo pt pd nw tn (9 * k + j) came).1 = w := by rw [← s1, hw]
    have eX : ∀ i, xFallL pa pe (nI cN) (i + 1) k (nI j) came st = if xhas (nI cN) (nI j + w) = true then xFallL pa pe (nI cN) i (k + 1) (nI j + w) w (upd st (k * cN + j) v) else (-1, upd st (k * cN + j) v) := by
      intro i
      rw [xFallL, hw, s2]
    have eM : mFallL pt pd cN (n + 1) k (nI j) came nw tn wy = if mFrom (nI j + w) 0 (nI cN - 1) = true then mFallL pt pd cN n (k + 1) (nI j + w) w (upd nw (9 * k + j) v) tn1 (upd wy k (nI j)) else (-1, upd (upd nw (9 * k + j) v) 83 ((upd nw (9 * k + j) v) 83 + 1), tn1, upd wy k (nI j)) := by
      rw [mFallL, ix_mc (by omega) (by omega), hw2, s3, htn]
    have hxm : xhas (nI cN) (nI j + w) = mFrom (nI j + w) 0 (nI cN - 1) := xhas_m h1 (by omega)
    have hR2 := RS.upd2 h9 hR hj (k := k) s4
    have hF2 : FR cN rN st nw (upd st (k * cN + j) v) (upd nw (9 * k + j) v) := FR.step h9 hk hj _ _ _ _
    have hU : ∀ f : Nat → Int32, f (k * cN + j) = v → tn1 + xUnl pa f pa (upd st (k * cN + j) v) = tn + xUnl pa f pa st := by
      intro f hf
      obtain ⟨p1, p2, _⟩ := hR k j hk hj
      rcases s5 with ⟨q1, q2, q3⟩ | ⟨q1, q2⟩
      · rw [htn] at q2
        rw [xUnl_1 (st := st) (p := k * cN + j) (v := v) (by omega) hf (by rw [p1, q1]) (by rw [p2]; exact q3), q2, Int32.add_assoc, Int32.add_comm 1]
      · rw [htn] at q2
        rw [q2, xUnl_0 (st := st) (p := k * cN + j) (v := v) (by omega) (by rw [p1]; exact q1)]
    have hmul : k * cN + cN = (k + 1) * cN := (Nat.succ_mul k cN).symm
    by_cases hh : mFrom (nI j + w) 0 (nI cN - 1) = true
    · have hx : xhas (nI cN) (nI j + w) = true := by rw [hxm, hh]
      obtain ⟨j2, hj2, e2⟩ := mFrom_n hh h1 (by omega)
      rw [eX n, eM, if_pos hx, if_pos hh, e2]
      obtain ⟨r1, r2, ⟨nw1, r3, r4, r5, r6⟩, r7, r8, r9⟩ := ih (k + 1) j2 w (upd st (k * cN + j) v) (upd nw (9 * k + j) v) tn1 (upd wy k (nI j)) (by omega) hj2 hR2
      refine ⟨r1, r2, ⟨nw1, r3, fun q hq => by rw [r4 q hq, pk_un (by omega)], r5, hF2.trans r6⟩, fun p hp => by rw [r7 p (by omega), pk_un (by omega)], ?_, ?_⟩
      · rw [r8]
        exact hU _ (by rw [r7 _ (by omega), pk_us])
      · intro hwy
        obtain ⟨t1, t2⟩ := r9 fun i hi => by rw [pk_un (by omega)]; exact hwy i (by omega)
        refine ⟨fun i hi => by rw [t1 i (by omega), pk_un (by omega)], ?_⟩
        intro i hi
        rcases i with _ | i
        · show _ = nI j
          exact (t1 k (by omega)).trans (pk_us)
        · rw [eX i, if_pos hx, e2, ← t2 i (by omega)]
          exact congrArg _ (show k + (i + 1) = k + 1 + i by omega)
    · have hx : ¬ xhas (nI cN) (nI j + w) = true := by rw [hxm]; exact hh
      rw [eX n, eM, if_neg hx, if_neg hh]
      refine ⟨rfl, Or.inl rfl, ⟨upd nw (9 * k + j) v, ?_, fun q hq => pk_un (by omega), hR2, hF2⟩, fun p hp => pk_un (by omega), ?_, ?_⟩
      · show _ = tal _ (-1)
        rw [tal, if_pos rfl]
      · show tn1 = tn + xUnl pa (upd st (k * cN + j) v) pa st
        rw [← hU _ (pk_us), xUnl_s, Int32.add_zero]
      · intro hwy
        refine ⟨fun i hi => pk_un (by omega), ?_⟩
        intro i hi
        rcases i with _ | i
        · show upd wy k (nI j) (k + 0) = nI j
          exact pk_us
        · rw [eX i, if_neg hx]
          show upd wy k (nI j) (k + (i + 1)) = -1
          rw [pk_un (by omega)]
          exact hwy _ (by omega)
