/-! ===== a fall by hand, beside the class's ===== -/
def OK1 (p e d v : Int32) : Prop := (p = 0 ∨ p = 1 ∨ p = 2 ∨ p = 4) ∨ (p = 3 ∧ e = 2 ∧ (v = 0 ∨ v = 1)) ∨ (p = 5 ∧ ∃ q k : Nat, 2 ≤ q ∧ q ≤ 9 ∧ e = nI q ∧ d = nI q ∧ k < q ∧ v = nI k)
def OKs (n : Nat) (pa pe pd st : Nat → Int32) : Prop := ∀ p, p < n → OK1 (pa p) (pe p) (pd p) (st p)
theorem OKs.set {n : Nat} {pa pe pd st : Nat → Int32} (h : OKs n pa pe pd st) {k : Nat} {v : Int32} (hv : OK1 (pa k) (pe k) (pd k) v) : OKs n pa pe pd (upd st k v) := by
  intro p hp
  by_cases e : p = k
  · subst e; rw [pk_us]; exact hv
  · rw [pk_un e]; exact h p hp
theorem OKs.put {n : Nat} {pa pe pd st : Nat → Int32} (h : OKs n pa pe pd st) {k : Nat} {a b d v : Int32} (hv : OK1 a b d v) : OKs n (upd pa k a) (upd pe k b) (upd pd k d) (upd st k v) := by
  intro p hp
  by_cases e : p = k
  · subst e; rw [pk_us, pk_us, pk_us, pk_us]; exact hv
  · rw [pk_un e, pk_un e, pk_un e, pk_un e]; exact h p hp
theorem upd_upd (f : Nat → Int32) (k : Nat) (a b : Int32) : upd (upd f k a) k b = upd f k b := by
  funext j
  by_cases e : j = k
  · subst e; rw [pk_us, pk_us]
  · rw [pk_un e, pk_un e, pk_un e]
theorem upd_self (f : Nat → Int32) (k : Nat) : upd f k (f k) = f := by
  funext j
  unfold upd
  by_cases e : j = k
  · rw [if_pos e, e]
  · rw [if_neg e]
theorem pl_lt {cN rN r c : Nat} (hr : r < rN) (hc : c < cN) : r * cN + c < rN * cN := by
  have h := Nat.mul_le_mul_right cN (show r + 1 ≤ rN from hr)
  rw [Nat.succ_mul] at h
  omega
theorem pl_72 {cN rN : Nat} (h8 : rN ≤ 8) (h9 : cN ≤ 9) : rN * cN ≤ 72 := Nat.mul_le_mul h8 h9
theorem ix_x (k cN j : Nat) : nI k * nI cN + nI j = nI (k * cN + j) := by rw [pk_mul, nI_add]
theorem nI_neq {a b : Nat} (ha : a < 2 ^ 31) (hb : b < 2 ^ 31) (h : a ≠ b) : ¬ nI a = nI b := by
  intro e
  have := congrArg Int32.toInt e
  rw [nI_toInt ha, nI_toInt hb] at this
  omega
theorem nI_inj {a b : Nat} (ha : a < 2 ^ 31) (hb : b < 2 ^ 31) (h : nI a = nI b) : a = b := by
  rcases Nat.decEq a b with z | z
  · exact absurd h (nI_neq ha hb z)
  · exact z
def W3 (w : Int32) : Prop := w = -1 ∨ w = 0 ∨ w = 1
/-- what the class does at a place, by what stands there -/
theorem way_cases {cN rN : Nat} {pa pe pd st : Nat → Int32} (h9 : cN ≤ 9) (h8 : rN ≤ 8) (h : OKs (rN * cN) pa pe pd st) {k j : Nat} (hk : k < rN) (hj : j < cN) (came : Int32) :
    (pa (k * cN + j) = 0 ∧ xWay pa pe st (nI k * nI cN + nI j) came = (0, st)) ∨ (pa (k * cN + j) = 1 ∧ xWay pa pe st (nI k * nI cN + nI j) came = (-1, st)) ∨ (pa (k * cN + j) = 2 ∧ xWay pa pe st (nI k * nI cN + nI j) came = (1, st)) ∨ (pa (k * cN + j) = 4 ∧ xWay pa pe st (nI k * nI cN + nI j) came = (came, st)) ∨
    (pa (k * cN + j) = 3 ∧ st (k * cN + j) = 0 ∧ xWay pa pe st (nI k * nI cN + nI j) came = (-1, upd st (k * cN + j) 1) ∧ OK1 (pa (k * cN + j)) (pe (k * cN + j)) (pd (k * cN + j)) 1) ∨
    (pa (k * cN + j) = 3 ∧ st (k * cN + j) = 1 ∧ xWay pa pe st (nI k * nI cN + nI j) came = (1, upd st (k * cN + j) 0) ∧ OK1 (pa (k * cN + j)) (pe (k * cN + j)) (pd (k * cN + j)) 0) ∨
    (pa (k * cN + j) = 5 ∧ ∃ q x : Nat, pd (k * cN + j) = nI q ∧ st (k * cN + j) = nI x ∧ x + 1 < q ∧ q ≤ 9 ∧ xWay pa pe st (nI k * nI cN + nI j) came = (-1, upd st (k * cN + j) (nI (x + 1))) ∧ OK1 (pa (k * cN + j)) (pe (k * cN + j)) (pd (k * cN + j)) (nI (x + 1))) ∨
    (pa (k * cN + j) = 5 ∧ ∃ q x : Nat, pd (k * cN + j) = nI q ∧ st (k * cN + j) = nI x ∧ x + 1 = q ∧ q ≤ 9 ∧ xWay pa pe st (nI k * nI cN + nI j) came = (1, upd st (k * cN + j) 0) ∧ OK1 (pa (k * cN + j)) (pe (k * cN + j)) (pd (k * cN + j)) 0) := by
  have hlt := pl_lt hk hj
  have h72 := pl_72 h8 h9
  have hok := h _ hlt
  rw [ix_x]
  have ea : xcl 72 pa (nI (k * cN + j)) = pa (k * cN + j) := xcl_n (by omega) (by decide) _
  have es : xcl 72 st (nI (k * cN + j)) = st (k * cN + j) := xcl_n (by omega) (by decide) _
  have ee : xcl 72 pe (nI (k * cN + j)) = pe (k * cN + j) := xcl_n (by omega) (by decide) _
  have ew : ∀ v, xsc 72 st (nI (k * cN + j)) v = upd st (k * cN + j) v := fun v => xsc_n (by omega) (by decide) _ _
  rcases hok with (c | c | c | c) | ⟨c, c2, c3 | c3⟩ | ⟨c, q, x, q1, q2, q3, q4, q5, q6⟩
  · refine Or.inl ⟨c, ?_⟩
    simp only [xWay, ea, c]
    rfl
  · refine Or.inr (Or.inl ⟨c, ?_⟩)
    simp only [xWay, ea, c]
    rfl
  · refine Or.inr (Or.inr (Or.inl ⟨c, ?_⟩))
    simp only [xWay, ea, c]
    rfl
  · refine Or.inr (Or.inr (Or.inr (Or.inl ⟨c, ?_⟩)))
    simp only [xWay, ea, c]
    rfl
  · refine Or.inr (Or.inr (Or.inr (Or.inr (Or.inl ⟨c, c3, ?_, Or.inr (Or.inl ⟨c, c2, Or.inr rfl⟩)⟩))))
    simp only [xWay, ea, c, xWayS, es, ee, c2, c3, ew]
    rfl
  · refine Or.inr (Or.inr (Or.inr (Or.inr (Or.inr (Or.inl ⟨c, c3, ?_, Or.inr (Or.inl ⟨c, c2, Or.inl rfl⟩)⟩)))))
    simp only [xWay, ea, c, xWayS, es, ee, c2, c3, ew]
    rfl
  · by_cases hl : x + 1 < q
    · refine Or.inr (Or.inr (Or.inr (Or.inr (Or.inr (Or.inr (Or.inl ⟨c, q, x, q4, q6, hl, q2, ?_, Or.inr (Or.inr ⟨c, q, x + 1, q1, q2, q3, q4, hl, rfl⟩)⟩))))))
      simp only [xWay, ea, c, xWayS, es, ee, q3, q6, ew, nI_1]
      rw [if_neg (by decide), if_neg (by decide), if_neg (by decide), if_neg (by decide), if_pos trivial, if_pos (nI_lt hl (by omega))]
    · refine Or.inr (Or.inr (Or.inr (Or.inr (Or.inr (Or.inr (Or.inr ⟨c, q, x, q4, q6, by omega, q2, ?_, Or.inr (Or.inr ⟨c, q, 0, q1, q2, q3, q4, by omega, nI_0.symm⟩)⟩))))))
      simp only [xWay, ea, c, xWayS, es, ee, q3, q6, ew, nI_1]
      rw [if_neg (by decide), if_neg (by decide), if_neg (by decide), if_neg (by decide), if_pos trivial, if_neg (nI_nlt (by omega) (by omega))]
theorem tl_neg {cN : Nat} {x : Int32} (h : x < 0) : xhas (nI cN) x = false := by rw [xhas, if_pos h]
theorem tl_eq {cN : Nat} {x : Int32} (h : ¬ x < 0) (h2 : x = nI cN) : xhas (nI cN) x = false := by
  rw [xhas, if_neg h, if_pos (by rw [h2]; exact Int32.le_refl _)]
theorem tl_ok {cN j : Nat} {w : Int32} (h9 : cN ≤ 9) (hj : j < cN) (hw : W3 w) (h : ¬ nI j + w < 0) (h2 : ¬ nI j + w = nI cN) : ∃ j2, j2 < cN ∧ nI j + w = nI j2 ∧ xhas (nI cN) (nI j + w) = true ∧ j2 ≤ j + 1 ∧ j ≤ j2 + 1 := by
  have key : ∃ j2, j2 < cN ∧ nI j + w = nI j2 ∧ j2 ≤ j + 1 ∧ j ≤ j2 + 1 := by
    rcases hw with rfl | rfl | rfl
    · rcases Nat.eq_zero_or_pos j with z | z
      · subst z
        exact absurd (by decide) h
      · obtain ⟨i, rfl⟩ : ∃ i, j = i + 1 := ⟨j - 1, by omega⟩
        refine ⟨i, by omega, ?_, by omega, by omega⟩
        rw [show (-1 : Int32) = -1 from rfl, ← Int32.sub_eq_add_neg]
        exact nI_pred i
    · exact ⟨j, hj, by rw [Int32.add_zero], by omega, by omega⟩
    · rw [nI_1] at h2 ⊢
      refine ⟨j + 1, ?_, rfl, by omega, by omega⟩
      rcases Nat.lt_or_ge (j + 1) cN with z | z
      · exact z
      · exact absurd (by rw [show j + 1 = cN by omega]) h2
  obtain ⟨j2, h3, h4, h5, h6⟩ := key
  refine ⟨j2, h3, h4, ?_, h5, h6⟩
  rw [h4, xhas, if_neg (nI_pos (by omega)), if_neg (nI_ge h3 (by omega))]
/-- a fall's end: where, what stands as it stood, and that all is well behind it -/
theorem fall_ok {cN rN : Nat} {pa pe pd : Nat → Int32} (h9 : cN ≤ 9) (h8 : rN ≤ 8) : ∀ (n k j : Nat) (came : Int32) (st : Nat → Int32), k + n ≤ rN → j < cN → W3 came → OKs (rN * cN) pa pe pd st →
    ((xFallL pa pe (nI cN) n k (nI j) came st).1 = -1 ∨ ∃ i, i < cN ∧ (xFallL pa pe (nI cN) n k (nI j) came st).1 = nI i) ∧ OKs (rN * cN) pa pe pd (xFallL pa pe (nI cN) n k (nI j) came st).2 ∧ (∀ p, rN * cN ≤ p → (xFallL pa pe (nI cN) n k (nI j) came st).2 p = st p) := by
  intro n
  induction n with
  | zero => intro k j came st _ hj _ hO; exact ⟨Or.inr ⟨j, hj, rfl⟩, hO, fun _ _ => rfl⟩
  | succ n ih =>
    intro k j came st hk hj hw hO
    have hlt := pl_lt (show k < rN by omega) hj
    have step : ∃ w st2, xWay pa pe st (nI k * nI cN + nI j) came = (w, st2) ∧ W3 w ∧ OKs (rN * cN) pa pe pd st2 ∧ ∀ p, rN * cN ≤ p → st2 p = st p := by
      rcases way_cases h9 h8 hO (show k < rN by omega) hj came with ⟨_, e⟩ | ⟨_, e⟩ | ⟨_, e⟩ | ⟨_, e⟩ | ⟨_, _, e, o⟩ | ⟨_, _, e, o⟩ | ⟨_, q, x, _, _, _, _, e, o⟩ | ⟨_, q, x, _, _, _, _, e, o⟩
      · exact ⟨_, _, e, Or.inr (Or.inl rfl), hO, fun _ _ => rfl⟩
      · exact ⟨_, _, e, Or.inl rfl, hO, fun _ _ => rfl⟩
      · exact ⟨_, _, e, Or.inr (Or.inr rfl), hO, fun _ _ => rfl⟩
      · exact ⟨_, _, e, hw, hO, fun _ _ => rfl⟩
      · exact ⟨_, _, e, Or.inl rfl, hO.set o, fun p hp => pk_un (by omega)⟩
      · exact ⟨_, _, e, Or.inr (Or.inr rfl), hO.set o, fun p hp => pk_un (by omega)⟩
      · exact ⟨_, _, e, Or.inl rfl, hO.set o, fun p hp => pk_un (by omega)⟩
      · exact ⟨_, _, e, Or.inr (Or.inr rfl), hO.set o, fun p hp => pk_un (by omega)⟩
    obtain ⟨w, st2, e, hw2, hO2, hf⟩ := step
    rw [xFallL, e]
    dsimp only
    by_cases c1 : nI j + w < 0
    · rw [tl_neg c1, if_neg (by decide)]
      exact ⟨Or.inl rfl, hO2, hf⟩
    · by_cases c2 : nI j + w = nI cN
      · rw [tl_eq c1 c2, if_neg (by decide)]
        exact ⟨Or.inl rfl, hO2, hf⟩
      · obtain ⟨j2, h3, h4, h5, _⟩ := tl_ok h9 hj hw2 c1 c2
        rw [h5, if_pos rfl, h4]
        obtain ⟨g1, g2, g3⟩ := ih (k + 1) j2 w st2 (by omega) h3 hw2 hO2
        exact ⟨g1, g2, fun p hp => (g3 p hp).trans (hf p hp)⟩
theorem nI_m1 {i : Nat} (h : i < 2 ^ 31) : ¬ nI i = -1 := by
  intro e
  have := congrArg Int32.toInt e
  rw [nI_toInt h] at this
  have e2 : (-1 : Int32).toInt = -1 := by decide
  omega
theorem landBn_n {bn : Nat → Int32} {i : Nat} (h : i < 9) : xLandBn bn (nI i) = upd bn i (bn i + 1) := by
  rw [xLandBn, if_neg (nI_m1 (by omega)), xcl_n h (by decide), xsc_n h (by decide)]
theorem landLo_n {lo : Int32} {i : Nat} (h : i < 9) : xLandLo lo (nI i) = lo := by rw [xLandLo, if_neg (nI_m1 (by omega))]
theorem landBn_m {bn : Nat → Int32} : xLandBn bn (-1) = bn := by rw [xLandBn, if_pos rfl]
theorem landLo_m {lo : Int32} : xLandLo lo (-1) = lo + 1 := by rw [xLandLo, if_pos rfl]
theorem fall_c {cN rN : Nat} {pa pe pd st : Nat → Int32} (h9 : cN ≤ 9) (h8 : rN ≤ 8) (hO : OKs (rN * cN) pa pe pd st) {j : Nat} (hj : j < cN) : ((xFall pa pe st (nI cN) (nI j) (nI rN)).1 = -1 ∨ ∃ i, i < cN ∧ (xFall pa pe st (nI cN) (nI j) (nI rN)).1 = nI i) ∧ OKs (rN * cN) pa pe pd (xFall pa pe st (nI cN) (nI j) (nI rN)).2 ∧ (∀ p, rN * cN ≤ p → (xFall pa pe st (nI cN) (nI j) (nI rN)).2 p = st p) := by
  unfold xFall
  rw [nI_clamp (show rN < 2 ^ 31 by omega)]
  exact fall_ok h9 h8 rN 0 j 0 st (by omega) hj (Or.inr (Or.inl rfl)) hO
theorem two_nI (i : Nat) : (2 : Int32) * nI i = nI i + nI i := by
  rw [show (2 : Int32) = nI 2 from rfl, pk_mul, nI_add]
  congr 1
  omega
theorem beh_m (cN : Nat) : xBehind (nI cN) (-1) = -1 := by rw [xBehind, if_pos rfl]
theorem beh_e {cN i : Nat} (hi : i < 9) (h : nI i + nI i = nI cN - 1) : xBehind (nI cN) (nI i) = -1 := by
  rw [xBehind, if_neg (nI_m1 (by omega)), two_nI, if_pos h]
theorem beh_l {cN i : Nat} (hi : i < 9) (h : ¬ nI i + nI i = nI cN - 1) (h2 : nI i + nI i < nI cN - 1) : xBehind (nI cN) (nI i) = nI 0 := by
  rw [xBehind, if_neg (nI_m1 (by omega)), two_nI, if_neg h, if_pos h2, nI_0]
theorem beh_g {cN i : Nat} (hi : i < 9) (h : ¬ nI i + nI i = nI cN - 1) (h2 : ¬ nI i + nI i < nI cN - 1) : xBehind (nI cN) (nI i) = nI 1 := by
  rw [xBehind, if_neg (nI_m1 (by omega)), two_nI, if_neg h, if_neg h2]; rfl
theorem run_stop (pa pe hc : Nat → Int32) (C R : Int32) (n k : Nat) (st bn : Nat → Int32) (lo : Int32) (hm : Nat → Int32) : xRunL pa pe hc C R n k (-1) st bn lo hm = (nI k, st, bn, lo, hm) := by
  cases n with
  | zero => rfl
  | succ n => rw [xRunL, if_pos rfl]
theorem run_empty {pa pe hc : Nat → Int32} {C R : Int32} {n k i : Nat} {st bn : Nat → Int32} {lo : Int32} {hm : Nat → Int32} (hi : i < 2) (h : hm i ≤ 0) : xRunL pa pe hc C R (n + 1) k (nI i) st bn lo hm = (nI k, st, bn, lo, hm) := by
  rw [xRunL, if_neg (nI_m1 (by omega)), xcl_n hi (by decide), if_pos h]
theorem run_step {pa pe hc : Nat → Int32} {C R : Int32} {n k i j : Nat} {st bn : Nat → Int32} {lo : Int32} {hm : Nat → Int32} (hi : i < 2) (h : ¬ hm i ≤ 0) (hj : hc i = nI j) {r : Int32} (hr : r = (xFall pa pe st C (nI j) R).1) : xRunL pa pe hc C R (n + 1) k (nI i) st bn lo hm = xRunL pa pe hc C R n (k + 1) (xBehind C r) (xFall pa pe st C (nI j) R).2 (xLandBn bn r) (xLandLo lo r) (upd hm i (hm i - 1)) := by
  rw [xRunL, if_neg (nI_m1 (by omega)), xcl_n hi (by decide), if_neg h, xcl_n hi (by decide), hj, xsc_n hi (by decide), hr]
