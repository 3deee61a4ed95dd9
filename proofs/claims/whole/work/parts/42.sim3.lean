/-! ===== drops, runs, looks, tallies, alike ===== -/
theorem nI_ne {i : Nat} (h : i < 2 ^ 31) : ¬ nI i = -1 := by
  intro e
  have := congrArg Int32.toInt e
  rw [nI_toInt h] at this
  have e2 : (-1 : Int32).toInt = -1 := by decide
  omega
theorem tal_lt (nw : Nat → Int32) {e : Int32} {cN : Nat} (h9 : cN ≤ 9) (he : e = -1 ∨ ∃ i, i < cN ∧ e = nI i) {q : Nat} (hq : q < 72) : tal nw e q = nw q := by
  rcases he with rfl | ⟨i, hi, rfl⟩
  · rw [tal, if_pos rfl, pk_un (by omega)]
  · rw [tal, if_neg (nI_ne (by omega)), mZ_i (by omega), pk_un (by omega)]
theorem RS.tal {cN rN : Nat} {pa pe pt pd st nw : Nat → Int32} (h9 : cN ≤ 9) (h8 : rN ≤ 8) (h : RS cN rN pa pe pt pd st nw) {nw2 : Nat → Int32} (he : ∀ q, q < 72 → nw2 q = nw q) : RS cN rN pa pe pt pd st nw2 := by
  intro r c hr hc
  rw [he _ (by omega)]
  exact h r c hr hc
def TL (cN : Nat) (bn hm : Nat → Int32) (lo : Int32) (nw : Nat → Int32) : Prop := (∀ c, c < cN → bn c = nw (72 + c)) ∧ (∀ c, cN ≤ c → c < 9 → bn c = 0) ∧ lo = nw 83 ∧ ∀ h, h < 2 → hm h = nw (81 + h)
theorem TL.of {cN : Nat} {bn hm nw nw2 : Nat → Int32} {lo : Int32} (h9 : cN ≤ 9) (h : TL cN bn hm lo nw) (he : ∀ q, 72 ≤ q → nw2 q = nw q) : TL cN bn hm lo nw2 := by
  obtain ⟨h1, h2, h3, h4⟩ := h
  exact ⟨fun c hc => by rw [he _ (by omega)]; exact h1 c hc, h2, by rw [he _ (by omega)]; exact h3, fun i hi => by rw [he _ (by omega)]; exact h4 i hi⟩
theorem TL.land {cN : Nat} {bn hm nw : Nat → Int32} {lo : Int32} (h9 : cN ≤ 9) (h : TL cN bn hm lo nw) {e : Int32} (he : e = -1 ∨ ∃ i, i < cN ∧ e = nI i) : TL cN (xLandBn bn e) hm (xLandLo lo e) (tal nw e) := by
  obtain ⟨h1, h2, h3, h4⟩ := h
  rcases he with rfl | ⟨i, hi, rfl⟩
  · rw [xLandBn, xLandLo, tal, if_pos rfl, if_pos rfl, if_pos rfl]
    exact ⟨fun c hc => by rw [pk_un (by omega)]; exact h1 c hc, h2, by rw [pk_us, h3], fun j hj => by rw [pk_un (by omega)]; exact h4 j hj⟩
  · have n1 := nI_ne (i := i) (by omega)
    rw [xLandBn, xLandLo, tal, if_neg n1, if_neg n1, if_neg n1, mZ_i (by omega), xcl_n (by omega) (by decide), xsc_n (by omega) (by decide)]
    refine ⟨?_, ?_, by rw [pk_un (by omega)]; exact h3, fun j hj => by rw [pk_un (by omega)]; exact h4 j hj⟩
    · intro c hc
      by_cases e : c = i
      · subst e; rw [pk_us, pk_us, h1 c hc]
      · rw [pk_un e, pk_un (by omega)]; exact h1 c hc
    · intro c hc hc2
      rw [pk_un (by omega)]; exact h2 c hc hc2
/-- a marble dropped: all that it tells and leaves, alike -/
theorem dropSim {cN rN : Nat} {pa pe pt pd st nw : Nat → Int32} (h1 : 1 ≤ cN) (h9 : cN ≤ 9) (h8 : rN ≤ 8) (hR : RS cN rN pa pe pt pd st nw) {j : Nat} (hj : j < cN) :
    (mFall pt pd cN rN nw (nI j)).1 = (xFall pa pe st (nI cN) (nI j) (nI rN)).1 ∧
    ((xFall pa pe st (nI cN) (nI j) (nI rN)).1 = -1 ∨ ∃ i, i < cN ∧ (xFall pa pe st (nI cN) (nI j) (nI rN)).1 = nI i) ∧
    RS cN rN pa pe pt pd (xFall pa pe st (nI cN) (nI j) (nI rN)).2 (mFall pt pd cN rN nw (nI j)).2.1 ∧
    FR cN rN st nw (xFall pa pe st (nI cN) (nI j) (nI rN)).2 (mFall pt pd cN rN nw (nI j)).2.1 ∧
    (∀ bn hm lo, TL cN bn hm lo nw → TL cN (xLandBn bn (xFall pa pe st (nI cN) (nI j) (nI rN)).1) hm (xLandLo lo (xFall pa pe st (nI cN) (nI j) (nI rN)).1) (mFall pt pd cN rN nw (nI j)).2.1) ∧
    (mFall pt pd cN rN nw (nI j)).2.2.1 = xWTurn pa pe st (nI cN) (nI rN) (nI j) ∧
    ∀ r, r < rN → (mFall pt pd cN rN nw (nI j)).2.2.2 r = (xFall pa pe st (nI cN) (nI j) (nI r)).1 := by
  have er : ∀ r, r ≤ rN → (nI r).toNatClampNeg = r := fun r h => nI_clamp (by omega)
  obtain ⟨a1, a2, ⟨nw1, a3, a4, a5, a6⟩, _, a8, a9⟩ := fallSim (pa := pa) (pe := pe) (pt := pt) (pd := pd) h1 h9 h8 rN 0 j 0 st nw 0 (fun _ => -1) (by omega) hj hR
  unfold mFall xWTurn xFall
  rw [er rN (Nat.le_refl _)]
  refine ⟨a1.symm, a2, ?_, ?_, ?_, ?_, ?_⟩
  · rw [a3]
    exact a5.tal h9 h8 fun q hq => tal_lt nw1 h9 a2 hq
  · rw [a3]
    refine ⟨a6.1, fun q hq hn => ?_⟩
    rw [tal_lt nw1 h9 a2 hq]
    exact a6.2 q hq hn
  · intro bn hm lo hT
    rw [a3]
    exact (hT.of h9 a4).land h9 a2
  · rw [a8, Int32.zero_add]
  · intro r hr
    rw [er r (by omega)]
    have := (a9 fun _ _ => rfl).2 r hr
    rw [Nat.zero_add] at this
    exact this
def nextOk (c i : Nat) : Bool := decide (mNext c (nI i) = xBehind (nI c) (nI i)) && (decide (xBehind (nI c) (nI i) = -1) || (decide (xBehind (nI c) (nI i) = 0) || decide (xBehind (nI c) (nI i) = 1)))
theorem nextOk_all : ([0, 1, 2, 3, 4, 5, 6, 7, 8, 9] : List Nat).all (fun c => ([0, 1, 2, 3, 4, 5, 6, 7, 8] : List Nat).all fun i => nextOk c i) = true := by decide +kernel
theorem nextSim {cN : Nat} (h9 : cN ≤ 9) {e : Int32} (he : e = -1 ∨ ∃ i, i < cN ∧ e = nI i) : mNext cN e = xBehind (nI cN) e ∧ (xBehind (nI cN) e = -1 ∨ ∃ i, i < 2 ∧ xBehind (nI cN) e = nI i) := by
  rcases he with rfl | ⟨i, hi, rfl⟩
  · have e1 : mNext cN (-1) = -1 := by rw [mNext, if_pos (by decide)]
    have e2 : xBehind (nI cN) (-1) = -1 := by rw [xBehind, if_pos rfl]
    rw [e1, e2]
    exact ⟨rfl, Or.inl rfl⟩
  · have key := List.all_eq_true.mp (List.all_eq_true.mp nextOk_all cN (by simp; omega)) i (by simp; omega)
    unfold nextOk at key
    rw [Bool.and_eq_true, Bool.or_eq_true, Bool.or_eq_true, decide_eq_true_eq, decide_eq_true_eq, decide_eq_true_eq, decide_eq_true_eq] at key
    refine ⟨key.1, ?_⟩
    rcases key.2 with k2 | k2 | k2
    · exact Or.inl k2
    · exact Or.inr ⟨0, by omega, k2⟩
    · exact Or.inr ⟨1, by omega, k2⟩
theorem runSim {cN rN : Nat} {pa pe pt pd hc ab : Nat → Int32} (h1 : 1 ≤ cN) (h9 : cN ≤ 9) (h8 : rN ≤ 8) (hA : ∀ h, h < 2 → hc h = ab h ∧ ∃ j, j < cN ∧ ab h = nI j) : ∀ (n k : Nat) (fr : Int32) (st bn : Nat → Int32) (lo : Int32) (hm nw : Nat → Int32) (tn : Int32) (wy : Nat → Int32), (fr = -1 ∨ ∃ i, i < 2 ∧ fr = nI i) → RS cN rN pa pe pt pd st nw → TL cN bn hm lo nw →
    (mRunL pt pd ab cN rN n k fr nw tn wy).1 = (xRunL pa pe hc (nI cN) (nI rN) n k fr st bn lo hm).1 ∧
    RS cN rN pa pe pt pd (xRunL pa pe hc (nI cN) (nI rN) n k fr st bn lo hm).2.1 (mRunL pt pd ab cN rN n k fr nw tn wy).2.1 ∧
    FR cN rN st nw (xRunL pa pe hc (nI cN) (nI rN) n k fr st bn lo hm).2.1 (mRunL pt pd ab cN rN n k fr nw tn wy).2.1 ∧
    TL cN (xRunL pa pe hc (nI cN) (nI rN) n k fr st bn lo hm).2.2.1 (xRunL pa pe hc (nI cN) (nI rN) n k fr st bn lo hm).2.2.2.2 (xRunL pa pe hc (nI cN) (nI rN) n k fr st bn lo hm).2.2.2.1 (mRunL pt pd ab cN rN n k fr nw tn wy).2.1 := by
  intro n
  induction n with
  | zero => intro k fr st bn lo hm nw tn wy _ hR hT; exact ⟨rfl, hR, FR.refl _ _ _ _, hT⟩
  | succ n ih =>
    intro k fr st bn lo hm nw tn wy hf hR hT
    rcases hf with rfl | ⟨i, hi, rfl⟩
    · rw [mRunL, xRunL, if_pos (by decide), if_pos rfl]
      exact ⟨rfl, hR, FR.refl _ _ _ _, hT⟩
    · obtain ⟨t1, t2, t3, t4⟩ := hT
      obtain ⟨b1, j, hj, b2⟩ := hA i hi
      have e81 : (81 + nI i).toNatClampNeg = 81 + i := by rw [show (81 : Int32) = nI 81 from rfl, nI_add, nI_clamp (by omega)]
      have ehm : xcl 2 hm (nI i) = nw (81 + i) := by rw [xcl_n hi (by decide), t4 i hi]
      have ehc : xcl 2 hc (nI i) = nI j := by rw [xcl_n hi (by decide), b1, b2]
      have eab : ab (nI i).toNatClampNeg = nI j := by rw [nI_clamp (by omega), b2]
      have esc : xsc 2 hm (nI i) (nw (81 + i) - 1) = upd hm i (nw (81 + i) - 1) := xsc_n hi (by decide) _ _
      rw [mRunL, xRunL, if_neg (nI_pos (by omega)), if_neg (nI_ne (by omega)), e81, ehm, ehc, eab, esc]
      by_cases hz : nw (81 + i) ≤ 0
      · rw [if_pos hz, if_pos hz]
        exact ⟨rfl, hR, FR.refl _ _ _ _, t1, t2, t3, t4⟩
      · rw [if_neg hz, if_neg hz]
        have hT2 : TL cN bn (upd hm i (nw (81 + i) - 1)) lo (upd nw (81 + i) (nw (81 + i) - 1)) := by
          refine ⟨fun c hc => by rw [pk_un (by omega)]; exact t1 c hc, t2, by rw [pk_un (by omega)]; exact t3, fun h hh => ?_⟩
          by_cases e : h = i
          · subst e; rw [pk_us, pk_us]
          · rw [pk_un e, pk_un (by omega)]; exact t4 h hh
        have hR2 : RS cN rN pa pe pt pd st (upd nw (81 + i) (nw (81 + i) - 1)) := hR.tal h9 h8 fun q hq => pk_un (by omega)
        have hF2 : FR cN rN st nw st (upd nw (81 + i) (nw (81 + i) - 1)) := ⟨fun _ _ => rfl, fun q hq _ => pk_un (by omega)⟩
        obtain ⟨d1, d2, d3, d4, d5, _, _⟩ := dropSim h1 h9 h8 hR2 hj
        rw [d1, (nextSim h9 d2).1]
        obtain ⟨r1, r2, r3, r4⟩ := ih (k + 1) _ _ _ _ _ _ (mFall pt pd cN rN (upd nw (81 + i) (nw (81 + i) - 1)) (nI j)).2.2.1 (mFall pt pd cN rN (upd nw (81 + i) (nw (81 + i) - 1)) (nI j)).2.2.2 (nextSim h9 d2).2 d3 (d5 _ _ _ hT2)
        exact ⟨r1, r2, hF2.trans (d4.trans r3), r4⟩
