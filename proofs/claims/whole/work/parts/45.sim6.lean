/-! ===== each call, alike ===== -/
theorem xin_ex {a b : Nat} {x : Int32} (hb : b + 1 < 2 ^ 31) (hab : a ≤ b) (h : xin x (nI a) (nI b) = true) : ∃ m, a ≤ m ∧ m ≤ b ∧ x = nI m := by
  obtain ⟨h1, h2⟩ := xin_spec h
  rw [Int32.lt_iff_toInt_lt, nI_toInt (by omega)] at h1
  rw [Int32.le_iff_toInt_le, nI_toInt (by omega)] at h2
  rcases pk_ix x (n := b + 1) (by omega) with q | q | ⟨j, hj, e⟩
  · rw [Int32.lt_iff_toInt_lt] at q
    have e2 : (0 : Int32).toInt = 0 := by decide
    omega
  · rw [Int32.le_iff_toInt_le, nI_toInt (by omega)] at q
    omega
  · subst e
    rw [nI_toInt (by omega)] at h1
    exact ⟨j, by omega, by omega, rfl⟩
theorem Rel.one {cN rN : Nat} {pa pe st bn hc hm : Nat → Int32} {lo : Int32} {pt pd ab nw : Nat → Int32} (h : Rel cN rN pa pe st bn hc hm lo pt pd ab nw) {r c : Nat} (hr : r < rN) (hcc : c < cN) : xcl 72 pa (nI r * nI cN + nI c) = pt (9 * nI r + nI c).toNatClampNeg ∧ xRight pa st (nI r * nI cN + nI c) = mRight pt nw (9 * nI r + nI c) ∧ xCnt pa st (nI r * nI cN + nI c) = mCnt pt nw (9 * nI r + nI c) := by
  have h9 := h.c9
  have h8 := h.r8
  have hlt := pl_lt hr hcc
  have h72 := pl_72 h8 h9
  obtain ⟨p1, p2, _⟩ := h.rs r c hr hcc
  have e1 : xcl 72 pa (nI r * nI cN + nI c) = pt (9 * nI r + nI c).toNatClampNeg := by
    rw [ix_x, xcl_n (by omega) (by decide), ix_mc (by omega) (by omega), p1]
  have e2 : xcl 72 st (nI r * nI cN + nI c) = nw (9 * nI r + nI c).toNatClampNeg := by
    rw [ix_x, xcl_n (by omega) (by decide), ix_mc (by omega) (by omega), p2]
  refine ⟨e1, ?_, ?_⟩
  · rw [xRight, mRight, e1, e2]
  · rw [xCnt, mCnt, e1, e2]
theorem Rel.num {cN rN : Nat} {pa pe st bn hc hm : Nat → Int32} {lo : Int32} {pt pd ab nw : Nat → Int32} (h : Rel cN rN pa pe st bn hc hm lo pt pd ab nw) {r : Nat} (hr : r < rN) : mNum pt nw cN (nI r) = xNum pa st (nI cN) (nI r) := by
  have h9 := h.c9
  rw [mNum, xNum, nI_clamp (by omega)]
  exact numL_sim h.c9 h.r8 h.rs hr _ _ _ _ (by omega)
theorem Rel.drop {cN rN : Nat} {pa pe st bn hc hm : Nat → Int32} {lo : Int32} {pt pd ab nw : Nat → Int32} (h : Rel cN rN pa pe st bn hc hm lo pt pd ab nw) {j : Nat} (hj : j < cN) : (mFall pt pd cN rN nw (nI j)).1 = (xFall pa pe st (nI cN) (nI j) (nI rN)).1 ∧ (mFall pt pd cN rN nw (nI j)).2.2.1 = xWTurn pa pe st (nI cN) (nI rN) (nI j) ∧ (∀ r, r < rN → (mFall pt pd cN rN nw (nI j)).2.2.2 r = (xFall pa pe st (nI cN) (nI j) (nI r)).1) ∧ Rel cN rN pa pe (xFall pa pe st (nI cN) (nI j) (nI rN)).2 (xLandBn bn (xFall pa pe st (nI cN) (nI j) (nI rN)).1) hc hm (xLandLo lo (xFall pa pe st (nI cN) (nI j) (nI rN)).1) pt pd ab (mFall pt pd cN rN nw (nI j)).2.1 := by
  obtain ⟨d1, _, d3, _, d5, d6, d7⟩ := dropSim h.inv.1.1 h.c9 h.r8 h.rs hj
  exact ⟨d1, d6, d7, h.next d3 (d5 _ _ _ h.tl)⟩
theorem Rel.run {cN rN : Nat} {pa pe st bn hc hm : Nat → Int32} {lo : Int32} {pt pd ab nw : Nat → Int32} (h : Rel cN rN pa pe st bn hc hm lo pt pd ab nw) {i : Nat} (hi : i < 2) (most tn : Int32) (wy : Nat → Int32) : (mRun pt pd ab cN rN nw tn wy (nI i) most).1 = (xRun pa pe st bn hc hm (nI cN) (nI rN) lo (nI i) most).1 ∧ Rel cN rN pa pe (xRun pa pe st bn hc hm (nI cN) (nI rN) lo (nI i) most).2.1 (xRun pa pe st bn hc hm (nI cN) (nI rN) lo (nI i) most).2.2.1 hc (xRun pa pe st bn hc hm (nI cN) (nI rN) lo (nI i) most).2.2.2.2 (xRun pa pe st bn hc hm (nI cN) (nI rN) lo (nI i) most).2.2.2.1 pt pd ab (mRun pt pd ab cN rN nw tn wy (nI i) most).2.1 := by
  obtain ⟨r1, r2, _, r4⟩ := runSim h.inv.1.1 h.c9 h.r8 h.ha most.toNatClampNeg 0 (nI i) st bn lo hm nw tn wy (Or.inr ⟨i, hi, rfl⟩) h.rs h.tl
  exact ⟨r1, h.next r2 r4⟩
theorem Rel.runs {cN rN : Nat} {pa pe st bn hc hm : Nat → Int32} {lo : Int32} {pt pd ab nw : Nat → Int32} (h : Rel cN rN pa pe st bn hc hm lo pt pd ab nw) {i : Nat} (hi : i < 2) : mRuns pt pd ab cN rN nw (nI i) = (xRun pa pe st bn hc hm (nI cN) (nI rN) lo (nI i) 99).1 := (h.run hi 99 0 (fun _ => 0)).1
theorem Rel.last {cN rN : Nat} {pa pe st bn hc hm : Nat → Int32} {lo : Int32} {pt pd ab nw : Nat → Int32} (h : Rel cN rN pa pe st bn hc hm lo pt pd ab nw) {j : Nat} (hj : j < cN) (mm tn : Int32) (wy : Nat → Int32) : (mLook pt pd cN rN nw tn wy (nI j) mm).1 = xLast pa pe st (nI cN) (nI rN) (nI j) mm := lastSim h.inv.1.1 h.c9 h.r8 hj _ _ _ _ _ _ h.rs
theorem Rel.asb {cN rN : Nat} {pa pe st bn hc hm : Nat → Int32} {lo : Int32} {pt pd ab nw : Nat → Int32} (h : Rel cN rN pa pe st bn hc hm lo pt pd ab nw) {j : Nat} (hj : j < cN) : mAsb pt pd cN rN nw (nI j) = xAsb pa pe st (nI cN) (nI rN) (nI j) := asbSim h.inv.1.1 h.c9 h.r8 h.rs hj 60 1 st nw (by decide) h.rs (FR.refl _ _ _ _)
theorem Rel.best {cN rN : Nat} {pa pe st bn hc hm : Nat → Int32} {lo : Int32} {pt pd ab nw : Nat → Int32} (h : Rel cN rN pa pe st bn hc hm lo pt pd ab nw) : mBest pt pd cN rN nw = xBest pa pe st (nI cN) (nI rN) := bestSim h.inv.1.1 h.c9 h.r8 h.rs
theorem Rel.sum {cN rN : Nat} {pa pe st bn hc hm : Nat → Int32} {lo : Int32} {pt pd ab nw : Nat → Int32} (h : Rel cN rN pa pe st bn hc hm lo pt pd ab nw) : mSum nw cN = xSum bn := sumSim h.c9 h.tl
theorem Rel.bin {cN rN : Nat} {pa pe st bn hc hm : Nat → Int32} {lo : Int32} {pt pd ab nw : Nat → Int32} (h : Rel cN rN pa pe st bn hc hm lo pt pd ab nw) {j : Nat} (hj : j < cN) : xcl 9 bn (nI j) = nw (72 + nI j).toNatClampNeg := by
  have h9 := h.c9
  rw [xcl_n (by omega) (by decide), mZ_i (by omega), h.tl.1 j hj]
theorem Rel.hop2 {cN rN : Nat} {pa pe st bn hc hm : Nat → Int32} {lo : Int32} {pt pd ab nw : Nat → Int32} (h : Rel cN rN pa pe st bn hc hm lo pt pd ab nw) {i : Nat} (hi : i < 2) : xcl 2 hm (nI i) = nw (81 + nI i).toNatClampNeg ∧ xcl 2 hc (nI i) = ab i ∧ (nI i).toNatClampNeg = i := by
  have e81 : (81 + nI i).toNatClampNeg = 81 + i := by rw [show (81 : Int32) = nI 81 from rfl, nI_add, nI_clamp (by omega)]
  exact ⟨by rw [xcl_n hi (by decide), e81, h.tl.2.2.2 i hi], by rw [xcl_n hi (by decide), (h.ha i hi).1], nI_clamp (by omega)⟩
theorem Rel.dig4 {cN rN : Nat} {pa pe st bn hc hm : Nat → Int32} {lo : Int32} {pt pd ab nw : Nat → Int32} (h : Rel cN rN pa pe st bn hc hm lo pt pd ab nw) {r : Nat} (hr : r < rN) : ∀ (n k : Nat) (d : Int64), k + n ≤ cN → mDig4 pt nw r n k d = xDig4 pa st (nI cN) r n k d := by
  intro n
  induction n with
  | zero => intro k d _; rfl
  | succ n ih =>
    intro k d hk
    obtain ⟨o1, o2, o3⟩ := h.one hr (show k < cN by omega)
    rw [mDig4, xDig4, o1, o2, o3]
    exact ih _ _ (by omega)
theorem dgA_4 (a b c e : Int32) (d : Int64) : dgA (upd (upd (upd (upd (fun _ => 0) 0 a) 1 b) 2 c) 3 e) 4 0 d = dg (dg (dg (dg d a) b) c) e := rfl
theorem dgA_5 (a b c e f : Int32) (d : Int64) : dgA (upd (upd (upd (upd (upd (fun _ => 0) 0 a) 1 b) 2 c) 3 e) 4 f) 5 0 d = dg (dg (dg (dg (dg d a) b) c) e) f := rfl
theorem Rel.dig3 {cN rN : Nat} {pa pe st bn hc hm : Nat → Int32} {lo : Int32} {pt pd ab nw : Nat → Int32} (h : Rel cN rN pa pe st bn hc hm lo pt pd ab nw) : ∀ (n k : Nat) (d : Int64), k + n ≤ cN → mDig3 pt pd cN rN nw n k d = xDig3 pa pe st bn hc hm (nI cN) (nI rN) lo n k d := by
  intro n
  induction n with
  | zero => intro k d _; rfl
  | succ n ih =>
    intro k d hk
    obtain ⟨d1, d2, _, _⟩ := h.drop (show k < cN by omega)
    rw [mDig3, xDig3, dgA_4, d1, d2, h.asb (show k < cN by omega), h.bin (show k < cN by omega)]
    exact ih _ _ (by omega)
theorem Rel.dig2 {cN rN : Nat} {pa pe st bn hc hm : Nat → Int32} {lo : Int32} {pt pd ab nw : Nat → Int32} (h : Rel cN rN pa pe st bn hc hm lo pt pd ab nw) : ∀ (n k : Nat) (d : Int64), k + n ≤ rN → mDig2 pt pd cN rN nw n k d = xDig2 pa pe st bn hc hm (nI cN) (nI rN) lo n k d := by
  have h9 := h.c9
  have ec : (nI cN).toNatClampNeg = cN := nI_clamp (by omega)
  intro n
  induction n with
  | zero =>
    intro k d _
    rw [mDig2, xDig2, ec]
    exact h.dig3 _ _ _ (by omega)
  | succ n ih =>
    intro k d hk
    rw [mDig2, xDig2, ec, h.num (show k < rN by omega), h.dig4 (show k < rN by omega) _ _ _ (by omega)]
    exact ih _ _ (by omega)
theorem Rel.dig1 {cN rN : Nat} {pa pe st bn hc hm : Nat → Int32} {lo : Int32} {pt pd ab nw : Nat → Int32} (h : Rel cN rN pa pe st bn hc hm lo pt pd ab nw) : ∀ (n k : Nat) (d : Int64), k + n ≤ 2 → mDig1 pt pd ab cN rN nw n k d = xDig1 pa pe st bn hc hm (nI cN) (nI rN) lo n k d := by
  have h8 := h.r8
  have er : (nI rN).toNatClampNeg = rN := nI_clamp (by omega)
  intro n
  induction n with
  | zero =>
    intro k d _
    rw [mDig1, xDig1, er]
    exact h.dig2 _ _ _ (by omega)
  | succ n ih =>
    intro k d hk
    obtain ⟨q1, q2, _⟩ := h.hop2 (show k < 2 by omega)
    rw [mDig1, xDig1, q1, q2, h.runs (show k < 2 by omega)]
    exact ih _ _ (by omega)
theorem Rel.dig {cN rN : Nat} {pa pe st bn hc hm : Nat → Int32} {lo : Int32} {pt pd ab nw : Nat → Int32} (h : Rel cN rN pa pe st bn hc hm lo pt pd ab nw) : mDig pt pd ab cN rN nw = xDig pa pe st bn hc hm (nI cN) (nI rN) lo := by
  rw [mDig, xDig, dgA_5, h.tog, h.best, ← h.tl.2.2.1]
  exact h.dig1 _ _ _ (by omega)
