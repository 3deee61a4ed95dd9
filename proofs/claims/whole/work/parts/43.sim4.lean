/-! ===== looks and tallies, alike ===== -/
theorem lastSim {cN rN : Nat} {pa pe pt pd : Nat → Int32} (h1 : 1 ≤ cN) (h9 : cN ≤ 9) (h8 : rN ≤ 8) {j : Nat} (hj : j < cN) : ∀ (n : Nat) (en : Int32) (st nw : Nat → Int32) (tn : Int32) (wy : Nat → Int32), RS cN rN pa pe pt pd st nw → (mLookL pt pd cN rN (nI j) n en nw tn wy).1 = xLastL pa pe (nI cN) (nI rN) (nI j) n en st := by
  intro n
  induction n with
  | zero => intro en st nw tn wy _; rfl
  | succ n ih =>
    intro en st nw tn wy hR
    obtain ⟨d1, _, d3, _⟩ := dropSim h1 h9 h8 hR hj
    rw [mLookL, xLastL, d1]
    exact ih _ _ _ _ _ d3
theorem xSameL_e (st st2 : Nat → Int32) : ∀ (n k : Nat), k + n ≤ 72 → (xSameL st st2 n k = true ↔ ∀ p, k ≤ p → p < k + n → st p = st2 p) := by
  intro n
  induction n with
  | zero => intro k _; exact ⟨fun _ p h1 h2 => absurd h2 (by omega), fun _ => rfl⟩
  | succ n ih =>
    intro k hk
    rw [xSameL, xcl_n (by omega) (by decide), xcl_n (by omega) (by decide)]
    by_cases e : st k = st2 k
    · rw [if_pos e, ih (k + 1) (by omega)]
      refine ⟨fun h p h1 h2 => ?_, fun h p h1 h2 => h p (by omega) (by omega)⟩
      by_cases c : p = k
      · rw [c, e]
      · exact h p (by omega) (by omega)
    · rw [if_neg e]
      exact ⟨fun h => absurd h (by decide), fun h => absurd (h k (by omega) (by omega)) e⟩
theorem mSameL_e (nw kp : Nat → Int32) : ∀ (n k : Nat), mSameL nw kp n k = true ↔ ∀ p, k ≤ p → p < k + n → nw p = kp p := by
  intro n
  induction n with
  | zero => intro k; exact ⟨fun _ p h1 h2 => absurd h2 (by omega), fun _ => rfl⟩
  | succ n ih =>
    intro k
    rw [mSameL]
    by_cases e : nw k = kp k
    · rw [if_pos e, ih (k + 1)]
      refine ⟨fun h p h1 h2 => ?_, fun h p h1 h2 => h p (by omega) (by omega)⟩
      by_cases c : p = k
      · rw [c, e]
      · exact h p (by omega) (by omega)
    · rw [if_neg e]
      exact ⟨fun h => absurd h (by decide), fun h => absurd (h k (by omega) (by omega)) e⟩
theorem sameSim {cN rN : Nat} {pa pe pt pd st nw st0 nw0 : Nat → Int32} (h9 : cN ≤ 9) (h8 : rN ≤ 8) (h0 : RS cN rN pa pe pt pd st0 nw0) (h : RS cN rN pa pe pt pd st nw) (hF : FR cN rN st0 nw0 st nw) : mSame nw nw0 = xSame st st0 := by
  have e : (mSame nw nw0 = true) = (xSame st st0 = true) := by
    unfold mSame xSame
    refine propext ((mSameL_e _ _ _ _).trans (Iff.trans ?_ (xSameL_e _ _ _ _ (by omega)).symm))
    constructor
    · intro q p _ hp
      by_cases c : rN * cN ≤ p
      · exact hF.1 p c
      · have hc0 : 0 < cN := by
          rcases Nat.eq_zero_or_pos cN with z | z
          · subst z; omega
          · exact z
        have hm : p % cN < cN := Nat.mod_lt _ hc0
        have hd : p / cN < rN := (Nat.div_lt_iff_lt_mul hc0).mpr (by omega)
        have ep : p / cN * cN + p % cN = p := by rw [Nat.mul_comm]; exact Nat.div_add_mod p cN
        obtain ⟨_, a2, _⟩ := h0 _ _ hd hm
        obtain ⟨_, b2, _⟩ := h _ _ hd hm
        rw [ep] at a2 b2
        rw [a2, b2]
        exact q _ (by omega) (by omega)
    · intro q p _ hp
      by_cases c : p / 9 < rN ∧ p % 9 < cN
      · obtain ⟨_, a2, _⟩ := h0 _ _ c.1 c.2
        obtain ⟨_, b2, _⟩ := h _ _ c.1 c.2
        have := pl_lt c.1 c.2
        have := pl_72 h8 h9
        rw [Nat.div_add_mod] at a2 b2
        rw [← a2, ← b2]
        exact q _ (by omega) (by omega)
      · exact hF.2 p (by omega) c
  cases a : mSame nw nw0 <;> cases b : xSame st st0 <;> simp_all
theorem mAsbL_told (pt pd : Nat → Int32) (cN rN : Nat) (nw0 : Nat → Int32) (co : Int32) {told : Int32} (h : 0 ≤ told) : ∀ (n k : Nat) (nw : Nat → Int32), mAsbL pt pd cN rN nw0 co n k told nw = told := by
  intro n k nw
  cases n with
  | zero => rfl
  | succ n => rw [mAsbL, if_pos h]
theorem asbSim {cN rN : Nat} {pa pe pt pd st0 nw0 : Nat → Int32} (h1 : 1 ≤ cN) (h9 : cN ≤ 9) (h8 : rN ≤ 8) (h0 : RS cN rN pa pe pt pd st0 nw0) {j : Nat} (hj : j < cN) : ∀ (n k : Nat) (st nw : Nat → Int32), k + n < 2 ^ 31 → RS cN rN pa pe pt pd st nw → FR cN rN st0 nw0 st nw → mAsbL pt pd cN rN nw0 (nI j) n k (-1) nw = (fun sv => xAsbL pa pe st0 (nI cN) (nI rN) (nI j) n k sv) st := by
  intro n
  induction n with
  | zero => intro k st nw _ _ _; rfl
  | succ n ih =>
    intro k st nw hk hR hF
    obtain ⟨_, _, d3, d4, _⟩ := dropSim h1 h9 h8 hR hj
    show _ = xAsbL pa pe st0 (nI cN) (nI rN) (nI j) (n + 1) k st
    rw [mAsbL, xAsbL, if_neg (by decide), sameSim h9 h8 h0 d3 (hF.trans d4)]
    by_cases e : xSame (xFall pa pe st (nI cN) (nI j) (nI rN)).2 st0 = true
    · rw [if_pos e, if_pos e, mAsbL_told]
      exact nI_pos' (by omega)
    · rw [if_neg e, if_neg e]
      exact ih _ _ _ (by omega) d3 (hF.trans d4)
theorem cL_nat (g h : Nat → Bool) : ∀ (n k t : Nat), ∃ m, m ≤ t + n ∧ cL g h n k (nI t) = nI m := by
  intro n
  induction n with
  | zero => intro k t; exact ⟨t, by omega, rfl⟩
  | succ n ih =>
    intro k t
    rw [cL]
    by_cases e : bi (g k) = bi (h k)
    · rw [if_pos e]
      obtain ⟨m, h1, h2⟩ := ih (k + 1) t
      exact ⟨m, by omega, h2⟩
    · rw [if_neg e, nI_1]
      obtain ⟨m, h1, h2⟩ := ih (k + 1) (t + 1)
      exact ⟨m, by omega, h2⟩
theorem xUnl_nat (pa st pa2 st2 : Nat → Int32) : ∃ m, m ≤ 72 ∧ xUnl pa st pa2 st2 = nI m := by
  unfold xUnl
  rw [xUnlL_c]
  obtain ⟨m, h1, h2⟩ := cL_nat (fun k => xRight pa st (nI k)) (fun k => xRight pa2 st2 (nI k)) 72 0 0
  exact ⟨m, by omega, h2⟩
theorem bestL_sim {cN rN : Nat} {pa pe pt pd st nw : Nat → Int32} (h1 : 1 ≤ cN) (h9 : cN ≤ 9) (h8 : rN ≤ 8) (hR : RS cN rN pa pe pt pd st nw) : ∀ (n k : Nat) (be mo : Int32), k + n ≤ cN → mBestL pt pd cN rN nw n k be mo = xBestL pa pe st (nI cN) (nI rN) n k be mo := by
  intro n
  induction n with
  | zero => intro k be mo _; rfl
  | succ n ih =>
    intro k be mo hk
    obtain ⟨_, _, _, _, _, d6, _⟩ := dropSim h1 h9 h8 hR (show k < cN by omega)
    rw [mBestL, xBestL, d6]
    by_cases e : xWTurn pa pe st (nI cN) (nI rN) (nI k) ≤ mo
    · rw [if_pos e, if_neg (Int32.not_lt.mpr e)]
      exact ih _ _ _ (by omega)
    · rw [if_neg e, if_pos (Int32.not_le.mp e)]
      exact ih _ _ _ (by omega)
theorem bestSim {cN rN : Nat} {pa pe pt pd st nw : Nat → Int32} (h1 : 1 ≤ cN) (h9 : cN ≤ 9) (h8 : rN ≤ 8) (hR : RS cN rN pa pe pt pd st nw) : mBest pt pd cN rN nw = xBest pa pe st (nI cN) (nI rN) := by
  obtain ⟨n, rfl⟩ : ∃ n, cN = n + 1 := ⟨cN - 1, by omega⟩
  obtain ⟨_, _, _, _, _, d6, _⟩ := dropSim h1 h9 h8 hR (show 0 < n + 1 by omega)
  obtain ⟨m, hm, em⟩ := xUnl_nat pa (xFall pa pe st (nI (n + 1)) (nI 0) (nI rN)).2 pa st
  have ew : xWTurn pa pe st (nI (n + 1)) (nI rN) (nI 0) = nI m := em
  rw [mBest, xBest, nI_clamp (by omega), mBestL, xBestL, d6, ew]
  have a : (-1 : Int32) < nI m := by
    rw [Int32.lt_iff_toInt_lt, nI_toInt (by omega)]
    have e2 : (-1 : Int32).toInt = -1 := by decide
    omega
  rw [if_pos a]
  by_cases e : nI m ≤ 0
  · have : m = 0 := by
      rw [Int32.le_iff_toInt_le, nI_toInt (by omega)] at e
      have e2 : (0 : Int32).toInt = 0 := by decide
      omega
    subst this
    rw [if_pos e]
    exact bestL_sim h1 h9 h8 hR _ _ _ _ (by omega)
  · rw [if_neg e]
    exact bestL_sim h1 h9 h8 hR _ _ _ _ (by omega)
theorem numL_sim {cN rN r : Nat} {pa pe pt pd st nw : Nat → Int32} (h9 : cN ≤ 9) (h8 : rN ≤ 8) (hR : RS cN rN pa pe pt pd st nw) (hr : r < rN) : ∀ (n k : Nat) (t w : Int32), k + n ≤ cN → mNumL pt nw (nI r) n k t w = xNumL pa st (nI cN) (nI r) n k t w := by
  intro n
  induction n with
  | zero => intro k t w _; rfl
  | succ n ih =>
    intro k t w hk
    obtain ⟨p1, p2, _⟩ := hR r k hr (by omega)
    have hlt := pl_lt hr (show k < cN by omega)
    have h72 := pl_72 h8 h9
    have e1 : xRight pa st (nI r * nI cN + nI k) = mRight pt nw (9 * nI r + nI k) := by
      rw [ix_x, xRight_n _ _ (by omega), mRight, ix_mc (by omega) (by omega), p1, p2]
    have e2 : xcl 72 pa (nI r * nI cN + nI k) = pt (9 * nI r + nI k).toNatClampNeg := by
      rw [ix_x, xcl_n (by omega) (by decide), ix_mc (by omega) (by omega), p1]
    rw [mNumL, xNumL, e1, e2, ih _ _ _ (by omega), ih _ _ _ (by omega)]
theorem sumX_0 (bn : Nat → Int32) : ∀ (n k : Nat) (t : Int32), (∀ c, k ≤ c → c < k + n → bn c = 0) → xSumL bn n k t = t := by
  intro n
  induction n with
  | zero => intro k t _; rfl
  | succ n ih =>
    intro k t h
    rw [xSumL, h k (by omega) (by omega), Int32.add_zero]
    exact ih _ _ fun c h1 h2 => h c (by omega) (by omega)
theorem sumX_s (bn : Nat → Int32) : ∀ (n m k : Nat) (t : Int32), xSumL bn (n + m) k t = xSumL bn m (k + n) (xSumL bn n k t) := by
  intro n
  induction n with
  | zero => intro m k t; rw [Nat.zero_add]; rfl
  | succ n ih =>
    intro m k t
    rw [show n + 1 + m = n + m + 1 by omega, xSumL, xSumL, ih, show k + 1 + n = k + (n + 1) by omega]
theorem sumL_sim {cN : Nat} {bn hm nw : Nat → Int32} {lo : Int32} (h9 : cN ≤ 9) (hT : TL cN bn hm lo nw) : ∀ (n k : Nat) (t : Int32), k + n ≤ cN → mSumL nw n k t = xSumL bn n k t := by
  intro n
  induction n with
  | zero => intro k t _; rfl
  | succ n ih =>
    intro k t hk
    rw [mSumL, xSumL, mZ_i (by omega), hT.1 k (by omega)]
    exact ih _ _ (by omega)
theorem sumSim {cN : Nat} {bn hm nw : Nat → Int32} {lo : Int32} (h9 : cN ≤ 9) (hT : TL cN bn hm lo nw) : mSum nw cN = xSum bn := by
  have e : xSum bn = xSumL bn (cN + (9 - cN)) 0 0 := by rw [xSum, show cN + (9 - cN) = 9 by omega]
  rw [e, sumX_s, sumX_0 bn _ _ _ fun c h1 h2 => hT.2.1 c (by omega) (by omega)]
  exact sumL_sim h9 hT _ _ _ (by omega)
