/-! ===== the second reckoning in pure words ===== -/
abbrev MJ : Type := (Nat → Int32) × (Nat → Int32) × Int32
def mFrom (v lo hi : Int32) : Bool := if v < lo then false else if hi < v then false else true
def mPlace (R C r k : Int32) : Bool := if mFrom r 0 (R - 1) = true then (if mFrom k 0 (C - 1) = true then true else false) else false
def mInv (cN rN : Nat) (pt pd ab : Nat → Int32) : Prop := (1 ≤ cN ∧ cN ≤ 9) ∧ rN ≤ 8 ∧ (∀ q, q < 72 → pt q = 5 → ¬ pd q = 0) ∧ ∀ i, i < 2 → ∃ j, j < cN ∧ ab i = nI j
theorem nI_sub1 {n : Nat} (h : 1 ≤ n) : nI n - 1 = nI (n - 1) := by
  obtain ⟨k, rfl⟩ : ∃ k, n = k + 1 := ⟨n - 1, by omega⟩
  rw [nI_pred]; rfl
theorem mFrom_n {x : Int32} {n : Nat} (h : mFrom x 0 (nI n - 1) = true) (h1 : 1 ≤ n) (h2 : n < 2 ^ 31) : ∃ j, j < n ∧ x = nI j := by
  rw [nI_sub1 h1] at h
  unfold mFrom at h
  by_cases a : x < 0
  · simp [a] at h
  · by_cases b : nI (n - 1) < x
    · simp [a, b] at h
    · rcases pk_ix x h2 with q | q | q
      · exact absurd q a
      · refine absurd ?_ b
        rw [Int32.lt_iff_toInt_lt, nI_toInt (by omega)]
        rw [Int32.le_iff_toInt_le, nI_toInt h2] at q
        omega
      · exact q
theorem mFrom_t {j n : Nat} (h : j < n) (h2 : n < 2 ^ 31) : mFrom (nI j) 0 (nI n - 1) = true := by
  rw [nI_sub1 (by omega), mFrom, if_neg (nI_pos (by omega)), if_neg (nI_nlt (by omega) (by omega))]
theorem mat {k cN : Nat} {ca : Int32} (hk : k < 8) (hc : cN ≤ 9) (h : ∃ j, j < cN ∧ ca = nI j) : ∃ q, q < 72 ∧ 9 * nI k + ca = nI q := by
  obtain ⟨j, hj, rfl⟩ := h
  exact ⟨9 * k + j, by omega, by rw [show (9 : Int32) = nI 9 from rfl, pk_mul, nI_add]⟩
theorem mat2 {cN j : Nat} {rr : Int32} (hj : j < cN) (hc : cN ≤ 9) (h : ∃ k, k < 8 ∧ rr = nI k) : ∃ q, q < 72 ∧ 9 * rr + nI j = nI q := by
  obtain ⟨k, hk, rfl⟩ := h
  exact mat hk hc ⟨j, hj, rfl⟩
theorem mPlace_at {cN rN : Nat} {r k : Int32} (h : mPlace (nI rN) (nI cN) r k = true) (hc : 1 ≤ cN ∧ cN ≤ 9) (hr : rN ≤ 8) : ∃ q, q < 72 ∧ 9 * r + k = nI q := by
  unfold mPlace at h
  by_cases a : mFrom r 0 (nI rN - 1) = true
  · by_cases b : mFrom k 0 (nI cN - 1) = true
    · have hr1 : 1 ≤ rN := by
        rcases Nat.eq_zero_or_pos rN with z | z
        · subst z
          exfalso
          unfold mFrom at a
          by_cases a1 : r < 0
          · simp [a1] at a
          · by_cases a2 : nI 0 - 1 < r
            · simp [a1, a2] at a
            · refine a2 ?_
              rw [Int32.lt_iff_toInt_lt]
              rw [Int32.lt_iff_toInt_lt] at a1
              have e1 : (nI 0 - 1).toInt = -1 := by decide
              have e2 : (0 : Int32).toInt = 0 := by decide
              omega
        · exact z
      obtain ⟨i, hi, rfl⟩ := mFrom_n a hr1 (by omega)
      exact mat (by omega) hc.2 (mFrom_n b hc.1 (by omega))
    · simp [a, b] at h
  · simp [a] at h
theorem at_lt {x : Int32} (h : ∃ q, q < 72 ∧ x = nI q) : x.toNatClampNeg < 72 := by
  obtain ⟨q, hq, rfl⟩ := h
  rw [nI_clamp (by omega)]; exact hq
theorem in72 {x : Int32} (h : ∃ q, q < 72 ∧ x = nI q) : vp_in x 72 := by
  obtain ⟨q, hq, rfl⟩ := h
  exact vp_in_nI hq (by decide)
theorem in84 {x : Int32} (h : ∃ q, q < 72 ∧ x = nI q) : vp_in x 84 := by
  obtain ⟨q, hq, rfl⟩ := h
  exact vp_in_nI (by omega) (by decide)
theorem inbin {cN : Nat} {ca : Int32} (hc : cN ≤ 9) (h : ∃ j, j < cN ∧ ca = nI j) : vp_in (72 + ca) 84 := by
  obtain ⟨j, hj, rfl⟩ := h
  rw [show (72 : Int32) = nI 72 from rfl, nI_add]
  exact vp_in_nI (by omega) (by decide)
theorem hop_in {hv : Int32} (h : hv = -1 ∨ hv = 0 ∨ hv = 1) (h1 : ¬ hv < 0) : vp_in (81 + hv) 84 ∧ vp_in hv 2 ∧ hv.toNatClampNeg < 2 := by
  rcases h with rfl | rfl | rfl
  · exact absurd (by decide) h1
  · exact ⟨vp_in_nI (n := 81) (by decide) (by decide), vp_in_nI (n := 0) (by decide) (by decide), by decide⟩
  · exact ⟨vp_in_nI (n := 82) (by decide) (by decide), vp_in_nI (n := 1) (by decide) (by decide), by decide⟩
theorem hop_f {hh : Int32} (h : mFrom hh 0 1 = true) : hh = 0 ∨ hh = 1 := by
  obtain ⟨j, hj, rfl⟩ := mFrom_n (n := 2) h (by decide) (by decide)
  rcases (show j = 0 ∨ j = 1 by omega) with rfl | rfl
  · exact Or.inl rfl
  · exact Or.inr rfl
theorem hop_i {hh : Int32} (h : mFrom hh 0 1 = true) : vp_in (81 + hh) 84 ∧ vp_in hh 2 ∧ hh.toNatClampNeg < 2 := by
  rcases hop_f h with rfl | rfl
  · exact hop_in (Or.inr (Or.inl rfl)) (by decide)
  · exact hop_in (Or.inr (Or.inr rfl)) (by decide)
def mRem (nw pd : Nat → Int32) (q : Nat) : Int32 := nw q + 1 - (nw q + 1) / pd q * pd q
def mGo (pt pd nw : Nat → Int32) (tn : Int32) (q : Nat) (came : Int32) : Int32 × (Nat → Int32) × Int32 :=
  if pt q = 1 then (-1, nw, tn) else if pt q = 2 then (1, nw, tn)
  else if pt q = 3 then (if nw q = 1 then 1 else -1, upd nw q (1 - nw q), tn + 1)
  else if pt q = 4 then (came, nw, tn)
  else if pt q = 5 then (if mRem nw pd q = 0 then 1 else -1, upd nw q (mRem nw pd q), tn)
  else (0, nw, tn)
def mFallL (pt pd : Nat → Int32) (cN : Nat) : Nat → Nat → Int32 → Int32 → (Nat → Int32) → Int32 → (Nat → Int32) → Int32 × (Nat → Int32) × Int32 × (Nat → Int32)
  | 0, _, ca, _, nw, tn, wy => (ca, upd nw (72 + ca).toNatClampNeg (nw (72 + ca).toNatClampNeg + 1), tn, wy)
  | n + 1, k, ca, came, nw, tn, wy =>
    if mFrom (ca + (mGo pt pd nw tn (9 * nI k + ca).toNatClampNeg came).1) 0 (nI cN - 1) = true then
      mFallL pt pd cN n (k + 1) (ca + (mGo pt pd nw tn (9 * nI k + ca).toNatClampNeg came).1) (mGo pt pd nw tn (9 * nI k + ca).toNatClampNeg came).1 (mGo pt pd nw tn (9 * nI k + ca).toNatClampNeg came).2.1 (mGo pt pd nw tn (9 * nI k + ca).toNatClampNeg came).2.2 (upd wy k ca)
    else (-1, upd (mGo pt pd nw tn (9 * nI k + ca).toNatClampNeg came).2.1 83 ((mGo pt pd nw tn (9 * nI k + ca).toNatClampNeg came).2.1 83 + 1), (mGo pt pd nw tn (9 * nI k + ca).toNatClampNeg came).2.2, upd wy k ca)
def mFall (pt pd : Nat → Int32) (cN rN : Nat) (nw : Nat → Int32) (co : Int32) : Int32 × (Nat → Int32) × Int32 × (Nat → Int32) := mFallL pt pd cN rN 0 co 0 nw 0 (fun _ => -1)
def sg (x : Int32) : Int32 := (x >>> (31 &&& 31)) ||| (((-x).toUInt32 >>> ((31 : Int32).toUInt32 &&& Int32.toUInt32 31)).toInt32)
def mNext (cN : Nat) (b : Int32) : Int32 := if b < 0 then -1 else if sg (2 * b - nI cN + 1) = 0 then -1 else if 0 ≤ sg (2 * b - nI cN + 1) then 1 else 0
def mRunL (pt pd ab : Nat → Int32) (cN rN : Nat) : Nat → Nat → Int32 → (Nat → Int32) → Int32 → (Nat → Int32) → Int32 × (Nat → Int32) × Int32 × (Nat → Int32)
  | 0, k, _, nw, tn, wy => (nI k, nw, tn, wy)
  | n + 1, k, hv, nw, tn, wy =>
    if hv < 0 then (nI k, nw, tn, wy)
    else if nw (81 + hv).toNatClampNeg ≤ 0 then (nI k, nw, tn, wy)
    else mRunL pt pd ab cN rN n (k + 1) (mNext cN (mFall pt pd cN rN (upd nw (81 + hv).toNatClampNeg (nw (81 + hv).toNatClampNeg - 1)) (ab hv.toNatClampNeg)).1) (mFall pt pd cN rN (upd nw (81 + hv).toNatClampNeg (nw (81 + hv).toNatClampNeg - 1)) (ab hv.toNatClampNeg)).2.1 (mFall pt pd cN rN (upd nw (81 + hv).toNatClampNeg (nw (81 + hv).toNatClampNeg - 1)) (ab hv.toNatClampNeg)).2.2.1 (mFall pt pd cN rN (upd nw (81 + hv).toNatClampNeg (nw (81 + hv).toNatClampNeg - 1)) (ab hv.toNatClampNeg)).2.2.2
def mRun (pt pd ab : Nat → Int32) (cN rN : Nat) (nw : Nat → Int32) (tn : Int32) (wy : Nat → Int32) (hv most : Int32) : Int32 × (Nat → Int32) × Int32 × (Nat → Int32) := mRunL pt pd ab cN rN most.toNatClampNeg 0 hv nw tn wy
def mRight (pt nw : Nat → Int32) (x : Int32) : Bool := if pt x.toNatClampNeg = 3 then (if nw x.toNatClampNeg = 1 then true else false) else false
def mCnt (pt nw : Nat → Int32) (x : Int32) : Int32 := if pt x.toNatClampNeg = 5 then nw x.toNatClampNeg else 0
def mTogL (pt : Nat → Int32) : Nat → Nat → Int32 → Int32
  | 0, _, t => t
  | n + 1, k, t => mTogL pt n (k + 1) (t + if pt k = 3 then 1 else 0)
def mTog (pt : Nat → Int32) : Int32 := mTogL pt 72 0 0
def mSumL (nw : Nat → Int32) : Nat → Nat → Int32 → Int32
  | 0, _, t => t
  | n + 1, k, t => mSumL nw n (k + 1) (t + nw (72 + nI k).toNatClampNeg)
def mSum (nw : Nat → Int32) (cN : Nat) : Int32 := mSumL nw cN 0 0
def mNumL (pt nw : Nat → Int32) (r : Int32) : Nat → Nat → Int32 → Int32 → Int32
  | 0, _, t, _ => t
  | n + 1, k, t, w => if pt (9 * r + nI k).toNatClampNeg = 3 then mNumL pt nw r n (k + 1) (t + if mRight pt nw (9 * r + nI k) = true then w else 0) (w * 2) else mNumL pt nw r n (k + 1) t w
def mNum (pt nw : Nat → Int32) (cN : Nat) (r : Int32) : Int32 := mNumL pt nw r cN 0 0 1
def mSameL (nw kp : Nat → Int32) : Nat → Nat → Bool
  | 0, _ => true
  | n + 1, k => if nw k = kp k then mSameL nw kp n (k + 1) else false
def mSame (nw kp : Nat → Int32) : Bool := mSameL nw kp 72 0
def mLookL (pt pd : Nat → Int32) (cN rN : Nat) (co : Int32) : Nat → Int32 → (Nat → Int32) → Int32 → (Nat → Int32) → Int32 × Int32 × (Nat → Int32)
  | 0, en, _, tn, wy => (en, tn, wy)
  | n + 1, _, nw, _, _ => mLookL pt pd cN rN co n (mFall pt pd cN rN nw co).1 (mFall pt pd cN rN nw co).2.1 (mFall pt pd cN rN nw co).2.2.1 (mFall pt pd cN rN nw co).2.2.2
def mLook (pt pd : Nat → Int32) (cN rN : Nat) (nw : Nat → Int32) (tn : Int32) (wy : Nat → Int32) (co mm : Int32) : Int32 × Int32 × (Nat → Int32) := mLookL pt pd cN rN co mm.toNatClampNeg (-1) nw tn wy
theorem mLook1 (pt pd : Nat → Int32) (cN rN : Nat) (nw : Nat → Int32) (tn : Int32) (wy : Nat → Int32) (co : Int32) : mLook pt pd cN rN nw tn wy co 1 = ((mFall pt pd cN rN nw co).1, (mFall pt pd cN rN nw co).2.2.1, (mFall pt pd cN rN nw co).2.2.2) := by
  unfold mLook
  rw [show (1 : Int32).toNatClampNeg = 1 from by decide]
  rfl
def mAsbL (pt pd : Nat → Int32) (cN rN : Nat) (nw0 : Nat → Int32) (co : Int32) : Nat → Nat → Int32 → (Nat → Int32) → Int32
  | 0, _, told, _ => told
  | n + 1, k, told, nw => if 0 ≤ told then told else if mSame (mFall pt pd cN rN nw co).2.1 nw0 = true then mAsbL pt pd cN rN nw0 co n (k + 1) (nI k) (mFall pt pd cN rN nw co).2.1 else mAsbL pt pd cN rN nw0 co n (k + 1) told (mFall pt pd cN rN nw co).2.1
def mAsb (pt pd : Nat → Int32) (cN rN : Nat) (nw : Nat → Int32) (co : Int32) : Int32 := mAsbL pt pd cN rN nw co 60 1 (-1) nw
def mBestL (pt pd : Nat → Int32) (cN rN : Nat) (nw : Nat → Int32) : Nat → Nat → Int32 → Int32 → Int32
  | 0, _, be, _ => be
  | n + 1, k, be, mo => if mo < (mFall pt pd cN rN nw (nI k)).2.2.1 then mBestL pt pd cN rN nw n (k + 1) (nI k) (mFall pt pd cN rN nw (nI k)).2.2.1 else mBestL pt pd cN rN nw n (k + 1) be mo
def mBest (pt pd : Nat → Int32) (cN rN : Nat) (nw : Nat → Int32) : Int32 := mBestL pt pd cN rN nw cN 0 0 (-1)
/-- a row, its first places 0 -/
def mZ (n : Nat) (f : Nat → Int32) : Nat → Int32 := fun j => if j < n then 0 else f j
theorem mZ_0 (f : Nat → Int32) : mZ 0 f = f := funext fun j => if_neg (Nat.not_lt_zero j)
theorem mZ_s (n : Nat) (f : Nat → Int32) : upd (mZ n f) n 0 = mZ (n + 1) f := by
  funext j
  unfold upd mZ
  by_cases e : j = n
  · rw [if_pos e, if_pos (by omega)]
  · rw [if_neg e]
    by_cases h : j < n
    · rw [if_pos h, if_pos (by omega)]
    · rw [if_neg h, if_neg (by omega)]
theorem mZ_i {k : Nat} (h : k < 2 ^ 20) : (72 + nI k).toNatClampNeg = 72 + k := by
  rw [show (72 : Int32) = nI 72 from rfl, nI_add, nI_clamp (by omega)]
theorem cpy0 (f g : Nat → Int32) (j : Nat) (hj : j < 84) : va_cpy f g (0 : Int32).toNatClampNeg (0 : Int32).toNatClampNeg (84 : Int32).toNatClampNeg j = f j := by
  rw [show (0 : Int32).toNatClampNeg = 0 from by decide, show (84 : Int32).toNatClampNeg = 84 from by decide]
  unfold va_cpy
  rw [if_pos ⟨Nat.zero_le j, by omega⟩]
  congr 1
  omega
def dgA (f : Nat → Int32) : Nat → Nat → Int64 → Int64
  | 0, _, d => d
  | n + 1, k, d => dgA f n (k + 1) (dg d (f k))
def mDig4 (pt nw : Nat → Int32) (r : Nat) : Nat → Nat → Int64 → Int64
  | 0, _, d => d
  | n + 1, k, d => mDig4 pt nw r n (k + 1) (dg (dg (dg d (pt (9 * nI r + nI k).toNatClampNeg)) (if mRight pt nw (9 * nI r + nI k) = true then 1 else 0)) (mCnt pt nw (9 * nI r + nI k)))
def mDig3 (pt pd : Nat → Int32) (cN rN : Nat) (nw : Nat → Int32) : Nat → Nat → Int64 → Int64
  | 0, _, d => d
  | n + 1, k, d => mDig3 pt pd cN rN nw n (k + 1) (dgA (upd (upd (upd (upd (fun _ => 0) 0 (nw (72 + nI k).toNatClampNeg)) 1 (mFall pt pd cN rN nw (nI k)).1) 2 (mFall pt pd cN rN nw (nI k)).2.2.1) 3 (mAsb pt pd cN rN nw (nI k))) 4 0 d)
def mDig2 (pt pd : Nat → Int32) (cN rN : Nat) (nw : Nat → Int32) : Nat → Nat → Int64 → Int64
  | 0, _, d => mDig3 pt pd cN rN nw cN 0 d
  | n + 1, k, d => mDig2 pt pd cN rN nw n (k + 1) (mDig4 pt nw k cN 0 (dg d (mNum pt nw cN (nI k))))
/-- how many fall from a hopper, as a look: where the last marble came, and how many toggles, don't show -/
def mRuns (pt pd ab : Nat → Int32) (cN rN : Nat) (nw : Nat → Int32) (hv : Int32) : Int32 := (mRun pt pd ab cN rN nw 0 (fun _ => 0) hv 99).1
def mDig1 (pt pd ab : Nat → Int32) (cN rN : Nat) (nw : Nat → Int32) : Nat → Nat → Int64 → Int64
  | 0, _, d => mDig2 pt pd cN rN nw rN 0 d
  | n + 1, k, d => mDig1 pt pd ab cN rN nw n (k + 1) (dg (dg (dg d (nw (81 + nI k).toNatClampNeg)) (ab k)) (mRuns pt pd ab cN rN nw (nI k)))
def mDig (pt pd ab : Nat → Int32) (cN rN : Nat) (nw : Nat → Int32) : Int64 := mDig1 pt pd ab cN rN nw 2 0 (dgA (upd (upd (upd (upd (upd (fun _ => 0) 0 (nI cN)) 1 (nI rN)) 2 (nw 83)) 3 (mTog pt)) 4 (mBest pt pd cN rN nw)) 5 0 2239)
theorem mRunL_j (pt pd ab : Nat → Int32) (cN rN : Nat) : ∀ (n k : Nat) (hv : Int32) (nw : Nat → Int32) (tn : Int32) (wy : Nat → Int32) (tn2 : Int32) (wy2 : Nat → Int32), (mRunL pt pd ab cN rN n k hv nw tn wy).1 = (mRunL pt pd ab cN rN n k hv nw tn2 wy2).1 ∧ (mRunL pt pd ab cN rN n k hv nw tn wy).2.1 = (mRunL pt pd ab cN rN n k hv nw tn2 wy2).2.1 := by
  intro n
  induction n with
  | zero => intro k hv nw tn wy tn2 wy2; exact ⟨rfl, rfl⟩
  | succ n ih =>
    intro k hv nw tn wy tn2 wy2
    by_cases a : hv < 0
    · simp [mRunL, a]
    · by_cases b : nw (81 + hv).toNatClampNeg ≤ 0
      · simp [mRunL, a, b]
      · simp [mRunL, a, b]
theorem mRuns_e (pt pd ab : Nat → Int32) (cN rN : Nat) (nw : Nat → Int32) (tn : Int32) (wy : Nat → Int32) (hv : Int32) : (mRun pt pd ab cN rN nw tn wy hv 99).1 = mRuns pt pd ab cN rN nw hv := (mRunL_j pt pd ab cN rN _ _ _ _ _ _ _ _).1
