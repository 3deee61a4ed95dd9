/-! ===== the class in words of its own: pure functions that follow its methods ===== -/
abbrev wM (cI : ClassId) (a : Nat → Nat) (pa pe st bn hc hm : Nat → Int32) (C R lo : Int32) : va_W := [(a 0, .inr (0, [.ref (a 1), .ref (a 2), .ref (a 3), .ref (a 4), .ref (a 5), .ref (a 6), .int C, .int R, .int lo])), (a 1, .inl (cI, 72, .inl pa)), (a 2, .inl (cI, 72, .inl pe)), (a 3, .inl (cI, 72, .inl st)), (a 4, .inl (cI, 9, .inl bn)), (a 5, .inl (cI, 2, .inl hc)), (a 6, .inl (cI, 2, .inl hm))]
abbrev wX (x : Nat) (a b : Nat → Nat) : va_W := [(x, .inr (1, [.ref (a 0), .ref (b 0)]))]
abbrev wA (cI : ClassId) (q n : Nat) (f : Nat → Int32) : va_W := [(q, .inl (cI, n, .inl f))]
abbrev wL (cL : ClassId) (q n : Nat) (f : Nat → Int64) : va_W := [(q, .inl (cL, n, .inr (.inl f)))]
abbrev wN (cI : ClassId) (a : Nat → Nat) (pt pd ab nw kp wy : Nat → Int32) (th C R tn : Int32) : va_W := [(a 0, .inr (2, [.int th, .int C, .int R, .ref (a 1), .ref (a 2), .ref (a 3), .ref (a 4), .ref (a 5), .int tn, .ref (a 6)])), (a 1, .inl (cI, 72, .inl pt)), (a 2, .inl (cI, 72, .inl pd)), (a 3, .inl (cI, 2, .inl ab)), (a 4, .inl (cI, 84, .inl nw)), (a 5, .inl (cI, 84, .inl kp)), (a 6, .inl (cI, 8, .inl wy))]
def bi (b : Bool) : Int32 := if b then 1 else 0
theorem bi_t {b : Bool} (h : b = true) : bi b = 1 := by subst h; rfl
theorem bi_f {b : Bool} (h : b = false) : bi b = 0 := by subst h; rfl
theorem bi01 (b : Bool) : bi b = 0 ∨ bi b = 1 := by cases b <;> simp [bi]
theorem bi_e0 (b : Bool) : (bi b = 0) = (b = false) := by cases b <;> simp [bi]
theorem bi_e1 (b : Bool) : (bi b = 1) = (b = true) := by cases b <;> simp [bi]
theorem clampLt (x : Int32) : x.toNatClampNeg < 2 ^ 31 := by
  have h := x.toInt_lt
  have h2 : x.toNatClampNeg = x.toInt.toNat := rfl
  omega
theorem clampE (x : Int32) : x.toNatClampNeg = x.toInt.toNat := rfl
theorem lc_le {x : Int32} {k : Nat} (hk : k < 2 ^ 31) : x ≤ nI k ↔ x.toNatClampNeg ≤ k := by
  rw [Int32.le_iff_toInt_le, nI_toInt hk, clampE]
  omega
theorem in_cmp {x : Int32} {n : Nat} (hn : n < 2 ^ 31) (h1 : ¬ x < 0) (h2 : ¬ nI n ≤ x) : vp_in x n := by
  rcases pk_ix x hn with h | h | ⟨j, hj, rfl⟩
  · exact absurd h h1
  · exact absurd h h2
  · exact vp_in_nI hj hn
theorem sw_1_5 (x : Int32) : x = 1 ∨ x = 2 ∨ x = 3 ∨ x = 4 ∨ x = 5 ∨ ((x.toInt < 1 ∨ 5 < x.toInt) ∧ ¬ x = 1 ∧ ¬ x = 2 ∧ ¬ x = 3 ∧ ¬ x = 4 ∧ ¬ x = 5) := by
  have e : ∀ y : Int32, x = y ↔ x.toInt = y.toInt := fun y => ⟨fun h => by rw [h], fun h => Int32.toInt_inj.mp h⟩
  have q1 : (1 : Int32).toInt = 1 := by decide
  have q2 : (2 : Int32).toInt = 2 := by decide
  have q3 : (3 : Int32).toInt = 3 := by decide
  have q4 : (4 : Int32).toInt = 4 := by decide
  have q5 : (5 : Int32).toInt = 5 := by decide
  simp only [e, q1, q2, q3, q4, q5]
  omega
def xcl (n : Nat) (f : Nat → Int32) (i : Int32) : Int32 := if i < 0 then 0 else if nI n ≤ i then 0 else f i.toNatClampNeg
def xsc (n : Nat) (f : Nat → Int32) (i v : Int32) : Nat → Int32 := if i < 0 then f else if nI n ≤ i then f else upd f i.toNatClampNeg v
def xhas (C i : Int32) : Bool := if i < 0 then false else if C ≤ i then false else true
def xRight (pa st : Nat → Int32) (q : Int32) : Bool := if xcl 72 pa q = 3 then (if xcl 72 st q = 1 then true else false) else false
def xCnt (pa st : Nat → Int32) (q : Int32) : Int32 := if xcl 72 pa q = 5 then xcl 72 st q else 0
/-- how many toggles, from place k on, n places -/
def xTogL (pa : Nat → Int32) : Nat → Nat → Int32 → Int32
  | 0, _, t => t
  | n + 1, k, t => xTogL pa n (k + 1) (if pa k = 3 then t + 1 else t)
def xTog (pa : Nat → Int32) : Int32 := xTogL pa 72 0 0
def xNumL (pa st : Nat → Int32) (C r : Int32) : Nat → Nat → Int32 → Int32 → Int32
  | 0, _, t, _ => t
  | n + 1, k, t, w => if xcl 72 pa (r * C + nI k) = 3 then xNumL pa st C r n (k + 1) (t + if xRight pa st (r * C + nI k) = true then w else 0) (w * 2) else xNumL pa st C r n (k + 1) t w
def xNum (pa st : Nat → Int32) (C r : Int32) : Int32 := xNumL pa st C r C.toNatClampNeg 0 0 1
def xUnlL (pa st pa2 st2 : Nat → Int32) : Nat → Nat → Int32 → Int32
  | 0, _, t => t
  | n + 1, k, t => xUnlL pa st pa2 st2 n (k + 1) (if bi (xRight pa st (nI k)) = bi (xRight pa2 st2 (nI k)) then t else t + 1)
def xUnl (pa st pa2 st2 : Nat → Int32) : Int32 := xUnlL pa st pa2 st2 72 0 0
def xSameL (st st2 : Nat → Int32) : Nat → Nat → Bool
  | 0, _ => true
  | n + 1, k => if xcl 72 st (nI k) = xcl 72 st2 (nI k) then xSameL st st2 n (k + 1) else false
def xSame (st st2 : Nat → Int32) : Bool := xSameL st st2 72 0
/-- which way out of a place, and the states behind it -/
def xWayS (pe st : Nat → Int32) (q : Int32) : Int32 × (Nat → Int32) :=
  if xcl 72 st q + 1 < xcl 72 pe q then (-1, xsc 72 st q (xcl 72 st q + 1)) else (1, xsc 72 st q 0)
def xWay (pa pe st : Nat → Int32) (q came : Int32) : Int32 × (Nat → Int32) :=
  if xcl 72 pa q = 1 then (-1, st) else if xcl 72 pa q = 2 then (1, st) else if xcl 72 pa q = 4 then (came, st) else if xcl 72 pa q = 3 then xWayS pe st q else if xcl 72 pa q = 5 then xWayS pe st q else (0, st)
def xFallL (pa pe : Nat → Int32) (C : Int32) : Nat → Nat → Int32 → Int32 → (Nat → Int32) → Int32 × (Nat → Int32)
  | 0, _, at_, _, st => (at_, st)
  | n + 1, k, at_, way, st =>
    if xhas C (at_ + (xWay pa pe st (nI k * C + at_) way).1) = true then xFallL pa pe C n (k + 1) (at_ + (xWay pa pe st (nI k * C + at_) way).1) (xWay pa pe st (nI k * C + at_) way).1 (xWay pa pe st (nI k * C + at_) way).2
    else (-1, (xWay pa pe st (nI k * C + at_) way).2)
def xFall (pa pe st : Nat → Int32) (C col row : Int32) : Int32 × (Nat → Int32) := xFallL pa pe C row.toNatClampNeg 0 col 0 st
def xLandBn (bn : Nat → Int32) (r : Int32) : Nat → Int32 := if r = -1 then bn else xsc 9 bn r (xcl 9 bn r + 1)
def xLandLo (lo r : Int32) : Int32 := if r = -1 then lo + 1 else lo
def xSumL (bn : Nat → Int32) : Nat → Nat → Int32 → Int32
  | 0, _, t => t
  | n + 1, k, t => xSumL bn n (k + 1) (t + bn k)
def xSum (bn : Nat → Int32) : Int32 := xSumL bn 9 0 0
def xBehind (C bin : Int32) : Int32 := if bin = -1 then -1 else if 2 * bin = C - 1 then -1 else if 2 * bin < C - 1 then 0 else 1
def xRunL (pa pe hc : Nat → Int32) (C R : Int32) : Nat → Nat → Int32 → (Nat → Int32) → (Nat → Int32) → Int32 → (Nat → Int32) → Int32 × (Nat → Int32) × (Nat → Int32) × Int32 × (Nat → Int32)
  | 0, k, _, st, bn, lo, hm => (nI k, st, bn, lo, hm)
  | n + 1, k, fr, st, bn, lo, hm =>
    if fr = -1 then (nI k, st, bn, lo, hm)
    else if xcl 2 hm fr ≤ 0 then (nI k, st, bn, lo, hm)
    else xRunL pa pe hc C R n (k + 1) (xBehind C (xFall pa pe st C (xcl 2 hc fr) R).1) (xFall pa pe st C (xcl 2 hc fr) R).2 (xLandBn bn (xFall pa pe st C (xcl 2 hc fr) R).1) (xLandLo lo (xFall pa pe st C (xcl 2 hc fr) R).1) (xsc 2 hm fr (xcl 2 hm fr - 1))
def xRun (pa pe st bn hc hm : Nat → Int32) (C R lo hop most : Int32) : Int32 × (Nat → Int32) × (Nat → Int32) × Int32 × (Nat → Int32) := xRunL pa pe hc C R most.toNatClampNeg 0 hop st bn lo hm
def adr7 (h q1 q2 q3 q4 q5 q6 : Nat) : Nat → Nat
  | 0 => h
  | 1 => q1
  | 2 => q2
  | 3 => q3
  | 4 => q4
  | 5 => q5
  | _ => q6
theorem xsc_n {n k : Nat} (hk : k < n) (hn : n < 2 ^ 31) (f : Nat → Int32) (v : Int32) : xsc n f (nI k) v = upd f k v := by
  rw [xsc, if_neg (nI_pos (by omega)), if_neg (nI_ge hk hn), nI_clamp (by omega)]
theorem xcl_n {n k : Nat} (hk : k < n) (hn : n < 2 ^ 31) (f : Nat → Int32) : xcl n f (nI k) = f k := by
  rw [xcl, if_neg (nI_pos (by omega)), if_neg (nI_ge hk hn), nI_clamp (by omega)]
theorem xsc_fill {n k : Nat} (hn : n < 2 ^ 31) (hk : k < n) {f g : Nat → Int32} (h : ∀ j, j < k → g j = f j) : ∀ j, j < k + 1 → xsc n g (nI k) (f k) j = f j := by
  intro j hj
  rw [xsc_n hk hn]
  unfold upd
  by_cases e : j = k
  · rw [if_pos e, e]
  · rw [if_neg e]; exact h j (by omega)
theorem upd_fill {k : Nat} {v : Int32} {g : Nat → Int32} (h : ∀ j, j < k → g j = v) : ∀ j, j < k + 1 → upd g k v j = v := by
  intro j hj
  unfold upd
  by_cases e : j = k
  · rw [if_pos e]
  · rw [if_neg e]; exact h j (by omega)
