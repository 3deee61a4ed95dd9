/-! ===== the class's calls in pure words ===== -/
abbrev MS : Type := (Nat → Int32) × (Nat → Int32) × (Nat → Int32) × (Nat → Int32) × (Nat → Int32) × (Nat → Int32) × Int32 × Int32 × Int32
def xin (v lo hi : Int32) : Bool := if v < lo then false else if v ≤ hi then true else false
theorem xin_spec {v lo hi : Int32} (h : xin v lo hi = true) : ¬ v < lo ∧ v ≤ hi := by
  unfold xin at h
  by_cases a : v < lo
  · simp [a] at h
  · by_cases b : v ≤ hi
    · exact ⟨a, b⟩
    · simp [a, b] at h
theorem xhas_spec {C i : Int32} (h : xhas C i = true) : ¬ i < 0 ∧ ¬ C ≤ i := by
  unfold xhas at h
  by_cases a : i < 0
  · simp [a] at h
  · by_cases b : C ≤ i
    · simp [a, b] at h
    · exact ⟨a, b⟩
theorem xhas_2 {i : Int32} (h : xhas 2 i = true) : i < 2 := Int32.not_le.mp (xhas_spec h).2
theorem xhas_n {C : Int32} {k : Nat} (h : k < C.toNatClampNeg) : xhas C (nI k) = true := by
  have h1 := clampLt C
  have a : ¬ nI k < 0 := nI_pos (by omega)
  have b : ¬ C ≤ nI k := by rw [lc_le (by omega)]; omega
  rw [xhas, if_neg a, if_neg b]
def xWTurn (pa pe st : Nat → Int32) (C R col : Int32) : Int32 := xUnl pa (xFall pa pe st C col R).2 pa st
def xLastL (pa pe : Nat → Int32) (C R col : Int32) : Nat → Int32 → (Nat → Int32) → Int32
  | 0, en, _ => en
  | n + 1, _, sv => xLastL pa pe C R col n (xFall pa pe sv C col R).1 (xFall pa pe sv C col R).2
def xLast (pa pe st : Nat → Int32) (C R col mm : Int32) : Int32 := xLastL pa pe C R col mm.toNatClampNeg (-1) st
def xAsbL (pa pe st : Nat → Int32) (C R col : Int32) : Nat → Nat → (Nat → Int32) → Int32
  | 0, _, _ => -1
  | n + 1, k, sv => if xSame (xFall pa pe sv C col R).2 st = true then nI k else xAsbL pa pe st C R col n (k + 1) (xFall pa pe sv C col R).2
def xAsb (pa pe st : Nat → Int32) (C R col : Int32) : Int32 := xAsbL pa pe st C R col 60 1 st
def xBestL (pa pe st : Nat → Int32) (C R : Int32) : Nat → Nat → Int32 → Int32 → Int32
  | 0, _, be, _ => be
  | n + 1, k, be, mo => if xWTurn pa pe st C R (nI k) ≤ mo then xBestL pa pe st C R n (k + 1) be mo else xBestL pa pe st C R n (k + 1) (nI k) (xWTurn pa pe st C R (nI k))
def xBest (pa pe st : Nat → Int32) (C R : Int32) : Int32 := xBestL pa pe st C R C.toNatClampNeg 0 0 0
abbrev dg (d : Int64) (v : Int32) : Int64 := d * 31 + v.toInt64
def xDig4 (pa st : Nat → Int32) (C : Int32) (r : Nat) : Nat → Nat → Int64 → Int64
  | 0, _, d => d
  | n + 1, k, d => xDig4 pa st C r n (k + 1) (dg (dg (dg d (xcl 72 pa (nI r * C + nI k))) (if xRight pa st (nI r * C + nI k) = true then 1 else 0)) (xCnt pa st (nI r * C + nI k)))
def xDig3 (pa pe st bn hc hm : Nat → Int32) (C R lo : Int32) : Nat → Nat → Int64 → Int64
  | 0, _, d => d
  | n + 1, k, d => xDig3 pa pe st bn hc hm C R lo n (k + 1) (dg (dg (dg (dg d (xcl 9 bn (nI k))) (xFall pa pe st C (nI k) R).1) (xWTurn pa pe st C R (nI k))) (xAsb pa pe st C R (nI k)))
def xDig2 (pa pe st bn hc hm : Nat → Int32) (C R lo : Int32) : Nat → Nat → Int64 → Int64
  | 0, _, d => xDig3 pa pe st bn hc hm C R lo C.toNatClampNeg 0 d
  | n + 1, k, d => xDig2 pa pe st bn hc hm C R lo n (k + 1) (xDig4 pa st C k C.toNatClampNeg 0 (dg d (xNum pa st C (nI k))))
def xDig1 (pa pe st bn hc hm : Nat → Int32) (C R lo : Int32) : Nat → Nat → Int64 → Int64
  | 0, _, d => xDig2 pa pe st bn hc hm C R lo R.toNatClampNeg 0 d
  | n + 1, k, d => xDig1 pa pe st bn hc hm C R lo n (k + 1) (dg (dg (dg d (xcl 2 hm (nI k))) (xcl 2 hc (nI k))) (xRun pa pe st bn hc hm C R lo (nI k) 99).1)
def xDig (pa pe st bn hc hm : Nat → Int32) (C R lo : Int32) : Int64 := xDig1 pa pe st bn hc hm C R lo 2 0 (dg (dg (dg (dg (dg 2239 C) R) lo) (xTog pa)) (xBest pa pe st C R))
theorem nf_t {b : Bool} (h : ¬ b = false) : b = true := by cases b <;> simp_all
