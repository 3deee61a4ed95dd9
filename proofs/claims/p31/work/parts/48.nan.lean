/-! ===== the mean is no NaN ===== -/
section NN
def NNd : FP.Core.Datum → Prop
  | .nan => False
  | .inf _ => True
  | .fin _ c q => c < 2 ^ 53 ∧ q ≤ 971
theorem fmt_t : FP.Core.Fmt.tails FP.Core.b64 = 4503599627370496 := by decide
theorem fmt_e : FP.Core.Fmt.exps FP.Core.b64 = 2048 := by decide
theorem fmt_m : FP.Core.Fmt.qmin FP.Core.b64 = -1074 := by decide
theorem fmt_x : FP.Core.Fmt.qmax FP.Core.b64 = 971 := by decide
theorem fmt_p : (2 : Nat) ^ FP.Core.b64.p = 9007199254740992 := by decide
theorem enc_ok {d : FP.Core.Datum} (h : NNd d) : FP.Core.encode FP.Core.b64 d < 18446744073709551616 ∧ FP.Core.encode FP.Core.b64 d % 9223372036854775808 ≤ 9218868437227405312 := by
  cases d with
  | nan => exact h.elim
  | inf s =>
    unfold FP.Core.encode FP.Core.assemble
    rw [fmt_t, fmt_e]
    cases s <;> decide
  | fin s c q =>
    obtain ⟨h1, h2⟩ := h
    have h1 : c < 9007199254740992 := h1
    unfold FP.Core.encode
    rw [fmt_t, fmt_m]
    dsimp only
    have hs : s.toNat ≤ 1 := by cases s <;> decide
    by_cases hc : c < 4503599627370496
    · rw [if_pos hc]
      unfold FP.Core.assemble
      rw [fmt_t, fmt_e]
      omega
    · rw [if_neg hc]
      unfold FP.Core.assemble
      rw [fmt_t, fmt_e]
      have hq : (q - -1074).toNat ≤ 2045 := by omega
      omega
theorem rr_ok (s : Bool) (num den : Nat) (e : Int) : NNd (FP.Core.roundRatio FP.Core.b64 s num den e) := by
  unfold FP.Core.roundRatio
  by_cases h : num = 0
  · rw [if_pos h, fmt_m]
    exact ⟨by decide, by decide⟩
  · rw [if_neg h]
    unfold FP.Core.roundAt FP.Core.settle
    generalize FP.Core.nearest _ _ = c
    generalize FP.Core.quantum _ _ _ _ = q
    by_cases hc : c < 2 ^ FP.Core.b64.p
    · rw [if_pos hc]
      unfold FP.Core.bound
      by_cases hq : q ≤ FP.Core.Fmt.qmax FP.Core.b64
      · rw [if_pos hq]
        exact ⟨hc, by rw [fmt_x] at hq; exact hq⟩
      · rw [if_neg hq]
        trivial
    · rw [if_neg hc]
      unfold FP.Core.bound
      by_cases hq : q + 1 ≤ FP.Core.Fmt.qmax FP.Core.b64
      · rw [if_pos hq]
        exact ⟨by rw [fmt_t]; decide, by rw [fmt_x] at hq; exact hq⟩
      · rw [if_neg hq]
        trivial
theorem dec_ok {n : Nat} (h : n % 9223372036854775808 ≤ 9218868437227405312) : ¬ FP.Core.decode FP.Core.b64 n = .nan := by
  unfold FP.Core.decode
  by_cases h1 : FP.Core.fieldE FP.Core.b64 n = FP.Core.Fmt.exps FP.Core.b64 - 1
  · rw [if_pos h1]
    unfold FP.Core.fieldE at h1
    rw [fmt_t, fmt_e] at h1
    have : FP.Core.fieldT FP.Core.b64 n = 0 := by
      unfold FP.Core.fieldT
      rw [fmt_t]
      omega
    rw [if_pos this]
    intro h; cases h
  · rw [if_neg h1]
    by_cases h2 : FP.Core.fieldE FP.Core.b64 n = 0
    · rw [if_pos h2]; intro h; cases h
    · rw [if_neg h2]; intro h; cases h
theorem vf_nat {n : Nat} (h1 : n < 18446744073709551616) (h2 : n % 9223372036854775808 ≤ 9218868437227405312) : vf_n64 (UInt64.ofNat n) := by
  unfold vf_n64
  rw [UInt64.le_iff_toNat_le, UInt64.toNat_and, UInt64.toNat_ofNat']
  rw [Nat.mod_eq_of_lt (show n < 2 ^ 64 from h1)]
  have e : (9223372036854775807 : UInt64).toNat = 2 ^ 63 - 1 := by decide
  have e2 : (9218868437227405312 : UInt64).toNat = 9218868437227405312 := by decide
  rw [e, e2, Nat.and_two_pow_sub_one_eq_mod]
  exact h2
theorem vf_toNat {r : UInt64} (h : vf_n64 r) : r.toNat % 9223372036854775808 ≤ 9218868437227405312 := by
  unfold vf_n64 at h
  rw [UInt64.le_iff_toNat_le, UInt64.toNat_and] at h
  have e : (9223372036854775807 : UInt64).toNat = 2 ^ 63 - 1 := by decide
  have e2 : (9218868437227405312 : UInt64).toNat = 9218868437227405312 := by decide
  rw [e, e2, Nat.and_two_pow_sub_one_eq_mod] at h
  exact h
theorem vf_enc {d : FP.Core.Datum} (h : NNd d) : vf_n64 (UInt64.ofNat (FP.Core.encode FP.Core.b64 d)) := vf_nat (enc_ok h).1 (enc_ok h).2
theorem i2d_ok (x : Int32) : ¬ FP.Core.decode FP.Core.b64 (FP.i2d x).toNat = .nan := dec_ok (vf_toNat (vf_enc (rr_ok _ _ _ _)))
def finN (d : FP.Core.Datum) : Bool := match d with
  | .fin _ c _ => decide (c ≠ 0)
  | _ => false
theorem i2d_c : ∀ c ∈ ([2, 3, 4, 5, 6, 7, 8, 9] : List Nat), finN (FP.Core.decode FP.Core.b64 (FP.i2d (nI c)).toNat) = true := by decide +kernel
theorem quo_ok {x y : FP.Core.Datum} (hx : ¬ x = .nan) (hy : finN y = true) : NNd (FP.Core.quotient FP.Core.b64 x y) := by
  cases y with
  | nan => cases hy
  | inf s => cases hy
  | fin t d r =>
    have hd : ¬ d = 0 := of_decide_eq_true hy
    cases x with
    | nan => exact absurd rfl hx
    | inf s => exact trivial
    | fin s c q =>
      show NNd (if d = 0 then _ else _)
      rw [if_neg hd]
      exact rr_ok _ _ _ _
theorem mean_ok (x : Int32) {c : Nat} (h2 : 2 ≤ c) (h9 : c ≤ 9) : vf_n64 (FP.ddiv (FP.i2d x) (FP.i2d (nI c))) :=
  vf_enc (quo_ok (i2d_ok x) (i2d_c c (by simp; omega)))
theorem cmp_self (a : Int) : compare a a = .eq := by
  show compareOfLessAndEq a a = .eq
  unfold compareOfLessAndEq
  rw [if_neg (by omega), if_pos rfl]
theorem dcmp_self {r : UInt64} (h : vf_n64 r) : FP.dcmp r r = some .eq := by
  have h1 := dec_ok (vf_toNat h)
  unfold FP.dcmp FP.Core.dcmp FP.Core.cmp
  generalize FP.Core.decode FP.Core.b64 r.toNat = d at h1
  cases d with
  | nan => exact absurd rfl h1
  | inf s => show some (compare _ _) = _; rw [cmp_self]
  | fin s c q => show some (compare _ _) = _; rw [cmp_self]
end NN
