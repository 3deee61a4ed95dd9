/-! ===== class and reference, step by step alike ===== -/
def OKc (p e d v : Int32) : Prop := (p = 3 → e = 2 ∧ (v = 0 ∨ v = 1)) ∧ (p = 5 → ∃ q k : Nat, 2 ≤ q ∧ q ≤ 9 ∧ e = nI q ∧ d = nI q ∧ k < q ∧ v = nI k)
def RS (cN rN : Nat) (pa pe pt pd st nw : Nat → Int32) : Prop := ∀ r c, r < rN → c < cN → pa (r * cN + c) = pt (9 * r + c) ∧ st (r * cN + c) = nw (9 * r + c) ∧ OKc (pt (9 * r + c)) (pe (r * cN + c)) (pd (9 * r + c)) (nw (9 * r + c))
theorem pl_lt {cN rN r c : Nat} (hr : r < rN) (hc : c < cN) : r * cN + c < rN * cN := by
  have h := Nat.mul_le_mul_right cN (show r + 1 ≤ rN from hr)
  rw [Nat.succ_mul] at h
  omega
theorem pl_72 {cN rN : Nat} (h8 : rN ≤ 8) (h9 : cN ≤ 9) : rN * cN ≤ 72 := Nat.mul_le_mul h8 h9
theorem pl_inj {cN r c r2 c2 : Nat} (hc : c < cN) (hc2 : c2 < cN) (h : r * cN + c = r2 * cN + c2) : r = r2 ∧ c = c2 := by
  rcases Nat.lt_trichotomy r r2 with q | q | q
  · have := pl_lt q hc; omega
  · subst q; exact ⟨rfl, by omega⟩
  · have := pl_lt q hc2; omega
theorem ix_x (k cN j : Nat) : nI k * nI cN + nI j = nI (k * cN + j) := by rw [pk_mul, nI_add]
theorem ix_m (k j : Nat) : 9 * nI k + nI j = nI (9 * k + j) := by rw [show (9 : Int32) = nI 9 from rfl, pk_mul, nI_add]
theorem ix_mc {k j : Nat} (hk : k < 8) (hj : j < 9) : (9 * nI k + nI j).toNatClampNeg = 9 * k + j := by rw [ix_m, nI_clamp (by omega)]
theorem upd_self (f : Nat → Int32) (k : Nat) : upd f k (f k) = f := by
  funext j
  unfold upd
  by_cases e : j = k
  · rw [if_pos e, e]
  · rw [if_neg e]
theorem xhas_m {x : Int32} {n : Nat} (h1 : 1 ≤ n) (h2 : n < 2 ^ 31) : xhas (nI n) x = mFrom x 0 (nI n - 1) := by
  rw [nI_sub1 h1]
  unfold xhas mFrom
  by_cases a : x < 0
  · rw [if_pos a, if_pos a]
  · rw [if_neg a, if_neg a]
    by_cases b : nI n ≤ x
    · rw [if_pos b, if_pos]
      rw [Int32.lt_iff_toInt_lt, nI_toInt (by omega)]
      rw [Int32.le_iff_toInt_le, nI_toInt h2] at b
      omega
    · rw [if_neg b, if_neg]
      rw [Int32.lt_iff_toInt_lt, nI_toInt (by omega)]
      rw [Int32.le_iff_toInt_le, nI_toInt h2] at b
      omega
theorem stepSim {cN rN : Nat} {pa pe pt pd st nw : Nat → Int32} (h9 : cN ≤ 9) (h8 : rN ≤ 8) (h : RS cN rN pa pe pt pd st nw) {k j : Nat} (hk : k < rN) (hj : j < cN) (came tn : Int32) :
    (xWay pa pe st (nI k * nI cN + nI j) came).1 = (mGo pt pd nw tn (9 * k + j) came).1 ∧
    ∃ v : Int32, (xWay pa pe st (nI k * nI cN + nI j) came).2 = upd st (k * cN + j) v ∧ (mGo pt pd nw tn (9 * k + j) came).2.1 = upd nw (9 * k + j) v ∧ OKc (pt (9 * k + j)) (pe (k * cN + j)) (pd (9 * k + j)) v ∧
      ((pt (9 * k + j) = 3 ∧ (mGo pt pd nw tn (9 * k + j) came).2.2 = tn + 1 ∧ ((v = 1 ∧ nw (9 * k + j) = 0) ∨ (v = 0 ∧ nw (9 * k + j) = 1))) ∨ (¬ pt (9 * k + j) = 3 ∧ (mGo pt pd nw tn (9 * k + j) came).2.2 = tn)) := by
  have hlt := pl_lt hk hj
  have h72 := pl_72 h8 h9
  obtain ⟨hp, hs, hok⟩ := h k j hk hj
  rw [ix_x]
  have ea : xcl 72 pa (nI (k * cN + j)) = pt (9 * k + j) := by rw [xcl_n (by omega) (by decide), hp]
  have es : xcl 72 st (nI (k * cN + j)) = nw (9 * k + j) := by rw [xcl_n (by omega) (by decide), hs]
  have ee : xcl 72 pe (nI (k * cN + j)) = pe (k * cN + j) := xcl_n (by omega) (by decide) _
  have ew : ∀ v, xsc 72 st (nI (k * cN + j)) v = upd st (k * cN + j) v := fun v => xsc_n (by omega) (by decide) _ _
  have same : st = upd st (k * cN + j) (nw (9 * k + j)) := by rw [← hs, upd_self]
  have same2 : nw = upd nw (9 * k + j) (nw (9 * k + j)) := (upd_self _ _).symm
  by_cases c1 : pt (9 * k + j) = 1
  · simp only [xWay, mGo, ea, c1]
    exact ⟨rfl, _, same, same2, by rw [← c1]; exact hok, Or.inr ⟨by decide, rfl⟩⟩
  by_cases c2 : pt (9 * k + j) = 2
  · simp only [xWay, mGo, ea, c2]
    exact ⟨rfl, _, same, same2, by rw [← c2]; exact hok, Or.inr ⟨by decide, rfl⟩⟩
  by_cases c4 : pt (9 * k + j) = 4
  · simp only [xWay, mGo, ea, c4]
    exact ⟨rfl, _, same, same2, by rw [← c4]; exact hok, Or.inr ⟨by decide, rfl⟩⟩
  by_cases c3 : pt (9 * k + j) = 3
  · obtain ⟨h2, hv⟩ := hok.1 c3
    rcases hv with hv | hv
    · have e1 : xWay pa pe st (nI (k * cN + j)) came = (-1, upd st (k * cN + j) 1) := by
        simp only [xWay, ea, c3, xWayS, es, ee, h2, hv, ew]
        rfl
      have e2 : mGo pt pd nw tn (9 * k + j) came = (-1, upd nw (9 * k + j) 1, tn + 1) := by
        simp only [mGo, c3, hv]
        rfl
      rw [e1, e2]
      exact ⟨rfl, 1, rfl, rfl, ⟨fun _ => ⟨h2, Or.inr rfl⟩, fun z => by rw [c3] at z; exact absurd z (by decide)⟩, Or.inl ⟨c3, rfl, Or.inl ⟨rfl, hv⟩⟩⟩
    · have e1 : xWay pa pe st (nI (k * cN + j)) came = (1, upd st (k * cN + j) 0) := by
        simp only [xWay, ea, c3, xWayS, es, ee, h2, hv, ew]
        rfl
      have e2 : mGo pt pd nw tn (9 * k + j) came = (1, upd nw (9 * k + j) 0, tn + 1) := by
        simp only [mGo, c3, hv]
        rfl
      rw [e1, e2]
      exact ⟨rfl, 0, rfl, rfl, ⟨fun _ => ⟨h2, Or.inl rfl⟩, fun z => by rw [c3] at z; exact absurd z (by decide)⟩, Or.inl ⟨c3, rfl, Or.inr ⟨rfl, hv⟩⟩⟩
  by_cases c5 : pt (9 * k + j) = 5
  · obtain ⟨q, x, hq1, hq2, he, hd, hx, hv⟩ := hok.2 c5
    have er : mRem nw pd (9 * k + j) = nI ((x + 1) % q) := by
      unfold mRem
      rw [hv, hd, nI_1, pk_rem (by omega) (by omega) (by omega)]
    by_cases hlast : x + 1 < q
    · have e1 : xWay pa pe st (nI (k * cN + j)) came = (-1, upd st (k * cN + j) (nI (x + 1))) := by
        simp only [xWay, ea, c5, xWayS, es, ee, he, hv, ew, nI_1]
        rw [if_neg (by decide), if_neg (by decide), if_neg (by decide), if_neg (by decide), if_pos trivial, if_pos (nI_lt hlast (by omega))]
      have e2 : mGo pt pd nw tn (9 * k + j) came = (-1, upd nw (9 * k + j) (nI (x + 1)), tn) := by
        simp only [mGo, c5, er, Nat.mod_eq_of_lt hlast]
        rw [if_neg (by decide), if_neg (by decide), if_neg (by decide), if_neg (by decide), if_pos trivial, if_neg (nI_ne0 (by omega) (by omega))]
      rw [e1, e2]
      exact ⟨rfl, _, rfl, rfl, ⟨fun z => absurd z c3, fun _ => ⟨q, x + 1, hq1, hq2, he, hd, hlast, rfl⟩⟩, Or.inr ⟨c3, rfl⟩⟩
    · have hxq : x + 1 = q := by omega
      have e1 : xWay pa pe st (nI (k * cN + j)) came = (1, upd st (k * cN + j) 0) := by
        simp only [xWay, ea, c5, xWayS, es, ee, he, hv, ew, nI_1]
        rw [if_neg (by decide), if_neg (by decide), if_neg (by decide), if_neg (by decide), if_pos trivial, if_neg (nI_nlt (by omega) (by omega))]
      have e2 : mGo pt pd nw tn (9 * k + j) came = (1, upd nw (9 * k + j) 0, tn) := by
        simp only [mGo, c5, er, hxq, Nat.mod_self, nI_0]
        rw [if_neg (by decide), if_neg (by decide), if_neg (by decide), if_neg (by decide), if_pos trivial, if_pos trivial]
      rw [e1, e2]
      exact ⟨rfl, 0, rfl, rfl, ⟨fun z => absurd z c3, fun _ => ⟨q, 0, hq1, hq2, he, hd, by omega, nI_0.symm⟩⟩, Or.inr ⟨c3, rfl⟩⟩
  · have e1 : xWay pa pe st (nI (k * cN + j)) came = (0, st) := by
      simp only [xWay, ea]
      rw [if_neg c1, if_neg c2, if_neg c4, if_neg c3, if_neg c5]
    have e2 : mGo pt pd nw tn (9 * k + j) came = (0, nw, tn) := by
      simp only [mGo]
      rw [if_neg c1, if_neg c2, if_neg c3, if_neg c4, if_neg c5]
    rw [e1, e2]
    exact ⟨rfl, _, same, same2, hok, Or.inr ⟨c3, rfl⟩⟩
theorem RS.upd2 {cN rN : Nat} {pa pe pt pd st nw : Nat → Int32} (h9 : cN ≤ 9) (h : RS cN rN pa pe pt pd st nw) {k j : Nat} (hj : j < cN) {v : Int32} (hv : OKc (pt (9 * k + j)) (pe (k * cN + j)) (pd (9 * k + j)) v) : RS cN rN pa pe pt pd (upd st (k * cN + j) v) (upd nw (9 * k + j) v) := by
  intro r c hr hc
  obtain ⟨h1, h2, h3⟩ := h r c hr hc
  by_cases e : r = k ∧ c = j
  · obtain ⟨rfl, rfl⟩ := e
    refine ⟨h1, ?_, ?_⟩
    · rw [pk_us, pk_us]
    · rw [pk_us]; exact hv
  · have n1 : r * cN + c ≠ k * cN + j := fun z => e (pl_inj hc hj z)
    have n2 : 9 * r + c ≠ 9 * k + j := fun z => e ⟨by omega, by omega⟩
    rw [pk_un n1, pk_un n2]
    exact ⟨h1, h2, h3⟩
