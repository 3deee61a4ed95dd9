/-! ===== two machines alike ===== -/
def Rel (cN rN : Nat) (pa pe st bn hc hm : Nat → Int32) (lo : Int32) (pt pd ab nw : Nat → Int32) : Prop :=
  (2 ≤ cN) ∧ (cN ≤ 9) ∧ (1 ≤ rN) ∧ (rN ≤ 8) ∧ (RS cN rN pa pe pt pd st nw) ∧ (∀ p, rN * cN ≤ p → p < 72 → pa p = 0) ∧ (∀ q, q < 72 → ¬ (q / 9 < rN ∧ q % 9 < cN) → pt q = 0) ∧ (TL cN bn hm lo nw) ∧ (∀ h, h < 2 → hc h = ab h ∧ ∃ j, j < cN ∧ ab h = nI j)
theorem Rel.c2 {cN rN : Nat} {pa pe st bn hc hm : Nat → Int32} {lo : Int32} {pt pd ab nw : Nat → Int32} (h : Rel cN rN pa pe st bn hc hm lo pt pd ab nw) : 2 ≤ cN := h.1
theorem Rel.c9 {cN rN : Nat} {pa pe st bn hc hm : Nat → Int32} {lo : Int32} {pt pd ab nw : Nat → Int32} (h : Rel cN rN pa pe st bn hc hm lo pt pd ab nw) : cN ≤ 9 := h.2.1
theorem Rel.r1 {cN rN : Nat} {pa pe st bn hc hm : Nat → Int32} {lo : Int32} {pt pd ab nw : Nat → Int32} (h : Rel cN rN pa pe st bn hc hm lo pt pd ab nw) : 1 ≤ rN := h.2.2.1
theorem Rel.r8 {cN rN : Nat} {pa pe st bn hc hm : Nat → Int32} {lo : Int32} {pt pd ab nw : Nat → Int32} (h : Rel cN rN pa pe st bn hc hm lo pt pd ab nw) : rN ≤ 8 := h.2.2.2.1
theorem Rel.rs {cN rN : Nat} {pa pe st bn hc hm : Nat → Int32} {lo : Int32} {pt pd ab nw : Nat → Int32} (h : Rel cN rN pa pe st bn hc hm lo pt pd ab nw) : RS cN rN pa pe pt pd st nw := h.2.2.2.2.1
theorem Rel.offA {cN rN : Nat} {pa pe st bn hc hm : Nat → Int32} {lo : Int32} {pt pd ab nw : Nat → Int32} (h : Rel cN rN pa pe st bn hc hm lo pt pd ab nw) : ∀ p, rN * cN ≤ p → p < 72 → pa p = 0 := h.2.2.2.2.2.1
theorem Rel.offM {cN rN : Nat} {pa pe st bn hc hm : Nat → Int32} {lo : Int32} {pt pd ab nw : Nat → Int32} (h : Rel cN rN pa pe st bn hc hm lo pt pd ab nw) : ∀ q, q < 72 → ¬ (q / 9 < rN ∧ q % 9 < cN) → pt q = 0 := h.2.2.2.2.2.2.1
theorem Rel.tl {cN rN : Nat} {pa pe st bn hc hm : Nat → Int32} {lo : Int32} {pt pd ab nw : Nat → Int32} (h : Rel cN rN pa pe st bn hc hm lo pt pd ab nw) : TL cN bn hm lo nw := h.2.2.2.2.2.2.2.1
theorem Rel.ha {cN rN : Nat} {pa pe st bn hc hm : Nat → Int32} {lo : Int32} {pt pd ab nw : Nat → Int32} (h : Rel cN rN pa pe st bn hc hm lo pt pd ab nw) : ∀ h, h < 2 → hc h = ab h ∧ ∃ j, j < cN ∧ ab h = nI j := h.2.2.2.2.2.2.2.2
theorem Rel.inv {cN rN : Nat} {pa pe st bn hc hm : Nat → Int32} {lo : Int32} {pt pd ab nw : Nat → Int32} (h : Rel cN rN pa pe st bn hc hm lo pt pd ab nw) : mInv cN rN pt pd ab := by
  refine ⟨⟨by have := h.c2; omega, h.c9⟩, h.r8, ?_, fun i hi => (h.ha i hi).2⟩
  intro q hq h5
  by_cases c : q / 9 < rN ∧ q % 9 < cN
  · obtain ⟨_, _, h3⟩ := h.rs _ _ c.1 c.2
    rw [Nat.div_add_mod] at h3
    obtain ⟨x, k, x2, _, _, xd, _⟩ := h3.2 h5
    rw [xd]
    exact nI_ne0 (by omega) (by omega)
  · rw [h.offM q hq c] at h5
    exact absurd h5 (by decide)
theorem xin_m (v lo hi : Int32) : xin v lo hi = mFrom v lo hi := by
  unfold xin mFrom
  by_cases a : v < lo
  · rw [if_pos a, if_pos a]
  · rw [if_neg a, if_neg a]
    by_cases b : v ≤ hi
    · rw [if_pos b, if_neg (Int32.not_lt.mpr b)]
    · rw [if_neg b, if_pos (Int32.not_le.mp b)]
theorem xhas2_m (x : Int32) : xhas 2 x = mFrom x 0 1 := by
  have h := xhas_m (x := x) (n := 2) (by omega) (by omega)
  rw [show (nI 2 - 1 : Int32) = 1 from by decide] at h
  exact h
theorem pl_t {cN rN : Nat} {r k : Int32} (h1 : 1 ≤ cN) (h9 : cN ≤ 9) (h2 : 1 ≤ rN) (h8 : rN ≤ 8) (a : xhas (nI rN) r = true) (b : xhas (nI cN) k = true) : mPlace (nI rN) (nI cN) r k = true := by
  rw [xhas_m h2 (by omega)] at a
  rw [xhas_m h1 (by omega)] at b
  rw [mPlace, if_pos a, if_pos b]
theorem pl_r {cN rN : Nat} {r k : Int32} (h2 : 1 ≤ rN) (h8 : rN ≤ 8) (a : xhas (nI rN) r = false) : mPlace (nI rN) (nI cN) r k = false := by
  rw [xhas_m h2 (by omega)] at a
  rw [mPlace, if_neg (by rw [a]; decide)]
theorem pl_c {cN rN : Nat} {r k : Int32} (h1 : 1 ≤ cN) (h9 : cN ≤ 9) (b : xhas (nI cN) k = false) : mPlace (nI rN) (nI cN) r k = false := by
  rw [xhas_m h1 (by omega)] at b
  rw [mPlace]
  by_cases a : mFrom r 0 (nI rN - 1) = true
  · rw [if_pos a, if_neg (by rw [b]; decide)]
  · rw [if_neg a]
theorem xhas_nI {n : Nat} {x : Int32} (h1 : 1 ≤ n) (h2 : n < 2 ^ 31) (a : xhas (nI n) x = true) : ∃ j, j < n ∧ x = nI j := by
  rw [xhas_m h1 h2] at a
  exact mFrom_n a h1 h2
/-- a place changed on both sides -/
theorem Rel.place {cN rN : Nat} {pa pe st bn hc hm : Nat → Int32} {lo : Int32} {pt pd ab nw : Nat → Int32} (h : Rel cN rN pa pe st bn hc hm lo pt pd ab nw) {r c : Nat} (hr : r < rN) (hcc : c < cN) {p e d v : Int32} (hok : OKc p e d v) : Rel cN rN (upd pa (r * cN + c) p) (upd pe (r * cN + c) e) (upd st (r * cN + c) v) bn hc hm lo (upd pt (9 * r + c) p) (upd pd (9 * r + c) d) ab (upd nw (9 * r + c) v) := by
  have h9 := h.c9
  have h8 := h.r8
  have hlt := pl_lt hr hcc
  refine ⟨h.c2, h.c9, h.r1, h.r8, ?_, ?_, ?_, ?_, h.ha⟩
  · intro r2 c2 hr2 hc2
    obtain ⟨q1, q2, q3⟩ := h.rs r2 c2 hr2 hc2
    by_cases e : r2 = r ∧ c2 = c
    · obtain ⟨rfl, rfl⟩ := e
      rw [pk_us, pk_us, pk_us, pk_us, pk_us, pk_us]
      exact ⟨rfl, rfl, hok⟩
    · have n1 : r2 * cN + c2 ≠ r * cN + c := fun z => e (pl_inj hc2 hcc z)
      have n2 : 9 * r2 + c2 ≠ 9 * r + c := fun z => e ⟨by omega, by omega⟩
      rw [pk_un n1, pk_un n1, pk_un n1, pk_un n2, pk_un n2, pk_un n2]
      exact ⟨q1, q2, q3⟩
  · intro p hp hp2
    rw [pk_un (by omega)]
    exact h.offA p hp hp2
  · intro q hq hn
    rw [pk_un (fun z => hn (by subst z; exact ⟨by omega, by omega⟩))]
    exact h.offM q hq hn
  · exact h.tl.of h9 fun q hq => pk_un (by omega)
theorem Rel.next {cN rN : Nat} {pa pe st bn hc hm : Nat → Int32} {lo : Int32} {pt pd ab nw : Nat → Int32} (h : Rel cN rN pa pe st bn hc hm lo pt pd ab nw) {st2 bn2 hm2 nw2 : Nat → Int32} {lo2 : Int32} (h1 : RS cN rN pa pe pt pd st2 nw2) (h2 : TL cN bn2 hm2 lo2 nw2) : Rel cN rN pa pe st2 bn2 hc hm2 lo2 pt pd ab nw2 := ⟨h.c2, h.c9, h.r1, h.r8, h1, h.offA, h.offM, h2, h.ha⟩
theorem Rel.hop {cN rN : Nat} {pa pe st bn hc hm : Nat → Int32} {lo : Int32} {pt pd ab nw : Nat → Int32} (h : Rel cN rN pa pe st bn hc hm lo pt pd ab nw) {i j : Nat} (hi : i < 2) (hj : j < cN) (m : Int32) : Rel cN rN pa pe st bn (upd hc i (nI j)) (upd hm i m) lo pt pd (upd ab i (nI j)) (upd nw (81 + i) m) := by
  have h9 := h.c9
  have h8 := h.r8
  refine ⟨h.c2, h.c9, h.r1, h.r8, h.rs.tal h9 h8 fun q hq => pk_un (by omega), h.offA, h.offM, ?_, ?_⟩
  · obtain ⟨t1, t2, t3, t4⟩ := h.tl
    refine ⟨fun c hc => by rw [pk_un (by omega)]; exact t1 c hc, t2, by rw [pk_un (by omega)]; exact t3, fun k hk => ?_⟩
    by_cases e : k = i
    · subst e; rw [pk_us, pk_us]
    · rw [pk_un e, pk_un (by omega)]; exact t4 k hk
  · intro k hk
    by_cases e : k = i
    · subst e; rw [pk_us, pk_us]; exact ⟨rfl, j, hj, rfl⟩
    · rw [pk_un e, pk_un e]; exact h.ha k hk
theorem Rel.empty {cN rN : Nat} {pa pe st bn hc hm : Nat → Int32} {lo : Int32} {pt pd ab nw : Nat → Int32} (h : Rel cN rN pa pe st bn hc hm lo pt pd ab nw) : Rel cN rN pa pe st (fun _ => 0) hc hm lo pt pd ab (mE cN nw) := by
  have h9 := h.c9
  have h8 := h.r8
  have lo72 : ∀ q, q < 72 → mE cN nw q = nw q := fun q hq => if_neg (by omega)
  have hi81 : ∀ q, 81 ≤ q → mE cN nw q = nw q := fun q hq => if_neg (by omega)
  obtain ⟨t1, t2, t3, t4⟩ := h.tl
  refine h.next (h.rs.tal h9 h8 lo72) ⟨fun c hc => ?_, fun _ _ _ => rfl, by rw [hi81 _ (by omega)]; exact t3, fun k hk => by rw [hi81 _ (by omega)]; exact t4 k hk⟩
  show 0 = mE cN nw (72 + c)
  rw [mE, if_pos (by omega)]
theorem Rel.lay {cN rN : Nat} {pa pe st bn hc hm : Nat → Int32} {lo : Int32} {pt pd ab nw : Nat → Int32} (h : Rel cN rN pa pe st bn hc hm lo pt pd ab nw) {m d : Nat} (m2 : 2 ≤ m) (m9 : m ≤ 9) (d1 : 1 ≤ d) (d8 : d ≤ 8) : Rel m d (fun _ => 0) (fun _ => 0) (fun _ => 0) (fun _ => 0) (upd (upd hc 0 0) 1 (nI (m - 1))) hm 0 (mZ 72 pt) pd (upd (upd ab 0 0) 1 (nI (m - 1))) (upd (mZ (72 + 9) nw) 83 0) := by
  have z1 : ∀ q, q < 72 → mZ 72 pt q = 0 := fun q hq => if_pos hq
  have z2 : ∀ q, q < 81 → (upd (mZ (72 + 9) nw) 83 0) q = 0 := fun q hq => by rw [pk_un (by omega)]; exact if_pos hq
  refine ⟨m2, m9, d1, d8, ?_, fun _ _ _ => rfl, fun q hq _ => z1 q hq, ⟨fun c hc => (z2 _ (by omega)).symm, fun _ _ _ => rfl, pk_us.symm, ?_⟩, ?_⟩
  · intro r c hr hc
    rw [z1 _ (by omega), z2 _ (by omega)]
    exact ⟨rfl, rfl, fun e => absurd e (by decide), fun e => absurd e (by decide)⟩
  · intro k hk
    rw [pk_un (by omega), mZ, if_neg (by omega)]
    exact h.tl.2.2.2 k hk
  · intro k hk
    rcases (show k = 0 ∨ k = 1 by omega) with rfl | rfl
    · exact ⟨rfl, 0, by omega, rfl⟩
    · rw [pk_us, pk_us]
      exact ⟨rfl, m - 1, by omega, rfl⟩
theorem Rel.first {pd : Nat → Int32} : Rel 5 4 (fun _ => 0) (fun _ => 0) (fun _ => 0) (fun _ => 0) (upd (upd (fun _ => 0) 0 0) 1 4) (fun _ => 0) 0 (fun _ => 0) pd (upd (upd (fun _ => 0) 0 0) 1 4) (fun _ => 0) := by
  refine ⟨by omega, by omega, by omega, by omega, ?_, fun _ _ _ => rfl, fun _ _ _ => rfl, ⟨fun _ _ => rfl, fun _ _ _ => rfl, rfl, fun _ _ => rfl⟩, ?_⟩
  · intro r c _ _
    exact ⟨rfl, rfl, fun e => absurd (show (0 : Int32) = 3 from e) (by decide), fun e => absurd (show (0 : Int32) = 5 from e) (by decide)⟩
  · intro k hk
    rcases (show k = 0 ∨ k = 1 by omega) with rfl | rfl
    · exact ⟨rfl, 0, by omega, rfl⟩
    · exact ⟨rfl, 4, by omega, rfl⟩
theorem togX_s (pa : Nat → Int32) : ∀ (n m k : Nat) (t : Int32), xTogL pa (n + m) k t = xTogL pa m (k + n) (xTogL pa n k t) := by
  intro n
  induction n with
  | zero => intro m k t; rw [Nat.zero_add]; rfl
  | succ n ih =>
    intro m k t
    rw [show n + 1 + m = n + m + 1 by omega, xTogL, xTogL, ih, show k + 1 + n = k + (n + 1) by omega]
theorem togX_0 (pa : Nat → Int32) : ∀ (n k : Nat) (t : Int32), (∀ c, k ≤ c → c < k + n → pa c = 0) → xTogL pa n k t = t := by
  intro n
  induction n with
  | zero => intro k t _; rfl
  | succ n ih =>
    intro k t h
    rw [xTogL, h k (by omega) (by omega), if_neg (by decide)]
    exact ih _ _ fun c h1 h2 => h c (by omega) (by omega)
theorem togX_e (pa pt : Nat → Int32) : ∀ (n k q : Nat) (t : Int32), (∀ i, i < n → pa (k + i) = pt (q + i)) → xTogL pa n k t = xTogL pt n q t := by
  intro n
  induction n with
  | zero => intro k q t _; rfl
  | succ n ih =>
    intro k q t h
    rw [xTogL, xTogL, show pa k = pt q from h 0 (by omega)]
    refine ih _ _ _ fun i hi => ?_
    rw [show k + 1 + i = k + (i + 1) by omega, show q + 1 + i = q + (i + 1) by omega]
    exact h _ (by omega)
theorem togM_x (pt : Nat → Int32) : ∀ (n k : Nat) (t : Int32), mTogL pt n k t = xTogL pt n k t := by
  intro n
  induction n with
  | zero => intro k t; rfl
  | succ n ih =>
    intro k t
    rw [mTogL, xTogL, ih]
    by_cases e : pt k = 3
    · rw [if_pos e, if_pos e]
    · rw [if_neg e, if_neg e, Int32.add_zero]
theorem Rel.tog {cN rN : Nat} {pa pe st bn hc hm : Nat → Int32} {lo : Int32} {pt pd ab nw : Nat → Int32} (h : Rel cN rN pa pe st bn hc hm lo pt pd ab nw) : mTog pt = xTog pa := by
  have h9 := h.c9
  have h8 := h.r8
  have h72 := pl_72 h8 h9
  have rows : ∀ r, r ≤ rN → xTogL pa (r * cN) 0 0 = xTogL pt (9 * r) 0 0 := by
    intro r
    induction r with
    | zero => intro _; rw [Nat.zero_mul]; rfl
    | succ r ih =>
      intro hr
      have := ih (by omega)
      have e9 : 9 * (r + 1) = 9 * r + (cN + (9 - cN)) := by omega
      rw [Nat.succ_mul, togX_s, e9, togX_s, this, Nat.zero_add, Nat.zero_add, togX_s, togX_0 pt (9 - cN) (9 * r + cN)]
      · exact togX_e _ _ _ _ _ _ fun i hi => (h.rs r i (by omega) hi).1
      · intro c q1 q2
        exact h.offM c (by omega) (by omega)
  rw [mTog, togM_x, xTog]
  have e1 : (72 : Nat) = rN * cN + (72 - rN * cN) := by omega
  have e2 : (72 : Nat) = 9 * rN + (72 - 9 * rN) := by omega
  have q1 : xTogL pa 72 0 0 = xTogL pa (rN * cN) 0 0 := by
    rw [e1, togX_s, togX_0 pa _ _ _ fun c q1 q2 => h.offA c (by omega) (by omega)]
  have q2 : xTogL pt 72 0 0 = xTogL pt (9 * rN) 0 0 := by
    rw [e2, togX_s, togX_0 pt _ _ _ fun c q1 q2 => h.offM c (by omega) (by omega)]
  rw [q1, q2, rows rN (Nat.le_refl _)]
