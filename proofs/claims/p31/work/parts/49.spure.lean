/-! ===== counts and sums, place by place ===== -/
def tg (pa : Nat → Int32) : Nat → Nat
  | 0 => 0
  | n + 1 => tg pa n + if pa n = 3 then 1 else 0
theorem tg_le (pa : Nat → Int32) : ∀ n, tg pa n ≤ n
  | 0 => Nat.le_refl _
  | n + 1 => by
    have := tg_le pa n
    show tg pa n + (if pa n = 3 then 1 else 0) ≤ n + 1
    by_cases h : pa n = 3
    · rw [if_pos h]; omega
    · rw [if_neg h]; omega
theorem tg_t {pa : Nat → Int32} {n : Nat} (h : pa n = 3) : tg pa (n + 1) = tg pa n + 1 := by rw [tg, if_pos h]
theorem tg_f {pa : Nat → Int32} {n : Nat} (h : ¬ pa n = 3) : tg pa (n + 1) = tg pa n := by rw [tg, if_neg h]; rfl
theorem tog_tg (pa : Nat → Int32) : ∀ n k : Nat, xTogL pa n k (nI (tg pa k)) = nI (tg pa (k + n)) := by
  intro n
  induction n with
  | zero => intro k; rfl
  | succ n ih =>
    intro k
    rw [xTogL, show k + (n + 1) = k + 1 + n by omega, ← ih (k + 1)]
    by_cases h : pa k = 3
    · rw [if_pos h, nI_1, tg_t h]
    · rw [if_neg h, tg_f h]
theorem tg_tail {pa : Nat → Int32} {m : Nat} : ∀ d : Nat, (∀ p, m ≤ p → p < m + d → pa p = 0) → tg pa (m + d) = tg pa m
  | 0, _ => rfl
  | d + 1, h => by
    rw [← Nat.add_assoc, tg_f (by rw [h (m + d) (by omega) (by omega)]; decide)]
    exact tg_tail d fun p h1 h2 => h p h1 (by omega)
theorem tog_all {pa : Nat → Int32} {n : Nat} (hn : n ≤ 72) (hz : ∀ p, n ≤ p → p < 72 → pa p = 0) : xTog pa = nI (tg pa n) := by
  have h := tog_tg pa 72 0
  have e := tg_tail (pa := pa) (m := n) (72 - n) (fun p h1 h2 => hz p h1 (by omega))
  rw [show n + (72 - n) = 72 by omega] at e
  rw [show (0 : Nat) + 72 = 72 from rfl, e] at h
  exact h
def sm (bn : Nat → Int32) : Nat → Int32
  | 0 => 0
  | n + 1 => sm bn n + bn n
theorem sum_sm (bn : Nat → Int32) : ∀ n k : Nat, xSumL bn n k (sm bn k) = sm bn (k + n) := by
  intro n
  induction n with
  | zero => intro k; rfl
  | succ n ih =>
    intro k
    rw [xSumL, show k + (n + 1) = k + 1 + n by omega, ← ih (k + 1)]
    rfl
theorem sm_tail {bn : Nat → Int32} {m : Nat} : ∀ d : Nat, (∀ p, m ≤ p → p < m + d → bn p = 0) → sm bn (m + d) = sm bn m
  | 0, _ => rfl
  | d + 1, h => by
    rw [← Nat.add_assoc, sm, h (m + d) (by omega) (by omega), Int32.add_zero]
    exact sm_tail d fun p h1 h2 => h p h1 (by omega)
theorem sum_all {bn : Nat → Int32} {n : Nat} (hn : n ≤ 9) (hz : ∀ p, n ≤ p → p < 9 → bn p = 0) : xSum bn = sm bn n := by
  have h := sum_sm bn 9 0
  have e := sm_tail (bn := bn) (m := n) (9 - n) (fun p h1 h2 => hz p h1 (by omega))
  rw [show n + (9 - n) = 9 by omega] at e
  rw [show (0 : Nat) + 9 = 9 from rfl, e] at h
  exact h
theorem xcl_pl {cN rN k j : Nat} (h9 : cN ≤ 9) (h8 : rN ≤ 8) (hk : k < rN) (hj : j < cN) (f : Nat → Int32) : xcl 72 f (nI k * nI cN + nI j) = f (k * cN + j) := by
  have := pl_lt hk hj
  have := pl_72 h8 h9
  rw [ix_x, xcl_n (by omega) (by decide)]
theorem xRight_pl {cN rN k j : Nat} (h9 : cN ≤ 9) (h8 : rN ≤ 8) (hk : k < rN) (hj : j < cN) (pa st : Nat → Int32) : xRight pa st (nI k * nI cN + nI j) = if pa (k * cN + j) = 3 then (if st (k * cN + j) = 1 then true else false) else false := by
  rw [xRight, xcl_pl h9 h8 hk hj, xcl_pl h9 h8 hk hj]
theorem xCnt_pl {cN rN k j : Nat} (h9 : cN ≤ 9) (h8 : rN ≤ 8) (hk : k < rN) (hj : j < cN) (pa st : Nat → Int32) : xCnt pa st (nI k * nI cN + nI j) = if pa (k * cN + j) = 5 then st (k * cN + j) else 0 := by
  rw [xCnt, xcl_pl h9 h8 hk hj, xcl_pl h9 h8 hk hj]
theorem xhas_k {n k : Nat} (h : k < n) (hn : n < 2 ^ 31) : xhas (nI n) (nI k) = true := xhas_n (by rw [nI_clamp hn]; exact h)
theorem xhas_2k {k : Nat} (h : k < 2) : xhas 2 (nI k) = true := xhas_k (n := 2) h (by decide)
theorem shl_1 {h : Nat} (hh : h ≤ 9) : (1 : Int32) <<< (nI h &&& 31) = nI (2 ^ h) := by
  have : ∀ h ∈ ([0, 1, 2, 3, 4, 5, 6, 7, 8, 9] : List Nat), (1 : Int32) <<< (nI h &&& 31) = nI (2 ^ h) := by decide +kernel
  exact this h (by simp; omega)
theorem pow_2 (h : Nat) : nI (2 ^ h) * 2 = nI (2 ^ (h + 1)) := by
  rw [show (2 : Int32) = nI 2 from rfl, pk_mul, Nat.pow_succ]
theorem num_t {cN rN k j n h : Nat} {pa st : Nat → Int32} {t : Int32} (h9 : cN ≤ 9) (h8 : rN ≤ 8) (hk : k < rN) (hj : j < cN) (h3 : pa (k * cN + j) = 3) (h1 : st (k * cN + j) = 1) : xNumL pa st (nI cN) (nI k) (n + 1) j t (nI (2 ^ h)) = xNumL pa st (nI cN) (nI k) n (j + 1) (t + nI (2 ^ h)) (nI (2 ^ (h + 1))) := by
  rw [xNumL, xcl_pl h9 h8 hk hj, xRight_pl h9 h8 hk hj, h3, h1, pow_2]
  rfl
theorem num_f {cN rN k j n h : Nat} {pa st : Nat → Int32} {t : Int32} (h9 : cN ≤ 9) (h8 : rN ≤ 8) (hk : k < rN) (hj : j < cN) (h3 : pa (k * cN + j) = 3) (h1 : ¬ st (k * cN + j) = 1) : xNumL pa st (nI cN) (nI k) (n + 1) j t (nI (2 ^ h)) = xNumL pa st (nI cN) (nI k) n (j + 1) t (nI (2 ^ (h + 1))) := by
  rw [xNumL, xcl_pl h9 h8 hk hj, xRight_pl h9 h8 hk hj, h3, if_neg h1, pow_2, if_pos rfl, if_pos rfl, if_neg (by decide), Int32.add_zero]
theorem num_n {cN rN k j n : Nat} {pa st : Nat → Int32} {t w : Int32} (h9 : cN ≤ 9) (h8 : rN ≤ 8) (hk : k < rN) (hj : j < cN) (h3 : ¬ pa (k * cN + j) = 3) : xNumL pa st (nI cN) (nI k) (n + 1) j t w = xNumL pa st (nI cN) (nI k) n (j + 1) t w := by
  rw [xNumL, xcl_pl h9 h8 hk hj, if_neg h3]
def sSame (n : Nat) (st st2 : Nat → Int32) : Bool := decide (∀ p, p < n → st p = st2 p)
theorem same_t {n m : Nat} {st st2 : Nat → Int32} (h : ∀ p, p < m → st p = st2 p) (e : n ≤ m) : sSame n st st2 = true := decide_eq_true fun p hp => h p (by omega)
theorem same_f {n p : Nat} {st st2 : Nat → Int32} (hp : p < n) (h : ¬ st p = st2 p) : sSame n st st2 = false := decide_eq_false fun z => h (z p hp)
