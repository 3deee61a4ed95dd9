/-! ===== what holds of both boards between the law's calls ===== -/
abbrev LQ : Type := Nat × Nat × (Nat → Int32) × (Nat → Int32) × (Nat → Int32) × (Nat → Int32) × (Nat → Int32) × (Nat → Int32) × (Nat → Int32) × Int32 × Int32 × (Nat → Nat) × (Nat → Nat) × (Nat → Nat → Nat)
def PI (cN rN : Nat) (pa pe pd st bn hc hm : Nat → Int32) : Prop := 2 ≤ cN ∧ cN ≤ 9 ∧ 1 ≤ rN ∧ rN ≤ 8 ∧ OKs (rN * cN) pa pe pd st ∧ (∀ p, rN * cN ≤ p → p < 72 → pa p = 0) ∧ (∀ c, cN ≤ c → c < 9 → bn c = 0) ∧ (∀ h, h < 2 → ∃ j, j < cN ∧ hc h = nI j) ∧ (∀ h, h < 2 → ∃ k, k ≤ 99 ∧ hm h = nI k)
def PIq (q : LQ) : Prop := PI q.1 q.2.1 q.2.2.1 q.2.2.2.1 q.2.2.2.2.1 q.2.2.2.2.2.1 q.2.2.2.2.2.2.1 q.2.2.2.2.2.2.2.1 q.2.2.2.2.2.2.2.2.1
abbrev lsW (cI c2 c3 : ClassId) (x : Nat) (a b : Nat → Nat) (q : LQ) : va_W := wX x a b ++ wM cI a q.2.2.1 q.2.2.2.1 q.2.2.2.2.2.1 q.2.2.2.2.2.2.1 q.2.2.2.2.2.2.2.1 q.2.2.2.2.2.2.2.2.1 (nI q.1) (nI q.2.1) q.2.2.2.2.2.2.2.2.2.1 ++ wS cI c2 c3 q.2.2.2.2.2.2.2.2.2.2.2.1 q.2.2.2.2.2.2.2.2.2.2.2.2.1 q.2.2.2.2.2.2.2.2.2.2.2.2.2 q.1 q.2.1 q.2.2.1 q.2.2.2.2.1 q.2.2.2.2.2.1 q.2.2.2.2.2.2.1 q.2.2.2.2.2.2.2.1 q.2.2.2.2.2.2.2.2.1 q.2.2.2.2.2.2.2.2.2.1 q.2.2.2.2.2.2.2.2.2.2.1
section PIS
variable {cN rN : Nat} {pa pe pd st bn hc hm : Nat → Int32}
theorem PI.c2 (h : PI cN rN pa pe pd st bn hc hm) : 2 ≤ cN := h.1
theorem PI.c9 (h : PI cN rN pa pe pd st bn hc hm) : cN ≤ 9 := h.2.1
theorem PI.r1 (h : PI cN rN pa pe pd st bn hc hm) : 1 ≤ rN := h.2.2.1
theorem PI.r8 (h : PI cN rN pa pe pd st bn hc hm) : rN ≤ 8 := h.2.2.2.1
theorem PI.ok (h : PI cN rN pa pe pd st bn hc hm) : OKs (rN * cN) pa pe pd st := h.2.2.2.2.1
theorem PI.z (h : PI cN rN pa pe pd st bn hc hm) : ∀ p, rN * cN ≤ p → p < 72 → pa p = 0 := h.2.2.2.2.2.1
theorem PI.b (h : PI cN rN pa pe pd st bn hc hm) : ∀ c, cN ≤ c → c < 9 → bn c = 0 := h.2.2.2.2.2.2.1
theorem PI.hh (h : PI cN rN pa pe pd st bn hc hm) : ∀ h, h < 2 → ∃ j, j < cN ∧ hc h = nI j := h.2.2.2.2.2.2.2.1
theorem PI.mm (h : PI cN rN pa pe pd st bn hc hm) : ∀ h, h < 2 → ∃ k, k ≤ 99 ∧ hm h = nI k := h.2.2.2.2.2.2.2.2
theorem PI.lay (h : PI cN rN pa pe pd st bn hc hm) {nc nr : Nat} (m2 : 2 ≤ nc) (m9 : nc ≤ 9) (d1 : 1 ≤ nr) (d8 : nr ≤ 8) : PI nc nr (fun _ => 0) (fun _ => 0) (fun _ => 0) (fun _ => 0) (fun _ => 0) (upd (upd hc 0 0) 1 (nI nc - 1)) hm := by
  refine ⟨m2, m9, d1, d8, fun p _ => Or.inl (Or.inl rfl), fun _ _ _ => rfl, fun _ _ _ => rfl, fun k hk => ?_, h.mm⟩
  obtain ⟨i, rfl⟩ : ∃ i, nc = i + 1 := ⟨nc - 1, by omega⟩
  rcases (show k = 0 ∨ k = 1 by omega) with rfl | rfl
  · exact ⟨0, by omega, rfl⟩
  · rw [pk_us]
    exact ⟨i, by omega, nI_pred i⟩
theorem PI.set (h : PI cN rN pa pe pd st bn hc hm) {k j : Nat} (hk : k < rN) (hj : j < cN) {a b d v : Int32} (hv : OK1 a b d v) : PI cN rN (upd pa (k * cN + j) a) (upd pe (k * cN + j) b) (upd pd (k * cN + j) d) (upd st (k * cN + j) v) bn hc hm :=
  ⟨h.c2, h.c9, h.r1, h.r8, h.ok.put hv, fun p h1 h2 => by rw [pk_un (by have := pl_lt hk hj; omega)]; exact h.z p h1 h2, h.b, h.hh, h.mm⟩
theorem PI.on (h : PI cN rN pa pe pd st bn hc hm) {st2 bn2 : Nat → Int32} (h1 : OKs (rN * cN) pa pe pd st2) (h2 : ∀ c, cN ≤ c → c < 9 → bn2 c = 0) : PI cN rN pa pe pd st2 bn2 hc hm := ⟨h.c2, h.c9, h.r1, h.r8, h1, h.z, h2, h.hh, h.mm⟩
theorem PI.hop (h : PI cN rN pa pe pd st bn hc hm) {i j k : Nat} (hj : j < cN) (hk : k ≤ 99) : PI cN rN pa pe pd st bn (upd hc i (nI j)) (upd hm i (nI k)) := by
  refine ⟨h.c2, h.c9, h.r1, h.r8, h.ok, h.z, h.b, fun q hq => ?_, fun q hq => ?_⟩
  · by_cases e : q = i
    · subst e; rw [pk_us]; exact ⟨j, hj, rfl⟩
    · rw [pk_un e]; exact h.hh q hq
  · by_cases e : q = i
    · subst e; rw [pk_us]; exact ⟨k, hk, rfl⟩
    · rw [pk_un e]; exact h.mm q hq
theorem land_z {bn : Nat → Int32} {r : Int32} (hb : ∀ c, cN ≤ c → c < 9 → bn c = 0) (h9 : cN ≤ 9) (hr : r = -1 ∨ ∃ i, i < cN ∧ r = nI i) : ∀ c, cN ≤ c → c < 9 → xLandBn bn r c = 0 := by
  intro c h1 h2
  rcases hr with rfl | ⟨i, hi, rfl⟩
  · rw [landBn_m]; exact hb c h1 h2
  · rw [landBn_n (by omega), pk_un (by omega)]; exact hb c h1 h2
theorem PI.drop (h : PI cN rN pa pe pd st bn hc hm) {j : Nat} (hj : j < cN) : PI cN rN pa pe pd (xFall pa pe st (nI cN) (nI j) (nI rN)).2 (xLandBn bn (xFall pa pe st (nI cN) (nI j) (nI rN)).1) hc hm := by
  obtain ⟨f1, f2, _⟩ := fall_c h.c9 h.r8 h.ok hj
  exact h.on f2 (land_z h.b h.c9 f1)
theorem behind_c {i : Nat} (hi : i < 9) : xBehind (nI cN) (nI i) = -1 ∨ ∃ k, k < 2 ∧ xBehind (nI cN) (nI i) = nI k := by
  by_cases h : nI i + nI i = nI cN - 1
  · exact Or.inl (beh_e hi h)
  · by_cases h2 : nI i + nI i < nI cN - 1
    · exact Or.inr ⟨0, by omega, beh_l hi h h2⟩
    · exact Or.inr ⟨1, by omega, beh_g hi h h2⟩
/-- a run's end -/
theorem run_ok (h9 : cN ≤ 9) (h8 : rN ≤ 8) (hH : ∀ h, h < 2 → ∃ j, j < cN ∧ hc h = nI j) : ∀ (n k i : Nat) (st bn : Nat → Int32) (lo : Int32) (hm : Nat → Int32) (a b : Nat), i < 2 → OKs (rN * cN) pa pe pd st → (∀ c, cN ≤ c → c < 9 → bn c = 0) → hm 0 = nI a → hm 1 = nI b → a ≤ 99 → b ≤ 99 →
    ∃ f a2 b2, f ≤ n ∧ a2 ≤ 99 ∧ b2 ≤ 99 ∧ a + b = a2 + b2 + f ∧ (xRunL pa pe hc (nI cN) (nI rN) n k (nI i) st bn lo hm).1 = nI (k + f) ∧ OKs (rN * cN) pa pe pd (xRunL pa pe hc (nI cN) (nI rN) n k (nI i) st bn lo hm).2.1 ∧ (∀ c, cN ≤ c → c < 9 → (xRunL pa pe hc (nI cN) (nI rN) n k (nI i) st bn lo hm).2.2.1 c = 0) ∧ (xRunL pa pe hc (nI cN) (nI rN) n k (nI i) st bn lo hm).2.2.2.2 0 = nI a2 ∧ (xRunL pa pe hc (nI cN) (nI rN) n k (nI i) st bn lo hm).2.2.2.2 1 = nI b2 ∧
      ∀ N, n ≤ N → ∃ F, F ≤ N ∧ (xRunL pa pe hc (nI cN) (nI rN) N k (nI i) st bn lo hm).1 = nI (k + F) ∧ f = min F n := by
  intro n
  induction n with
  | zero =>
    intro k i st bn lo hm a b hi hO hb h0 h1 ha hbb
    refine ⟨0, a, b, by omega, ha, hbb, by omega, rfl, hO, hb, h0, h1, ?_⟩
    intro N _
    have : ∀ (N k : Nat) (fr : Int32) (st bn : Nat → Int32) (lo : Int32) (hm : Nat → Int32), ∃ F, F ≤ N ∧ (xRunL pa pe hc (nI cN) (nI rN) N k fr st bn lo hm).1 = nI (k + F) := by
      intro N
      induction N with
      | zero => intro k fr st bn lo hm; exact ⟨0, by omega, rfl⟩
      | succ N ih =>
        intro k fr st bn lo hm
        rw [xRunL]
        by_cases c1 : fr = -1
        · rw [if_pos c1]; exact ⟨0, by omega, rfl⟩
        · rw [if_neg c1]
          by_cases c2 : xcl 2 hm fr ≤ 0
          · rw [if_pos c2]; exact ⟨0, by omega, rfl⟩
          · rw [if_neg c2]
            obtain ⟨F, hF, e⟩ := ih (k + 1) (xBehind (nI cN) (xFall pa pe st (nI cN) (xcl 2 hc fr) (nI rN)).1) (xFall pa pe st (nI cN) (xcl 2 hc fr) (nI rN)).2 (xLandBn bn (xFall pa pe st (nI cN) (xcl 2 hc fr) (nI rN)).1) (xLandLo lo (xFall pa pe st (nI cN) (xcl 2 hc fr) (nI rN)).1) (xsc 2 hm fr (xcl 2 hm fr - 1))
            exact ⟨F + 1, by omega, by rw [e]; congr 1; omega⟩
    obtain ⟨F, hF, e⟩ := this N k (nI i) st bn lo hm
    exact ⟨F, hF, e, by omega⟩
  | succ n ih =>
    intro k i st bn lo hm a b hi hO hb h0 h1 ha hbb
    by_cases hz : hm i ≤ 0
    · rw [run_empty hi hz]
      refine ⟨0, a, b, by omega, ha, hbb, by omega, rfl, hO, hb, h0, h1, ?_⟩
      intro N hN
      obtain ⟨N, rfl⟩ : ∃ z, N = z + 1 := ⟨N - 1, by omega⟩
      rw [run_empty hi hz]
      exact ⟨0, by omega, rfl, by omega⟩
    · obtain ⟨j, hj, hcj⟩ := hH i hi
      obtain ⟨f1, f2, _⟩ := fall_c h9 h8 hO hj
      obtain ⟨r, hr⟩ : ∃ r, r = (xFall pa pe st (nI cN) (nI j) (nI rN)).1 := ⟨_, rfl⟩
      rw [← hr] at f1
      have hpos : ∀ z : Nat, z ≤ 99 → ¬ nI z ≤ 0 → 1 ≤ z := fun z _ h => by
        rcases Nat.eq_zero_or_pos z with e | e
        · subst e; exact absurd (by decide) h
        · exact e
      have hm2 : ∃ a3 b3, (upd hm i (hm i - 1)) 0 = nI a3 ∧ (upd hm i (hm i - 1)) 1 = nI b3 ∧ a3 ≤ 99 ∧ b3 ≤ 99 ∧ a + b = a3 + b3 + 1 := by
        rcases (show i = 0 ∨ i = 1 by omega) with rfl | rfl
        · rw [h0] at hz
          have := hpos a ha hz
          obtain ⟨y, rfl⟩ : ∃ y, a = y + 1 := ⟨a - 1, by omega⟩
          exact ⟨y, b, by rw [pk_us, h0]; exact nI_pred y, by rw [pk_un (by omega), h1], by omega, hbb, by omega⟩
        · rw [h1] at hz
          have := hpos b hbb hz
          obtain ⟨y, rfl⟩ : ∃ y, b = y + 1 := ⟨b - 1, by omega⟩
          exact ⟨a, y, by rw [pk_un (by omega), h0], by rw [pk_us, h1]; exact nI_pred y, ha, by omega, by omega⟩
      obtain ⟨a3, b3, e0, e1, l0, l1, es⟩ := hm2
      rw [run_step hi hz hcj hr]
      have hbz := land_z (bn := bn) hb h9 f1
      have stop : xBehind (nI cN) r = -1 → ∃ f a2 b2, f ≤ n + 1 ∧ a2 ≤ 99 ∧ b2 ≤ 99 ∧ a + b = a2 + b2 + f ∧ (xRunL pa pe hc (nI cN) (nI rN) n (k + 1) (xBehind (nI cN) r) (xFall pa pe st (nI cN) (nI j) (nI rN)).2 (xLandBn bn r) (xLandLo lo r) (upd hm i (hm i - 1))).1 = nI (k + f) ∧ OKs (rN * cN) pa pe pd (xRunL pa pe hc (nI cN) (nI rN) n (k + 1) (xBehind (nI cN) r) (xFall pa pe st (nI cN) (nI j) (nI rN)).2 (xLandBn bn r) (xLandLo lo r) (upd hm i (hm i - 1))).2.1 ∧ (∀ c, cN ≤ c → c < 9 → (xRunL pa pe hc (nI cN) (nI rN) n (k + 1) (xBehind (nI cN) r) (xFall pa pe st (nI cN) (nI j) (nI rN)).2 (xLandBn bn r) (xLandLo lo r) (upd hm i (hm i - 1))).2.2.1 c = 0) ∧ (xRunL pa pe hc (nI cN) (nI rN) n (k + 1) (xBehind (nI cN) r) (xFall pa pe st (nI cN) (nI j) (nI rN)).2 (xLandBn bn r) (xLandLo lo r) (upd hm i (hm i - 1))).2.2.2.2 0 = nI a2 ∧ (xRunL pa pe hc (nI cN) (nI rN) n (k + 1) (xBehind (nI cN) r) (xFall pa pe st (nI cN) (nI j) (nI rN)).2 (xLandBn bn r) (xLandLo lo r) (upd hm i (hm i - 1))).2.2.2.2 1 = nI b2 ∧
          ∀ N, n + 1 ≤ N → ∃ F, F ≤ N ∧ (xRunL pa pe hc (nI cN) (nI rN) N k (nI i) st bn lo hm).1 = nI (k + F) ∧ f = min F (n + 1) := by
        intro hs
        rw [hs, run_stop]
        refine ⟨1, a3, b3, by omega, l0, l1, es, rfl, f2, hbz, e0, e1, ?_⟩
        intro N hN
        obtain ⟨N, rfl⟩ : ∃ z, N = z + 1 := ⟨N - 1, by omega⟩
        rw [run_step hi hz hcj hr, hs, run_stop]
        exact ⟨1, by omega, rfl, by omega⟩
      rcases f1 with hm1 | ⟨i2, hi2, hi3⟩
      · exact stop (by rw [hm1]; exact beh_m cN)
      · rcases behind_c (cN := cN) (show i2 < 9 by omega) with q | ⟨k2, hk2, q⟩
        · exact stop (by rw [hi3]; exact q)
        · have q2 : xBehind (nI cN) r = nI k2 := by rw [hi3]; exact q
          rw [q2]
          obtain ⟨f, a2, b2, g1, g2, g3, g4, g5, g6, g7, g8, g9, g10⟩ := ih (k + 1) k2 (xFall pa pe st (nI cN) (nI j) (nI rN)).2 (xLandBn bn r) (xLandLo lo r) (upd hm i (hm i - 1)) a3 b3 hk2 f2 hbz e0 e1 l0 l1
          refine ⟨f + 1, a2, b2, by omega, g2, g3, by omega, by rw [g5]; congr 1; omega, g6, g7, g8, g9, ?_⟩
          intro N hN
          obtain ⟨N, rfl⟩ : ∃ z, N = z + 1 := ⟨N - 1, by omega⟩
          rw [run_step hi hz hcj hr, q2]
          obtain ⟨F, hF, e, hm4⟩ := g10 N (by omega)
          exact ⟨F + 1, by omega, by rw [e]; congr 1; omega, by omega⟩
theorem PI.run (h : PI cN rN pa pe pd st bn hc hm) {i mm : Nat} (lo : Int32) (hi : i < 2) (hmm : mm < 1000) : ∃ f a b a2 b2, f ≤ mm ∧ a ≤ 99 ∧ b ≤ 99 ∧ a2 ≤ 99 ∧ b2 ≤ 99 ∧ a + b = a2 + b2 + f ∧ hm 0 = nI a ∧ hm 1 = nI b ∧ (xRun pa pe st bn hc hm (nI cN) (nI rN) lo (nI i) (nI mm)).1 = nI f ∧ (xRun pa pe st bn hc hm (nI cN) (nI rN) lo (nI i) (nI mm)).2.2.2.2 0 = nI a2 ∧ (xRun pa pe st bn hc hm (nI cN) (nI rN) lo (nI i) (nI mm)).2.2.2.2 1 = nI b2 ∧
    PI cN rN pa pe pd (xRun pa pe st bn hc hm (nI cN) (nI rN) lo (nI i) (nI mm)).2.1 (xRun pa pe st bn hc hm (nI cN) (nI rN) lo (nI i) (nI mm)).2.2.1 hc (xRun pa pe st bn hc hm (nI cN) (nI rN) lo (nI i) (nI mm)).2.2.2.2 ∧ (∀ N, mm ≤ N → N < 1000 → ∃ F, F ≤ N ∧ (xRun pa pe st bn hc hm (nI cN) (nI rN) lo (nI i) (nI N)).1 = nI F ∧ f = min F mm) := by
  obtain ⟨a, ha, e0⟩ := h.mm 0 (by omega)
  obtain ⟨b, hb, e1⟩ := h.mm 1 (by omega)
  obtain ⟨f, a2, b2, g1, g2, g3, g4, g5, g6, g7, g8, g9, g10⟩ := run_ok (pa := pa) (pe := pe) (pd := pd) (hc := hc) h.c9 h.r8 h.hh mm 0 i st bn lo hm a b hi h.ok h.b e0 e1 ha hb
  unfold xRun
  rw [nI_clamp (show mm < 2 ^ 31 by omega)]
  rw [Nat.zero_add] at g5
  refine ⟨f, a, b, a2, b2, g1, ha, hb, g2, g3, g4, e0, e1, g5, g8, g9, ⟨h.c2, h.c9, h.r1, h.r8, g6, h.z, g7, h.hh, fun q hq => ?_⟩, fun N hN hN2 => ?_⟩
  · rcases (show q = 0 ∨ q = 1 by omega) with rfl | rfl
    · exact ⟨a2, g2, g8⟩
    · exact ⟨b2, g3, g9⟩
  · rw [nI_clamp (show N < 2 ^ 31 by omega)]
    obtain ⟨F, q1, q2, q3⟩ := g10 N hN
    rw [Nat.zero_add] at q2
    exact ⟨F, q1, q2, q3⟩
theorem xsc_pl (h9 : cN ≤ 9) (h8 : rN ≤ 8) {k j : Nat} (hk : k < rN) (hj : j < cN) (f : Nat → Int32) (v : Int32) : xsc 72 f (nI k * nI cN + nI j) v = upd f (k * cN + j) v := by
  have := pl_lt hk hj
  have := pl_72 h8 h9
  rw [ix_x, xsc_n (by omega) (by decide)]
end PIS
theorem xin_k {a b k : Nat} (hb : b < 2 ^ 31) (h1 : a ≤ k) (h2 : k ≤ b) : xin (nI k) (nI a) (nI b) = true := by
  rw [xin, if_neg (nI_nlt (by omega) (by omega)), if_pos (nI_le (by omega) (by omega))]
theorem ZA.now {A : Nat → Prop} {s : State} {H0 H : Heap} {locs : List Loc} (h : ZA A s H0) (hS : va_S A H0 H locs) (hA : ∀ q, H0.size ≤ q → A q) : ZS s H := ZA.to hS.1 hA ⟨h.1.kept (fun q h1 h2 => hS.2.1 q h1 h2), h.2.kept (fun q h1 h2 => hS.2.1 q h1 h2)⟩
def K2A (cI c2 c3 : ClassId) (U : State) : Prop := KG cI c2 c3 U ∧ KX U ∧ ZS U U.heap
theorem K2A.same {cI c2 c3 : ClassId} {u U : State} (hv : U.vm = u.vm) (hh : U.heap = u.heap) (h : K2A cI c2 c3 u) : K2A cI c2 c3 U := ⟨KG.same hv h.1, KX.same hv h.2.1, by rw [hh]; exact ⟨vx_Zq.moved (u := u) (by rw [hv]; exact Vm.Alike.refl u.vm) h.2.2.1, vx_Zq.moved (u := u) (by rw [hv]; exact Vm.Alike.refl u.vm) h.2.2.2⟩⟩
theorem K2A.of {cI c2 c3 : ClassId} {s : State} {H : Heap} (hG : KG cI c2 c3 s) (hX : KX s) (hZ : ZS s H) : ∀ U : State, U.heap = H → s.WarmedH U.vm → K2A cI c2 c3 U := fun U hU hW => ⟨KG.warm hW hG, KX.warm hW hX, by subst hU; exact ⟨vx_Zq.moved hW.alike hZ.1, vx_Zq.moved hW.alike hZ.2⟩⟩
theorem PI.run2 {cN rN : Nat} {pa pe pd st bn hc hm : Nat → Int32} (h : PI cN rN pa pe pd st bn hc hm) {i mm : Nat} (lo : Int32) (hi : i < 2) (hmm : mm < 1000) : PI cN rN pa pe pd (xRun pa pe st bn hc hm (nI cN) (nI rN) lo (nI i) (nI mm)).2.1 (xRun pa pe st bn hc hm (nI cN) (nI rN) lo (nI i) (nI mm)).2.2.1 hc (xRun pa pe st bn hc hm (nI cN) (nI rN) lo (nI i) (nI mm)).2.2.2.2 := by
  obtain ⟨f, a, b, a2, b2, _, _, _, _, _, _, _, _, _, _, _, h2, _⟩ := h.run lo hi hmm
  exact h2
theorem ok_put {i : Nat} (hi : i < 5) : OK1 (nI i) (if nI i = 3 then 2 else 0) 0 0 := by
  rcases (show i = 0 ∨ i = 1 ∨ i = 2 ∨ i = 3 ∨ i = 4 by omega) with rfl | rfl | rfl | rfl | rfl
  · exact Or.inl (Or.inl rfl)
  · exact Or.inl (Or.inr (Or.inl rfl))
  · exact Or.inl (Or.inr (Or.inr (Or.inl rfl)))
  · exact Or.inr (Or.inl ⟨rfl, by decide, Or.inl rfl⟩)
  · exact Or.inl (Or.inr (Or.inr (Or.inr rfl)))
theorem ok_cnt {q : Nat} (h2 : 2 ≤ q) (h9 : q ≤ 9) : OK1 5 (nI q) (nI q) 0 := Or.inr (Or.inr ⟨rfl, q, 0, h2, h9, rfl, rfl, by omega, nI_0.symm⟩)
theorem tog_v {p e d v : Int32} (h : OK1 p e d v) (h3 : p = 3) : e = 2 ∧ (v = 0 ∨ v = 1) := by
  rcases h with h | h | h
  · rw [h3] at h
    rcases h with h | h | h | h <;> exact absurd h (by decide)
  · exact h.2
  · rw [h3] at h
    exact absurd h.1 (by decide)
theorem hc_lay (hc : Nat → Int32) (v : Int32) : xsc 2 (xsc 2 hc 0 0) 1 v = upd (upd hc 0 0) 1 v := by
  rw [show xsc 2 hc 0 0 = upd hc 0 0 from xsc_n (n := 2) (k := 0) (by decide) (by decide) hc 0]
  exact xsc_n (n := 2) (k := 1) (by decide) (by decide) _ v
section TRN
variable {cN rN k j : Nat} {pa st : Nat → Int32}
theorem turn_0 (h9 : cN ≤ 9) (h8 : rN ≤ 8) (hk : k < rN) (hj : j < cN) (e0 : pa (k * cN + j) = 3) (ev : st (k * cN + j) = 0) : xsc 72 st (nI k * nI cN + nI j) (if xRight pa st (nI k * nI cN + nI j) = true then 0 else 1) = upd st (k * cN + j) 1 := by
  rw [xRight_pl h9 h8 hk hj, if_pos e0, if_neg (by rw [ev]; decide)]
  exact xsc_pl h9 h8 hk hj st 1
theorem turn_1 (h9 : cN ≤ 9) (h8 : rN ≤ 8) (hk : k < rN) (hj : j < cN) (e0 : pa (k * cN + j) = 3) (ev : st (k * cN + j) = 1) : xsc 72 st (nI k * nI cN + nI j) (if xRight pa st (nI k * nI cN + nI j) = true then 0 else 1) = upd st (k * cN + j) 0 := by
  rw [xRight_pl h9 h8 hk hj, if_pos e0, if_pos ev, if_pos rfl, xsc_pl h9 h8 hk hj]
theorem turnR_0 (h9 : cN ≤ 9) (h8 : rN ≤ 8) (hk : k < rN) (hj : j < cN) (e0 : pa (k * cN + j) = 3) : bi (xRight pa (upd st (k * cN + j) 1) (nI k * nI cN + nI j)) = 1 := by
  rw [xRight_pl h9 h8 hk hj, if_pos e0, pk_us]; rfl
theorem turnR_1 (h9 : cN ≤ 9) (h8 : rN ≤ 8) (hk : k < rN) (hj : j < cN) (e0 : pa (k * cN + j) = 3) : bi (xRight pa (upd st (k * cN + j) 0) (nI k * nI cN + nI j)) = 0 := by
  rw [xRight_pl h9 h8 hk hj, if_pos e0, pk_us]; rfl
end TRN
theorem PI.turn {cN rN : Nat} {pa pe pd st bn hc hm : Nat → Int32} (h : PI cN rN pa pe pd st bn hc hm) {k j : Nat} (hk : k < rN) (hj : j < cN) (e0 : pa (k * cN + j) = 3) {v : Int32} (hv : v = 0 ∨ v = 1) : PI cN rN pa pe pd (upd st (k * cN + j) v) bn hc hm := by
  have h2 := (tog_v (h.ok _ (pl_lt hk hj)) e0).1
  exact h.on (h.ok.set (Or.inr (Or.inl ⟨e0, h2, hv⟩))) h.b
theorem pm_emp {α : Type} (P : List α) (o a1 q : α) (T : List α) : ((P ++ (o :: a1 :: T)) ++ [q]).Perm ((P ++ (o :: q :: T)) ++ [a1]) := by
  classical
  rw [List.perm_iff_count]
  intro x
  simp only [List.count_append, List.count_cons, List.count_nil, Nat.zero_add, Nat.add_zero]
  ac_rfl
def actT : List (Nat × Nat × Nat × Nat) := [(40, 123, 588, 66), (124, 178, 588, 66), (179, 254, 588, 66), (255, 318, 588, 66), (319, 382, 588, 66), (383, 450, 588, 66), (451, 498, 588, 66), (499, 568, 588, 66), (569, 587, 588, 66)]
def AC (p : Program) (l : Launch) (s : State) (m : MethodId) (meth : Method) (c : Code) (D : va_G) (cI c2 c3 : ClassId) (args : Array Value) (A : Nat → Prop) : Prop := p.tables.exec = Jvm.exec ∧ c.code = cL_act ∧ meth.sig.returnType = some .boolean ∧ c.maxLocals = 12 ∧ s.vm.findClass RL = some m.cls ∧ (∀ w ∈ wsL_act, w.before args s = true) ∧ meth.locks = false ∧ va_K D vwCl [(cI, .int), (c2, .array .int), (c3, .array (.array .int))] s ∧ KS s ∧ KG cI c2 c3 s ∧ KX s ∧ ZS s s.heap ∧ (∀ q, s.heap.size ≤ q → A q) ∧ c.exceptionTable.toList = tableOf actT ∧ l.stackTraces = false
