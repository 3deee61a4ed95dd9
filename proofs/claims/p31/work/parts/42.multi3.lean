/-! ===== new arrays of arrays, as cells of a world ===== -/
section MU3
variable {p : Program} {l : Launch} {e : Env} {R : Room} {s : State} {m : MethodId} {args : Array Value} {below : List Frame} {meth : Method} {c : Code} {H : Heap} {locs : List Loc} {cells slots : Nat} {Q : State → Prop}
variable {cc : ByteArray} {pc : Nat} {ls : Array Slot} {rest : List Value} {D : va_G} {A : Nat → Prop} {tys : List (ClassId × FieldType)} {ws : va_W} {H0 : Heap}
variable {cI c2 c3 : ClassId}
theorem kindOf {s s' : State} {cA : ClassId} {k : Class} {comp : ClassId} {t : FieldType} (hal : s.vm.Alike s'.vm) (h1 : s.vm.classes[cA]? = some k) (h2 : k.kind = .array comp t) : ∃ k', s'.vm.classes[cA]? = some k' ∧ k'.kind = .array comp t := by
  obtain ⟨k', h3, h4⟩ := hal.2.2 _ _ h1
  exact ⟨k', h3, by rw [h4]; exact h2⟩
theorem two_nd {α : Type} {f : α → Nat} {l : List α} {R : α → α → Prop} (h : l.Pairwise R) (hf : ∀ a b, R a b → f a ≠ f b) : (l.map f).Nodup := by
  unfold List.Nodup
  rw [List.pairwise_map]
  exact h.imp fun {a b} q => hf a b q
/-- new int[n][k][3] -/
theorem va_mu3 {n k : Nat} (hexec : p.tables.exec = Jvm.exec) (hb : c.code = cc) (hown : s.vm.findClass RX2 = some m.cls) (hG : KG cI c2 c3 s) (hK : va_K D vwCl tys s) (t0 : Nat) (ht : tys[t0]? = some (cI, .int)) (hP : va_P D vwCl ws H) (hD : va_D A ws) (hS : va_S A H0 H locs) (hA : ∀ q, H0.size ≤ q → A q) (hn : n < 100) (hk : k < 100) (hk0 : 0 < k)
    (hcells : cells + (1 + n * (1 + k)) ≤ R.cells) (hslots : slots + (n + n * (k + k * 3)) ≤ R.slots) (hdg : decode cc pc = .ok (.multianewarray 7 3, 4))
    (kk : ∀ (b : Nat) (rw_ : Nat → Nat) (ow : Nat → Nat → Nat) (H1 : Heap) (locs1 : List Loc), va_P D vwCl (ws ++ ([(b, .inl (c3, n, .inr (.inr (.inr (.inr (fun r => some (rw_ r)))))))] ++ (sRows c2 k rw_ ow n ++ sCells cI k ow (fun _ => 0) (fun _ => 0) (fun _ => 0) (n * k)))) H1 → va_D A (ws ++ ([(b, .inl (c3, n, .inr (.inr (.inr (.inr (fun r => some (rw_ r)))))))] ++ (sRows c2 k rw_ ow n ++ sCells cI k ow (fun _ => 0) (fun _ => 0) (fun _ => 0) (n * k)))) → va_S A H0 H1 locs1 →
      W p l e R s m args below meth c H1 locs1 (cells + (1 + n * (1 + k))) (slots + (n + n * (k + k * 3))) Q (F0 m (pc + 4) ls (.ref b :: rest))) : W p l e R s m args below meth c H locs cells slots Q (F0 m pc ls (.int 3 :: .int (nI k) :: .int (nI n) :: rest)) := by
  obtain ⟨⟨k2, a1, a2, -, -⟩, ⟨k3, b1, b2, -, b4⟩, hcl, -⟩ := hG
  obtain ⟨-, kI, i1, compI, i2⟩ := (hK.2 t0 _ ht).1 0 (fun _ => .null)
  have i1 : s.vm.classes[cI]? = some kI := i1
  have G1 := muL_G cI 3 (.int 0)
  have G2 := muF_G G1 c2 k
  have G3 := muF_G G2 c3 n
  have en : (nI n).toNatClampNeg = n := nI_clamp (by omega)
  have ek : (nI k).toNatClampNeg = k := nI_clamp (by omega)
  have e3 : (3 : Int32).toNatClampNeg = 3 := by decide
  have q1 : 1 + n * (1 + k * 1) = 1 + n * (1 + k) := by rw [Nat.mul_one]
  have hpn : ¬ nI n < 0 := nI_pos (by omega)
  have hpk : ¬ nI k < 0 := nI_pos (by omega)
  refine W_mu (own := RX2) (nm := "[[[I") (index := 7) (dims := 3) (cO := c3) (counts := [nI n, nI k, 3]) (g := F0 m pc ls (.int 3 :: .int (nI k) :: .int (nI n) :: rest)) (rest := rest) G3 hexec hb hown (va_Nw.use rfl hcl) b4 (by decide) rfl (Or.inr ⟨_, _, _, rfl⟩) rfl hdg rfl (by rw [q1]; exact hcells) hslots ?_ ?_
  · intro hadm s' d' acts' E Q' hal h1 h2 hq
    obtain ⟨k3', b1', b2'⟩ := kindOf hal b1 b2
    have L1 : ∀ z : Nat, z < 100 → ¬ z > e.platform.arrayLengthLimit := fun z hz => by rw [Launch.admits_arrayLengthLimit hadm]; omega
    have L2 : ∀ z : Nat, z < 100 → ¬ z * 4 > e.platform.maxHeapBytes := fun z hz => by rw [Launch.admits_maxHeapBytes hadm]; omega
    refine mu_wpN G2 (t0 := .array (.array .int)) b1' b2' rfl hpn (by simp [hpk]) (by rw [en]; exact L1 n hn) (by rw [en]; exact L2 n hn) ?_ (by rw [en]; exact h1) (by rw [en]; exact h2) (by rw [en]; exact hq)
    intro s2 d2 acts2 Q2 hv2 h3 h4 hq2
    have hal2 : s.vm.Alike s2.vm := by rw [hv2]; exact hal
    obtain ⟨k2', a1', a2'⟩ := kindOf hal2 a1 a2
    refine mu_wpN G1 (t0 := .array .int) a1' a2' rfl hpk (by simp) (by rw [ek]; exact L1 k hk) (by rw [ek]; exact L2 k hk) ?_ (by rw [ek]; exact h3) (by rw [ek]; exact h4) (by rw [ek]; exact hq2)
    intro s3 d3 acts3 Q3 hv3 h5 h6 hq3
    have hal3 : s.vm.Alike s3.vm := by rw [hv3]; exact hal2
    obtain ⟨kI', i1', i2'⟩ := kindOf hal3 i1 i2
    refine mu_wp1 i1' i2' (by decide) (by rw [e3]; exact L1 3 (by omega)) (by rw [e3]; exact L2 3 (by omega)) rfl rfl (by omega) (by rw [e3]; omega) ?_
    rw [e3]
    exact hq3 _ _
  · intro T1 L hT1 hL
    obtain ⟨f1, f2, -, -⟩ := muF_f G2 c3 n T1 n
    have hold : ∀ q, q < H.size → (muF (fun s => muF (muL cI 3 (.int 0)) 1 c2 k s k) (1 + k * 1) c3 n T1 n).heap[q]? = H[q]? := fun q hq => by
      rw [muF_old G2 c3 n T1 (a := q) (by rw [hT1]; exact hq), hT1]
    rw [hT1, muO_V] at f2
    have hrow : ∀ r, r < n → (muF (fun s => muF (muL cI 3 (.int 0)) 1 c2 k s k) (1 + k * 1) c3 n T1 n).heap[H.size + 1 + r * (1 + k * 1)]? = some (arrV c2 k (fun j => va_rf (some (H.size + 1 + r * (1 + k * 1) + 1 + j * 1)))) := fun r hr => by
      rw [muF_in G2 c3 n T1 n r hr _ (by rw [hT1]; exact Nat.le_refl _) (by rw [hT1, Nat.succ_mul]; omega)]
      have hs := (muF_f G2 c3 n T1 r).1
      rw [hT1] at hs
      have h3 := (muF_f G1 c2 k (muF (fun s => muF (muL cI 3 (.int 0)) 1 c2 k s k) (1 + k * 1) c3 n T1 r) k).2.1
      rw [hs, muO_V] at h3
      exact h3
    have hcell : ∀ r j, r < n → j < k → (muF (fun s => muF (muL cI 3 (.int 0)) 1 c2 k s k) (1 + k * 1) c3 n T1 n).heap[H.size + 1 + r * (1 + k * 1) + 1 + j * 1]? = some (arrV cI 3 (fun _ => .int 0)) := fun r j hr hj => by
      rw [muF_in G2 c3 n T1 n r hr _ (by rw [hT1]; omega) (by rw [hT1, Nat.succ_mul]; omega)]
      have hs := (muF_f G2 c3 n T1 r).1
      rw [hT1] at hs
      have h3 := muF_in G1 c2 k (muF (fun s => muF (muL cI 3 (.int 0)) 1 c2 k s k) (1 + k * 1) c3 n T1 r) k j hj (H.size + 1 + r * (1 + k * 1) + 1 + j * 1) (by rw [hs]; exact Nat.le_refl _) (by rw [hs]; omega)
      have h4 := (muF_f G1 c2 k (muF (fun s => muF (muL cI 3 (.int 0)) 1 c2 k s k) (1 + k * 1) c3 n T1 r) j).1
      rw [hs] at h4
      refine h3.trans ?_
      rw [← h4]
      exact (State.heap_pushCell_size _ _).trans (by rw [arrV_new])
    have hsz : H.size + (1 + n * (1 + k * 1)) = (muF (fun s => muF (muL cI 3 (.int 0)) 1 c2 k s k) (1 + k * 1) c3 n T1 n).heap.size := by
      rw [f1, hT1]; omega
    generalize (muF (fun s => muF (muL cI 3 (.int 0)) 1 c2 k s k) (1 + k * 1) c3 n T1 n).heap = H1 at hold f2 hrow hcell hsz ⊢
    have hP1 : va_P D vwCl ws H1 := hP.kept (fun i x hx => hold x.1 ((hP i x hx).lt))
    have hlt : ∀ x ∈ ws, x.1 < H.size := fun x hx => (hP.mem hx).lt
    have eC : ∀ p, p < n * k → sCell cI k (fun r j => H.size + 1 + r * (1 + k * 1) + 1 + j * 1) (fun _ => 0) (fun _ => 0) (fun _ => 0) p = (H.size + 2 + p + p / k, .inl (cI, 3, .inl (t3 0 0 0))) := fun p hp => by
      obtain ⟨g1, g2, g3⟩ := pl_rc hp
      unfold sCell
      have : H.size + 1 + p / k * (1 + k * 1) + 1 + p % k * 1 = H.size + 2 + p + p / k := by
        rw [Nat.mul_one, Nat.mul_one, Nat.mul_add, Nat.mul_one]
        omega
      dsimp only
      rw [this]
    have := kk H.size (fun r => H.size + 1 + r * (1 + k * 1)) (fun r j => H.size + 1 + r * (1 + k * 1) + 1 + j * 1) H1 (locs ++ L) ?_ ?_ ?_
    · rw [q1]; exact this
    · refine va_P.all fun x hx => ?_
      rcases List.mem_append.mp hx with h | h
      · exact hP1.mem h
      rcases List.mem_append.mp h with h | h
      · rw [List.mem_singleton] at h
        subst h
        show H1[H.size]? = some (vp_cell c3 _)
        rw [vp_cell_q]
        exact f2
      rcases List.mem_append.mp h with h | h
      · obtain ⟨r, hr, rfl⟩ := List.mem_map.mp h
        show H1[H.size + 1 + r * (1 + k * 1)]? = some (vp_cell c2 _)
        rw [vp_cell_q]
        exact hrow r (List.mem_range.mp hr)
      · obtain ⟨p1, hp1, rfl⟩ := List.mem_map.mp h
        obtain ⟨g1, g2, g3⟩ := pl_rc (List.mem_range.mp hp1)
        show H1[H.size + 1 + p1 / k * (1 + k * 1) + 1 + p1 % k * 1]? = some (vp_cell cI _)
        rw [vp_cell_i, ← t3_0]
        exact hcell _ _ g1 g2
    · refine va_D_iff.mpr ⟨?_, fun x hx => ?_⟩
      · have hpw := List.pairwise_lt_range (n := n)
        have hpw2 := List.pairwise_lt_range (n := n * k)
        rw [List.map_append, List.map_append, List.map_append, List.nodup_append]
        have n1 : ∀ y ∈ (sRows c2 k (fun r => H.size + 1 + r * (1 + k * 1)) (fun r j => H.size + 1 + r * (1 + k * 1) + 1 + j * 1) n).map Prod.fst, ∃ r, r < n ∧ y = H.size + 1 + r * (1 + k) := fun y hy => by
          obtain ⟨x, hx, rfl⟩ := List.mem_map.mp hy
          obtain ⟨r, hr, rfl⟩ := List.mem_map.mp hx
          exact ⟨r, List.mem_range.mp hr, by show H.size + 1 + r * (1 + k * 1) = _; rw [Nat.mul_one]⟩
        have n2 : ∀ y ∈ (sCells cI k (fun r j => H.size + 1 + r * (1 + k * 1) + 1 + j * 1) (fun _ => 0) (fun _ => 0) (fun _ => 0) (n * k)).map Prod.fst, ∃ r j, r < n ∧ j < k ∧ y = H.size + 1 + r * (1 + k) + 1 + j := fun y hy => by
          obtain ⟨x, hx, rfl⟩ := List.mem_map.mp hy
          obtain ⟨p1, hp1, rfl⟩ := List.mem_map.mp hx
          obtain ⟨g1, g2, g3⟩ := pl_rc (List.mem_range.mp hp1)
          exact ⟨p1 / k, p1 % k, g1, g2, by show H.size + 1 + p1 / k * (1 + k * 1) + 1 + p1 % k * 1 = _; rw [Nat.mul_one, Nat.mul_one]⟩
        refine ⟨(va_D_iff.mp hD).1, ?_, ?_⟩
        · rw [List.nodup_append, List.nodup_append]
          refine ⟨by simp, ⟨?_, ?_, ?_⟩, ?_⟩
          · unfold sRows
            rw [List.map_map]
            refine two_nd hpw fun a b hab => ?_
            show H.size + 1 + a * (1 + k * 1) ≠ H.size + 1 + b * (1 + k * 1)
            have := Nat.mul_le_mul_right (1 + k * 1) (show a + 1 ≤ b from hab)
            rw [Nat.succ_mul] at this
            omega
          · unfold sCells
            rw [List.map_map]
            have e0 : (List.range (n * k)).map (Prod.fst ∘ sCell cI k (fun r j => H.size + 1 + r * (1 + k * 1) + 1 + j * 1) (fun _ => 0) (fun _ => 0) (fun _ => 0)) = (List.range (n * k)).map (fun p => H.size + 2 + p + p / k) := List.map_congr_left fun p hp => by
              show (sCell cI k _ _ _ _ p).1 = _
              rw [eC p (List.mem_range.mp hp)]
            rw [e0]
            refine two_nd hpw2 fun a b hab => ?_
            have := Nat.div_le_div_right (c := k) (Nat.le_of_lt hab)
            show H.size + 2 + a + a / k ≠ H.size + 2 + b + b / k
            omega
          · intro a ha b hb e
            obtain ⟨r, hr, rfl⟩ := n1 a ha
            obtain ⟨r2, j, hr2, hj, rfl⟩ := n2 b hb
            rcases Nat.lt_or_ge r2 r with z | z
            · have := Nat.mul_le_mul_right (1 + k) (show r2 + 1 ≤ r from z)
              rw [Nat.succ_mul] at this
              omega
            · have := Nat.mul_le_mul_right (1 + k) z
              omega
          · intro a ha b hb e
            rw [List.map_singleton, List.mem_singleton] at ha
            subst ha
            rcases List.mem_append.mp hb with hb | hb
            · obtain ⟨r, hr, rfl⟩ := n1 b hb
              omega
            · obtain ⟨r2, j, hr2, hj, rfl⟩ := n2 b hb
              omega
        · intro a ha b hb e
          obtain ⟨x, hx, rfl⟩ := List.mem_map.mp ha
          have h1 := hlt x hx
          rcases List.mem_append.mp hb with hb | hb
          · rw [List.map_singleton, List.mem_singleton] at hb
            subst hb
            omega
          rcases List.mem_append.mp hb with hb | hb
          · obtain ⟨r, hr, rfl⟩ := n1 b hb
            omega
          · obtain ⟨r2, j, hr2, hj, rfl⟩ := n2 b hb
            omega
      · rcases List.mem_append.mp hx with h | h
        · exact (va_D_iff.mp hD).2 x h
        refine hA _ (Nat.le_trans hS.1 ?_)
        rcases List.mem_append.mp h with h | h
        · rw [List.mem_singleton] at h
          subst h
          exact Nat.le_refl _
        rcases List.mem_append.mp h with h | h
        · obtain ⟨r, hr, rfl⟩ := List.mem_map.mp h
          show H.size ≤ H.size + 1 + r * (1 + k * 1)
          omega
        · obtain ⟨p1, hp1, rfl⟩ := List.mem_map.mp h
          show H.size ≤ H.size + 1 + p1 / k * (1 + k * 1) + 1 + p1 % k * 1
          omega
    · refine ⟨Nat.le_trans hS.1 (by omega), fun q h1 h2 => ?_, fun q hq => ?_⟩
      · rw [hold q (Nat.lt_of_lt_of_le h1 hS.1)]
        exact hS.2.1 q h1 h2
      · rcases List.mem_append.mp hq with h | h
        · exact hS.2.2 q h
        · exact hA _ (Nat.le_trans hS.1 (hL q h))
end MU3
