section MU4
variable {p : Program} {l : Launch} {e : Env} {R : Room} {s : State} {m : MethodId} {args : Array Value} {below : List Frame} {meth : Method} {c : Code} {H : Heap} {locs : List Loc} {cells slots : Nat} {Q : State → Prop}
variable {cc : ByteArray} {pc : Nat} {ls : Array Slot} {rest : List Value} {D : va_G} {A : Nat → Prop} {tys : List (ClassId × FieldType)} {ws : va_W} {H0 : Heap}
/-- new T[n][k], an array of n rows, each of k -/
theorem va_mu2 {own nm : String} {index n k : Nat} {cO comp cx : ClassId} {kO kc : Class} {t0 type : FieldType} {z : vp_A} (hexec : p.tables.exec = Jvm.exec) (hb : c.code = cc) (hown : s.vm.findClass own = some m.cls) (hclink : (Cond.classLink own index nm).before args s = true) (hnm : s.vm.findClass nm = some cO)
    (a1 : s.vm.classes[cO]? = some kO) (a2 : kO.kind = .array comp t0) (href : t0.isReference = true) (i1 : s.vm.classes[comp]? = some kc) (i2 : kc.kind = .array cx type) (hz : arrV comp k (fun _ => defaultValue type) = vp_cell comp z) (hdf : fits type (defaultValue type) = true) (hdd : (defaultValue type).isDefault = true) (hcb : componentBytes type ≤ 8) (hcb0 : componentBytes t0 ≤ 8)
    (hP : va_P D vwCl ws H) (hD : va_D A ws) (hS : va_S A H0 H locs) (hA : ∀ q, H0.size ≤ q → A q) (hn : n < 100) (hk : k < 100)
    (hcells : cells + (1 + n) ≤ R.cells) (hslots : slots + (n + n * k) ≤ R.slots) (hdg : decode cc pc = .ok (.multianewarray index 2, 4))
    (kk : ∀ (b : Nat) (rw_ : Nat → Nat) (H1 : Heap) (locs1 : List Loc), va_P D vwCl (ws ++ ([(b, .inl (cO, n, .inr (.inr (.inr (.inr (fun r => some (rw_ r)))))))] ++ (List.range n).map (fun r => (rw_ r, .inl (comp, z))))) H1 → va_D A (ws ++ ([(b, .inl (cO, n, .inr (.inr (.inr (.inr (fun r => some (rw_ r)))))))] ++ (List.range n).map (fun r => (rw_ r, .inl (comp, z))))) → va_S A H0 H1 locs1 →
      W p l e R s m args below meth c H1 locs1 (cells + (1 + n)) (slots + (n + n * k)) Q (F0 m (pc + 4) ls (.ref b :: rest))) : W p l e R s m args below meth c H locs cells slots Q (F0 m pc ls (.int (nI k) :: .int (nI n) :: rest)) := by
  have G2 := muL_G comp k (defaultValue type)
  have G3 := muF_G G2 cO n
  have en : (nI n).toNatClampNeg = n := nI_clamp (by omega)
  have ek : (nI k).toNatClampNeg = k := nI_clamp (by omega)
  have q1 : 1 + n * 1 = 1 + n := by rw [Nat.mul_one]
  have hpn : ¬ nI n < 0 := nI_pos (by omega)
  have hpk : ¬ nI k < 0 := nI_pos (by omega)
  refine W_mu (own := own) (nm := nm) (index := index) (dims := 2) (cO := cO) (counts := [nI n, nI k]) (g := F0 m pc ls (.int (nI k) :: .int (nI n) :: rest)) (rest := rest) G3 hexec hb hown hclink hnm (by decide) rfl (Or.inl ⟨_, _, rfl⟩) rfl hdg rfl (by rw [q1]; exact hcells) hslots ?_ ?_
  · intro hadm s' d' acts' E Q' hal h1 h2 hq
    obtain ⟨k3', b1', b2'⟩ := kindOf hal a1 a2
    have L1 : ∀ z : Nat, z < 100 → ¬ z > e.platform.arrayLengthLimit := fun z hz => by rw [Launch.admits_arrayLengthLimit hadm]; omega
    have L2 : ∀ z y : Nat, z < 100 → y ≤ 8 → ¬ z * y > e.platform.maxHeapBytes := fun z y hz hy => by
      rw [Launch.admits_maxHeapBytes hadm]
      have := Nat.mul_le_mul (Nat.le_of_lt hz) hy
      omega
    refine mu_wpN G2 (t0 := t0) b1' b2' href hpn (by simp [hpk]) (by rw [en]; exact L1 n hn) (by rw [en]; exact L2 n _ hn hcb0) ?_ (by rw [en]; exact h1) (by rw [en]; exact h2) (by rw [en]; exact hq)
    intro s3 d3 acts3 Q3 hv3 h5 h6 hq3
    have hal3 : s.vm.Alike s3.vm := by rw [hv3]; exact hal
    obtain ⟨kI', i1', i2'⟩ := kindOf hal3 i1 i2
    refine mu_wp1 i1' i2' hpk (by rw [ek]; exact L1 k hk) (by rw [ek]; exact L2 k _ hk hcb) hdf hdd (by omega) (by rw [ek]; omega) ?_
    rw [ek]
    exact hq3 _ _
  · intro T1 L hT1 hL
    obtain ⟨f1, f2, -, -⟩ := muF_f G2 cO n T1 n
    have hold : ∀ q, q < H.size → (muF (muL comp k (defaultValue type)) 1 cO n T1 n).heap[q]? = H[q]? := fun q hq => by
      rw [muF_old G2 cO n T1 (a := q) (by rw [hT1]; exact hq), hT1]
    rw [hT1, muO_V] at f2
    have hrow : ∀ r, r < n → (muF (muL comp k (defaultValue type)) 1 cO n T1 n).heap[H.size + 1 + r * 1]? = some (arrV comp k (fun _ => defaultValue type)) := fun r hr => by
      rw [muF_in G2 cO n T1 n r hr _ (by rw [hT1]; exact Nat.le_refl _) (by rw [hT1]; omega)]
      have h4 := (muF_f G2 cO n T1 r).1
      rw [hT1] at h4
      rw [← h4]
      exact (State.heap_pushCell_size _ _).trans (by rw [arrV_new])
    have hsz : H.size + (1 + n * 1) = (muF (muL comp k (defaultValue type)) 1 cO n T1 n).heap.size := by
      rw [f1, hT1]; omega
    generalize (muF (muL comp k (defaultValue type)) 1 cO n T1 n).heap = H1 at hold f2 hrow hsz ⊢
    have hP1 : va_P D vwCl ws H1 := hP.kept (fun i x hx => hold x.1 ((hP i x hx).lt))
    have hlt : ∀ x ∈ ws, x.1 < H.size := fun x hx => (hP.mem hx).lt
    have := kk H.size (fun r => H.size + 1 + r * 1) H1 (locs ++ L) ?_ ?_ ?_
    · rw [q1]; exact this
    · refine va_P.all fun x hx => ?_
      rcases List.mem_append.mp hx with h | h
      · exact hP1.mem h
      rcases List.mem_append.mp h with h | h
      · rw [List.mem_singleton] at h
        subst h
        show H1[H.size]? = some (vp_cell cO _)
        rw [vp_cell_q]
        exact f2
      · obtain ⟨r, hr, rfl⟩ := List.mem_map.mp h
        show H1[H.size + 1 + r * 1]? = some (vp_cell comp z)
        rw [← hz]
        exact hrow r (List.mem_range.mp hr)
    · refine va_D_iff.mpr ⟨?_, fun x hx => ?_⟩
      · have hpw := List.pairwise_lt_range (n := n)
        rw [List.map_append, List.map_append, List.nodup_append]
        have n1 : ∀ y ∈ ((List.range n).map (fun r => ((H.size + 1 + r * 1, .inl (comp, z)) : Nat × va_E))).map Prod.fst, ∃ r, r < n ∧ y = H.size + 1 + r := fun y hy => by
          obtain ⟨x, hx, rfl⟩ := List.mem_map.mp hy
          obtain ⟨r, hr, rfl⟩ := List.mem_map.mp hx
          exact ⟨r, List.mem_range.mp hr, by show H.size + 1 + r * 1 = _; rw [Nat.mul_one]⟩
        refine ⟨(va_D_iff.mp hD).1, ?_, ?_⟩
        · rw [List.nodup_append]
          refine ⟨by simp, ?_, ?_⟩
          · rw [List.map_map]
            refine two_nd hpw fun a b hab => ?_
            show H.size + 1 + a * 1 ≠ H.size + 1 + b * 1
            omega
          · intro a ha b hb e
            rw [List.map_singleton, List.mem_singleton] at ha
            subst ha
            obtain ⟨r, hr, rfl⟩ := n1 b hb
            omega
        · intro a ha b hb e
          obtain ⟨x, hx, rfl⟩ := List.mem_map.mp ha
          have h1 := hlt x hx
          rcases List.mem_append.mp hb with hb | hb
          · rw [List.map_singleton, List.mem_singleton] at hb
            subst hb
            omega
          · obtain ⟨r, hr, rfl⟩ := n1 b hb
            omega
      · rcases List.mem_append.mp hx with h | h
        · exact (va_D_iff.mp hD).2 x h
        refine hA _ (Nat.le_trans hS.1 ?_)
        rcases List.mem_append.mp h with h | h
        · rw [List.mem_singleton] at h
          subst h
          exact Nat.le_refl _
        · obtain ⟨r, hr, rfl⟩ := List.mem_map.mp h
          show H.size ≤ H.size + 1 + r * 1
          omega
    · refine ⟨Nat.le_trans hS.1 (by omega), fun q h1 h2 => ?_, fun q hq => ?_⟩
      · rw [hold q (Nat.lt_of_lt_of_le h1 hS.1)]
        exact hS.2.1 q h1 h2
      · rcases List.mem_append.mp hq with h | h
        · exact hS.2.2 q h
        · exact hA _ (Nat.le_trans hS.1 (hL q h))
end MU4
