/-! ===== a board that is being copied: its first t places are there ===== -/
def sRowP (c2 : ClassId) (cN : Nat) (rw_ : Nat → Nat) (ow : Nat → Nat → Nat) (t r : Nat) : Nat × va_E := (rw_ r, .inl (c2, cN, .inr (.inr (.inr (.inr (fun c => if r * cN + c < t then some (ow r c) else none))))))
abbrev wC (cI c2 c3 : ClassId) (nb : Nat) (rw_ : Nat → Nat) (ow : Nat → Nat → Nat) (cN rN : Nat) (pa pd st : Nat → Int32) (t : Nat) : va_W := [(nb, .inl (c3, rN, .inr (.inr (.inr (.inr (fun r => some (rw_ r)))))))] ++ ((List.range rN).map (sRowP c2 cN rw_ ow t) ++ sCells cI cN ow pa pd st t)
theorem pl_inj {cN r c r2 c2 : Nat} (hc : c < cN) (hc2 : c2 < cN) (h : r * cN + c = r2 * cN + c2) : r = r2 ∧ c = c2 := by
  rcases Nat.lt_trichotomy r r2 with q | q | q
  · have := pl_lt q hc; omega
  · subst q; exact ⟨rfl, by omega⟩
  · have := pl_lt q hc2; omega
theorem refs_ext {cA : ClassId} {n a : Nat} {D : va_G} {H : Heap} {f g : Nat → Option Nat} (h : va_at D vwCl (a, .inl (cA, n, .inr (.inr (.inr (.inr f))))) H) (hfg : ∀ j, j < n → f j = g j) : va_at D vwCl (a, .inl (cA, n, .inr (.inr (.inr (.inr g))))) H := by
  have h1 : H[a]? = some (vp_cell cA (n, .inr (.inr (.inr (.inr f))))) := h
  show H[a]? = some (vp_cell cA (n, .inr (.inr (.inr (.inr g)))))
  rw [h1, vp_cell_q, vp_cell_q]
  exact congrArg some (arrV_ext fun j hj => by rw [hfg j hj])
section SCP
variable {p : Program} {l : Launch} {e : Env} {R : Room} {s : State} {m : MethodId} {args : Array Value} {below : List Frame} {meth : Method} {c : Code} {H : Heap} {locs : List Loc} {cells slots : Nat} {Q : State → Prop}
variable {cc : ByteArray} {pc : Nat} {ls : Array Slot} {rest : List Value} {D : va_G} {A : Nat → Prop} {tys : List (ClassId × FieldType)} {H0 : Heap}
variable {cI c2 c3 : ClassId} {nb : Nat} {rw_ : Nat → Nat} {ow : Nat → Nat → Nat} {cN rN : Nat} {pa pd st : Nat → Int32} {X : va_W}
theorem sCpy {r k q t : Nat} (hexec : p.tables.exec = Jvm.exec) (hb : c.code = cc) (ht : r * cN + k = t) (hP : va_P D vwCl ((X ++ wC cI c2 c3 nb rw_ ow cN rN pa pd st t) ++ [(q, .inl (cI, 3, .inl (t3 (pa t) (pd t) (st t))))]) H) (hD : va_D A ((X ++ wC cI c2 c3 nb rw_ ow cN rN pa pd st t) ++ [(q, .inl (cI, 3, .inl (t3 (pa t) (pd t) (st t))))])) (hS : va_S A H0 H locs) (hG : AO .int c2 cI s) (hKI : ∃ kI : Class, s.vm.classes[cI]? = some kI) (hr : r < rN) (hk : k < cN) (hc9 : cN < 2 ^ 31) (hdg : decode cc pc = .ok (.aastore, 1))
    (kk : ∀ (H1 : Heap) (locs1 : List Loc), va_P D vwCl (X ++ wC cI c2 c3 nb rw_ (upd2 ow r k q) cN rN pa pd st (t + 1)) H1 → va_D A (X ++ wC cI c2 c3 nb rw_ (upd2 ow r k q) cN rN pa pd st (t + 1)) → va_S A H0 H1 locs1 → W p l e R s m args below meth c H1 locs1 cells slots Q (F0 m (pc + 1) ls rest)) : W p l e R s m args below meth c H locs cells slots Q (F0 m pc ls (.ref q :: .int (nI k) :: .ref (rw_ r) :: rest)) := by
  subst ht
  obtain ⟨d1, d2⟩ := pl_div (r := r) hk
  have hmR : sRowP c2 cN rw_ ow (r * cN + k) r ∈ (X ++ wC cI c2 c3 nb rw_ ow cN rN pa pd st (r * cN + k)) ++ [((q, .inl (cI, 3, .inl (t3 (pa (r * cN + k)) (pd (r * cN + k)) (st (r * cN + k))))) : Nat × va_E)] := List.mem_append_left _ (List.mem_append_right _ (List.mem_append_right _ (List.mem_append_left _ (List.mem_map_of_mem (List.mem_range.mpr hr)))))
  have hR : va_at D vwCl (sRowP c2 cN rw_ ow (r * cN + k) r) H := hP.mem hmR
  have hRA : A (rw_ r) := (va_D_iff.mp hD).2 _ hmR
  have hq : va_at D vwCl (q, .inl (cI, 3, .inl (t3 (pa (r * cN + k)) (pd (r * cN + k)) (st (r * cN + k))))) H := hP.mem (List.mem_append_right _ List.mem_cons_self)
  obtain ⟨kA, g1, g2, -, -⟩ := hG
  obtain ⟨kI, hkI⟩ := hKI
  have hlt : (nI k).toNatClampNeg < cN := by rw [nI_clamp (by omega)]; exact hk
  have eC : ∀ p2, p2 ≠ r * cN + k → sCell cI cN (upd2 ow r k q) pa pd st p2 = sCell cI cN ow pa pd st p2 := fun p2 h2 => by
    unfold sCell
    have : upd2 ow r k q (p2 / cN) (p2 % cN) = ow (p2 / cN) (p2 % cN) := by
      unfold upd2
      rw [if_neg]
      rintro ⟨z1, z2⟩
      exact h2 (by rw [← z1, ← z2, Nat.mul_comm]; exact (Nat.div_add_mod p2 cN).symm)
    rw [this]
  have eCk : sCell cI cN (upd2 ow r k q) pa pd st (r * cN + k) = (q, .inl (cI, 3, .inl (t3 (pa (r * cN + k)) (pd (r * cN + k)) (st (r * cN + k))))) := by
    unfold sCell
    rw [d1, d2]
    have : upd2 ow r k q r k = q := by unfold upd2; rw [if_pos ⟨rfl, rfl⟩]
    rw [this]
  have w3 : sCells cI cN (upd2 ow r k q) pa pd st (r * cN + k + 1) = sCells cI cN ow pa pd st (r * cN + k) ++ [(q, .inl (cI, 3, .inl (t3 (pa (r * cN + k)) (pd (r * cN + k)) (st (r * cN + k)))))] := by
    unfold sCells
    rw [List.range_succ, List.map_append, List.map_singleton, eCk]
    congr 1
    exact List.map_congr_left fun p2 h2 => eC p2 (by have := List.mem_range.mp h2; omega)
  have w1 : (List.range rN).map (sRowP c2 cN rw_ ow (r * cN + k)) = (List.range r).map (sRowP c2 cN rw_ ow (r * cN + k)) ++ sRowP c2 cN rw_ ow (r * cN + k) r :: (List.range' (r + 1) (rN - r - 1)).map (sRowP c2 cN rw_ ow (r * cN + k)) := mp_split hr _ _ fun _ _ => rfl
  have hs : ∀ x, (x ∈ X ∨ x = (nb, .inl (c3, rN, .inr (.inr (.inr (.inr (fun r => some (rw_ r))))))) ∨ (∃ r2, r2 < rN ∧ r2 ≠ r ∧ x = sRowP c2 cN rw_ ow (r * cN + k) r2) ∨ x ∈ sCells cI cN ow pa pd st (r * cN + k) ∨ x = (q, .inl (cI, 3, .inl (t3 (pa (r * cN + k)) (pd (r * cN + k)) (st (r * cN + k)))))) → x.1 ≠ rw_ r := by
    have hD1 : va_D A ((X ++ [(nb, .inl (c3, rN, .inr (.inr (.inr (.inr (fun r => some (rw_ r)))))))] ++ (List.range r).map (sRowP c2 cN rw_ ow (r * cN + k))) ++ sRowP c2 cN rw_ ow (r * cN + k) r :: ((List.range' (r + 1) (rN - r - 1)).map (sRowP c2 cN rw_ ow (r * cN + k)) ++ sCells cI cN ow pa pd st (r * cN + k) ++ [(q, .inl (cI, 3, .inl (t3 (pa (r * cN + k)) (pd (r * cN + k)) (st (r * cN + k)))))])) := by
      have := hD
      unfold wC at this
      rw [w1] at this
      simpa only [List.append_assoc, List.cons_append] using this
    have h0 := nd_sep hD1
    intro x hx
    refine h0 x ?_
    simp only [List.mem_append, List.mem_singleton]
    rcases hx with h | h | ⟨r2, h2, h3, h⟩ | h | h
    · exact Or.inl (Or.inl (Or.inl h))
    · exact Or.inl (Or.inl (Or.inr h))
    · subst h
      rcases Nat.lt_or_ge r2 r with z | z
      · exact Or.inl (Or.inr (List.mem_map_of_mem (List.mem_range.mpr z)))
      · exact Or.inr (Or.inl (Or.inl (List.mem_map_of_mem (List.mem_range'_1.mpr ⟨by omega, by omega⟩))))
    · exact Or.inr (Or.inl (Or.inr h))
    · exact Or.inr (Or.inr h)
  refine W.aast hexec hb (a := rw_ r) (cell := vp_cell c2 (cN, .inr (.inr (.inr (.inr (fun c => if r * cN + c < r * cN + k then some (ow r c) else none)))))) hR (fun q h => by cases h) (fun h => by cases h) g1 g2 rfl hkI ⟨nI_pos (by omega), by show _ < (arrV _ _ _).slots.size; rw [arrV_size]; exact hlt⟩ hq (fun q h => by cases h) hkI (va_asg _ _) rfl rfl hdg fun H1 e z oq => ?_
  refine kk H1 _ (va_P.all fun x hx => ?_) ?_ (hS.put z oq hRA)
  · have keep : ∀ y, y ∈ (X ++ wC cI c2 c3 nb rw_ ow cN rN pa pd st (r * cN + k)) ++ [((q, .inl (cI, 3, .inl (t3 (pa (r * cN + k)) (pd (r * cN + k)) (st (r * cN + k))))) : Nat × va_E)] → y.1 ≠ rw_ r → va_at D vwCl y H1 := fun y hy hne => (hP.mem hy).kept (oq y.1 hne)
    rcases List.mem_append.mp hx with h | h
    · exact keep x (List.mem_append_left _ (List.mem_append_left _ h)) (hs x (Or.inl h))
    rcases List.mem_append.mp h with h | h
    · rw [List.mem_singleton] at h
      subst h
      exact keep _ (List.mem_append_left _ (List.mem_append_right _ (List.mem_append_left _ List.mem_cons_self))) (hs _ (Or.inr (Or.inl rfl)))
    rcases List.mem_append.mp h with h | h
    · obtain ⟨r2, hr2, rfl⟩ := List.mem_map.mp h
      have hr2 := List.mem_range.mp hr2
      by_cases e2 : r2 = r
      · subst e2
        show H1[rw_ r2]? = some (vp_cell _ _)
        rw [e, vp_cell_q, vp_cell_q, arrV_store]
        refine congrArg some (arrV_ext fun j hj => ?_)
        rw [nI_clamp (by omega)]
        unfold updV upd2
        by_cases e3 : j = k
        · subst e3
          rw [if_pos rfl, if_pos (by omega), if_pos ⟨rfl, rfl⟩]
          rfl
        · rw [if_neg e3]
          dsimp only
          by_cases e4 : r2 * cN + j < r2 * cN + k
          · rw [if_pos e4, if_pos (by omega), if_neg (fun z => e3 z.2)]
          · rw [if_neg e4, if_neg (by omega)]
      · have h3 := keep (sRowP c2 cN rw_ ow (r * cN + k) r2) (List.mem_append_left _ (List.mem_append_right _ (List.mem_append_right _ (List.mem_append_left _ (List.mem_map_of_mem (List.mem_range.mpr hr2)))))) (hs _ (Or.inr (Or.inr (Or.inl ⟨r2, hr2, e2, rfl⟩))))
        refine refs_ext h3 fun j hj => ?_
        have hne : r2 * cN + j ≠ r * cN + k := fun z => e2 (pl_inj hj hk z).1
        have eo : upd2 ow r k q r2 j = ow r2 j := by unfold upd2; rw [if_neg (fun z => e2 z.1)]
        rw [eo]
        by_cases e4 : r2 * cN + j < r * cN + k
        · rw [if_pos e4, if_pos (by omega)]
        · rw [if_neg e4, if_neg (by omega)]
    · rw [w3] at h
      rcases List.mem_append.mp h with h | h
      · exact keep x (List.mem_append_left _ (List.mem_append_right _ (List.mem_append_right _ (List.mem_append_right _ h)))) (hs x (Or.inr (Or.inr (Or.inr (Or.inl h)))))
      · rw [List.mem_singleton] at h
        subst h
        exact keep _ (List.mem_append_right _ List.mem_cons_self) (hs _ (Or.inr (Or.inr (Or.inr (Or.inr rfl)))))
  · refine hD.fst ?_
    unfold wC
    rw [w3]
    simp only [List.map_append, List.append_assoc, List.map_map]
    rfl
/-- an array of references is read, as far as it is filled -/
theorem sLdP {cA : ClassId} {t : FieldType} {n r a b : Nat} {f : Nat → Option Nat} {ws : va_W} (hexec : p.tables.exec = Jvm.exec) (hb : c.code = cc) (hK : va_K D vwCl tys s) (hP : va_P D vwCl ws H) (t0 : Nat) (ht : tys[t0]? = some (cA, .array t)) (hm : (a, .inl (cA, n, .inr (.inr (.inr (.inr f))))) ∈ ws) (hr : r < n) (hn : n < 2 ^ 31) (hf : f r = some b) (hdg : decode cc pc = .ok (.aaload, 1))
    (kk : W p l e R s m args below meth c H locs cells slots Q (F0 m (pc + 1) ls (.ref b :: rest))) : W p l e R s m args below meth c H locs cells slots Q (F0 m pc ls (.int (nI r) :: .ref a :: rest)) := by
  have hin : vp_in (nI r) n := vp_in_nI hr hn
  have hlt : (nI r).toNatClampNeg < n := Nat.not_le.mp fun q => hin (Or.inr q)
  exact W.aald (v := .ref b) (ty := .array t) hexec hb (hP.mem hm) ((hK.2 t0 _ ht).1 n (fun j => va_rf (f j))) rfl (fun q => by cases q) (by show ¬ (nI r < 0 ∨ (arrV _ _ _).slots.size ≤ _); rw [arrV_size]; exact hin) (by show (arrV _ _ _).slots[_]? = _; rw [arrV_read _ _ hlt, nI_clamp (by omega), hf]; rfl) rfl rfl hdg kk
end SCP
theorem pm_cpy {α : Type} (o b q1 q2 q3 : α) (S T : List α) : ((((([o] ++ S) ++ (b :: T)) ++ [q1]) ++ [q2]) ++ [q3]).Perm (S ++ (o :: q1 :: q2 :: q3 :: b :: T)) := by
  classical
  rw [List.perm_iff_count]
  intro x
  simp only [List.count_append, List.count_cons, List.count_nil, Nat.zero_add, Nat.add_zero]
  ac_rfl
/-- all places are there: the board is whole -/
theorem wC_all {cI c2 c3 : ClassId} {nb : Nat} {rw_ : Nat → Nat} {ow : Nat → Nat → Nat} {cN rN : Nat} {pa pd st : Nat → Int32} {X : va_W} {D : va_G} {H : Heap} (hP : va_P D vwCl (X ++ wC cI c2 c3 nb rw_ ow cN rN pa pd st (rN * cN)) H) : va_P D vwCl (X ++ ([(nb, .inl (c3, rN, .inr (.inr (.inr (.inr (fun r => some (rw_ r)))))))] ++ (sRows c2 cN rw_ ow rN ++ sCells cI cN ow pa pd st (rN * cN)))) H := by
  refine va_P.all fun x hx => ?_
  rcases List.mem_append.mp hx with h | h
  · exact hP.mem (List.mem_append_left _ h)
  rcases List.mem_append.mp h with h | h
  · exact hP.mem (List.mem_append_right _ (List.mem_append_left _ h))
  rcases List.mem_append.mp h with h | h
  · obtain ⟨r, hr, rfl⟩ := List.mem_map.mp h
    have hr := List.mem_range.mp hr
    have h2 := hP.mem (q := sRowP c2 cN rw_ ow (rN * cN) r) (List.mem_append_right _ (List.mem_append_right _ (List.mem_append_left _ (List.mem_map_of_mem (List.mem_range.mpr hr)))))
    exact refs_ext h2 fun j hj => if_pos (pl_lt hr hj)
  · exact hP.mem (List.mem_append_right _ (List.mem_append_right _ (List.mem_append_right _ h)))
theorem wC_0 {cI c2 c3 : ClassId} {nb : Nat} {rw_ : Nat → Nat} (ow : Nat → Nat → Nat) {cN rN : Nat} (pa pd st : Nat → Int32) : ([(nb, .inl (c3, rN, .inr (.inr (.inr (.inr (fun r => some (rw_ r)))))))] ++ (List.range rN).map (fun r => (rw_ r, .inl (c2, (cN, .inr (.inr (.inr (.inr (fun _ => none))))))) ) : va_W) = wC cI c2 c3 nb rw_ ow cN rN pa pd st 0 := by
  have e : (fun r : Nat => ((rw_ r, .inl (c2, (cN, .inr (.inr (.inr (.inr (fun _ => none))))))) : Nat × va_E)) = sRowP c2 cN rw_ ow 0 := funext fun r => by
    unfold sRowP
    have : (fun c : Nat => (if r * cN + c < 0 then some (ow r c) else none : Option Nat)) = fun _ => none := funext fun c => if_neg (Nat.not_lt_zero _)
    rw [this]
  show _ = _ ++ (_ ++ sCells cI cN ow pa pd st 0)
  rw [e]
  unfold sCells
  rw [List.range_zero, List.map_nil, List.append_nil]
theorem pm_drop {α : Type} (o : α) (S T : List α) : ((o :: T) ++ S).Perm (([o] ++ S) ++ T) := by
  classical
  rw [List.perm_iff_count]
  intro x
  simp only [List.count_append, List.count_cons, List.count_nil, Nat.zero_add, Nat.add_zero]
  ac_rfl
