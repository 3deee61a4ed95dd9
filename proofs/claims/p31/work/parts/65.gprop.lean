/-! ===== the law's noted leads, and what is told of drops ===== -/
def ldv (pa st : Nat → Int32) (p : Nat) : Int32 := if pa p = 3 ∧ st p = 1 then 1 else 0
theorem ldv_t {pa st : Nat → Int32} {p : Nat} (h : pa p = 3 ∧ st p = 1) : ldv pa st p = 1 := if_pos h
theorem ldv_f {pa st : Nat → Int32} {p : Nat} (h : ¬ (pa p = 3 ∧ st p = 1)) : ldv pa st p = 0 := if_neg h
theorem bi_ld {cN rN k j : Nat} (h9 : cN ≤ 9) (h8 : rN ≤ 8) (hk : k < rN) (hj : j < cN) (pa st : Nat → Int32) : bi (xRight pa st (nI k * nI cN + nI j)) = ldv pa st (k * cN + j) := by
  rw [xRight_pl h9 h8 hk hj, ldv]
  by_cases a : pa (k * cN + j) = 3
  · by_cases b : st (k * cN + j) = 1
    · rw [if_pos a, if_pos b, if_pos ⟨a, b⟩]; rfl
    · rw [if_pos a, if_neg b, if_neg (fun z => b z.2)]; rfl
  · rw [if_neg a, if_neg (fun z => a z.1)]; rfl
theorem dfn_same {pa st st2 : Nat → Int32} {p : Nat} (h : (pa p = 3 ∧ st p = 1) ↔ (pa p = 3 ∧ st2 p = 1)) : dfn pa st st2 (p + 1) = dfn pa st st2 p := by
  refine dfn_f fun z => z.2 ⟨fun q => (h.mp ⟨z.1, q⟩).2, fun q => (h.mpr ⟨z.1, q⟩).2⟩
theorem dfn_diff {pa st st2 : Nat → Int32} {p : Nat} (h : ¬ ((pa p = 3 ∧ st p = 1) ↔ (pa p = 3 ∧ st2 p = 1))) : dfn pa st st2 (p + 1) = dfn pa st st2 p + 1 := by
  have h3 : pa p = 3 := by
    refine Classical.byContradiction fun q => h ⟨fun z => absurd z.1 q, fun z => absurd z.1 q⟩
  exact dfn_t h3 fun z => h ⟨fun q => ⟨h3, z.mp q.2⟩, fun q => ⟨h3, z.mpr q.2⟩⟩
theorem dfn_mono {pa st st2 : Nat → Int32} {i j : Nat} (h : i ≤ j) : dfn pa st st2 i ≤ dfn pa st st2 j := by
  obtain ⟨d, rfl⟩ := Nat.exists_eq_add_of_le h
  induction d with
  | zero => exact Nat.le_refl _
  | succ d ih =>
    refine Nat.le_trans (ih (Nat.le_add_right i d)) ?_
    show dfn pa st st2 (i + d) ≤ dfn pa st st2 (i + d) + _
    exact Nat.le_add_right _ _
theorem asb3 (pa pe st : Nat → Int32) (C R col : Int32) : ¬ xAsb pa pe st C R col = 0 ∧ ¬ xAsb pa pe st C R col < -1 ∧ ¬ 60 < xAsb pa pe st C R col := by
  unfold xAsb
  rcases asb_ok (pa := pa) (pe := pe) (st0 := st) (C := C) (R := R) (col := col) 60 1 st with e | ⟨i, h1, h2, e⟩
  · rw [e]; decide
  · rw [e]
    refine ⟨nI_neq (b := 0) (by omega) (by decide) (by omega), nI_nm1 (by omega), nI_nlt (a := 60) (by omega) (by decide)⟩
theorem asb_ne {pa pe st0 sv : Nat → Int32} {C R col : Int32} {n k : Nat} (h : k + n < 1000) : ¬ xAsbL pa pe st0 C R col n (k + 1) sv = nI k := by
  rcases asb_ok (pa := pa) (pe := pe) (st0 := st0) (C := C) (R := R) (col := col) n (k + 1) sv with e | ⟨i, h1, h2, e⟩
  · rw [e]; exact fun z => nI_m1 (by omega) z.symm
  · rw [e]; exact nI_neq (by omega) (by omega) (by omega)
def wLd (c2 cI : ClassId) (q : Nat) (rw2 : Nat → Nat) (cN rN : Nat) (g : Nat → Nat → Int32) : va_W := [(q, .inl (c2, rN, .inr (.inr (.inr (.inr (fun r => some (rw2 r)))))))] ++ (List.range rN).map (fun r => (rw2 r, .inl (cI, cN, .inl (g r))))
theorem wLd_m {c2 cI : ClassId} {q : Nat} {rw2 : Nat → Nat} {cN rN : Nat} {g : Nat → Nat → Int32} : ((q, .inl (c2, rN, .inr (.inr (.inr (.inr (fun r => some (rw2 r))))))) : Nat × va_E) ∈ wLd c2 cI q rw2 cN rN g := List.mem_append_left _ List.mem_cons_self
theorem wLd_r {c2 cI : ClassId} {q : Nat} {rw2 : Nat → Nat} {cN rN r : Nat} {g : Nat → Nat → Int32} (hr : r < rN) : ((rw2 r, .inl (cI, cN, .inl (g r))) : Nat × va_E) ∈ wLd c2 cI q rw2 cN rN g := List.mem_append_right _ (List.mem_map.mpr ⟨r, List.mem_range.mpr hr, rfl⟩)
def updg (g : Nat → Nat → Int32) (r k : Nat) (x : Int32) : Nat → Nat → Int32 := fun r2 => if r2 = r then upd (g r) k x else g r2
theorem updg_h (g : Nat → Nat → Int32) (r k : Nat) (x : Int32) : updg g r k x r = upd (g r) k x := if_pos rfl
theorem updg_n {g : Nat → Nat → Int32} {r k r2 : Nat} {x : Int32} (h : r2 ≠ r) : updg g r k x r2 = g r2 := if_neg h
theorem updg_1 {g : Nat → Nat → Int32} {r k : Nat} {x : Int32} : updg g r k x r k = x := by rw [updg_h]; exact pk_us
theorem updg_2 {g : Nat → Nat → Int32} {r k r2 k2 : Nat} {x : Int32} (h : r2 ≠ r ∨ k2 ≠ k) : updg g r k x r2 k2 = g r2 k2 := by
  by_cases c : r2 = r
  · subst c
    rw [updg_h]
    exact pk_un (h.resolve_left fun z => z rfl)
  · rw [updg_n c]
section LW
variable {p : Program} {l : Launch} {e : Env} {R : Room} {s : State} {m : MethodId} {args : Array Value} {below : List Frame} {meth : Method} {c : Code} {H : Heap} {locs : List Loc} {cells slots : Nat} {Q : State → Prop}
variable {cc : ByteArray} {pc : Nat} {ls : Array Slot} {rest : List Value} {D : va_G} {A : Nat → Prop} {tys : List (ClassId × FieldType)} {H0 : Heap} {X : va_W} {c2 cI : ClassId} {q : Nat} {rw2 : Nat → Nat} {cN rN : Nat} {g : Nat → Nat → Int32}
/-- a lead noted -/
theorem lSt {r k : Nat} {x : Int32} (hexec : p.tables.exec = Jvm.exec) (hb : c.code = cc) (hK : va_K D vwCl tys s) (hP : va_P D vwCl (X ++ wLd c2 cI q rw2 cN rN g) H) (hD : va_D A (X ++ wLd c2 cI q rw2 cN rN g)) (hS : va_S A H0 H locs) (t0 : Nat) (ht : tys[t0]? = some (cI, .int)) (hr : r < rN) (hk : k < cN) (hc9 : cN < 2 ^ 31) (hdg : decode cc pc = .ok (.iastore, 1))
    (kk : ∀ (H1 : Heap) (locs1 : List Loc), va_P D vwCl (X ++ wLd c2 cI q rw2 cN rN (updg g r k x)) H1 → va_D A (X ++ wLd c2 cI q rw2 cN rN (updg g r k x)) → va_S A H0 H1 locs1 → W p l e R s m args below meth c H1 locs1 cells slots Q (F0 m (pc + 1) ls rest)) : W p l e R s m args below meth c H locs cells slots Q (F0 m pc ls (.int x :: .int (nI k) :: .ref (rw2 r) :: rest)) := by
  obtain ⟨i, hi⟩ := List.getElem?_of_mem (List.mem_append_right X (wLd_r (c2 := c2) (cI := cI) (q := q) (rw2 := rw2) (cN := cN) (g := g) hr))
  have e1 : ∀ r2, r2 ≠ r → ((rw2 r2, .inl (cI, cN, .inl (updg g r k x r2))) : Nat × va_E) = (rw2 r2, .inl (cI, cN, .inl (g r2))) := fun r2 h2 => by rw [updg_n h2]
  have w1 : (List.range rN).map (fun r2 => ((rw2 r2, .inl (cI, cN, .inl (g r2))) : Nat × va_E)) = (List.range r).map (fun r2 => (rw2 r2, .inl (cI, cN, .inl (g r2)))) ++ (rw2 r, .inl (cI, cN, .inl (g r))) :: (List.range' (r + 1) (rN - r - 1)).map (fun r2 => (rw2 r2, .inl (cI, cN, .inl (g r2)))) := mp_split hr _ _ fun _ _ => rfl
  have w2 : (List.range rN).map (fun r2 => ((rw2 r2, .inl (cI, cN, .inl (updg g r k x r2))) : Nat × va_E)) = (List.range r).map (fun r2 => (rw2 r2, .inl (cI, cN, .inl (g r2)))) ++ (rw2 r, .inl (cI, cN, .inl (updg g r k x r))) :: (List.range' (r + 1) (rN - r - 1)).map (fun r2 => (rw2 r2, .inl (cI, cN, .inl (g r2)))) := mp_split hr (fun r2 => ((rw2 r2, .inl (cI, cN, .inl (g r2))) : Nat × va_E)) (fun r2 => (rw2 r2, .inl (cI, cN, .inl (updg g r k x r2)))) e1
  refine va_iast hexec hb hK hP hD hS i t0 hi ht (vp_in_nI hk hc9) hdg (fun H1 locs1 hP1 hD1 hS1 => kk H1 locs1 (wr_done hi hP1 ?_) (hD.fst ?_) hS1)
  · intro y hy
    rw [nI_clamp (show k < 2 ^ 31 by omega), ← updg_h]
    unfold wLd at hD hy ⊢
    rw [w1] at hD ⊢
    rw [w2] at hy
    simp only [← List.append_assoc] at hD hy ⊢
    have hs := nd_sep hD
    rcases List.mem_append.mp hy with h | h
    · exact Or.inr ⟨List.mem_append_left _ h, hs y (List.mem_append_left _ h)⟩
    · rcases List.mem_cons.mp h with h | h
      · exact Or.inl h
      · exact Or.inr ⟨List.mem_append_right _ (List.mem_cons_of_mem _ h), hs y (List.mem_append_right _ h)⟩
  · unfold wLd
    simp only [List.map_append, List.map_map]
    rfl
end LW
section RPV
variable {p : Program} {l : Launch} {e : Env} {R : Room} {s : State} {m : MethodId} {args : Array Value} {below : List Frame} {meth : Method} {c : Code} {H : Heap} {locs : List Loc} {cells slots : Nat} {Q : State → Prop}
variable {cc : ByteArray} {nL : Nat} {Ts : List Cond} {own : String} {y : MethodName} {ws : List Cond} {rm : Room} {b : Nat} {As : List Value} {D : va_G} {tys tys' : List (ClassId × FieldType)} {Wc : va_W} {C : String} {index : Nat} {bytes : ByteArray} {maxL : Nat} {ret : Option FieldType} {n ci N : Nat} {T : u_T} {fs : List Value} {ls : Array Slot} {pc : Nat} {st0 rest : List Value}
theorem kRPVi {post : Int32 → Prop} (Sf : CallFix p m c cc nL s args Ts own) (hM : Met l y ws rm (va_Pc (.ref b :: As) (wPR D tys' Wc)) (vp_Si post) 0 0 (fun _ => False)) (cw : CallW R s args own C index y bytes maxL ret ws rm 0 0 n)
    (hP : va_P D vwCl Wc H) (hK : va_K D vwCl tys s) (hN : KS s) (ts : List Nat) (hT : ts.filterMap (fun i => tys[i]?) = tys') (hci : vwCl[ci]? = some (C, T, N)) (hq0 : Wc[0]? = some (b, .inr (ci, fs)))
    (hn : As.length = n) (hsize : ls.size = nL) (hstack : st0 = As.reverse ++ .ref b :: rest) (hW8 : (rest.map fun v => v.category).sum ≤ 8) (hdg : decode cc pc = .ok (.invokevirtual index, 3)) (hf : cells ≤ R.cells ∧ slots ≤ R.slots)
    (kk : ∀ r : Int32, post r → W p l e R s m args below meth c H locs cells slots Q (F0 m (pc + 3) ls (.int r :: rest))) : W p l e R s m args below meth c H locs cells slots Q (F0 m pc ls st0) :=
  vp_callSi (va_runV (As := As) (rest := rest) Sf hM cw ⟨wPR.blind, va_recv hK hP hci hq0, wPR.of hP (hK.sub ts hT) hN⟩ rfl hn hsize hstack (lv_room hW8) hdg hf).run kk
end RPV
