/-! ===== the law's board by hand: its cells, and rows on them ===== -/
/-- a place's own three numbers; what lies behind the row's end is never read -/
def t3 (a b c : Int32) : Nat → Int32
  | 0 => a
  | 1 => b
  | 2 => c
  | _ => 0
theorem t3_2 (a b c v : Int32) : upd (t3 a b c) 2 v = t3 a b v := by
  funext j
  unfold upd
  match j with
  | 0 => rfl
  | 1 => rfl
  | 2 => rfl
  | n + 3 => rw [if_neg (by omega)]; rfl
theorem t3_new (a b c : Int32) : upd (upd (upd (fun _ => 0) 0 a) 1 b) 2 c = t3 a b c := by
  funext j
  unfold upd
  match j with
  | 0 => rfl
  | 1 => rfl
  | 2 => rfl
  | n + 3 => rw [if_neg (by omega), if_neg (by omega), if_neg (by omega)]; rfl
theorem t3_0 : (fun _ : Nat => (0 : Int32)) = t3 0 0 0 := by
  funext j
  match j with
  | 0 => rfl
  | 1 => rfl
  | 2 => rfl
  | n + 3 => rfl
theorem rg_split {p n : Nat} (h : p < n) : List.range n = List.range p ++ p :: List.range' (p + 1) (n - p - 1) := by
  rw [List.range_eq_range', List.range_eq_range']
  have e : n = p + (1 + (n - p - 1)) := by omega
  have h1 : List.range' 0 n = List.range' 0 p ++ List.range' (0 + p) (1 + (n - p - 1)) := by
    rw [List.range'_append_1, ← e]
  rw [h1, Nat.zero_add, Nat.add_comm 1, List.range'_succ]
theorem mp_split {β : Type} {p n : Nat} (h : p < n) (f g : Nat → β) (hfg : ∀ q, q ≠ p → g q = f q) : (List.range n).map g = (List.range p).map f ++ g p :: (List.range' (p + 1) (n - p - 1)).map f := by
  rw [rg_split h, List.map_append, List.map_cons]
  congr 1
  · exact List.map_congr_left fun q hq => hfg q (by have := List.mem_range.mp hq; omega)
  · congr 1
    exact List.map_congr_left fun q hq => hfg q (by have := (List.mem_range'_1.mp hq).1; omega)
theorem pl_div {cN r c : Nat} (hc : c < cN) : (r * cN + c) / cN = r ∧ (r * cN + c) % cN = c := by
  have h0 : 0 < cN := by omega
  refine ⟨?_, ?_⟩
  · rw [Nat.mul_comm, Nat.mul_add_div h0, Nat.div_eq_of_lt hc, Nat.add_zero]
  · rw [Nat.mul_comm, Nat.mul_add_mod, Nat.mod_eq_of_lt hc]
theorem pl_rc {cN rN p : Nat} (hp : p < rN * cN) : p / cN < rN ∧ p % cN < cN ∧ p / cN * cN + p % cN = p := by
  have h0 : 0 < cN := by
    rcases Nat.eq_zero_or_pos cN with z | z
    · subst z; omega
    · exact z
  exact ⟨(Nat.div_lt_iff_lt_mul h0).mpr hp, Nat.mod_lt _ h0, by rw [Nat.mul_comm]; exact Nat.div_add_mod p cN⟩
def upd2 (f : Nat → Nat → Nat) (r c v : Nat) : Nat → Nat → Nat := fun r2 c2 => if r2 = r ∧ c2 = c then v else f r2 c2
def sRow (c2 : ClassId) (cN : Nat) (rw_ : Nat → Nat) (ow : Nat → Nat → Nat) (r : Nat) : Nat × va_E := (rw_ r, .inl (c2, cN, .inr (.inr (.inr (.inr (fun c => some (ow r c)))))))
def sCell (cI : ClassId) (cN : Nat) (ow : Nat → Nat → Nat) (pa pd st : Nat → Int32) (p : Nat) : Nat × va_E := (ow (p / cN) (p % cN), .inl (cI, 3, .inl (t3 (pa p) (pd p) (st p))))
def sRows (c2 : ClassId) (cN : Nat) (rw_ : Nat → Nat) (ow : Nat → Nat → Nat) (rN : Nat) : va_W := (List.range rN).map (sRow c2 cN rw_ ow)
def sCells (cI : ClassId) (cN : Nat) (ow : Nat → Nat → Nat) (pa pd st : Nat → Int32) (n : Nat) : va_W := (List.range n).map (sCell cI cN ow pa pd st)
abbrev wS (cI c2 c3 : ClassId) (v rw_ : Nat → Nat) (ow : Nat → Nat → Nat) (cN rN : Nat) (pa pd st bn hc hm : Nat → Int32) (lo tn : Int32) : va_W := [(v 0, .inr (2, [.ref (v 4), .ref (v 1), .int lo, .ref (v 2), .ref (v 3), .int tn])), (v 1, .inl (cI, cN, .inl bn)), (v 2, .inl (cI, 2, .inl hc)), (v 3, .inl (cI, 2, .inl hm)), (v 4, .inl (c3, rN, .inr (.inr (.inr (.inr (fun r => some (rw_ r)))))))] ++ (sRows c2 cN rw_ ow rN ++ sCells cI cN ow pa pd st (rN * cN))
theorem sRow_m {cI c2 c3 : ClassId} {v rw_ : Nat → Nat} {ow : Nat → Nat → Nat} {cN rN r : Nat} {pa pd st bn hc hm : Nat → Int32} {lo tn : Int32} (hr : r < rN) : sRow c2 cN rw_ ow r ∈ wS cI c2 c3 v rw_ ow cN rN pa pd st bn hc hm lo tn := List.mem_append_right _ (List.mem_append_left _ (List.mem_map_of_mem (List.mem_range.mpr hr)))
theorem sCell_m {cI c2 c3 : ClassId} {v rw_ : Nat → Nat} {ow : Nat → Nat → Nat} {cN rN r c : Nat} {pa pd st bn hc hm : Nat → Int32} {lo tn : Int32} (hr : r < rN) (hcc : c < cN) : (ow r c, .inl (cI, 3, .inl (t3 (pa (r * cN + c)) (pd (r * cN + c)) (st (r * cN + c))))) ∈ wS cI c2 c3 v rw_ ow cN rN pa pd st bn hc hm lo tn := by
  refine List.mem_append_right _ (List.mem_append_right _ (List.mem_map.mpr ⟨r * cN + c, List.mem_range.mpr ?_, ?_⟩))
  · have h := Nat.mul_le_mul_right cN (show r + 1 ≤ rN from hr)
    rw [Nat.succ_mul] at h
    omega
  · unfold sCell
    rw [(pl_div hcc).1, (pl_div hcc).2]
section SW
variable {p : Program} {l : Launch} {e : Env} {R : Room} {s : State} {m : MethodId} {args : Array Value} {below : List Frame} {meth : Method} {c : Code} {H : Heap} {locs : List Loc} {cells slots : Nat} {Q : State → Prop}
variable {cc : ByteArray} {pc : Nat} {ls : Array Slot} {rest : List Value} {D : va_G} {A : Nat → Prop} {a : Nat} {tys : List (ClassId × FieldType)} {ws : va_W} {H0 : Heap}
variable {cI c2 c3 : ClassId} {v rw_ : Nat → Nat} {ow : Nat → Nat → Nat} {cN rN : Nat} {pa pd st bn hc hm : Nat → Int32} {lo tn : Int32} {X Y : va_W}
/-- a reference out of an array of arrays -/
theorem sLdR {cA : ClassId} {t : FieldType} {n r : Nat} {g : Nat → Nat} (hexec : p.tables.exec = Jvm.exec) (hb : c.code = cc) (hK : va_K D vwCl tys s) (hP : va_P D vwCl ws H) (t0 : Nat) (ht : tys[t0]? = some (cA, .array t)) (hm : (a, .inl (cA, n, .inr (.inr (.inr (.inr (fun j => some (g j))))))) ∈ ws) (hr : r < n) (hn : n < 2 ^ 31) (hdg : decode cc pc = .ok (.aaload, 1))
    (kk : W p l e R s m args below meth c H locs cells slots Q (F0 m (pc + 1) ls (.ref (g r) :: rest))) : W p l e R s m args below meth c H locs cells slots Q (F0 m pc ls (.int (nI r) :: .ref a :: rest)) := by
  have hin : vp_in (nI r) n := vp_in_nI hr hn
  have hlt : (nI r).toNatClampNeg < n := Nat.not_le.mp fun q => hin (Or.inr q)
  refine W.aald (v := va_rf (some (g r))) (ty := .array t) hexec hb (hP.mem hm) ((hK.2 t0 _ ht).1 n (fun j => va_rf (some (g j)))) rfl (fun q => by cases q) (by show ¬ (nI r < 0 ∨ (arrV _ _ _).slots.size ≤ _); rw [arrV_size]; exact hin) (by show (arrV _ _ _).slots[_]? = _; rw [arrV_read _ _ hlt, nI_clamp (by omega)]) rfl rfl hdg kk
/-- a number out of a row of ints -/
theorem sLdI {cA : ClassId} {n j : Nat} {f : Nat → Int32} (hexec : p.tables.exec = Jvm.exec) (hb : c.code = cc) (hK : va_K D vwCl tys s) (hP : va_P D vwCl ws H) (t0 : Nat) (ht : tys[t0]? = some (cA, .int)) (hm : (a, .inl (cA, n, .inl f)) ∈ ws) (hj : j < n) (hn : n < 2 ^ 31) (hdg : decode cc pc = .ok (.iaload, 1))
    (kk : W p l e R s m args below meth c H locs cells slots Q (F0 m (pc + 1) ls (.int (f j) :: rest))) : W p l e R s m args below meth c H locs cells slots Q (F0 m pc ls (.int (nI j) :: .ref a :: rest)) := by
  obtain ⟨k, hk⟩ := List.getElem?_of_mem hm
  refine va_iald hexec hb hK hP k t0 hk ht (vp_in_nI hj hn) hdg ?_
  rw [nI_clamp (by omega)]
  exact kk
/-- the length of any array -/
theorem sLen {cA : ClassId} {x : vp_A} {ty : FieldType} (hexec : p.tables.exec = Jvm.exec) (hb : c.code = cc) (hK : va_K D vwCl tys s) (hP : va_P D vwCl ws H) (t0 : Nat) (ht : tys[t0]? = some (cA, ty)) (hm : (a, .inl (cA, x)) ∈ ws) (hdg : decode cc pc = .ok (.arraylength, 1))
    (kk : W p l e R s m args below meth c H locs cells slots Q (F0 m (pc + 1) ls (.int (nI x.1) :: rest))) : W p l e R s m args below meth c H locs cells slots Q (F0 m pc ls (.ref a :: rest)) := by
  obtain ⟨k, hk⟩ := List.getElem?_of_mem hm
  exact va_alen hexec hb hK hP k t0 hk ht rfl hdg kk
theorem nd_sep {L1 L2 : va_W} {q0 : Nat × va_E} (hD : va_D A (L1 ++ q0 :: L2)) : ∀ q ∈ L1 ++ L2, q.1 ≠ q0.1 := by
  intro q hq e
  have h := (va_D_iff.mp (hD.pm List.perm_middle)).1
  rw [List.map_cons, List.nodup_cons] at h
  exact h.1 (by rw [← e]; exact List.mem_map_of_mem hq)
/-- a place's state written -/
theorem sSt2 {r k : Nat} {x : Int32} (hexec : p.tables.exec = Jvm.exec) (hb : c.code = cc) (hK : va_K D vwCl tys s) (hP : va_P D vwCl (X ++ wS cI c2 c3 v rw_ ow cN rN pa pd st bn hc hm lo tn) H) (hD : va_D A (X ++ wS cI c2 c3 v rw_ ow cN rN pa pd st bn hc hm lo tn)) (hS : va_S A H0 H locs) (t0 : Nat) (ht : tys[t0]? = some (cI, .int)) (hr : r < rN) (hk : k < cN) (hdg : decode cc pc = .ok (.iastore, 1))
    (kk : ∀ (H1 : Heap) (locs1 : List Loc), va_P D vwCl (X ++ wS cI c2 c3 v rw_ ow cN rN pa pd (upd st (r * cN + k) x) bn hc hm lo tn) H1 → va_D A (X ++ wS cI c2 c3 v rw_ ow cN rN pa pd (upd st (r * cN + k) x) bn hc hm lo tn) → va_S A H0 H1 locs1 → W p l e R s m args below meth c H1 locs1 cells slots Q (F0 m (pc + 1) ls rest)) : W p l e R s m args below meth c H locs cells slots Q (F0 m pc ls (.int x :: .int (nI 2) :: .ref (ow r k) :: rest)) := by
  have hpl : r * cN + k < rN * cN := by
    have h := Nat.mul_le_mul_right cN (show r + 1 ≤ rN from hr)
    rw [Nat.succ_mul] at h
    omega
  obtain ⟨d1, d2⟩ := pl_div (r := r) hk
  obtain ⟨i, hi⟩ := List.getElem?_of_mem (List.mem_append_right X (sCell_m (cI := cI) (c2 := c2) (c3 := c3) (v := v) (rw_ := rw_) (ow := ow) (pa := pa) (pd := pd) (st := st) (bn := bn) (hc := hc) (hm := hm) (lo := lo) (tn := tn) hr hk))
  have e1 : ∀ q, q ≠ r * cN + k → sCell cI cN ow pa pd (upd st (r * cN + k) x) q = sCell cI cN ow pa pd st q := fun q hq => by
    unfold sCell
    rw [pk_un hq]
  have hw1 : sCells cI cN ow pa pd st (rN * cN) = (List.range (r * cN + k)).map (sCell cI cN ow pa pd st) ++ sCell cI cN ow pa pd st (r * cN + k) :: (List.range' (r * cN + k + 1) (rN * cN - (r * cN + k) - 1)).map (sCell cI cN ow pa pd st) := mp_split hpl _ _ fun _ _ => rfl
  have hw2 : sCells cI cN ow pa pd (upd st (r * cN + k) x) (rN * cN) = (List.range (r * cN + k)).map (sCell cI cN ow pa pd st) ++ sCell cI cN ow pa pd (upd st (r * cN + k) x) (r * cN + k) :: (List.range' (r * cN + k + 1) (rN * cN - (r * cN + k) - 1)).map (sCell cI cN ow pa pd st) := mp_split hpl _ _ e1
  have e2 : sCell cI cN ow pa pd (upd st (r * cN + k) x) (r * cN + k) = (ow r k, .inl (cI, 3, .inl (t3 (pa (r * cN + k)) (pd (r * cN + k)) x))) := by
    unfold sCell
    rw [pk_us, d1, d2]
  have e3 : sCell cI cN ow pa pd st (r * cN + k) = (ow r k, .inl (cI, 3, .inl (t3 (pa (r * cN + k)) (pd (r * cN + k)) (st (r * cN + k))))) := by
    unfold sCell
    rw [d1, d2]
  have hin : vp_in (nI 2) 3 := vp_in_nI (by decide) (by decide)
  refine va_iast hexec hb hK hP hD hS i t0 hi ht hin hdg (fun H1 locs1 hP1 hD1 hS1 => kk H1 locs1 (wr_done hi hP1 ?_) (hD.fst ?_) hS1)
  · intro q hq
    rw [show upd (t3 (pa (r * cN + k)) (pd (r * cN + k)) (st (r * cN + k))) (nI 2).toNatClampNeg x = t3 (pa (r * cN + k)) (pd (r * cN + k)) x from by rw [nI_clamp (by decide)]; exact t3_2 _ _ _ _]
    unfold wS at hD hq ⊢
    rw [hw1] at hD ⊢
    rw [hw2] at hq
    simp only [← List.append_assoc] at hD hq ⊢
    have hs := nd_sep hD
    rw [e3] at hs
    rcases List.mem_append.mp hq with h | h
    · exact Or.inr ⟨List.mem_append_left _ h, hs q (List.mem_append_left _ h)⟩
    · rcases List.mem_cons.mp h with h | h
      · exact Or.inl (h.trans e2)
      · exact Or.inr ⟨List.mem_append_right _ (List.mem_cons_of_mem _ h), hs q (List.mem_append_right _ h)⟩
  · simp only [List.map_append]
    congr 1
    congr 1
    congr 1
    unfold sCells
    rw [List.map_map, List.map_map]
    rfl
/-- a place made anew: its own numbers are the new row, behind the world's end -/
theorem sStN {r k q : Nat} {a' b' d' : Int32} (hexec : p.tables.exec = Jvm.exec) (hb : c.code = cc) (hK : va_K D vwCl tys s) (hP : va_P D vwCl ((X ++ wS cI c2 c3 v rw_ ow cN rN pa pd st bn hc hm lo tn) ++ [(q, .inl (cI, 3, .inl (t3 a' b' d')))]) H) (hD : va_D A ((X ++ wS cI c2 c3 v rw_ ow cN rN pa pd st bn hc hm lo tn) ++ [(q, .inl (cI, 3, .inl (t3 a' b' d')))])) (hS : va_S A H0 H locs) (hG : AO .int c2 cI s) (hKI : ∃ kI : Class, s.vm.classes[cI]? = some kI) (hr : r < rN) (hk : k < cN) (hc9 : cN < 2 ^ 31) (hdg : decode cc pc = .ok (.aastore, 1))
    (kk : ∀ (H1 : Heap) (locs1 : List Loc), va_P D vwCl (X ++ wS cI c2 c3 v rw_ (upd2 ow r k q) cN rN (upd pa (r * cN + k) a') (upd pd (r * cN + k) b') (upd st (r * cN + k) d') bn hc hm lo tn) H1 → va_D A (X ++ wS cI c2 c3 v rw_ (upd2 ow r k q) cN rN (upd pa (r * cN + k) a') (upd pd (r * cN + k) b') (upd st (r * cN + k) d') bn hc hm lo tn) → va_S A H0 H1 locs1 → W p l e R s m args below meth c H1 locs1 cells slots Q (F0 m (pc + 1) ls rest)) : W p l e R s m args below meth c H locs cells slots Q (F0 m pc ls (.ref q :: .int (nI k) :: .ref (rw_ r) :: rest)) := by
  have hpl : r * cN + k < rN * cN := by
    have h := Nat.mul_le_mul_right cN (show r + 1 ≤ rN from hr)
    rw [Nat.succ_mul] at h
    omega
  obtain ⟨d1, d2⟩ := pl_div (r := r) hk
  have hsub : (X ++ wS cI c2 c3 v rw_ ow cN rN pa pd st bn hc hm lo tn) ++ [(q, .inl (cI, 3, .inl (t3 a' b' d')))] = (X ++ ([(v 0, .inr (2, [.ref (v 4), .ref (v 1), .int lo, .ref (v 2), .ref (v 3), .int tn])), (v 1, .inl (cI, cN, .inl bn)), (v 2, .inl (cI, 2, .inl hc)), (v 3, .inl (cI, 2, .inl hm)), (v 4, .inl (c3, rN, .inr (.inr (.inr (.inr (fun r => some (rw_ r)))))))] ++ (sRows c2 cN rw_ ow rN ++ sCells cI cN ow pa pd st (rN * cN)))) ++ [(q, .inl (cI, 3, .inl (t3 a' b' d')))] := rfl
  have hR : va_at D vwCl (sRow c2 cN rw_ ow r) H := hP.mem (List.mem_append_left _ (List.mem_append_right _ (sRow_m hr)))
  have hRA : A (rw_ r) := (va_D_iff.mp hD).2 (sRow c2 cN rw_ ow r) (List.mem_append_left _ (List.mem_append_right _ (sRow_m hr)))
  have hq : va_at D vwCl (q, .inl (cI, 3, .inl (t3 a' b' d'))) H := hP.mem (List.mem_append_right _ List.mem_cons_self)
  obtain ⟨kA, g1, g2, -, -⟩ := hG
  obtain ⟨kI, hkI⟩ := hKI
  have hlt : (nI k).toNatClampNeg < cN := by rw [nI_clamp (by omega)]; exact hk
  generalize hHD : ([(v 0, .inr (2, [.ref (v 4), .ref (v 1), .int lo, .ref (v 2), .ref (v 3), .int tn])), (v 1, .inl (cI, cN, .inl bn)), (v 2, .inl (cI, 2, .inl hc)), (v 3, .inl (cI, 2, .inl hm)), (v 4, .inl (c3, rN, .inr (.inr (.inr (.inr (fun r => some (rw_ r)))))))] : va_W) = HD at hsub
  have hw' : X ++ wS cI c2 c3 v rw_ (upd2 ow r k q) cN rN (upd pa (r * cN + k) a') (upd pd (r * cN + k) b') (upd st (r * cN + k) d') bn hc hm lo tn = X ++ (HD ++ (sRows c2 cN rw_ (upd2 ow r k q) rN ++ sCells cI cN (upd2 ow r k q) (upd pa (r * cN + k) a') (upd pd (r * cN + k) b') (upd st (r * cN + k) d') (rN * cN))) := by rw [← hHD]
  have eR : ∀ r2, r2 ≠ r → sRow c2 cN rw_ (upd2 ow r k q) r2 = sRow c2 cN rw_ ow r2 := fun r2 h2 => by
    unfold sRow
    have : (fun c => some (upd2 ow r k q r2 c)) = fun c => some (ow r2 c) := funext fun c => by
      unfold upd2
      rw [if_neg (fun z => h2 z.1)]
    rw [this]
  have eC : ∀ p2, p2 ≠ r * cN + k → sCell cI cN (upd2 ow r k q) (upd pa (r * cN + k) a') (upd pd (r * cN + k) b') (upd st (r * cN + k) d') p2 = sCell cI cN ow pa pd st p2 := fun p2 h2 => by
    unfold sCell
    rw [pk_un h2, pk_un h2, pk_un h2]
    have : upd2 ow r k q (p2 / cN) (p2 % cN) = ow (p2 / cN) (p2 % cN) := by
      unfold upd2
      rw [if_neg]
      rintro ⟨z1, z2⟩
      exact h2 (by rw [← z1, ← z2, Nat.mul_comm]; exact (Nat.div_add_mod p2 cN).symm)
    rw [this]
  have eCk : sCell cI cN (upd2 ow r k q) (upd pa (r * cN + k) a') (upd pd (r * cN + k) b') (upd st (r * cN + k) d') (r * cN + k) = (q, .inl (cI, 3, .inl (t3 a' b' d'))) := by
    unfold sCell
    rw [pk_us, pk_us, pk_us, d1, d2]
    have : upd2 ow r k q r k = q := by unfold upd2; rw [if_pos ⟨rfl, rfl⟩]
    rw [this]
  have w1 : sRows c2 cN rw_ ow rN = (List.range r).map (sRow c2 cN rw_ ow) ++ sRow c2 cN rw_ ow r :: (List.range' (r + 1) (rN - r - 1)).map (sRow c2 cN rw_ ow) := mp_split hr _ _ fun _ _ => rfl
  have w2 : sRows c2 cN rw_ (upd2 ow r k q) rN = (List.range r).map (sRow c2 cN rw_ ow) ++ sRow c2 cN rw_ (upd2 ow r k q) r :: (List.range' (r + 1) (rN - r - 1)).map (sRow c2 cN rw_ ow) := mp_split hr _ _ eR
  have w3 : sCells cI cN ow pa pd st (rN * cN) = (List.range (r * cN + k)).map (sCell cI cN ow pa pd st) ++ sCell cI cN ow pa pd st (r * cN + k) :: (List.range' (r * cN + k + 1) (rN * cN - (r * cN + k) - 1)).map (sCell cI cN ow pa pd st) := mp_split hpl _ _ fun _ _ => rfl
  have w4 : sCells cI cN (upd2 ow r k q) (upd pa (r * cN + k) a') (upd pd (r * cN + k) b') (upd st (r * cN + k) d') (rN * cN) = (List.range (r * cN + k)).map (sCell cI cN ow pa pd st) ++ (q, .inl (cI, 3, .inl (t3 a' b' d'))) :: (List.range' (r * cN + k + 1) (rN * cN - (r * cN + k) - 1)).map (sCell cI cN ow pa pd st) := by
    rw [← eCk]
    exact mp_split hpl _ _ eC
  rw [hsub, w1, w3] at hP hD
  rw [hw', w2, w4] at kk
  generalize (List.range r).map (sRow c2 cN rw_ ow) = R1 at hP hD kk
  generalize (List.range' (r + 1) (rN - r - 1)).map (sRow c2 cN rw_ ow) = R2 at hP hD kk
  generalize (List.range (r * cN + k)).map (sCell cI cN ow pa pd st) = C1 at hP hD kk
  generalize (List.range' (r * cN + k + 1) (rN * cN - (r * cN + k) - 1)).map (sCell cI cN ow pa pd st) = C2 at hP hD kk
  generalize sCell cI cN ow pa pd st (r * cN + k) = C0 at hP hD
  have hD1 : va_D A ((X ++ HD ++ R1) ++ sRow c2 cN rw_ ow r :: (R2 ++ (C1 ++ C0 :: C2) ++ [(q, .inl (cI, 3, .inl (t3 a' b' d')))])) := by
    simpa only [List.append_assoc, List.cons_append] using hD
  have hs := nd_sep hD1
  refine W.aast hexec hb (a := rw_ r) (cell := vp_cell c2 (cN, .inr (.inr (.inr (.inr (fun c => some (ow r c))))))) hR (fun q h => by cases h) (fun h => by cases h) g1 g2 rfl hkI ⟨nI_pos (by omega), by show _ < (arrV _ _ _).slots.size; rw [arrV_size]; exact hlt⟩ hq (fun q h => by cases h) hkI (va_asg _ _) rfl rfl hdg fun H1 e z oq => ?_
  refine kk H1 _ (va_P.all fun x hx => ?_) ?_ (hS.put z oq hRA)
  · have keep : x ∈ (X ++ HD ++ R1) ++ (R2 ++ (C1 ++ C0 :: C2) ++ [(q, .inl (cI, 3, .inl (t3 a' b' d')))]) → va_at D vwCl x H1 := fun h => by
      refine (hP.mem ?_).kept (oq x.1 (hs x h))
      simp only [List.mem_append, List.mem_cons, List.mem_singleton] at h ⊢
      grind
    by_cases h0 : x = sRow c2 cN rw_ (upd2 ow r k q) r
    · subst h0
      show H1[rw_ r]? = some (vp_cell _ _)
      rw [e, vp_cell_q, vp_cell_q, arrV_store]
      congr 2
      funext j
      rw [nI_clamp (by omega)]
      by_cases hj : j = k
      · subst hj
        simp [updV, upd2, va_rf]
      · simp [updV, upd2, hj]
    · refine keep ?_
      simp only [List.mem_append, List.mem_cons, List.mem_singleton] at hx ⊢
      grind
  · have h1 : va_D A ((X ++ HD ++ R1) ++ sRow c2 cN rw_ ow r :: (R2 ++ C1) ++ C0 :: (C2 ++ [(q, .inl (cI, 3, .inl (t3 a' b' d')))])) := by
      simpa only [List.append_assoc, List.cons_append] using hD
    have h2 := (h1.pm List.perm_middle)
    have h3 : va_D A ((X ++ HD ++ R1) ++ sRow c2 cN rw_ ow r :: (R2 ++ C1) ++ (C2 ++ [(q, .inl (cI, 3, .inl (t3 a' b' d')))])) := va_D.right (wc := [C0]) h2
    have h4 := h3.pm (List.Perm.append_left _ (pm_12 C2 [(q, .inl (cI, 3, .inl (t3 a' b' d')))]))
    refine h4.fst ?_
    simp only [List.map_append, List.map_cons, List.append_assoc, List.cons_append, List.nil_append, List.map_nil, sRow]
end SW
