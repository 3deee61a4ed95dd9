/-! ===== bodies that ask more than their cells; the cell made last; ends that give an object ===== -/
section SAL
variable {p : Program} {l : Launch} {e : Env} {R : Room} {s : State} {m : MethodId} {args : Array Value} {below : List Frame} {meth : Method} {c : Code} {H : Heap} {locs : List Loc} {cells slots : Nat} {Q : State → Prop}
variable {cc : ByteArray} {pc : Nat} {ls : Array Slot} {rest : List Value} {D : va_G} {A : Nat → Prop} {tys : List (ClassId × FieldType)} {ws Wd : va_W} {H0 : Heap}
theorem mK_of {y : MethodName} {ws ws' : List Cond} {rm : Room} {cc : ByteArray} {maxL mc ms : Nat} {ret : Option FieldType} {As : List Value} {Qc : Array Value → State → Outcome → State → Prop} {sz : Nat} {K2 : State → Prop}
    (hy : plainName y.cls = true) (hw : ws = Cond.code y cc maxL ret :: ws') (hn : (lg_sl As).length ≤ maxL)
    (body : ∀ (p : Program) (e : Env) (s : State) (m : MethodId) (below : List Frame) (meth : Method) (c : Code), p.tables.exec = Jvm.exec → c.code = cc → meth.sig.returnType = ret → c.maxLocals = maxL → s.vm.findClass y.cls = some m.cls → meth.name = y.name → (∀ w ∈ ws, w.before As.toArray s = true) → meth.locks = false → s.heap.size = sz → va_P D vwCl Wd s.heap → va_K D vwCl tys s → KS s → va_D (va_A Wd sz) Wd → K2 s → (∀ q : Nat, s.heap.size ≤ q → va_A Wd sz q) → va_S (va_A Wd sz) s.heap s.heap [] → ∀ ls : Array Slot, lv_has ls maxL (lv_args 0 As) →
      W p l e rm s m As.toArray below meth c s.heap [] 0 0 (MQ below Qc As.toArray s mc ms (va_A Wd sz)) (F0 m 0 ls [])) :
    Met l y ws rm (va_Pc As (fun U => wPQ D tys sz Wd U ∧ K2 U)) Qc mc ms (va_A Wd sz) := by
  refine Met.ofW (cc := cc) (maxL := maxL) (ret := ret) hy hw ?_
  intro p e s m args below meth c s₁ B hml hv
  obtain ⟨rfl, ⟨hsz, hP, hK, hN, hD⟩, hK2⟩ := hv
  have hl := lv_entry As (n := maxL) hn
  rw [lg_entry_eq]
  exact body p e s m below meth c B.exec B.bytes B.returns hml (findClass_of_methodNamed B.named) (name_of_methodNamed B.named B.method).1 (atoms_spec (ws := ws) B.pre) B.notSynchronized hsz hP hK hN (hD.self) hK2 (fun q h => Or.inr (hsz ▸ h)) va_S.rf _ hl
/-- the cell made last is written -/
theorem sStL {cA : ClassId} {q n j : Nat} {x : Int32} {f : Nat → Int32} (hexec : p.tables.exec = Jvm.exec) (hb : c.code = cc) (hK : va_K D vwCl tys s) (hP : va_P D vwCl (ws ++ [(q, .inl (cA, n, .inl f))]) H) (hD : va_D A (ws ++ [(q, .inl (cA, n, .inl f))])) (hS : va_S A H0 H locs) (t0 : Nat) (ht : tys[t0]? = some (cA, .int)) (hj : j < n) (hn : n < 2 ^ 31) (hdg : decode cc pc = .ok (.iastore, 1))
    (kk : ∀ (H1 : Heap) (locs1 : List Loc), va_P D vwCl (ws ++ [(q, .inl (cA, n, .inl (upd f j x)))]) H1 → va_D A (ws ++ [(q, .inl (cA, n, .inl (upd f j x)))]) → va_S A H0 H1 locs1 → W p l e R s m args below meth c H1 locs1 cells slots Q (F0 m (pc + 1) ls rest)) : W p l e R s m args below meth c H locs cells slots Q (F0 m pc ls (.int x :: .int (nI j) :: .ref q :: rest)) := by
  have hi : (ws ++ [(q, .inl (cA, n, .inl f))])[ws.length]? = some ((q, .inl (cA, n, .inl f)) : Nat × va_E) := by simp
  have hset : ∀ y : Nat × va_E, (ws ++ [((q, .inl (cA, n, .inl f)) : Nat × va_E)]).set ws.length y = ws ++ [y] := fun y => by simp
  refine va_iast hexec hb hK hP hD hS ws.length t0 hi ht (vp_in_nI hj hn) hdg (fun H1 locs1 hP1 hD1 hS1 => ?_)
  rw [hset, nI_clamp (by omega)] at hP1 hD1
  exact kk H1 locs1 hP1 hD1 hS1
/-- a new row of ints, its length a small number -/
theorem newN {cA : ClassId} {n : Nat} (hexec : p.tables.exec = Jvm.exec) (hb : c.code = cc) (harr : (Cond.arrayClass .int).before args s = true) (hK : va_K D vwCl tys s) (hP : va_P D vwCl Wd H) (hD : va_D A Wd) (hS : va_S A H0 H locs) (hA : ∀ q, H0.size ≤ q → A q) (t0 : Nat) (ht : tys[t0]? = some (cA, .int)) (hn : n < 1000) (hcells : cells + 1 ≤ R.cells) (hslots : slots + n ≤ R.slots) (hdg : decode cc pc = .ok (.newarray .int, 2))
    (kk : ∀ (q : Nat) (H1 : Heap), va_P D vwCl (Wd ++ [(q, .inl (cA, n, .inl (fun _ => 0)))]) H1 → va_D A (Wd ++ [(q, .inl (cA, n, .inl (fun _ => 0)))]) → va_S A H0 H1 locs →
      W p l e R s m args below meth c H1 locs (cells + 1) (slots + n) Q (F0 m (pc + 2) ls (.ref q :: rest))) : W p l e R s m args below meth c H locs cells slots Q (F0 m pc ls (.int (nI n) :: rest)) :=
  newI hexec hb harr hK hP hD hS hA t0 ht (nI_pos (by omega)) (nI_clamp (by omega)) (by show n * 4 ≤ _; omega) hcells hslots hdg kk
theorem eQr {S : Type} {w : S → va_W} {ad : S → Nat} {C : String} {cc : ByteArray} {post : S → Prop} {pc : Nat} {ls : Array Slot} {a : Nat} (u : S) (hx : p.tables.exec = Jvm.exec) (hb : c.code = cc) (hr : meth.sig.returnType = some (.object C)) (hlocks : meth.locks = false) (hP : va_P D vwCl (w u) H) (hD : va_D A (w u)) (hK : va_K D vwCl tys s) (hS : va_S A s.heap H locs) (hdg : decode cc pc = .ok (.areturn, 1)) (ha : a = ad u) (h : post u) : W p l e R s m args below meth c H locs cells slots (MQ below (va_Qr post (wBr D tys A w ad) A) args s cells slots A) (F0 m pc ls [.ref a]) :=
  W.aret hx hb hr (Or.inl ⟨C, rfl⟩) (Or.inr ⟨a, rfl⟩) (fun t ht hW => ⟨⟨u, a, rfl, h, ⟨by rw [ht]; exact hP, va_K.moved hW.alike hK, hD⟩, ha⟩, hS.F ht⟩) hS.2.2 hdg hlocks
end SAL
def adr5 (a0 a1 a2 a3 a4 : Nat) : Nat → Nat
  | 0 => a0
  | 1 => a1
  | 2 => a2
  | 3 => a3
  | _ => a4
theorem pm_lay {α : Type} (o a1 a2 a3 a4 b q1 q2 : α) (T1 T2 : List α) : ((((o :: a1 :: a2 :: a3 :: a4 :: T1) ++ (b :: T2)) ++ [q1]) ++ [q2]).Perm ((o :: q1 :: q2 :: a3 :: b :: T2) ++ (a1 :: a2 :: a4 :: T1)) := by
  classical
  rw [List.perm_iff_count]
  intro x
  simp only [List.count_append, List.count_cons, List.count_nil, Nat.zero_add, Nat.add_zero]
  ac_rfl
theorem pm_ini {α : Type} (o b q1 q2 q3 : α) (T2 : List α) : (((([o] ++ (b :: T2)) ++ [q1]) ++ [q2]) ++ [q3]).Perm (o :: q1 :: q2 :: q3 :: b :: T2) := by
  classical
  rw [List.perm_iff_count]
  intro x
  simp only [List.count_append, List.count_cons, List.count_nil, Nat.zero_add, Nat.add_zero]
  ac_rfl
