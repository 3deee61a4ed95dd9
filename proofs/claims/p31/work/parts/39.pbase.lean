/-! ===== worlds by membership and by permutation; calls by permutation ===== -/
section PB
variable {D : va_G} {cl : List vw_C} {H H1 : Heap} {ws ws' wc wr w1 : va_W} {A A0 : Nat → Prop}
theorem va_P.mem (h : va_P D cl ws H) {q : Nat × va_E} (hq : q ∈ ws) : va_at D cl q H := by
  obtain ⟨k, hk⟩ := List.getElem?_of_mem hq
  exact h k q hk
theorem va_P.all (h : ∀ q ∈ ws, va_at D cl q H) : va_P D cl ws H := fun _ q hk => h q (List.mem_of_getElem? hk)
theorem va_P.pm (h : va_P D cl ws H) (pm : ws.Perm ws') : va_P D cl ws' H := va_P.all fun _ hq => h.mem (pm.mem_iff.mpr hq)
theorem va_P.left (h : va_P D cl (wc ++ wr) H) : va_P D cl wc H := va_P.all fun _ hq => h.mem (List.mem_append_left _ hq)
theorem va_P.right (h : va_P D cl (wc ++ wr) H) : va_P D cl wr H := va_P.all fun _ hq => h.mem (List.mem_append_right _ hq)
theorem va_P.sub2 (h : va_P D cl ws H) (hs : ∀ q ∈ ws', q ∈ ws) : va_P D cl ws' H := va_P.all fun _ hq => h.mem (hs _ hq)
theorem va_D_iff : va_D A ws ↔ (ws.map Prod.fst).Nodup ∧ ∀ q ∈ ws, A q.1 := by
  constructor
  · rintro ⟨h1, h2⟩
    refine ⟨?_, fun q hq => ?_⟩
    · unfold List.Nodup
      rw [List.pairwise_iff_getElem]
      intro i j hi hj hij e
      rw [List.length_map] at hi hj
      rw [List.getElem_map, List.getElem_map] at e
      have := h1 i j _ _ (List.getElem?_eq_getElem hi) (List.getElem?_eq_getElem hj) e
      omega
    · obtain ⟨k, hk⟩ := List.getElem?_of_mem hq
      exact h2 k q hk
  · rintro ⟨h1, h2⟩
    unfold List.Nodup at h1
    rw [List.pairwise_iff_getElem] at h1
    refine ⟨fun i j p q hi hj e => ?_, fun k q hk => h2 q (List.mem_of_getElem? hk)⟩
    obtain ⟨li, ei⟩ := List.getElem?_eq_some_iff.mp hi
    obtain ⟨lj, ej⟩ := List.getElem?_eq_some_iff.mp hj
    rcases Nat.lt_trichotomy i j with c | c | c
    · have := h1 i j (by simpa using li) (by simpa using lj) c
      rw [List.getElem_map, List.getElem_map, ei, ej] at this
      exact absurd e this
    · exact c
    · have := h1 j i (by simpa using lj) (by simpa using li) c
      rw [List.getElem_map, List.getElem_map, ei, ej] at this
      exact absurd e.symm this
theorem va_D.pm (h : va_D A ws) (pm : ws.Perm ws') : va_D A ws' := by
  rw [va_D_iff] at h ⊢
  exact ⟨(pm.map Prod.fst).nodup_iff.mp h.1, fun q hq => h.2 q (pm.mem_iff.mpr hq)⟩
theorem va_D.left (h : va_D A (wc ++ wr)) : va_D A wc := by
  rw [va_D_iff] at h ⊢
  rw [List.map_append, List.nodup_append] at h
  exact ⟨h.1.1, fun q hq => h.2 q (List.mem_append_left _ hq)⟩
theorem va_D.right (h : va_D A (wc ++ wr)) : va_D A wr := by
  rw [va_D_iff] at h ⊢
  rw [List.map_append, List.nodup_append] at h
  exact ⟨h.1.2.1, fun q hq => h.2 q (List.mem_append_right _ hq)⟩
/-- the addresses alone say whether cells are apart -/
theorem va_D.fst (h : va_D A ws) (e : ws'.map Prod.fst = ws.map Prod.fst) : va_D A ws' := by
  rw [va_D_iff] at h ⊢
  refine ⟨by rw [e]; exact h.1, fun q hq => ?_⟩
  have h1 : q.1 ∈ ws.map Prod.fst := by rw [← e]; exact List.mem_map_of_mem hq
  obtain ⟨r, hr, hrq⟩ := List.mem_map.mp h1
  rw [← hrq]
  exact h.2 r hr
theorem va_D.inj (h : va_D A ws) {p q : Nat × va_E} (hp : p ∈ ws) (hq : q ∈ ws) (e : p.1 = q.1) : p = q := by
  obtain ⟨i, hi⟩ := List.getElem?_of_mem hp
  obtain ⟨j, hj⟩ := List.getElem?_of_mem hq
  have := h.1 i j p q hi hj e
  subst this
  exact Option.some.inj (hi.symm.trans hj)
theorem va_A.m {sz : Nat} {q : Nat × va_E} (h : q ∈ ws) : va_A ws sz q.1 := by
  obtain ⟨k, hk⟩ := List.getElem?_of_mem h
  exact Or.inl ⟨k, q.2, hk⟩
theorem va_A.e {sz q : Nat} (h : va_A ws sz q) : (∃ e : va_E, (q, e) ∈ ws) ∨ sz ≤ q := by
  rcases h with ⟨k, e, h⟩ | h
  · exact Or.inl ⟨e, List.mem_of_getElem? h⟩
  · exact Or.inr h
/-- what a callee may write is the caller's to write -/
theorem freeP {H0 : Heap} {locs : List Loc} (hD : va_D A0 (wc ++ wr)) (hS : va_S A0 H0 H locs) (hA : ∀ q, H0.size ≤ q → A0 q) : ∀ q, va_A wc H.size q → A0 q := by
  intro q h
  rcases va_A.e h with ⟨e, h⟩ | h
  · exact (va_D_iff.mp hD).2 _ (List.mem_append_left _ h)
  · exact hA q (Nat.le_trans hS.1 h)
/-- behind a call: what came back, beside the caller's other cells -/
theorem joinP (hP : va_P D cl (wc ++ wr) H) (hD : va_D A0 (wc ++ wr)) (hk : ∀ q : Nat, q < H.size → ¬ va_A wc H.size q → H1[q]? = H[q]?) (hF : ∀ q, va_A wc H.size q → A0 q) (hP1 : va_P D cl w1 H1) (hD1 : va_D (va_A wc H.size) w1) : va_P D cl (w1 ++ wr) H1 ∧ va_D A0 (w1 ++ wr) := by
  have apart : ∀ q ∈ wr, q.1 < H.size ∧ ¬ va_A wc H.size q.1 := by
    intro q hq
    have hl := (hP.mem (List.mem_append_right _ hq)).lt
    refine ⟨hl, fun h => ?_⟩
    rcases va_A.e h with ⟨e, h⟩ | h
    · have hd := (va_D_iff.mp hD).1
      rw [List.map_append, List.nodup_append] at hd
      exact hd.2.2 q.1 (List.mem_map.mpr ⟨(q.1, e), h, rfl⟩) q.1 (List.mem_map_of_mem (f := Prod.fst) hq) rfl
    · omega
  refine ⟨va_P.all fun q hq => ?_, va_D_iff.mpr ⟨?_, fun q hq => ?_⟩⟩
  · rcases List.mem_append.mp hq with h | h
    · exact hP1.mem h
    · obtain ⟨g1, g2⟩ := apart q h
      exact (hP.mem (List.mem_append_right _ h)).kept (hk q.1 g1 g2)
  · have hd := (va_D_iff.mp hD).1
    rw [List.map_append, List.nodup_append] at hd ⊢
    refine ⟨(va_D_iff.mp hD1).1, hd.2.1, fun a ha b hb e => ?_⟩
    obtain ⟨x, hx, rfl⟩ := List.mem_map.mp ha
    obtain ⟨y, hy, rfl⟩ := List.mem_map.mp hb
    exact (apart y hy).2 (e ▸ (va_D_iff.mp hD1).2 x hx)
  · rcases List.mem_append.mp hq with h | h
    · exact hF _ ((va_D_iff.mp hD1).2 q h)
    · exact (va_D_iff.mp hD).2 q (List.mem_append_right _ h)
theorem pm_0 {α : Type} (a : List α) : a.Perm (a ++ []) := by rw [List.append_nil]
theorem pm_12 {α : Type} (a b : List α) : (a ++ b).Perm (b ++ a) := List.perm_append_comm
/-- a cell written: the new world, by membership -/
theorem wr_done {a k : Nat} {e e' : va_E} (hk : ws[k]? = some (a, e)) (hP1 : va_P D cl (ws.set k (a, e')) H1) (hmem : ∀ q ∈ ws', q = (a, e') ∨ (q ∈ ws ∧ q.1 ≠ a)) : va_P D cl ws' H1 := by
  have hl := (List.getElem?_eq_some_iff.mp hk).1
  refine va_P.all fun q hq => ?_
  rcases hmem q hq with rfl | ⟨h1, h2⟩
  · exact hP1 k _ (List.getElem?_set_self hl)
  · obtain ⟨j, hj⟩ := List.getElem?_of_mem h1
    have hjk : j ≠ k := by
      intro z
      subst z
      exact h2 (by rw [Option.some.inj (hj.symm.trans hk)])
    exact hP1 j q (by rw [List.getElem?_set_ne (Ne.symm hjk)]; exact hj)
end PB
/-! what the tables say of arrays of arrays -/
def AO (t : FieldType) (cA comp : ClassId) (U : State) : Prop := ∃ k, U.vm.classes[cA]? = some k ∧ k.kind = .array comp (.array t) ∧ U.vm.findClass (FieldType.array t).toString = some comp ∧ U.vm.findClass ("[" ++ (FieldType.array t).toString) = some cA
theorem AO.moved {t : FieldType} {cA comp : ClassId} {u U : State} (hvm : u.vm.Alike U.vm) (h : AO t cA comp u) : AO t cA comp U := by
  obtain ⟨k, h1, h2, h3, h4⟩ := h
  obtain ⟨k', hk', he⟩ := hvm.2.2 _ _ h1
  exact ⟨k', hk', by rw [he]; exact h2, by rw [hvm.findClass]; exact h3, by rw [hvm.findClass]; exact h4⟩
theorem AO.arr {t : FieldType} {cA comp : ClassId} {s : State} (h : AO t cA comp s) : ArrOfT s cA (.array t) ∧ va_RA s cA (.array t) := by
  obtain ⟨k, h1, h2, h3, h4⟩ := h
  exact ⟨fun n z => ⟨fun q hq => (by cases hq), k, h1, comp, h2⟩, h4⟩
theorem AO.of {t : FieldType} {s : State} {args : Array Value} (h : (Cond.arrayOver (.array t)).before args s = true) : ∃ cA comp, AO t cA comp s := by
  obtain ⟨comp, cA, k, h1, -, h2, h3, h4⟩ := arrayOverA_spec h
  exact ⟨cA, comp, k, h2, h3, h1, h4⟩
def KG (cI c2 c3 : ClassId) (U : State) : Prop := AO .int c2 cI U ∧ AO (.array .int) c3 c2 U ∧ va_Nw (.classLink RX2 7 "[[[I") U ∧ va_Nw (.castable "[I" "java/lang/Cloneable") U
theorem va_Nw.warmL {a : String} {i : Nat} {b : String} {s U : State} (hW : s.WarmedH U.vm) (hZ : va_Nw (.classLink a i b) s) : va_Nw (.classLink a i b) U := va_tabs (A := #[]) rfl (rfl : (s.setVm U.vm).vm = U.vm) (by
  have hZ : (Cond.classLink a i b).before #[] s = true := hZ
  simp only [Cond.before, Cond.holds, Cond.value] at hZ ⊢
  rw [State.classLinks_warmed hW]
  exact hZ)
theorem KG.warm {cI c2 c3 : ClassId} {s U : State} (hW : s.WarmedH U.vm) (h : KG cI c2 c3 s) : KG cI c2 c3 U := ⟨h.1.moved hW.alike, h.2.1.moved hW.alike, va_Nw.warmL hW h.2.2.1, va_Nw.warmC hW h.2.2.2⟩
theorem KG.same {cI c2 c3 : ClassId} {u U : State} (hv : U.vm = u.vm) (h : KG cI c2 c3 u) : KG cI c2 c3 U := ⟨h.1.moved (by rw [hv]; exact Vm.Alike.refl u.vm), h.2.1.moved (by rw [hv]; exact Vm.Alike.refl u.vm), va_Nw.same rfl hv.symm h.2.2.1, va_Nw.same rfl hv.symm h.2.2.2⟩
def wBr (D : va_G) (tys : List (ClassId × FieldType)) (A : Nat → Prop) {S : Type} (w : S → va_W) (ad : S → Nat) (u : S) (ra : Nat) (t : State) : Prop := wB D tys A w u t ∧ ra = ad u
section KP
variable {p : Program} {l : Launch} {e : Env} {R : Room} {s : State} {m : MethodId} {args : Array Value} {below : List Frame} {meth : Method} {c : Code} {H : Heap} {locs : List Loc} {cells slots : Nat} {Q : State → Prop}
variable {D : va_G} {tys tys' : List (ClassId × FieldType)} {Wd Wc Wr : va_W}
variable {y : MethodName} {bytes cc : ByteArray} {maxL nL n index mc ms : Nat} {ret : Option FieldType} {ws : List Cond} {rm : Room} {Ts : List Cond} {own C host : String} {b : Addr} {As st0 rest : List Value} {pc : Nat} {ls : Array Slot} {T : u_T} {N ci : Nat} {fs : List Value} {B' : State → Prop}
variable {S : Type} {w W2 : S → va_W} {A : Nat → Prop} {H0 : Heap}
/-- what a call wants beforehand: the callee's world, and what else it asks -/
theorem preVQ (hK : va_K D vwCl tys s) (hN : KS s) (hP : va_P D vwCl Wc H) (hD : va_D A Wc) (ts : List Nat) (hT : ts.filterMap (fun i => tys[i]?) = tys') (hci : vwCl[ci]? = some (C, T, N)) (hq0 : Wc[0]? = some (b, .inr (ci, fs))) : PreV s H C b (va_Pc (.ref b :: As) (wPQ D tys' H.size Wc)) As := ⟨wPQ.blind, va_recv hK hP hci hq0, wPQ.of hP (hK.sub ts hT) hN hD⟩
theorem preSQ (hK : va_K D vwCl tys s) (hN : KS s) (hP : va_P D vwCl Wc H) (hD : va_D A Wc) (ts : List Nat) (hT : ts.filterMap (fun i => tys[i]?) = tys') : PreS s H (va_Pc As (wPQ D tys' H.size Wc)) As := ⟨wPQ.blind, wPQ.of hP (hK.sub ts hT) hN hD⟩
theorem preVK {K2 : State → Prop} (kb : ∀ (u U : State), U.vm = u.vm → U.heap = u.heap → K2 u → K2 U) (kw : ∀ U : State, U.heap = H → s.WarmedH U.vm → K2 U) (hp : PreV s H C b (va_Pc (.ref b :: As) (wPQ D tys' H.size Wc)) As) : PreV s H C b (va_Pc (.ref b :: As) (fun U => wPQ D tys' H.size Wc U ∧ K2 U)) As := ⟨fun a U g mk q => ⟨q.1, (hp.1 a U g mk ⟨q.1, q.2.1⟩).2, kb U (U.calling g mk a) rfl rfl q.2.2⟩, hp.2.1, fun U hU hW => ⟨rfl, (hp.2.2 U hU hW).2, kw U hU hW⟩⟩
theorem preSK {K2 : State → Prop} (kb : ∀ (u U : State), U.vm = u.vm → U.heap = u.heap → K2 u → K2 U) (kw : ∀ U : State, U.heap = H → s.WarmedH U.vm → K2 U) (hp : PreS s H (va_Pc As (wPQ D tys' H.size Wc)) As) : PreS s H (va_Pc As (fun U => wPQ D tys' H.size Wc U ∧ K2 U)) As := ⟨fun a U g mk q => ⟨q.1, (hp.1 a U g mk ⟨q.1, q.2.1⟩).2, kb U (U.calling g mk a) rfl rfl q.2.2⟩, fun U hU hW => ⟨rfl, (hp.2 U hU hW).2, kw U hU hW⟩⟩
theorem kPVi {post : Int32 → S → Prop} (Sf : CallFix p m c cc nL s args Ts own) (hM : Met l y ws rm (va_Pc (.ref b :: As) B') (va_Qi post (wB D tys' (va_A Wc H.size) w) (va_A Wc H.size)) mc ms (va_A Wc H.size)) (cw : CallW R s args own C index y bytes maxL ret ws rm mc ms n)
    (hpr : PreV s H C b (va_Pc (.ref b :: As) B') As) (hP : va_P D vwCl Wd H) (hD : va_D A Wd) (hS : va_S A H0 H locs) (hA : ∀ q, H0.size ≤ q → A q) (pm : Wd.Perm (Wc ++ Wr)) (pm2 : ∀ u, (w u ++ Wr).Perm (W2 u))
    (hn : As.length = n) (hsize : ls.size = nL) (hstack : st0 = As.reverse ++ .ref b :: rest) (hW8 : (rest.map fun v => v.category).sum ≤ 8) (hdg : decode cc pc = .ok (.invokevirtual index, 3)) (hf : cells + mc ≤ R.cells ∧ slots + ms ≤ R.slots)
    (kk : ∀ (r : Int32) (u : S) (H1 : Heap) (locs1 : List Loc), post r u → va_P D vwCl (W2 u) H1 → va_D A (W2 u) → va_S A H0 H1 locs1 → W p l e R s m args below meth c H1 locs1 (cells + mc) (slots + ms) Q (F0 m (pc + 3) ls (.int r :: rest))) : W p l e R s m args below meth c H locs cells slots Q (F0 m pc ls st0) := by
  have hFc := freeP (hD.pm pm) hS hA
  refine va_calli (va_runV (As := As) (rest := rest) Sf hM cw hpr rfl hn hsize hstack (lv_room hW8) hdg hf) hS (fun q _ h => hFc q h) hFc (fun r u t H1 locs1 ht hvm hw hB hz1 hk1 hS1 => ?_)
  obtain ⟨hP1, hK1, hD1⟩ := hB
  rw [ht] at hP1
  obtain ⟨hP2, hD2⟩ := joinP (hP.pm pm) (hD.pm pm) hk1 hFc hP1 hD1
  exact kk r u H1 locs1 hw (hP2.pm (pm2 u)) (hD2.pm (pm2 u)) hS1
theorem kPVv {post : S → Prop} (Sf : CallFix p m c cc nL s args Ts own) (hM : Met l y ws rm (va_Pc (.ref b :: As) B') (va_Qv post (wB D tys' (va_A Wc H.size) w) (va_A Wc H.size)) mc ms (va_A Wc H.size)) (cw : CallW R s args own C index y bytes maxL ret ws rm mc ms n)
    (hpr : PreV s H C b (va_Pc (.ref b :: As) B') As) (hP : va_P D vwCl Wd H) (hD : va_D A Wd) (hS : va_S A H0 H locs) (hA : ∀ q, H0.size ≤ q → A q) (pm : Wd.Perm (Wc ++ Wr)) (pm2 : ∀ u, (w u ++ Wr).Perm (W2 u))
    (hn : As.length = n) (hsize : ls.size = nL) (hstack : st0 = As.reverse ++ .ref b :: rest) (hW8 : (rest.map fun v => v.category).sum ≤ 8) (hdg : decode cc pc = .ok (.invokevirtual index, 3)) (hf : cells + mc ≤ R.cells ∧ slots + ms ≤ R.slots)
    (kk : ∀ (u : S) (H1 : Heap) (locs1 : List Loc), post u → va_P D vwCl (W2 u) H1 → va_D A (W2 u) → va_S A H0 H1 locs1 → W p l e R s m args below meth c H1 locs1 (cells + mc) (slots + ms) Q (F0 m (pc + 3) ls (rest))) : W p l e R s m args below meth c H locs cells slots Q (F0 m pc ls st0) := by
  have hFc := freeP (hD.pm pm) hS hA
  refine va_callv (va_runV (As := As) (rest := rest) Sf hM cw hpr rfl hn hsize hstack (lv_room hW8) hdg hf) hS (fun q _ h => hFc q h) hFc (fun u t H1 locs1 ht hvm hw hB hz1 hk1 hS1 => ?_)
  obtain ⟨hP1, hK1, hD1⟩ := hB
  rw [ht] at hP1
  obtain ⟨hP2, hD2⟩ := joinP (hP.pm pm) (hD.pm pm) hk1 hFc hP1 hD1
  exact kk u H1 locs1 hw (hP2.pm (pm2 u)) (hD2.pm (pm2 u)) hS1
theorem kPVl {post : Int64 → S → Prop} (Sf : CallFix p m c cc nL s args Ts own) (hM : Met l y ws rm (va_Pc (.ref b :: As) B') (va_Ql post (wB D tys' (va_A Wc H.size) w) (va_A Wc H.size)) mc ms (va_A Wc H.size)) (cw : CallW R s args own C index y bytes maxL ret ws rm mc ms n)
    (hpr : PreV s H C b (va_Pc (.ref b :: As) B') As) (hP : va_P D vwCl Wd H) (hD : va_D A Wd) (hS : va_S A H0 H locs) (hA : ∀ q, H0.size ≤ q → A q) (pm : Wd.Perm (Wc ++ Wr)) (pm2 : ∀ u, (w u ++ Wr).Perm (W2 u))
    (hn : As.length = n) (hsize : ls.size = nL) (hstack : st0 = As.reverse ++ .ref b :: rest) (hW8 : (rest.map fun v => v.category).sum ≤ 8) (hdg : decode cc pc = .ok (.invokevirtual index, 3)) (hf : cells + mc ≤ R.cells ∧ slots + ms ≤ R.slots)
    (kk : ∀ (r : Int64) (u : S) (H1 : Heap) (locs1 : List Loc), post r u → va_P D vwCl (W2 u) H1 → va_D A (W2 u) → va_S A H0 H1 locs1 → W p l e R s m args below meth c H1 locs1 (cells + mc) (slots + ms) Q (F0 m (pc + 3) ls (.long r :: rest))) : W p l e R s m args below meth c H locs cells slots Q (F0 m pc ls st0) := by
  have hFc := freeP (hD.pm pm) hS hA
  refine va_calll (va_runV (As := As) (rest := rest) Sf hM cw hpr rfl hn hsize hstack (lv_room hW8) hdg hf) hS (fun q _ h => hFc q h) hFc (fun r u t H1 locs1 ht hvm hw hB hz1 hk1 hS1 => ?_)
  obtain ⟨hP1, hK1, hD1⟩ := hB
  rw [ht] at hP1
  obtain ⟨hP2, hD2⟩ := joinP (hP.pm pm) (hD.pm pm) hk1 hFc hP1 hD1
  exact kk r u H1 locs1 hw (hP2.pm (pm2 u)) (hD2.pm (pm2 u)) hS1
theorem kPVd {post : UInt64 → S → Prop} (Sf : CallFix p m c cc nL s args Ts own) (hM : Met l y ws rm (va_Pc (.ref b :: As) B') (va_Qd post (wB D tys' (va_A Wc H.size) w) (va_A Wc H.size)) mc ms (va_A Wc H.size)) (cw : CallW R s args own C index y bytes maxL ret ws rm mc ms n)
    (hpr : PreV s H C b (va_Pc (.ref b :: As) B') As) (hP : va_P D vwCl Wd H) (hD : va_D A Wd) (hS : va_S A H0 H locs) (hA : ∀ q, H0.size ≤ q → A q) (pm : Wd.Perm (Wc ++ Wr)) (pm2 : ∀ u, (w u ++ Wr).Perm (W2 u))
    (hn : As.length = n) (hsize : ls.size = nL) (hstack : st0 = As.reverse ++ .ref b :: rest) (hW8 : (rest.map fun v => v.category).sum ≤ 8) (hdg : decode cc pc = .ok (.invokevirtual index, 3)) (hf : cells + mc ≤ R.cells ∧ slots + ms ≤ R.slots)
    (kk : ∀ (r : UInt64) (u : S) (H1 : Heap) (locs1 : List Loc), post r u → va_P D vwCl (W2 u) H1 → va_D A (W2 u) → va_S A H0 H1 locs1 → W p l e R s m args below meth c H1 locs1 (cells + mc) (slots + ms) Q (F0 m (pc + 3) ls (.double r :: rest))) : W p l e R s m args below meth c H locs cells slots Q (F0 m pc ls st0) := by
  have hFc := freeP (hD.pm pm) hS hA
  refine va_calld (va_runV (As := As) (rest := rest) Sf hM cw hpr rfl hn hsize hstack (lv_room hW8) hdg hf) hS (fun q _ h => hFc q h) hFc (fun r u t H1 locs1 ht hvm hw hB hz1 hk1 hS1 => ?_)
  obtain ⟨hP1, hK1, hD1⟩ := hB
  rw [ht] at hP1
  obtain ⟨hP2, hD2⟩ := joinP (hP.pm pm) (hD.pm pm) hk1 hFc hP1 hD1
  exact kk r u H1 locs1 hw (hP2.pm (pm2 u)) (hD2.pm (pm2 u)) hS1
theorem kPVr {post : S → Prop} {ad : S → Nat} (Sf : CallFix p m c cc nL s args Ts own) (hM : Met l y ws rm (va_Pc (.ref b :: As) B') (va_Qr post (wBr D tys' (va_A Wc H.size) w ad) (va_A Wc H.size)) mc ms (va_A Wc H.size)) (cw : CallW R s args own C index y bytes maxL ret ws rm mc ms n)
    (hpr : PreV s H C b (va_Pc (.ref b :: As) B') As) (hP : va_P D vwCl Wd H) (hD : va_D A Wd) (hS : va_S A H0 H locs) (hA : ∀ q, H0.size ≤ q → A q) (pm : Wd.Perm (Wc ++ Wr)) (pm2 : ∀ u, (w u ++ Wr).Perm (W2 u))
    (hn : As.length = n) (hsize : ls.size = nL) (hstack : st0 = As.reverse ++ .ref b :: rest) (hW8 : (rest.map fun v => v.category).sum ≤ 8) (hdg : decode cc pc = .ok (.invokevirtual index, 3)) (hf : cells + mc ≤ R.cells ∧ slots + ms ≤ R.slots)
    (kk : ∀ (u : S) (H1 : Heap) (locs1 : List Loc), post u → va_P D vwCl (W2 u) H1 → va_D A (W2 u) → va_S A H0 H1 locs1 → W p l e R s m args below meth c H1 locs1 (cells + mc) (slots + ms) Q (F0 m (pc + 3) ls (.ref (ad u) :: rest))) : W p l e R s m args below meth c H locs cells slots Q (F0 m pc ls st0) := by
  have hFc := freeP (hD.pm pm) hS hA
  refine va_callr (va_runV (As := As) (rest := rest) Sf hM cw hpr rfl hn hsize hstack (lv_room hW8) hdg hf) hS (fun q _ h => hFc q h) hFc (fun u ra t H1 locs1 ht hvm hw hB hz1 hk1 hS1 => ?_)
  obtain ⟨hB, rfl⟩ := hB
  obtain ⟨hP1, hK1, hD1⟩ := hB
  rw [ht] at hP1
  obtain ⟨hP2, hD2⟩ := joinP (hP.pm pm) (hD.pm pm) hk1 hFc hP1 hD1
  exact kk u H1 locs1 hw (hP2.pm (pm2 u)) (hD2.pm (pm2 u)) hS1
theorem kPSi {post : Int32 → S → Prop} (Sf : CallFix p m c cc nL s args Ts own) (hM : Met l y ws rm (va_Pc (As) B') (va_Qi post (wB D tys' (va_A Wc H.size) w) (va_A Wc H.size)) mc ms (va_A Wc H.size)) (cw : CallB R s args own index y bytes maxL ret ws rm mc ms n ∧ (Cond.static y).before args s = true)
    (hpr : PreS s H (va_Pc As B') As) (hP : va_P D vwCl Wd H) (hD : va_D A Wd) (hS : va_S A H0 H locs) (hA : ∀ q, H0.size ≤ q → A q) (pm : Wd.Perm (Wc ++ Wr)) (pm2 : ∀ u, (w u ++ Wr).Perm (W2 u))
    (hn : As.length = n) (hsize : ls.size = nL) (hstack : st0 = As.reverse ++ rest) (hW8 : (rest.map fun v => v.category).sum ≤ 8) (hdg : decode cc pc = .ok (.invokestatic index, 3)) (hf : cells + mc ≤ R.cells ∧ slots + ms ≤ R.slots)
    (kk : ∀ (r : Int32) (u : S) (H1 : Heap) (locs1 : List Loc), post r u → va_P D vwCl (W2 u) H1 → va_D A (W2 u) → va_S A H0 H1 locs1 → W p l e R s m args below meth c H1 locs1 (cells + mc) (slots + ms) Q (F0 m (pc + 3) ls (.int r :: rest))) : W p l e R s m args below meth c H locs cells slots Q (F0 m pc ls st0) := by
  have hFc := freeP (hD.pm pm) hS hA
  refine va_calli (va_runS (As := As) (rest := rest) Sf hM cw hpr rfl hn hsize hstack (lv_room hW8) hdg hf) hS (fun q _ h => hFc q h) hFc (fun r u t H1 locs1 ht hvm hw hB hz1 hk1 hS1 => ?_)
  obtain ⟨hP1, hK1, hD1⟩ := hB
  rw [ht] at hP1
  obtain ⟨hP2, hD2⟩ := joinP (hP.pm pm) (hD.pm pm) hk1 hFc hP1 hD1
  exact kk r u H1 locs1 hw (hP2.pm (pm2 u)) (hD2.pm (pm2 u)) hS1
theorem kPSr {post : S → Prop} {ad : S → Nat} (Sf : CallFix p m c cc nL s args Ts own) (hM : Met l y ws rm (va_Pc (As) B') (va_Qr post (wBr D tys' (va_A Wc H.size) w ad) (va_A Wc H.size)) mc ms (va_A Wc H.size)) (cw : CallB R s args own index y bytes maxL ret ws rm mc ms n ∧ (Cond.static y).before args s = true)
    (hpr : PreS s H (va_Pc As B') As) (hP : va_P D vwCl Wd H) (hD : va_D A Wd) (hS : va_S A H0 H locs) (hA : ∀ q, H0.size ≤ q → A q) (pm : Wd.Perm (Wc ++ Wr)) (pm2 : ∀ u, (w u ++ Wr).Perm (W2 u))
    (hn : As.length = n) (hsize : ls.size = nL) (hstack : st0 = As.reverse ++ rest) (hW8 : (rest.map fun v => v.category).sum ≤ 8) (hdg : decode cc pc = .ok (.invokestatic index, 3)) (hf : cells + mc ≤ R.cells ∧ slots + ms ≤ R.slots)
    (kk : ∀ (u : S) (H1 : Heap) (locs1 : List Loc), post u → va_P D vwCl (W2 u) H1 → va_D A (W2 u) → va_S A H0 H1 locs1 → W p l e R s m args below meth c H1 locs1 (cells + mc) (slots + ms) Q (F0 m (pc + 3) ls (.ref (ad u) :: rest))) : W p l e R s m args below meth c H locs cells slots Q (F0 m pc ls st0) := by
  have hFc := freeP (hD.pm pm) hS hA
  refine va_callr (va_runS (As := As) (rest := rest) Sf hM cw hpr rfl hn hsize hstack (lv_room hW8) hdg hf) hS (fun q _ h => hFc q h) hFc (fun u ra t H1 locs1 ht hvm hw hB hz1 hk1 hS1 => ?_)
  obtain ⟨hB, rfl⟩ := hB
  obtain ⟨hP1, hK1, hD1⟩ := hB
  rw [ht] at hP1
  obtain ⟨hP2, hD2⟩ := joinP (hP.pm pm) (hD.pm pm) hk1 hFc hP1 hD1
  exact kk u H1 locs1 hw (hP2.pm (pm2 u)) (hD2.pm (pm2 u)) hS1
theorem kPIv {post : S → Prop} (Sf : CallFix p m c cc nL s args Ts own) (hM : Met l y ws rm (va_Pc (.ref b :: As) B') (va_Qv post (wB D tys' (va_A Wc H.size) w) (va_A Wc H.size)) mc ms (va_A Wc H.size)) (cw : CallB R s args own index y bytes maxL none ws rm mc ms n ∧ y.name = "<init>" ∧ (Cond.instanceMethod y).before args s = true)
    (hpr : PreS s H (va_Pc (.ref b :: As) B') (.ref b :: As)) (hP : va_P D vwCl Wd H) (hD : va_D A Wd) (hS : va_S A H0 H locs) (hA : ∀ q, H0.size ≤ q → A q) (pm : Wd.Perm (Wc ++ Wr)) (pm2 : ∀ u, (w u ++ Wr).Perm (W2 u))
    (hn : As.length = n) (hsize : ls.size = nL) (hstack : st0 = As.reverse ++ .ref b :: rest) (hW8 : (rest.map fun v => v.category).sum ≤ 8) (hdg : decode cc pc = .ok (.invokespecial index, 3)) (hf : cells + mc ≤ R.cells ∧ slots + ms ≤ R.slots)
    (kk : ∀ (u : S) (H1 : Heap) (locs1 : List Loc), post u → va_P D vwCl (W2 u) H1 → va_D A (W2 u) → va_S A H0 H1 locs1 → W p l e R s m args below meth c H1 locs1 (cells + mc) (slots + ms) Q (F0 m (pc + 3) ls (rest))) : W p l e R s m args below meth c H locs cells slots Q (F0 m pc ls st0) := by
  have hFc := freeP (hD.pm pm) hS hA
  refine va_callv (va_runI (As := As) (rest := rest) Sf hM cw hpr rfl hn hsize hstack (lv_room hW8) hdg hf) hS (fun q _ h => hFc q h) hFc (fun u t H1 locs1 ht hvm hw hB hz1 hk1 hS1 => ?_)
  obtain ⟨hP1, hK1, hD1⟩ := hB
  rw [ht] at hP1
  obtain ⟨hP2, hD2⟩ := joinP (hP.pm pm) (hD.pm pm) hk1 hFc hP1 hD1
  exact kk u H1 locs1 hw (hP2.pm (pm2 u)) (hD2.pm (pm2 u)) hS1
end KP
