/-! THE CLAIM OUT OF ONE WALK OF THE LAW'S BODY. Your part is whole_start (and what it stands on); all else here is the same for every law, but numbers. -/
def R_law : String := "MarbleRampsLaw"
def lw_P (b : Addr) (xs : List Int32) (args : Array Value) (s : State) : Prop := args = #[.ref b] ∧ s.IntsAt b xs ∧ xs.length ≤ 260 ∧ (Jvm.Cond.and given_1 narrow_1).before args s = true
/-- what a walk over the start with the record d0 says of its end, said of the start itself -/
theorem lw_closed {s t : State} {o : Outcome} {d0 : Drawn} {L : List Loc} {k n : Nat} (hd0 : s.drawn.sameBut d0 lw_cs) (hv : ∃ v, o = .returned v) (hW : (s.setDrawn d0).WarmedH t.vm) (hs : (s.setDrawn d0).sameButNew ({ t with vm := s.vm } : State) L k n) : State.butDraws s t lw_cs (fun t1 => Framed s o t1 L k n) := by
  have h2 : t.drawn = d0 := congrArg State.drawn hs.1
  refine ⟨⟨hv, hW, State.sameButNew.setDrawn hs s.drawn⟩, ?_, by decide⟩
  rw [h2]
  exact hd0
def lw_Q (_ : Array Value) (s : State) (o : Outcome) (t : State) : Prop := o = .returned (some (.int 1)) ∧ State.butDraws s t lw_cs (fun t1 => Framed s o t1 [] 600130 7301079)
def lw_Z (below : List Frame) (a : Array Value) (s : State) : State → Prop := fun t => ∃ o, t.status = .running ∧ Ended t below o ∧ lw_Q a s o t
/-- the law's own end, with 1 on the stack, nothing written that was there before, its room as the claim has it; d0: the record of draws at this point (at the entry s.drawn: begin with 'refine W.base ?_' and 'have hd0 := Drawn.sameBut.refl s.drawn lw_cs') -/
theorem lw_ret {p : Program} {l : Launch} {e : Env} {s : State} {m : MethodId} {below : List Frame} {meth : Method} {c : Code} {b : Nat} {d0 : Drawn} (hd0 : s.drawn.sameBut d0 lw_cs) (hx : p.tables.exec = Jvm.exec) (hb : c.code = code) (hr : meth.sig.returnType = ret) (hlocks : meth.locks = false) {pc : Nat} {H : Heap} {ls : Array Slot} (hdg : decode code pc = .ok (.ireturn, 1)) : W p l e room_1 (s.setDrawn d0) m #[Value.ref b] below meth c H [] 600130 7301079 (lw_Z below #[Value.ref b] s) (F0 m pc ls [.int 1]) := by
  intro T hT X
  obtain ⟨fs, hret, hrun, hended, hW, hframe⟩ := X.leave (v := some (.int 1)) (hlocks := hlocks) (fun h => by rw [hr] at h; cases h)
  have hmeth' : T.vm.method? m = some meth := X.method'
  refine ⟨T.setFrames fs, ?_, .returned (some (.int 1)), hrun, hended, rfl, lw_closed hd0 ⟨_, rfl⟩ hW hframe⟩
  jvm_step X.here [X.here.top, hx, hb, hdg, hmeth', hr, ret, narrow_b1]
  (try refine ⟨rfl, ?_⟩); (try refine ⟨rfl, ?_⟩)
  first | (intro acts; rw [hret _ acts rfl rfl rfl]) | rw [hret _ _ rfl rfl rfl]
  exact Steps.refl _
/-- what holds at the law's entry: the machine, the code, the tables' words (any of lw_tbl by 'hts w (by decide +kernel)'), the script of L ints xs at the cell b, what the Statement gives of the start (any of its parts by flat_of_before) -/
def lw_At (p : Program) (s : State) (m : MethodId) (meth : Method) (c : Code) (b L : Nat) (xs : Nat → Int32) : Prop :=
  p.tables.exec = Jvm.exec ∧ c.code = code ∧ meth.sig.returnType = ret ∧ c.maxLocals = 27 ∧ s.vm.findClass R_law = some m.cls ∧ (∀ w ∈ lw_tbl, w.before #[Value.ref b] s = true) ∧ va_X b L xs s s.heap ∧ b < s.heap.size ∧ meth.locks = false ∧ (Jvm.Cond.and given_1 narrow_1).before #[Value.ref b] s = true
set_option maxHeartbeats 4000000 in
set_option maxRecDepth 100000 in
theorem whole_start {p : Program} {e : Env} {s : State} {m : MethodId} {below : List Frame} {meth : Method} {c : Code} (l : Launch) (hflags : l.flags = flags0) {b L : Nat} {xs : Nat → Int32} (hL : L ≤ 260) (C0 : lw_At p s m meth c b L xs) : W p l e room_1 s m #[Value.ref b] below meth c s.heap [] 0 0 (lw_Z below #[Value.ref b] s) (entryFrame m ([Value.ref b] : List Value).toArray 27) := by
  obtain ⟨hx, hb, hr, hml, hown, hts0, hXs, hbl, hlocks, hgv⟩ := id C0
  have hts : ∀ w ∈ wsL_law, w.before #[Value.ref b] s = true := fun w h => hts0 w (wsL_law_in w h)
  have hown : s.vm.findClass RL = some m.cls := hown
  have hst : l.stackTraces = false := by rw [Launch.stackTraces, hflags]; decide +kernel
  have hg := flat_of_before _ hgv
  obtain ⟨D, cI, c2, c3, hK, hG⟩ := st_K hts0
  have hN := st_KS hts0
  obtain ⟨hNi, hL2⟩ := st_N hts0
  have hX := st_KX hts0 hg
  have hZ := st_ZA hts0 hg
  have hA : ∀ q : Nat, s.heap.size ≤ q → (fun q : Nat => s.heap.size ≤ q) q := fun _ h => h
  have hbA : ¬ (fun q : Nat => s.heap.size ≤ q) b := Nat.not_le.mpr hbl
  have F : LC2 p l s m b c D cI c2 c3 L xs (fun q : Nat => s.heap.size ≤ q) := ⟨hx, hb, hml, hown, hts, hK, hN, hG, hX, hZ, hA, hXs, hbl, hbA, hst, by omega, hNi, hL2⟩
  have hS : va_S (fun q : Nat => s.heap.size ≤ q) s.heap s.heap [] := va_S.rf
  have hP : va_P D vwCl [] s.heap := fun k q h => by simp at h
  have hD : va_D (fun q : Nat => s.heap.size ≤ q) [] := ⟨fun i j p q h => by simp at h, fun k q h => by simp at h⟩
  have hl := lv_entry ([.ref b]) (n := 27) (Nat.le_of_ble_eq_true rfl)
  rw [lg_entry_eq]
  generalize (lg_sl ([.ref b]) ++ List.replicate (27 - (lg_sl ([.ref b])).length) Slot.unset).toArray = ls at hl ⊢
  have hl : lv_has ls 27 [(0, .ref b)] := hl
  refine va_new (D := D) (ci := 1) (fs := [.null, .null]) (C := RX1) (T := TX1) (N := 2) hx hb hts0 wsX10_tbl tyX1 tyX1_ok hown (hts (.classLink RL 30 RX1) (mg 0 rfl)) (hts (.instantiable RX1 2) (mg 1 rfl)) (hts (.initialized RX1) (mg 2 rfl)) hK hP hD hS hA rfl (fun j hj => by rcases (show j = 0 ∨ j = 1 by omega) with rfl | rfl <;> rfl) (Nat.le_of_ble_eq_true rfl) (Nat.le_of_ble_eq_true rfl) dL_law_0 (fun x0 H hP hD hS => ?_)
  have hP : va_P D vwCl [(x0, .inr (1, [.null, .null]))] H := hP
  have hD : va_D (fun q : Nat => s.heap.size ≤ q) [(x0, .inr (1, [.null, .null]))] := hD
  refine lv_dup hx hb dL_law_3 rfl ?_
  refine kPIv (As := []) (rest := [.ref x0]) (Wr := []) (W2 := (fun u : ((Nat → Nat) × (Nat → Nat)) => (wX x0 u.1 u.2 ++ wM cI u.1 (fun _ => 0) (fun _ => 0) (fun _ => 0) (fun _ => 0) (xsc 2 (xsc 2 (fun _ => 0) 0 0) 1 (5 - 1)) (fun _ => 0) 5 4 0 ++ wM cI u.2 (fun _ => 0) (fun _ => 0) (fun _ => 0) (fun _ => 0) (xsc 2 (xsc 2 (fun _ => 0) 0 0) 1 (5 - 1)) (fun _ => 0) 5 4 0))) ⟨hx, hb, hml, hown, hts⟩ (mX1_init l D cI x0 _) (cwI 0 hts gL_law_X1_init rfl rfl rfl (hts (.initialized RX1) (mg 2 rfl)) (hts (.methodLink RL 77 yX1_init) (mg 12 rfl)) (hts (.instanceMethod yX1_init) (mg 13 rfl)) rfl (by decide +kernel) ⟨Nat.le_of_ble_eq_true rfl, Nat.le_of_ble_eq_true rfl⟩) (preSQ hK hN hP hD [0] rfl) hP hD hS hA (pm_0 _) (fun u => (pm_0 _).symm) rfl hl.1 rfl (Nat.le_of_ble_eq_true rfl) dL_law_4 ⟨Nat.le_of_ble_eq_true rfl, Nat.le_of_ble_eq_true rfl⟩ (fun u H locs _ hP hD hS => ?_)
  obtain ⟨u1, u2⟩ := u
  have hP : va_P D vwCl (wX x0 u1 u2 ++ wM cI u1 (fun _ => 0) (fun _ => 0) (fun _ => 0) (fun _ => 0) (xsc 2 (xsc 2 (fun _ => 0) 0 0) 1 (5 - 1)) (fun _ => 0) 5 4 0 ++ wM cI u2 (fun _ => 0) (fun _ => 0) (fun _ => 0) (fun _ => 0) (xsc 2 (xsc 2 (fun _ => 0) 0 0) 1 (5 - 1)) (fun _ => 0) 5 4 0) H := hP
  have hD : va_D (fun q : Nat => s.heap.size ≤ q) (wX x0 u1 u2 ++ wM cI u1 (fun _ => 0) (fun _ => 0) (fun _ => 0) (fun _ => 0) (xsc 2 (xsc 2 (fun _ => 0) 0 0) 1 (5 - 1)) (fun _ => 0) 5 4 0 ++ wM cI u2 (fun _ => 0) (fun _ => 0) (fun _ => 0) (fun _ => 0) (xsc 2 (xsc 2 (fun _ => 0) 0 0) 1 (5 - 1)) (fun _ => 0) 5 4 0) := hD
  refine lv_astore_n (lv' := [(1, .ref x0), (0, .ref b)]) hx hb dL_law_7 rfl hl (by decide) rfl (fun ls hl => ?_)
  refine lv_aload_n hx hb dL_law_8 rfl (lv_at hl 0 rfl) ?_
  refine lv_aload_n hx hb dL_law_9 rfl (lv_at hl 1 rfl) ?_
  refine kPSr (As := [.ref x0, .ref b]) (rest := []) (Wr := wM cI u2 (fun _ => 0) (fun _ => 0) (fun _ => 0) (fun _ => 0) (xsc 2 (xsc 2 (fun _ => 0) 0 0) 1 (5 - 1)) (fun _ => 0) 5 4 0) (W2 := (fun u : LQ => lsW cI c2 c3 x0 u1 u2 u ++ wM cI u2 (fun _ => 0) (fun _ => 0) (fun _ => 0) (fun _ => 0) (xsc 2 (xsc 2 (fun _ => 0) 0 0) 1 (5 - 1)) (fun _ => 0) 5 4 0)) ⟨hx, hb, hml, hown, hts⟩ (mL_build l hst D cI c2 c3 x0 b L u1 u2 xs (by omega) (fun _ => 0) (fun _ => 0) (fun _ => 0) (fun _ => 0) (xsc 2 (xsc 2 (fun _ => 0) 0 0) 1 (5 - 1)) 5 4 0 _) (va_cwS 2 hts gL_law_L_build rfl rfl rfl (by decide +kernel) ⟨Nat.le_of_ble_eq_true rfl, Nat.le_of_ble_eq_true rfl⟩) (preSK (K2 := fun U => K2B cI c2 c3 (wX x0 u1 u2 ++ wM cI u1 (fun _ => 0) (fun _ => 0) (fun _ => 0) (fun _ => 0) (xsc 2 (xsc 2 (fun _ => 0) 0 0) 1 (5 - 1)) (fun _ => 0) 5 4 0) H.size b L xs U) (fun u U hv hh h => K2B.same hv hh h) (K2B.of hG hX hZ hXs hbl hbA hNi hD hS hA) (preSQ hK hN hP.left hD.left [0, 1, 2] rfl)) hP hD hS hA (List.Perm.refl _) (fun _ => List.Perm.refl _) rfl hl.1 rfl (Nat.le_of_ble_eq_true rfl) dL_law_10 ⟨Nat.le_of_ble_eq_true rfl, Nat.le_of_ble_eq_true rfl⟩ (fun q H locs hq hP hD hS => ?_)
  obtain ⟨o, ho⟩ : ∃ o, q.2.2.2.2.2.2.2.2.2.2.2.1 0 = o := ⟨_, rfl⟩
  rw [ho]
  refine lv_astore_n (lv' := [(2, .ref o), (1, .ref x0), (0, .ref b)]) hx hb dL_law_13 rfl hl (by decide) rfl (fun ls hl => ?_)
  refine lv_aload_n hx hb dL_law_14 rfl (lv_at hl 0 rfl) ?_
  refine lv_ifnonnull (tgt := 20) hx hb dL_law_15 (by decide) ?_
  refine lv_iconst (v := 0) hx hb dL_law_20 (by decide) ?_
  refine lv_istore_n (lv' := [(3, .int 0), (2, .ref o), (1, .ref x0), (0, .ref b)]) hx hb dL_law_21 rfl hl (by decide) rfl (fun ls hl => ?_)
  refine W.widen (k := 4000) (n := 13000) (by omega) (by omega) ?_
  refine lw_T F (Nat.le_of_ble_eq_true rfl) (Nat.le_of_ble_eq_true rfl) hq ho hP hD hS hl (fun q ta te ts tb tc tm tC tR tl H locs ls hq ho hP hD hS hl => ?_)
  obtain ⟨cN, rN, pa, pe, pd, st, bn, hc, hm, lo, tn, v, rw_, ow⟩ := q
  have hI : PI cN rN pa pe pd st bn hc hm := hq
  have ho : v 0 = o := ho
  rw [← ho] at hl
  have hP : va_P D vwCl ((wX x0 u1 u2 ++ wM cI u1 pa pe st bn hc hm (nI cN) (nI rN) lo ++ wS cI c2 c3 v rw_ ow cN rN pa pd st bn hc hm lo tn) ++ wM cI u2 ta te ts tb tc tm tC tR tl) H := hP
  have hD : va_D (fun q : Nat => s.heap.size ≤ q) ((wX x0 u1 u2 ++ wM cI u1 pa pe st bn hc hm (nI cN) (nI rN) lo ++ wS cI c2 c3 v rw_ ow cN rN pa pd st bn hc hm lo tn) ++ wM cI u2 ta te ts tb tc tm tC tR tl) := hD
  refine lv_aload_n hx hb dL_law_1033 rfl (lv_at hl 0 rfl) ?_
  refine lv_aload_n hx hb dL_law_1034 rfl (lv_at hl 1 rfl) ?_
  refine kPVi (As := [.ref x0]) (rest := []) (Wr := wM cI u2 ta te ts tb tc tm tC tR tl) (W2 := (fun _ : Unit => (wX x0 u1 u2 ++ wM cI u1 pa pe st bn hc hm (nI cN) (nI rN) lo ++ wS cI c2 c3 v rw_ ow cN rN pa pd st bn hc hm lo tn) ++ wM cI u2 ta te ts tb tc tm tC tR tl)) ⟨hx, hb, hml, hown, hts⟩ (mX2_isSame l D cI x0 u2 u1 pa pe st bn hc hm lo c2 c3 v rw_ ow pd tn cN rN hI.c2 hI.c9 hI.r8 hI.z hI.b _) (cwV 1 hts gL_law_X2_isSame rfl rfl rfl (by decide +kernel) ⟨Nat.le_of_ble_eq_true rfl, Nat.le_of_ble_eq_true rfl⟩) ⟨wPQ.blind, va_recv (q0 := 8) (ci := 2) hK hP.left rfl rfl, wPQ.of hP.left (hK.sub [0, 1, 2] rfl) hN hD.left⟩ hP hD hS hA (List.Perm.refl _) (fun _ => List.Perm.refl _) rfl hl.1 rfl (Nat.le_of_ble_eq_true rfl) dL_law_1035 ⟨Nat.le_of_ble_eq_true rfl, Nat.le_of_ble_eq_true rfl⟩ (fun r u H locs hr1 hP hD hS => ?_)
  subst hr1
  refine W.base ?_
  refine va_forget (s := s.setDrawn s.drawn) (fun q hq => hS.2.2 q hq) ?_
  refine W.widen (k := 600130) (n := 7301079) (Nat.le_of_ble_eq_true rfl) (Nat.le_of_ble_eq_true rfl) ?_
  exact lw_ret (Drawn.sameBut.refl s.drawn lw_cs) hx hb hr hlocks dL_law_1038
