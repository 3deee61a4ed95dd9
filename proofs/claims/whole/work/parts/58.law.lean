/-! THE CLAIM OUT OF ONE WALK OF THE LAW'S BODY. Your part is whole_start (and what it stands on); all else here is the same for every law, but numbers. -/
def R_law : String := "MarbleRampsLaw"
def lw_P (b : Addr) (xs : List Int32) (args : Array Value) (s : State) : Prop := args = #[.ref b] ∧ s.IntsAt b xs ∧ xs.length ≤ 2048 ∧ (Jvm.Cond.and given_1 narrow_1).before args s = true
/-- what a walk over the start with the record d0 says of its end, said of the start itself -/
theorem lw_closed {s t : State} {o : Outcome} {d0 : Drawn} {L : List Loc} {k n : Nat} (hd0 : s.drawn.sameBut d0 lw_cs) (hv : ∃ v, o = .returned v) (hW : (s.setDrawn d0).WarmedH t.vm) (hs : (s.setDrawn d0).sameButNew ({ t with vm := s.vm } : State) L k n) : State.butDraws s t lw_cs (fun t1 => Framed s o t1 L k n) := by
  have h2 : t.drawn = d0 := congrArg State.drawn hs.1
  refine ⟨⟨hv, hW, State.sameButNew.setDrawn hs s.drawn⟩, ?_, by decide⟩
  rw [h2]
  exact hd0
def lw_Q (_ : Array Value) (s : State) (o : Outcome) (t : State) : Prop := o = .returned (some (.int 1)) ∧ State.butDraws s t lw_cs (fun t1 => Framed s o t1 [] 760601 6814301)
def lw_Z (below : List Frame) (a : Array Value) (s : State) : State → Prop := fun t => ∃ o, t.status = .running ∧ Ended t below o ∧ lw_Q a s o t
/-- the law's own end, with 1 on the stack, nothing written that was there before, its room as the claim has it; d0: the record of draws at this point (at the entry s.drawn: begin with 'refine W.base ?_' and 'have hd0 := Drawn.sameBut.refl s.drawn lw_cs') -/
theorem lw_ret {p : Program} {l : Launch} {e : Env} {s : State} {m : MethodId} {below : List Frame} {meth : Method} {c : Code} {b : Nat} {d0 : Drawn} (hd0 : s.drawn.sameBut d0 lw_cs) (hx : p.tables.exec = Jvm.exec) (hb : c.code = code) (hr : meth.sig.returnType = ret) (hlocks : meth.locks = false) {pc : Nat} {H : Heap} {ls : Array Slot} (hdg : decode code pc = .ok (.ireturn, 1)) : W p l e room_1 (s.setDrawn d0) m #[Value.ref b] below meth c H [] 760601 6814301 (lw_Z below #[Value.ref b] s) (F0 m pc ls [.int 1]) := by
  intro T hT X
  obtain ⟨fs, hret, hrun, hended, hW, hframe⟩ := X.leave (v := some (.int 1)) (hlocks := hlocks) (fun h => by rw [hr] at h; cases h)
  have hmeth' : T.vm.method? m = some meth := X.method'
  refine ⟨T.setFrames fs, ?_, .returned (some (.int 1)), hrun, hended, rfl, lw_closed hd0 ⟨_, rfl⟩ hW hframe⟩
  jvm_step X.here [X.here.top, hx, hb, hdg, hmeth', hr, ret, narrow_b1]
  (try refine ⟨rfl, ?_⟩); (try refine ⟨rfl, ?_⟩)
  first | (intro acts; rw [hret _ acts rfl rfl rfl]) | rw [hret _ _ rfl rfl rfl]
  exact Steps.refl _
/-- what holds at the law's entry: the machine, the code, the tables' words (any of lw_tbl by 'hts w (by decide +kernel)'), the script of L ints xs at the cell b, what the Statement gives of the start (any of its parts by flat_of_before) -/
def lw_At (p : Program) (s : State) (m : MethodId) (meth : Method) (c : Code) (b L : Nat) (xs : Nat → Int32) : Prop :=
  p.tables.exec = Jvm.exec ∧ c.code = code ∧ meth.sig.returnType = ret ∧ c.maxLocals = 9 ∧ s.vm.findClass R_law = some m.cls ∧ (∀ w ∈ lw_tbl, w.before #[Value.ref b] s = true) ∧ va_X b L xs s s.heap ∧ b < s.heap.size ∧ meth.locks = false ∧ (Jvm.Cond.and given_1 narrow_1).before #[Value.ref b] s = true
theorem newL {p : Program} {l : Launch} {e : Env} {R : Room} {s : State} {m : MethodId} {args : Array Value} {below : List Frame} {meth : Method} {c : Code} {H H0 : Heap} {locs : List Loc} {cells slots : Nat} {Q : State → Prop} {D : va_G} {tys : List (ClassId × FieldType)} {Wd : va_W} {A : Nat → Prop} {cc : ByteArray} {pc : Nat} {ls : Array Slot} {rest : List Value} {cA : ClassId} (hexec : p.tables.exec = Jvm.exec) (hb : c.code = cc) (harr : (Cond.arrayClass .long).before args s = true) (hK : va_K D vwCl tys s) (hP : va_P D vwCl Wd H) (hD : va_D A Wd) (hS : va_S A H0 H locs) (hA : ∀ q, H0.size ≤ q → A q) (t0 : Nat) (ht : tys[t0]? = some (cA, .long))
    {nn : Int32} {N' : Nat} (hn : ¬ nn < 0) (hN : nn.toNatClampNeg = N') (hbytes : N' * componentBytes .long ≤ 536870912) (hcells : cells + 1 ≤ R.cells) (hslots : slots + N' ≤ R.slots) (hdg : decode cc pc = .ok (.newarray .long, 2))
    (kk : ∀ (q : Nat) (H1 : Heap), va_P D vwCl (Wd ++ [(q, .inl (cA, N', .inr (.inl (fun _ => 0))))]) H1 → va_D A (Wd ++ [(q, .inl (cA, N', .inr (.inl (fun _ => 0))))]) → va_S A H0 H1 locs →
      W p l e R s m args below meth c H1 locs (cells + 1) (slots + N') Q (F0 m (pc + 2) ls (.ref q :: rest))) : W p l e R s m args below meth c H locs cells slots Q (F0 m pc ls (.int nn :: rest)) := by
  refine va_newa (atype := .long) (ty := .long) (a0 := (N', .inr (.inl (fun _ => 0)))) hexec hb harr rfl hK hP hD hS hA (fun cA => rfl) hn hN hbytes hcells hslots hdg (fun q cB H1 hK1 hP1 hD1 hS1 => ?_)
  have h1 := (hK.2 t0 _ ht).2
  have h2 := (hK1.2 tys.length (cB, .long) (by simp)).2
  have h3 : cB = cA := Option.some.inj ((show s.vm.findClass _ = some cB from h2).symm.trans (show s.vm.findClass _ = some cA from h1))
  subst h3
  exact kk q H1 hP1 hD1 hS1
theorem hc_first : xsc 2 (xsc 2 (fun _ => 0) 0 0) 1 (5 - 1) = upd (upd (fun _ => 0) 0 0) 1 4 := by
  show xsc 2 (xsc 2 (fun _ => 0) (nI 0) 0) (nI 1) (5 - 1) = _
  rw [xsc_n (by decide) (by decide), xsc_n (by decide) (by decide), show (5 - 1 : Int32) = 4 from by decide]
set_option maxHeartbeats 4000000 in
set_option maxRecDepth 100000 in
theorem whole_start {p : Program} {e : Env} {s : State} {m : MethodId} {below : List Frame} {meth : Method} {c : Code} (l : Launch) (hflags : l.flags = flags0) {b L : Nat} {xs : Nat → Int32} (hL : L ≤ 2048) (C0 : lw_At p s m meth c b L xs) : W p l e room_1 s m #[Value.ref b] below meth c s.heap [] 0 0 (lw_Z below #[Value.ref b] s) (entryFrame m ([Value.ref b] : List Value).toArray 9) := by
  obtain ⟨hx, hb, hr, hml, hown, hts0, hX, hbl, hlocks, hgv⟩ := id C0
  have hts : ∀ w ∈ wsL_law, w.before #[Value.ref b] s = true := fun w h => hts0 w (wsL_law_in w h)
  have hown : s.vm.findClass RL = some m.cls := hown
  have hst : l.stackTraces = false := by rw [Launch.stackTraces, hflags]; decide +kernel
  have hg := flat_of_before _ hgv
  obtain ⟨D, cI, cL, hK⟩ := st_K hts0
  have hN := st_KS hts0
  have hKX := st_KX hts0 hg
  have hZ := st_ZA hts0 hg
  have hA : ∀ q : Nat, s.heap.size ≤ q → (fun q : Nat => s.heap.size ≤ q) q := fun _ h => h
  have hbA : ¬ (fun q : Nat => s.heap.size ≤ q) b := Nat.not_le.mpr hbl
  have F : LF p l s m b c D cI cL L xs (fun q : Nat => s.heap.size ≤ q) := ⟨hx, hb, hml, hown, hts, hK, hN, hKX, hZ, hA, hX, hbl, hbA, hst, hL⟩
  have hS : va_S (fun q : Nat => s.heap.size ≤ q) s.heap s.heap [] := va_S.rf
  have hP : va_P D vwCl [] s.heap := fun k q h => by simp at h
  have hD : va_D (fun q : Nat => s.heap.size ≤ q) [] := ⟨fun i j p q h => by simp at h, fun k q h => by simp at h⟩
  have hl := lv_entry ([.ref b]) (n := 9) (Nat.le_of_ble_eq_true rfl)
  rw [lg_entry_eq]
  generalize (lg_sl ([.ref b]) ++ List.replicate (9 - (lg_sl ([.ref b])).length) Slot.unset).toArray = ls at hl ⊢
  have hl : lv_has ls 9 [(0, .ref b)] := hl
  refine va_new (D := D) (ci := 1) (fs := [.null, .null]) (C := RX1) (T := TX1) (N := 2) hx hb hts0 wsX10_tbl tyX1 tyX1_ok hown (hts (.classLink RL 8 RX1) (mg 0 rfl)) (hts (.instantiable RX1 2) (mg 1 rfl)) (hts (.initialized RX1) (mg 2 rfl)) hK hP hD hS hA rfl (fun j hj => by rcases (show j = 0 ∨ j = 1 by omega) with rfl | rfl <;> rfl) (Nat.le_of_ble_eq_true rfl) (Nat.le_of_ble_eq_true rfl) dL_law_0 (fun x0 H hP hD hS => ?_)
  have hP : va_P D vwCl [(x0, .inr (1, [.null, .null]))] H := hP
  have hD : va_D (fun q : Nat => s.heap.size ≤ q) [(x0, .inr (1, [.null, .null]))] := hD
  refine lv_dup hx hb dL_law_3 rfl ?_
  refine kQIv (As := []) (rest := [.ref x0]) (wr := []) (W2 := (fun u : ((Nat → Nat) × (Nat → Nat)) => (wX x0 u.1 u.2 ++ wM cI u.1 (fun _ => 0) (fun _ => 0) (fun _ => 0) (fun _ => 0) (xsc 2 (xsc 2 (fun _ => 0) 0 0) 1 (5 - 1)) (fun _ => 0) 5 4 0 ++ wM cI u.2 (fun _ => 0) (fun _ => 0) (fun _ => 0) (fun _ => 0) (xsc 2 (xsc 2 (fun _ => 0) 0 0) 1 (5 - 1)) (fun _ => 0) 5 4 0))) ⟨hx, hb, hml, hown, hts⟩ (mX1_init l D cI x0 _) (cwI 0 hts gL_law_X1_init rfl rfl rfl (hts (.initialized RX1) (mg 2 rfl)) (hts (.methodLink RL 79 yX1_init) (mg 7 rfl)) (hts (.instanceMethod yX1_init) (mg 8 rfl)) rfl (by decide +kernel) ⟨Nat.le_of_ble_eq_true rfl, Nat.le_of_ble_eq_true rfl⟩) hP hD hK hN hS hA [0] (by decide) rfl [] (by decide) rfl (by decide) [0, 1, 2, 3, 4, 5, 6, 7, 8, 9, 10, 11, 12, 13, 14] (by decide) (fun _ => rfl) [0] rfl rfl hl.1 rfl (Nat.le_of_ble_eq_true rfl) dL_law_4 ⟨Nat.le_of_ble_eq_true rfl, Nat.le_of_ble_eq_true rfl⟩ (fun u H locs _ hP hD hS => ?_)
  obtain ⟨u1, u2⟩ := u
  have hP : va_P D vwCl (wX x0 u1 u2 ++ wM cI u1 (fun _ => 0) (fun _ => 0) (fun _ => 0) (fun _ => 0) (xsc 2 (xsc 2 (fun _ => 0) 0 0) 1 (5 - 1)) (fun _ => 0) 5 4 0 ++ wM cI u2 (fun _ => 0) (fun _ => 0) (fun _ => 0) (fun _ => 0) (xsc 2 (xsc 2 (fun _ => 0) 0 0) 1 (5 - 1)) (fun _ => 0) 5 4 0) H := hP
  have hD : va_D (fun q : Nat => s.heap.size ≤ q) (wX x0 u1 u2 ++ wM cI u1 (fun _ => 0) (fun _ => 0) (fun _ => 0) (fun _ => 0) (xsc 2 (xsc 2 (fun _ => 0) 0 0) 1 (5 - 1)) (fun _ => 0) 5 4 0 ++ wM cI u2 (fun _ => 0) (fun _ => 0) (fun _ => 0) (fun _ => 0) (xsc 2 (xsc 2 (fun _ => 0) 0 0) 1 (5 - 1)) (fun _ => 0) 5 4 0) := hD
  refine lv_astore_n (lv' := [(1, .ref x0), (0, .ref b)]) hx hb dL_law_7 rfl hl (by decide) rfl (fun ls hl => ?_)
  refine va_new (D := D) (ci := 2) (fs := [.int 0, .int 0, .int 0, .null, .null, .null, .null, .null, .int 0, .null]) (C := RX2) (T := TX2) (N := 10) hx hb hts0 wsX20_tbl tyX2 tyX2_ok hown (hts (.classLink RL 80 RX2) (mg 3 rfl)) (hts (.instantiable RX2 10) (mg 4 rfl)) (hts (.initialized RX2) (mg 5 rfl)) hK hP hD hS hA rfl (fun j hj => by rcases (show j = 0 ∨ j = 1 ∨ j = 2 ∨ j = 3 ∨ j = 4 ∨ j = 5 ∨ j = 6 ∨ j = 7 ∨ j = 8 ∨ j = 9 by omega) with rfl | rfl | rfl | rfl | rfl | rfl | rfl | rfl | rfl | rfl <;> rfl) (Nat.le_of_ble_eq_true rfl) (Nat.le_of_ble_eq_true rfl) dL_law_8 (fun x8 H hP hD hS => ?_)
  have hP : va_P D vwCl (wX x0 u1 u2 ++ wM cI u1 (fun _ => 0) (fun _ => 0) (fun _ => 0) (fun _ => 0) (xsc 2 (xsc 2 (fun _ => 0) 0 0) 1 (5 - 1)) (fun _ => 0) 5 4 0 ++ wM cI u2 (fun _ => 0) (fun _ => 0) (fun _ => 0) (fun _ => 0) (xsc 2 (xsc 2 (fun _ => 0) 0 0) 1 (5 - 1)) (fun _ => 0) 5 4 0 ++ [(x8, .inr (2, [.int 0, .int 0, .int 0, .null, .null, .null, .null, .null, .int 0, .null]))]) H := hP
  have hD : va_D (fun q : Nat => s.heap.size ≤ q) (wX x0 u1 u2 ++ wM cI u1 (fun _ => 0) (fun _ => 0) (fun _ => 0) (fun _ => 0) (xsc 2 (xsc 2 (fun _ => 0) 0 0) 1 (5 - 1)) (fun _ => 0) 5 4 0 ++ wM cI u2 (fun _ => 0) (fun _ => 0) (fun _ => 0) (fun _ => 0) (xsc 2 (xsc 2 (fun _ => 0) 0 0) 1 (5 - 1)) (fun _ => 0) 5 4 0 ++ [(x8, .inr (2, [.int 0, .int 0, .int 0, .null, .null, .null, .null, .null, .int 0, .null]))]) := hD
  refine lv_dup hx hb dL_law_11 rfl ?_
  refine kQIv (As := []) (rest := [.ref x8]) (wr := [(x0, .inr (1, [.ref (u1 0), .ref (u2 0)])), (u1 0, .inr (0, [.ref (u1 1), .ref (u1 2), .ref (u1 3), .ref (u1 4), .ref (u1 5), .ref (u1 6), .int 5, .int 4, .int 0])), (u1 1, .inl (cI, 72, .inl (fun _ => 0))), (u1 2, .inl (cI, 72, .inl (fun _ => 0))), (u1 3, .inl (cI, 72, .inl (fun _ => 0))), (u1 4, .inl (cI, 9, .inl (fun _ => 0))), (u1 5, .inl (cI, 2, .inl (xsc 2 (xsc 2 (fun _ => 0) 0 0) 1 (5 - 1)))), (u1 6, .inl (cI, 2, .inl (fun _ => 0))), (u2 0, .inr (0, [.ref (u2 1), .ref (u2 2), .ref (u2 3), .ref (u2 4), .ref (u2 5), .ref (u2 6), .int 5, .int 4, .int 0])), (u2 1, .inl (cI, 72, .inl (fun _ => 0))), (u2 2, .inl (cI, 72, .inl (fun _ => 0))), (u2 3, .inl (cI, 72, .inl (fun _ => 0))), (u2 4, .inl (cI, 9, .inl (fun _ => 0))), (u2 5, .inl (cI, 2, .inl (xsc 2 (xsc 2 (fun _ => 0) 0 0) 1 (5 - 1)))), (u2 6, .inl (cI, 2, .inl (fun _ => 0)))]) (W2 := (fun w : (Nat → Nat) => (wX x0 u1 u2 ++ wM cI u1 (fun _ => 0) (fun _ => 0) (fun _ => 0) (fun _ => 0) (xsc 2 (xsc 2 (fun _ => 0) 0 0) 1 (5 - 1)) (fun _ => 0) 5 4 0 ++ wM cI u2 (fun _ => 0) (fun _ => 0) (fun _ => 0) (fun _ => 0) (xsc 2 (xsc 2 (fun _ => 0) 0 0) 1 (5 - 1)) (fun _ => 0) 5 4 0 ++ wN cI w (fun _ => 0) (fun _ => 0) (upd (upd (fun _ => 0) 0 0) 1 4) (fun _ => 0) (fun _ => 0) (fun _ => 0) 0 5 4 0))) ⟨hx, hb, hml, hown, hts⟩ (mX2_init l D cI x8 _) (cwI 0 hts gL_law_X2_init rfl rfl rfl (hts (.initialized RX2) (mg 5 rfl)) (hts (.methodLink RL 82 yX2_init) (mg 46 rfl)) (hts (.instanceMethod yX2_init) (mg 47 rfl)) rfl (by decide +kernel) ⟨Nat.le_of_ble_eq_true rfl, Nat.le_of_ble_eq_true rfl⟩) hP hD hK hN hS hA [15] (by decide) rfl [0, 1, 2, 3, 4, 5, 6, 7, 8, 9, 10, 11, 12, 13, 14] (by decide) rfl (by decide) [0, 1, 2, 3, 4, 5, 6, 7, 8, 9, 10, 11, 12, 13, 14, 15, 16, 17, 18, 19, 20, 21] (by decide) (fun _ => rfl) [0] rfl rfl hl.1 rfl (Nat.le_of_ble_eq_true rfl) dL_law_12 ⟨Nat.le_of_ble_eq_true rfl, Nat.le_of_ble_eq_true rfl⟩ (fun w H locs hw hP hD hS => ?_)
  have hP : va_P D vwCl (wX x0 u1 u2 ++ wM cI u1 (fun _ => 0) (fun _ => 0) (fun _ => 0) (fun _ => 0) (xsc 2 (xsc 2 (fun _ => 0) 0 0) 1 (5 - 1)) (fun _ => 0) 5 4 0 ++ wM cI u2 (fun _ => 0) (fun _ => 0) (fun _ => 0) (fun _ => 0) (xsc 2 (xsc 2 (fun _ => 0) 0 0) 1 (5 - 1)) (fun _ => 0) 5 4 0 ++ wN cI w (fun _ => 0) (fun _ => 0) (upd (upd (fun _ => 0) 0 0) 1 4) (fun _ => 0) (fun _ => 0) (fun _ => 0) 0 5 4 0) H := hP
  have hD : va_D (fun q : Nat => s.heap.size ≤ q) (wX x0 u1 u2 ++ wM cI u1 (fun _ => 0) (fun _ => 0) (fun _ => 0) (fun _ => 0) (xsc 2 (xsc 2 (fun _ => 0) 0 0) 1 (5 - 1)) (fun _ => 0) 5 4 0 ++ wM cI u2 (fun _ => 0) (fun _ => 0) (fun _ => 0) (fun _ => 0) (xsc 2 (xsc 2 (fun _ => 0) 0 0) 1 (5 - 1)) (fun _ => 0) 5 4 0 ++ wN cI w (fun _ => 0) (fun _ => 0) (upd (upd (fun _ => 0) 0 0) 1 4) (fun _ => 0) (fun _ => 0) (fun _ => 0) 0 5 4 0) := hD
  rw [← hw]
  refine lv_astore_n (lv' := [(2, .ref (w 0)), (1, .ref x0), (0, .ref b)]) hx hb dL_law_15 rfl hl (by decide) rfl (fun ls hl => ?_)
  refine lv_iconst (v := 1) hx hb dL_law_16 (by decide) ?_
  refine newL hx hb (hts (.arrayClass .long) (mg 6 rfl)) hK hP hD hS hA 1 rfl (by decide) (N' := 1) (by decide) (by decide) (Nat.le_of_ble_eq_true rfl) (Nat.le_of_ble_eq_true rfl) dL_law_17 (fun o H hP hD hS => ?_)
  have hP : va_P D vwCl (wX x0 u1 u2 ++ wM cI u1 (fun _ => 0) (fun _ => 0) (fun _ => 0) (fun _ => 0) (upd (upd (fun _ => 0) 0 0) 1 4) (fun _ => 0) (nI 5) (nI 4) 0 ++ wM cI u2 (fun _ => 0) (fun _ => 0) (fun _ => 0) (fun _ => 0) (upd (upd (fun _ => 0) 0 0) 1 4) (fun _ => 0) 5 4 0 ++ wN cI w (fun _ => 0) (fun _ => 0) (upd (upd (fun _ => 0) 0 0) 1 4) (fun _ => 0) (fun _ => 0) (fun _ => 0) 0 (nI 5) (nI 4) 0 ++ wL cL o 1 (fun _ => 0)) H := by rw [← hc_first]; exact hP
  have hD : va_D (fun q : Nat => s.heap.size ≤ q) (wX x0 u1 u2 ++ wM cI u1 (fun _ => 0) (fun _ => 0) (fun _ => 0) (fun _ => 0) (upd (upd (fun _ => 0) 0 0) 1 4) (fun _ => 0) (nI 5) (nI 4) 0 ++ wM cI u2 (fun _ => 0) (fun _ => 0) (fun _ => 0) (fun _ => 0) (upd (upd (fun _ => 0) 0 0) 1 4) (fun _ => 0) 5 4 0 ++ wN cI w (fun _ => 0) (fun _ => 0) (upd (upd (fun _ => 0) 0 0) 1 4) (fun _ => 0) (fun _ => 0) (fun _ => 0) 0 (nI 5) (nI 4) 0 ++ wL cL o 1 (fun _ => 0)) := by rw [← hc_first]; exact hD
  refine lv_astore_n (lv' := [(3, .ref o), (2, .ref (w 0)), (1, .ref x0), (0, .ref b)]) hx hb dL_law_19 rfl hl (by decide) rfl (fun ls hl => ?_)
  refine lv_iconst (v := 0) hx hb dL_law_20 (by decide) ?_
  refine lv_istore (lv' := [(4, .int 0), (3, .ref o), (2, .ref (w 0)), (1, .ref x0), (0, .ref b)]) hx hb dL_law_21 hl (by decide) rfl (fun ls hl => ?_)
  refine W.widen (k := 100 + 10 * 0) (n := 2000 + 41 * 0) (by omega) (by omega) ?_
  refine W.base ?_
  refine lw_loop F (c0 := 100) (s0 := 2000) (Nat.le_of_ble_eq_true rfl) (Nat.le_of_ble_eq_true rfl) (fun d H locs cells slots ls hd hS hc hs => ?_) 512 0 (by omega) s.drawn (Drawn.sameBut.refl s.drawn lw_cs) 5 4 _ _ _ _ _ _ _ _ _ _ _ _ _ _ _ _ _ _ _ _ _ _ _ _ _ H locs ls Rel.first hP hD hS hl
  refine lv_iconst (v := 1) hx hb dL_law_1605 (by decide) ?_
  refine va_forget (s := s.setDrawn d) (fun q hq => hS.2.2 q hq) ?_
  refine W.widen (k := 760601) (n := 6814301) (by omega) (by omega) ?_
  exact lw_ret hd hx hb hr hlocks dL_law_1606
