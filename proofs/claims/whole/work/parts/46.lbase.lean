/-! ===== the law's cases: what each call needs, and what it leaves ===== -/
theorem Rel.cT {cN rN : Nat} {pa pe st bn hc hm : Nat → Int32} {lo : Int32} {pt pd ab nw : Nat → Int32} (h : Rel cN rN pa pe st bn hc hm lo pt pd ab nw) {x : Int32} (q : xhas (nI cN) x = true) : mFrom x 0 (nI cN - 1) = true := by
  have h9 := h.c9
  rw [← xhas_m h.inv.1.1 (by omega)]; exact q
theorem Rel.cF {cN rN : Nat} {pa pe st bn hc hm : Nat → Int32} {lo : Int32} {pt pd ab nw : Nat → Int32} (h : Rel cN rN pa pe st bn hc hm lo pt pd ab nw) {x : Int32} (q : xhas (nI cN) x = false) : mFrom x 0 (nI cN - 1) = false := by
  have h9 := h.c9
  rw [← xhas_m h.inv.1.1 (by omega)]; exact q
theorem Rel.rT {cN rN : Nat} {pa pe st bn hc hm : Nat → Int32} {lo : Int32} {pt pd ab nw : Nat → Int32} (h : Rel cN rN pa pe st bn hc hm lo pt pd ab nw) {x : Int32} (q : xhas (nI rN) x = true) : mFrom x 0 (nI rN - 1) = true := by
  have h8 := h.r8
  rw [← xhas_m h.r1 (by omega)]; exact q
theorem Rel.rF {cN rN : Nat} {pa pe st bn hc hm : Nat → Int32} {lo : Int32} {pt pd ab nw : Nat → Int32} (h : Rel cN rN pa pe st bn hc hm lo pt pd ab nw) {x : Int32} (q : xhas (nI rN) x = false) : mFrom x 0 (nI rN - 1) = false := by
  have h8 := h.r8
  rw [← xhas_m h.r1 (by omega)]; exact q
theorem Rel.pT {cN rN : Nat} {pa pe st bn hc hm : Nat → Int32} {lo : Int32} {pt pd ab nw : Nat → Int32} (h : Rel cN rN pa pe st bn hc hm lo pt pd ab nw) {r k : Int32} (q : xhas (nI rN) r = true) (q2 : xhas (nI cN) k = true) : mPlace (nI rN) (nI cN) r k = true := pl_t h.inv.1.1 h.c9 h.r1 h.r8 q q2
theorem Rel.pR {cN rN : Nat} {pa pe st bn hc hm : Nat → Int32} {lo : Int32} {pt pd ab nw : Nat → Int32} (h : Rel cN rN pa pe st bn hc hm lo pt pd ab nw) {r k : Int32} (q : xhas (nI rN) r = false) : mPlace (nI rN) (nI cN) r k = false := pl_r h.r1 h.r8 q
theorem Rel.pC {cN rN : Nat} {pa pe st bn hc hm : Nat → Int32} {lo : Int32} {pt pd ab nw : Nat → Int32} (h : Rel cN rN pa pe st bn hc hm lo pt pd ab nw) {r k : Int32} (q2 : xhas (nI cN) k = false) : mPlace (nI rN) (nI cN) r k = false := pl_c h.inv.1.1 h.c9 q2
theorem Rel.cE {cN rN : Nat} {pa pe st bn hc hm : Nat → Int32} {lo : Int32} {pt pd ab nw : Nat → Int32} (h : Rel cN rN pa pe st bn hc hm lo pt pd ab nw) {x : Int32} (q : xhas (nI cN) x = true) : ∃ j, j < cN ∧ x = nI j := by
  have h9 := h.c9
  exact xhas_nI h.inv.1.1 (by omega) q
theorem Rel.rE {cN rN : Nat} {pa pe st bn hc hm : Nat → Int32} {lo : Int32} {pt pd ab nw : Nat → Int32} (h : Rel cN rN pa pe st bn hc hm lo pt pd ab nw) {x : Int32} (q : xhas (nI rN) x = true) : ∃ j, j < rN ∧ x = nI j := by
  have h8 := h.r8
  exact xhas_nI h.r1 (by omega) q
theorem hE {x : Int32} (q : xhas 2 x = true) : ∃ j, j < 2 ∧ x = nI j := xhas_nI (n := 2) (by omega) (by omega) q
theorem hT {x : Int32} {b : Bool} (q : xhas 2 x = b) : mFrom x 0 1 = b := (xhas2_m x).symm.trans q
theorem iT {x lo hi : Int32} {b : Bool} (q : xin x lo hi = b) : mFrom x lo hi = b := (xin_m x lo hi).symm.trans q
theorem updL_0 (f : Nat → Int64) (x : Int64) : vp_updL f 0 x 0 = x := if_pos rfl
theorem Rel.kput {cN rN : Nat} {pa pe st bn hc hm : Nat → Int32} {lo : Int32} {pt pd ab nw : Nat → Int32} (h : Rel cN rN pa pe st bn hc hm lo pt pd ab nw) {r c : Nat} (hr : r < rN) (hcc : c < cN) {np : Int32} (hn : xin np 0 4 = true) : Rel cN rN (xsc 72 pa (nI r * nI cN + nI c) np) (xsc 72 pe (nI r * nI cN + nI c) (if np = 3 then 2 else 0)) (xsc 72 st (nI r * nI cN + nI c) 0) bn hc hm lo (upd pt (9 * nI r + nI c).toNatClampNeg np) pd ab (upd nw (9 * nI r + nI c).toNatClampNeg 0) := by
  have h9 := h.c9
  have h8 := h.r8
  have hlt := pl_lt hr hcc
  have h72 := pl_72 h8 h9
  rw [ix_x, ix_mc (by omega) (by omega), xsc_n (by omega) (by decide), xsc_n (by omega) (by decide), xsc_n (by omega) (by decide)]
  have e := h.place hr hcc (p := np) (e := if np = 3 then 2 else 0) (d := pd (9 * r + c)) (v := 0) ⟨fun q => ⟨if_pos q, Or.inl rfl⟩, fun q => by subst q; exact absurd hn (by decide)⟩
  rw [upd_self] at e
  exact e
theorem Rel.kputc {cN rN : Nat} {pa pe st bn hc hm : Nat → Int32} {lo : Int32} {pt pd ab nw : Nat → Int32} (h : Rel cN rN pa pe st bn hc hm lo pt pd ab nw) {r c : Nat} (hr : r < rN) (hcc : c < cN) {np : Int32} (hn : xin np 2 9 = true) : Rel cN rN (xsc 72 pa (nI r * nI cN + nI c) 5) (xsc 72 pe (nI r * nI cN + nI c) np) (xsc 72 st (nI r * nI cN + nI c) 0) bn hc hm lo (upd pt (9 * nI r + nI c).toNatClampNeg 5) (upd pd (9 * nI r + nI c).toNatClampNeg np) ab (upd nw (9 * nI r + nI c).toNatClampNeg 0) := by
  have h9 := h.c9
  have h8 := h.r8
  have hlt := pl_lt hr hcc
  have h72 := pl_72 h8 h9
  obtain ⟨q, q2, q9, rfl⟩ := xin_ex (a := 2) (b := 9) (by omega) (by omega) (show xin np (nI 2) (nI 9) = true from hn)
  rw [ix_x, ix_mc (by omega) (by omega), xsc_n (by omega) (by decide), xsc_n (by omega) (by decide), xsc_n (by omega) (by decide)]
  exact h.place hr hcc ⟨fun z => absurd z (by decide), fun _ => ⟨q, 0, q2, q9, rfl, rfl, by omega, nI_0.symm⟩⟩
theorem Rel.kturn {cN rN : Nat} {pa pe st bn hc hm : Nat → Int32} {lo : Int32} {pt pd ab nw : Nat → Int32} (h : Rel cN rN pa pe st bn hc hm lo pt pd ab nw) {r c : Nat} (hr : r < rN) (hcc : c < cN) (h3 : xcl 72 pa (nI r * nI cN + nI c) = 3) : pt (9 * nI r + nI c).toNatClampNeg = 3 ∧ xRight pa (xsc 72 st (nI r * nI cN + nI c) (if xRight pa st (nI r * nI cN + nI c) = true then 0 else 1)) (nI r * nI cN + nI c) = (if 1 - nw (9 * nI r + nI c).toNatClampNeg = 1 then true else false) ∧ Rel cN rN pa pe (xsc 72 st (nI r * nI cN + nI c) (if xRight pa st (nI r * nI cN + nI c) = true then 0 else 1)) bn hc hm lo pt pd ab (upd nw (9 * nI r + nI c).toNatClampNeg (1 - nw (9 * nI r + nI c).toNatClampNeg)) := by
  have h9 := h.c9
  have h8 := h.r8
  have hlt := pl_lt hr hcc
  have h72 := pl_72 h8 h9
  obtain ⟨p1, p2, p3⟩ := h.rs r c hr hcc
  have e0 : xcl 72 pa (nI r * nI cN + nI c) = pt (9 * nI r + nI c).toNatClampNeg := (h.one hr hcc).1
  refine ⟨by rw [← e0]; exact h3, ?_⟩
  rw [e0, ix_mc (by omega) (by omega)] at h3
  rw [ix_x, ix_mc (by omega) (by omega), xRight_n _ _ (by omega), xRight_n _ _ (by omega), xsc_n (by omega) (by decide), p1, if_pos h3, if_pos h3, pk_us, p2]
  obtain ⟨hpe, hv⟩ := p3.1 h3
  have pl : ∀ v : Int32, v = 0 ∨ v = 1 → Rel cN rN pa pe (upd st (r * cN + c) v) bn hc hm lo pt pd ab (upd nw (9 * r + c) v) := by
    intro v hv
    have e := h.place hr hcc (p := pt (9 * r + c)) (e := pe (r * cN + c)) (d := pd (9 * r + c)) (v := v) ⟨fun _ => ⟨hpe, hv⟩, fun z => by rw [h3] at z; exact absurd z (by decide)⟩
    have eA : upd pa (r * cN + c) (pt (9 * r + c)) = pa := by rw [← p1]; exact upd_self _ _
    rw [eA, upd_self pe, upd_self pt, upd_self pd] at e
    exact e
  rcases hv with hv | hv
  · rw [hv]
    refine ⟨by decide, ?_⟩
    rw [show (if (if (0 : Int32) = 1 then true else false) = true then (0 : Int32) else 1) = 1 from by decide, show (1 : Int32) - 0 = 1 from by decide]
    exact pl 1 (Or.inr rfl)
  · rw [hv]
    refine ⟨by decide, ?_⟩
    rw [show (if (if (1 : Int32) = 1 then true else false) = true then (0 : Int32) else 1) = 0 from by decide, show (1 : Int32) - 1 = 0 from by decide]
    exact pl 0 (Or.inl rfl)
theorem Rel.khop {cN rN : Nat} {pa pe st bn hc hm : Nat → Int32} {lo : Int32} {pt pd ab nw : Nat → Int32} (h : Rel cN rN pa pe st bn hc hm lo pt pd ab nw) {i j : Nat} (hi : i < 2) (hj : j < cN) (m : Int32) : Rel cN rN pa pe st bn (xsc 2 hc (nI i) (nI j)) (xsc 2 hm (nI i) m) lo pt pd (upd ab (nI i).toNatClampNeg (nI j)) (upd nw (81 + nI i).toNatClampNeg m) := by
  have e81 : (81 + nI i).toNatClampNeg = 81 + i := by rw [show (81 : Int32) = nI 81 from rfl, nI_add, nI_clamp (by omega)]
  rw [e81, nI_clamp (by omega), xsc_n hi (by decide), xsc_n hi (by decide)]
  exact h.hop hi hj m
theorem Rel.klay {cN rN : Nat} {pa pe st bn hc hm : Nat → Int32} {lo : Int32} {pt pd ab nw : Nat → Int32} (h : Rel cN rN pa pe st bn hc hm lo pt pd ab nw) {m d : Nat} (m2 : 2 ≤ m) (m9 : m ≤ 9) (d1 : 1 ≤ d) (d8 : d ≤ 8) : Rel m d (fun _ => 0) (fun _ => 0) (fun _ => 0) (fun _ => 0) (xsc 2 (xsc 2 hc 0 0) 1 (nI m - 1)) hm 0 (mZ 72 pt) pd (upd (upd ab 0 0) 1 (nI m - 1)) (upd (mZ (72 + 9) nw) 83 0) := by
  rw [nI_sub1 (by omega)]
  have e : xsc 2 (xsc 2 hc 0 0) 1 (nI (m - 1)) = upd (upd hc 0 0) 1 (nI (m - 1)) := by
    show xsc 2 (xsc 2 hc (nI 0) 0) (nI 1) (nI (m - 1)) = _
    rw [xsc_n (by decide) (by decide), xsc_n (by decide) (by decide)]
  rw [e]
  exact h.lay m2 m9 d1 d8
theorem Rel.kdrop {cN rN : Nat} {pa pe st bn hc hm : Nat → Int32} {lo : Int32} {pt pd ab nw : Nat → Int32} (h : Rel cN rN pa pe st bn hc hm lo pt pd ab nw) {j : Nat} (hj : j < cN) : Rel cN rN pa pe (xFall pa pe st (nI cN) (nI j) (nI rN)).2 (xLandBn bn (xFall pa pe st (nI cN) (nI j) (nI rN)).1) hc hm (xLandLo lo (xFall pa pe st (nI cN) (nI j) (nI rN)).1) pt pd ab (mFall pt pd cN rN nw (nI j)).2.1 := (h.drop hj).2.2.2
theorem ZA.now {A : Nat → Prop} {s : State} {H0 H : Heap} {locs : List Loc} (h : ZA A s H0) (hS : va_S A H0 H locs) (hA : ∀ q, H0.size ≤ q → A q) : ZS s H := ZA.to hS.1 hA ⟨h.1.kept (fun q h1 h2 => hS.2.1 q h1 h2), h.2.kept (fun q h1 h2 => hS.2.1 q h1 h2)⟩
theorem ZA.drawn {A : Nat → Prop} {s : State} {H : Heap} (d : Drawn) (h : ZA A s H) : ZA A (s.setDrawn d) H := ⟨vx_Zq.moved (u := s) (U := s.setDrawn d) (Vm.Alike.refl s.vm) h.1, vx_Zq.moved (u := s) (U := s.setDrawn d) (Vm.Alike.refl s.vm) h.2⟩
/-- what the law's walk stands on -/
def LF (p : Program) (l : Launch) (s : State) (m : MethodId) (b0 : Nat) (c : Code) (D : va_G) (cI cL : ClassId) (L : Nat) (xs : Nat → Int32) (A : Nat → Prop) : Prop :=
  p.tables.exec = Jvm.exec ∧ c.code = cL_law ∧ c.maxLocals = 9 ∧ s.vm.findClass RL = some m.cls ∧ (∀ w ∈ wsL_law, w.before #[Value.ref b0] s = true) ∧ va_K D vwCl [(cI, .int), (cL, .long)] s ∧ KS s ∧ KX s ∧ ZA A s s.heap ∧ (∀ q : Nat, s.heap.size ≤ q → A q) ∧ va_X b0 L xs s s.heap ∧ b0 < s.heap.size ∧ ¬ A b0 ∧ l.stackTraces = false ∧ L ≤ 2048
theorem LF.drawn {p : Program} {l : Launch} {s : State} {m : MethodId} {b0 : Nat} {c : Code} {D : va_G} {cI cL : ClassId} {L : Nat} {xs : Nat → Int32} {A : Nat → Prop} (d : Drawn) (h : LF p l s m b0 c D cI cL L xs A) : LF p l (s.setDrawn d) m b0 c D cI cL L xs A := by
  obtain ⟨h1, h2, h3, h4, h5, h6, h7, h8, h9, h10, h11, h12, h13, h14, h15⟩ := h
  exact ⟨h1, h2, h3, h4, dr_words h5 d, va_K.moved (u := s) (U := s.setDrawn d) (Vm.Alike.refl s.vm) h6, h7.drawn d, KX.same (u := s) (U := s.setDrawn d) rfl h8, h9.drawn d, h10, va_X.moved (u := s) (U := s.setDrawn d) (Vm.Alike.refl s.vm) h11, h12, h13, h14, h15⟩
/-- the walk on from the end of one round -/
def LK (p : Program) (l : Launch) (e : Env) (s : State) (m : MethodId) (b0 : Nat) (below : List Frame) (meth : Method) (c : Code) (D : va_G) (cI cL : ClassId) (x o k : Nat) (a b v : Nat → Nat) (A : Nat → Prop) (cells slots : Nat) (Q : State → Prop) : Prop :=
  ∀ (cN rN : Nat) (pa pe st bn hc hm : Nat → Int32) (lo : Int32) (pa2 pe2 st2 bn2 hc2 hm2 : Nat → Int32) (C2 R2 lo2 : Int32) (pt pd ab nw kp wy : Nat → Int32) (th tn : Int32) (ov : Nat → Int64) (H : Heap) (locs : List Loc) (ls : Array Slot), Rel cN rN pa pe st bn hc hm lo pt pd ab nw →
    va_P D vwCl (wX x a b ++ wM cI a pa pe st bn hc hm (nI cN) (nI rN) lo ++ wM cI b pa2 pe2 st2 bn2 hc2 hm2 C2 R2 lo2 ++ wN cI v pt pd ab nw kp wy th (nI cN) (nI rN) tn ++ wL cL o 1 ov) H →
    va_D A (wX x a b ++ wM cI a pa pe st bn hc hm (nI cN) (nI rN) lo ++ wM cI b pa2 pe2 st2 bn2 hc2 hm2 C2 R2 lo2 ++ wN cI v pt pd ab nw kp wy th (nI cN) (nI rN) tn ++ wL cL o 1 ov) →
    va_S A s.heap H locs → lv_has ls 9 [(4, .int (nI (4 * k))), (3, .ref o), (2, .ref (v 0)), (1, .ref x), (0, .ref b0)] →
    W p l e room_1 s m #[Value.ref b0] below meth c H locs (cells + 10) (slots + 41) Q (F0 m 1599 ls [])
theorem sx_in {L k j : Nat} (hL : L ≤ 2048) (hj : 4 * k + j < L) : vp_in (nI (4 * k) + nI j) L := by rw [nI_add]; exact vp_in_nI hj (by omega)
