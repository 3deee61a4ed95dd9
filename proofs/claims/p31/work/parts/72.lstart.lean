/-! ===== what the tables and the start say ===== -/
def stW : List Cond := [.arrayClass .int, .arrayOver (.array .int), .methodLinkNest RX0 53 yX1_setCell RX1, .methodLinkNest RX0 57 yX1_copyCells RX1, .methodLinkNest RX0 61 yX1_cell RX1, .castable eIO eIO, .castable eIA eIA, .castable eIS eIS, .declares (Bundle.initS "java/lang/RuntimeException"), .declares (Bundle.initS "java/lang/Exception"), .declares (Bundle.initS Bundle.tN), .stringRef RX1 195 "there is no such column", .stringRef RX1 197 "there is no such hopper", .stringRef RX1 189 "there is no such row", .stringRef RX1 201 "a number is too small or too large", .stringRef RX1 44 "there is no toggle", .laysStatic Bundle.tN "UNASSIGNED_STACK" Bundle.steD, .laysStatic Bundle.tN "SUPPRESSED_SENTINEL" Bundle.listD, .initialized Bundle.tN, .instantiable RX0 9, .instantiable RX1 2, .instantiable RX2 6, .arrayOver (.array (.array .int)), .classLink RX2 7 "[[[I", .castable "[I" "java/lang/Cloneable", .methodLinkNest RL 68 yX2_init RL, .classLink RL 144 "[[I"]
set_option maxRecDepth 20000 in
theorem stW_in : ∀ w ∈ stW, w ∈ lw_tbl := mem_pos [78, 389, 41, 307, 182, 100, 199, 492, 102, 104, 106, 139, 193, 246, 206, 499, 125, 127, 9, 25, 17, 382, 388, 387, 418, 527, 534] rfl
theorem st_K {s : State} {A : Array Value} (h0 : ∀ w ∈ lw_tbl, w.before A s = true) : ∃ (D : va_G) (cI c2 c3 : ClassId), va_K D vwCl [(cI, .int), (c2, .array .int), (c3, .array (.array .int))] s ∧ KG cI c2 c3 s := by
  obtain ⟨d0, i0, k0⟩ := u_known (C := RX0) (T := TX0) (N := 9) (n := 9) h0 wsX00_tbl (h0 (.instantiable RX0 9) (stW_in _ (mg 19 rfl)))
  obtain ⟨d1, i1, k1⟩ := u_known (C := RX1) (T := TX1) (N := 2) (n := 2) h0 wsX10_tbl (h0 (.instantiable RX1 2) (stW_in _ (mg 20 rfl)))
  obtain ⟨d2, i2, k2⟩ := u_known (C := RX2) (T := TX2) (N := 6) (n := 6) h0 wsX20_tbl (h0 (.instantiable RX2 6) (stW_in _ (mg 21 rfl)))
  obtain ⟨cI, a1, a2⟩ := arrI (h0 (.arrayClass .int) (stW_in _ (mg 0 rfl)))
  obtain ⟨c2, cI2, g2⟩ := AO.of (h0 (.arrayOver (.array .int)) (stW_in _ (mg 1 rfl)))
  obtain ⟨c3, c22, g3⟩ := AO.of (h0 (.arrayOver (.array (.array .int))) (stW_in _ (mg 22 rfl)))
  have e1 : cI2 = cI := by
    obtain ⟨_, _, _, h3, _⟩ := g2
    exact Option.some.inj (h3.symm.trans (show s.vm.findClass _ = some cI from a2))
  have e2 : c22 = c2 := by
    obtain ⟨_, _, _, h3, _⟩ := g3
    obtain ⟨_, _, _, _, h4⟩ := g2
    exact Option.some.inj (h3.symm.trans h4)
  subst e1
  subst e2
  refine ⟨(fun k => if k = 0 then d0 else if k = 1 then d1 else d2, fun k => if k = 0 then i0 else if k = 1 then i1 else i2), _, _, _, ⟨?_, ?_⟩, g2, g3, va_Nw.of rfl (h0 (.classLink RX2 7 "[[[I") (stW_in _ (mg 23 rfl))), va_Nw.of rfl (h0 (.castable "[I" "java/lang/Cloneable") (stW_in _ (mg 24 rfl)))⟩
  · intro k q hq
    match k, hq with
    | 0, hq => cases hq; exact k0
    | 1, hq => cases hq; exact k1
    | 2, hq => cases hq; exact k2
    | k + 3, hq => simp [vwCl] at hq
  · intro k q hq
    match k, hq with
    | 0, hq => cases hq; exact ⟨a1, a2⟩
    | 1, hq => cases hq; exact g2.arr
    | 2, hq => cases hq; exact g3.arr
    | k + 3, hq => simp at hq
theorem st_KS {s : State} {A : Array Value} (h0 : ∀ w ∈ lw_tbl, w.before A s = true) : KS s := ⟨va_Nw.of rfl (h0 (.methodLinkNest RX0 53 yX1_setCell RX1) (stW_in _ (mg 2 rfl))), va_Nw.of rfl (h0 (.methodLinkNest RX0 57 yX1_copyCells RX1) (stW_in _ (mg 3 rfl))), va_Nw.of rfl (h0 (.methodLinkNest RX0 61 yX1_cell RX1) (stW_in _ (mg 4 rfl)))⟩
theorem st_N {s : State} {A : Array Value} (h0 : ∀ w ∈ lw_tbl, w.before A s = true) : va_Nw (.methodLinkNest RL 68 yX2_init RL) s ∧ va_Nw (.classLink RL 144 "[[I") s := ⟨va_Nw.of rfl (h0 (.methodLinkNest RL 68 yX2_init RL) (stW_in _ (mg 25 rfl))), va_Nw.of rfl (h0 (.classLink RL 144 "[[I") (stW_in _ (mg 26 rfl)))⟩
theorem st_str {s : State} {A : Array Value} {k : Nat} {tx : String} (h1 : (Cond.stringRef RX1 k tx).before A s = true) (h2 : (Cond.exactly (.string RX1 k) "java/lang/String").before A s = true) : ∃ a, vk_R RX1 k tx a s := by
  obtain ⟨a, _, _, _, e, _⟩ := Cond.exactly_spec (show (Cond.exactly (.string RX1 k) "java/lang/String").holds A s none s [] = true from h2)
  exact ⟨a, vk_R.of h1 e⟩
set_option maxRecDepth 100000 in
theorem st_KX {s : State} {A : Array Value} (h0 : ∀ w ∈ lw_tbl, w.before A s = true) (hg : ∀ w ∈ flatC (Jvm.Cond.and given_1 narrow_1), w.before A s = true) : KX s :=
  ⟨(st_str (h0 (.stringRef RX1 195 "there is no such column") (stW_in _ (mg 11 rfl))) (hg (.exactly (.string RX1 195) "java/lang/String") (by decide +kernel))), (st_str (h0 (.stringRef RX1 197 "there is no such hopper") (stW_in _ (mg 12 rfl))) (hg (.exactly (.string RX1 197) "java/lang/String") (by decide +kernel))), (st_str (h0 (.stringRef RX1 189 "there is no such row") (stW_in _ (mg 13 rfl))) (hg (.exactly (.string RX1 189) "java/lang/String") (by decide +kernel))), (st_str (h0 (.stringRef RX1 201 "a number is too small or too large") (stW_in _ (mg 14 rfl))) (hg (.exactly (.string RX1 201) "java/lang/String") (by decide +kernel))), (st_str (h0 (.stringRef RX1 44 "there is no toggle") (stW_in _ (mg 15 rfl))) (hg (.exactly (.string RX1 44) "java/lang/String") (by decide +kernel))), va_Nw.of rfl (h0 (.castable eIO eIO) (stW_in _ (mg 5 rfl))), va_Nw.of rfl (h0 (.castable eIA eIA) (stW_in _ (mg 6 rfl))), va_Nw.of rfl (h0 (.castable eIS eIS) (stW_in _ (mg 7 rfl))), va_Nw.of rfl (h0 (.declares (Bundle.initS "java/lang/RuntimeException")) (stW_in _ (mg 8 rfl))), va_Nw.of rfl (h0 (.declares (Bundle.initS "java/lang/Exception")) (stW_in _ (mg 9 rfl))), va_Nw.of rfl (h0 (.declares (Bundle.initS Bundle.tN)) (stW_in _ (mg 10 rfl)))⟩
set_option maxRecDepth 100000 in
theorem st_ZA {s : State} {A : Array Value} (h0 : ∀ w ∈ lw_tbl, w.before A s = true) (hg : ∀ w ∈ flatC (Jvm.Cond.and given_1 narrow_1), w.before A s = true) : ZA (fun q => s.heap.size ≤ q) s s.heap :=
  ⟨vx_Zqof (h0 (.laysStatic Bundle.tN "UNASSIGNED_STACK" Bundle.steD) (stW_in _ (mg 16 rfl))) (h0 (.initialized Bundle.tN) (stW_in _ (mg 18 rfl))) (hg (.isRef (.static Bundle.tN "UNASSIGNED_STACK" Bundle.steD)) (by decide +kernel)) (fun a ha => Nat.not_le.mpr ha), vx_Zqof (h0 (.laysStatic Bundle.tN "SUPPRESSED_SENTINEL" Bundle.listD) (stW_in _ (mg 17 rfl))) (h0 (.initialized Bundle.tN) (stW_in _ (mg 18 rfl))) (hg (.isRef (.static Bundle.tN "SUPPRESSED_SENTINEL" Bundle.listD)) (by decide +kernel)) (fun a ha => Nat.not_le.mpr ha)⟩
theorem K2B.same {cI c2 c3 : ClassId} {W0 : va_W} {sz b0 L : Nat} {xs : Nat → Int32} {u U : State} (hv : U.vm = u.vm) (hh : U.heap = u.heap) (h : K2B cI c2 c3 W0 sz b0 L xs u) : K2B cI c2 c3 W0 sz b0 L xs U := by
  obtain ⟨h1, h2, h3, h4, h5, h6⟩ := h
  have al : u.vm.Alike U.vm := by rw [hv]; exact Vm.Alike.refl u.vm
  exact ⟨KG.same hv h1, KX.same hv h2, by rw [hh]; exact ⟨vx_Zq.moved al h3.1, vx_Zq.moved al h3.2⟩, by rw [hh]; exact va_X.moved al h4, h5, va_Nw.same rfl hv.symm h6⟩
theorem K2B.of {cI c2 c3 : ClassId} {W0 Wr : va_W} {b0 L : Nat} {xs : Nat → Int32} {s : State} {H : Heap} {A : Nat → Prop} {locs : List Loc} (hG : KG cI c2 c3 s) (hX : KX s) (hZ : ZA A s s.heap) (hXs : va_X b0 L xs s s.heap) (hb0l : b0 < s.heap.size) (hb0A : ¬ A b0) (hNi : va_Nw (.methodLinkNest RL 68 yX2_init RL) s) (hD : va_D A (W0 ++ Wr)) (hS : va_S A s.heap H locs) (hA : ∀ q, s.heap.size ≤ q → A q) : ∀ U : State, U.heap = H → s.WarmedH U.vm → K2B cI c2 c3 W0 H.size b0 L xs U := by
  intro U hU hW
  have hF := freeP hD hS hA
  refine ⟨KG.warm hW hG, KX.warm hW hX, ?_, ?_, fun h => hb0A (hF b0 h), va_Nw.warmM hW hNi⟩
  · rw [hU]
    exact ⟨vx_Zq.moved hW.alike ((hZ.1.kept (fun q h1 h2 => hS.2.1 q h1 h2)).narrow (fun q h => hF q h)), vx_Zq.moved hW.alike ((hZ.2.kept (fun q h1 h2 => hS.2.1 q h1 h2)).narrow (fun q h => hF q h))⟩
  · rw [hU]
    exact va_X.moved hW.alike (hXs.kept (hS.2.1 b0 hb0l hb0A))
