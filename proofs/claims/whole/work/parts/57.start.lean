/-! ===== what the tables and the start say ===== -/
def stW : List Cond := [.arrayClass .int, .arrayClass .long, .methodLinkNest RX0 53 yX1_setCell RX1, .methodLinkNest RX0 57 yX1_copyCells RX1, .methodLinkNest RX0 61 yX1_cell RX1, .castable eIO eIO, .castable eIA eIA, .castable eIS eIS, .declares (Bundle.initS "java/lang/RuntimeException"), .declares (Bundle.initS "java/lang/Exception"), .declares (Bundle.initS Bundle.tN), .stringRef RX1 195 "there is no such column", .stringRef RX1 197 "there is no such hopper", .stringRef RX1 189 "there is no such row", .stringRef RX1 201 "a number is too small or too large", .stringRef RX1 44 "there is no toggle", .laysStatic Bundle.tN "UNASSIGNED_STACK" Bundle.steD, .laysStatic Bundle.tN "SUPPRESSED_SENTINEL" Bundle.listD, .initialized Bundle.tN, .instantiable RX0 9, .instantiable RX1 2, .instantiable RX2 10]
set_option maxRecDepth 20000 in
theorem stW_in : ∀ w ∈ stW, w ∈ lw_tbl := mem_pos [102, 775, 65, 228, 248, 158, 373, 417, 160, 162, 164, 197, 285, 316, 380, 424, 183, 185, 32, 49, 41, 520] (by decide +kernel)
theorem st_K {s : State} {A : Array Value} (h0 : ∀ w ∈ lw_tbl, w.before A s = true) : ∃ (D : va_G) (cI cL : ClassId), va_K D vwCl [(cI, .int), (cL, .long)] s := by
  obtain ⟨c0, i0, k0⟩ := u_known (C := RX0) (T := TX0) (N := 9) (n := 9) h0 wsX00_tbl (h0 (.instantiable RX0 9) (stW_in _ (mg 19 rfl)))
  obtain ⟨c1, i1, k1⟩ := u_known (C := RX1) (T := TX1) (N := 2) (n := 2) h0 wsX10_tbl (h0 (.instantiable RX1 2) (stW_in _ (mg 20 rfl)))
  obtain ⟨c2, i2, k2⟩ := u_known (C := RX2) (T := TX2) (N := 10) (n := 10) h0 wsX20_tbl (h0 (.instantiable RX2 10) (stW_in _ (mg 21 rfl)))
  obtain ⟨cI, a1, a2⟩ := arrI (h0 (.arrayClass .int) (stW_in _ (mg 0 rfl)))
  obtain ⟨cL, b1, b2⟩ := arrL (h0 (.arrayClass .long) (stW_in _ (mg 1 rfl)))
  refine ⟨(fun k => if k = 0 then c0 else if k = 1 then c1 else c2, fun k => if k = 0 then i0 else if k = 1 then i1 else i2), cI, cL, ?_, ?_⟩
  · intro k q hq
    match k, hq with
    | 0, hq => cases hq; exact k0
    | 1, hq => cases hq; exact k1
    | 2, hq => cases hq; exact k2
    | k + 3, hq => simp [vwCl] at hq
  · intro k q hq
    match k, hq with
    | 0, hq => cases hq; exact ⟨a1, a2⟩
    | 1, hq => cases hq; exact ⟨b1, b2⟩
    | k + 2, hq => simp at hq
theorem st_KS {s : State} {A : Array Value} (h0 : ∀ w ∈ lw_tbl, w.before A s = true) : KS s := ⟨va_Nw.of rfl (h0 (.methodLinkNest RX0 53 yX1_setCell RX1) (stW_in _ (mg 2 rfl))), va_Nw.of rfl (h0 (.methodLinkNest RX0 57 yX1_copyCells RX1) (stW_in _ (mg 3 rfl))), va_Nw.of rfl (h0 (.methodLinkNest RX0 61 yX1_cell RX1) (stW_in _ (mg 4 rfl)))⟩
theorem st_str {s : State} {A : Array Value} {k : Nat} {tx : String} (h1 : (Cond.stringRef RX1 k tx).before A s = true) (h2 : (Cond.exactly (.string RX1 k) "java/lang/String").before A s = true) : ∃ a, vk_R RX1 k tx a s := by
  obtain ⟨a, _, _, _, e, _⟩ := Cond.exactly_spec (show (Cond.exactly (.string RX1 k) "java/lang/String").holds A s none s [] = true from h2)
  exact ⟨a, vk_R.of h1 e⟩
set_option maxRecDepth 100000 in
theorem st_KX {s : State} {A : Array Value} (h0 : ∀ w ∈ lw_tbl, w.before A s = true) (hg : ∀ w ∈ flatC (Jvm.Cond.and given_1 narrow_1), w.before A s = true) : KX s :=
  ⟨(st_str (h0 (.stringRef RX1 195 "there is no such column") (stW_in _ (mg 11 rfl))) (hg (.exactly (.string RX1 195) "java/lang/String") (by decide +kernel))), (st_str (h0 (.stringRef RX1 197 "there is no such hopper") (stW_in _ (mg 12 rfl))) (hg (.exactly (.string RX1 197) "java/lang/String") (by decide +kernel))), (st_str (h0 (.stringRef RX1 189 "there is no such row") (stW_in _ (mg 13 rfl))) (hg (.exactly (.string RX1 189) "java/lang/String") (by decide +kernel))), (st_str (h0 (.stringRef RX1 201 "a number is too small or too large") (stW_in _ (mg 14 rfl))) (hg (.exactly (.string RX1 201) "java/lang/String") (by decide +kernel))), (st_str (h0 (.stringRef RX1 44 "there is no toggle") (stW_in _ (mg 15 rfl))) (hg (.exactly (.string RX1 44) "java/lang/String") (by decide +kernel))), va_Nw.of rfl (h0 (.castable eIO eIO) (stW_in _ (mg 5 rfl))), va_Nw.of rfl (h0 (.castable eIA eIA) (stW_in _ (mg 6 rfl))), va_Nw.of rfl (h0 (.castable eIS eIS) (stW_in _ (mg 7 rfl))), va_Nc.of (hg (.not (.castable eIA eIO)) (by decide +kernel)), va_Nc.of (hg (.not (.castable eIS eIO)) (by decide +kernel)), va_Nw.of rfl (h0 (.declares (Bundle.initS "java/lang/RuntimeException")) (stW_in _ (mg 8 rfl))), va_Nw.of rfl (h0 (.declares (Bundle.initS "java/lang/Exception")) (stW_in _ (mg 9 rfl))), va_Nw.of rfl (h0 (.declares (Bundle.initS Bundle.tN)) (stW_in _ (mg 10 rfl)))⟩
set_option maxRecDepth 100000 in
theorem st_ZA {s : State} {A : Array Value} (h0 : ∀ w ∈ lw_tbl, w.before A s = true) (hg : ∀ w ∈ flatC (Jvm.Cond.and given_1 narrow_1), w.before A s = true) : ZA (fun q => s.heap.size ≤ q) s s.heap :=
  ⟨vx_Zqof (h0 (.laysStatic Bundle.tN "UNASSIGNED_STACK" Bundle.steD) (stW_in _ (mg 16 rfl))) (h0 (.initialized Bundle.tN) (stW_in _ (mg 18 rfl))) (hg (.isRef (.static Bundle.tN "UNASSIGNED_STACK" Bundle.steD)) (by decide +kernel)) (fun a ha => Nat.not_le.mpr ha), vx_Zqof (h0 (.laysStatic Bundle.tN "SUPPRESSED_SENTINEL" Bundle.listD) (stW_in _ (mg 17 rfl))) (h0 (.initialized Bundle.tN) (stW_in _ (mg 18 rfl))) (hg (.isRef (.static Bundle.tN "SUPPRESSED_SENTINEL" Bundle.listD)) (by decide +kernel)) (fun a ha => Nat.not_le.mpr ha)⟩
