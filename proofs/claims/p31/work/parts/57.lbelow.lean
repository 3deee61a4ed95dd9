/-! ===== the law's own two small methods ===== -/
theorem gAnd (x : Int32) : ∃ a : Nat, a < 2 ^ 31 ∧ x &&& 2147483647 = nI a := by
  obtain ⟨j, hj, e⟩ := pk_andE x (m := 2147483647) 31 (by decide)
  exact ⟨j, hj, e⟩
set_option maxHeartbeats 4000000 in
set_option maxRecDepth 100000 in
theorem mL_below (l : Launch) (D : va_G) (v : Int32) (n : Nat) (h0 : 0 < n) (hn : n < 2 ^ 31) : Met l yL_below wsL_below ({ frames := 0, cells := 0, slots := 0, locals := 0 } : Room) (va_Pc [.int v, .int (nI n)] (wPR D [] [])) (vp_Si (fun zz : Int32 => ∃ j, j < n ∧ zz = nI j)) 0 0 (fun _ => False) := by
  refine mR_of (by decide) rfl (Nat.le_of_ble_eq_true rfl) ?_
  intro p e s m below meth c hx hb hr hml hown hts hlocks hP hK hN ls hl
  have hown : s.vm.findClass RL = some m.cls := hown
  have hl : lv_has ls 2 [(0, .int v), (1, .int (nI n))] := hl
  obtain ⟨a, ha, ea⟩ := gAnd v
  refine lv_iload_n hx hb dL_below_0 rfl (lv_at hl 0 rfl) ?_
  refine lv_ldc hx hb hown (hts (.constant RL 7 (2147483647)) (mg 1 rfl)) dL_below_1 ?_
  refine lv_iand hx hb dL_below_3 ?_
  rw [ea]
  refine lv_iload_n hx hb dL_below_4 rfl (lv_at hl 1 rfl) ?_
  refine lv_irem hx hb dL_below_5 (nI_ne0 h0 hn) ?_
  rw [pk_rem ha h0 hn]
  exact eRi hx hb hr hlocks dL_below_6 ⟨a % n, Nat.mod_lt _ h0, rfl⟩
section LC
variable {p : Program} {l : Launch} {e : Env} {R : Room} {s : State} {m : MethodId} {args : Array Value} {below : List Frame} {meth : Method} {c : Code} {H : Heap} {locs : List Loc} {cells slots : Nat} {Q : State → Prop}
set_option maxHeartbeats 4000000 in
set_option maxRecDepth 100000 in
theorem mL_cell (l : Launch) (b0 L k : Nat) (xs : Nat → Int32) (hL : L < 1000) (hk : k < 1000) : Met l yL_cell wsL_cell ({ frames := 0, cells := 0, slots := 0, locals := 0 } : Room) (va_Pc [.ref b0, .int (nI k)] (fun U => va_X b0 L xs U U.heap)) (vp_Si (fun _ : Int32 => True)) 0 0 (fun _ => False) := by
  refine Met.ofW (cc := cL_cell) (maxL := 2) (ret := some .int) (by decide) rfl ?_
  intro p e s m args below meth c s₁ B hml hv
  obtain ⟨rfl, hX⟩ := hv
  have hl0 := lv_entry [.ref b0, .int (nI k)] (n := 2) (Nat.le_of_ble_eq_true rfl)
  rw [lg_entry_eq]
  have hx := B.exec
  have hb := B.bytes
  have hr := B.returns
  have hlocks := B.notSynchronized
  have hown : s.vm.findClass RL = some m.cls := findClass_of_methodNamed B.named
  have hts := atoms_spec (ws := wsL_cell) B.pre
  refine (?_ : ∀ ls : Array Slot, lv_has ls 2 [(0, .ref b0), (1, .int (nI k))] → W p l e ({ frames := 0, cells := 0, slots := 0, locals := 0 } : Room) s m #[Value.ref b0, .int (nI k)] below meth c s.heap [] 0 0 (MQ below (vp_Si (fun _ : Int32 => True)) #[Value.ref b0, .int (nI k)] s 0 0 (fun _ => False)) (F0 m 0 ls [])) _ hl0
  intro ls hl
  have hbl : b0 < s.heap.size := by
    obtain ⟨scr, h1, -⟩ := hX
    exact (Array.getElem?_eq_some_iff.mp h1).1
  have hbA : ¬ (fun _ : Nat => False) b0 := fun h => h
  have hS : va_S (fun _ => False) s.heap s.heap [] := va_S.rf
  refine lv_iload_n hx hb dL_cell_0 rfl (lv_at hl 1 rfl) ?_
  refine lv_aload_n hx hb dL_cell_1 rfl (lv_at hl 0 rfl) ?_
  refine va_slen hx hb hX hbl hbA hS dL_cell_2 ?_
  refine lv_icmp_ge (tgt := 12) hx hb dL_cell_3 (by decide) (fun c1 => ?_) (fun c1 => ?_)
  · refine lv_ldc hx hb hown (hts (.constant RL 8 (790386105)) (mg 1 rfl)) dL_cell_12 ?_
    refine lv_iload_n hx hb dL_cell_14 rfl (lv_at hl 1 rfl) ?_
    refine lv_iconst (v := 3) hx hb dL_cell_15 (by decide) ?_
    refine lv_iadd hx hb dL_cell_16 ?_
    refine lv_imul hx hb dL_cell_17 ?_
    exact eRi hx hb hr hlocks dL_cell_18 trivial
  · have hkL : k < L := by
      rcases Nat.lt_or_ge k L with z | z
      · exact z
      · exact absurd (show Int32.ofNat L ≤ nI k from nI_le (a := L) z (by omega)) c1
    refine lv_aload_n hx hb dL_cell_6 rfl (lv_at hl 0 rfl) ?_
    refine lv_iload_n hx hb dL_cell_7 rfl (lv_at hl 1 rfl) ?_
    refine va_sld hx hb hX hbl hbA hS (vp_in_nI hkL (by omega)) dL_cell_8 ?_
    refine lv_goto (tgt := 18) hx hb dL_cell_9 (by decide) ?_
    exact eRi hx hb hr hlocks dL_cell_18 trivial
variable {D : va_G} {tys : List (ClassId × FieldType)}
variable {bytes cc : ByteArray} {maxL nL n index : Nat} {ret : Option FieldType} {ws : List Cond} {rm : Room} {Ts : List Cond} {own : String} {rest : List Value} {pc : Nat} {ls : Array Slot}
/-- a number below n, asked of the law's own method -/
theorem kBelow {v : Int32} {n : Nat} (h0 : 0 < n) (hn : n < 2 ^ 31) (Sf : CallFix p m c cc nL s args Ts own) (cw : CallB R s args own index yL_below bytes maxL ret wsL_below ({ frames := 0, cells := 0, slots := 0, locals := 0 } : Room) 0 0 2 ∧ (Cond.static yL_below).before args s = true) (hK : va_K D vwCl tys s) (hN : KS s) (hsize : ls.size = nL) (hW8 : (rest.map fun v => v.category).sum ≤ 8) (hdg : decode cc pc = .ok (.invokestatic index, 3)) (hf : cells ≤ R.cells ∧ slots ≤ R.slots)
    (kk : ∀ j : Nat, j < n → W p l e R s m args below meth c H locs cells slots Q (F0 m (pc + 3) ls (.int (nI j) :: rest))) : W p l e R s m args below meth c H locs cells slots Q (F0 m pc ls (.int (nI n) :: .int v :: rest)) := by
  refine kRSi (Wd := []) (As := [.int v, .int (nI n)]) Sf (mL_below l D v n h0 hn) cw (va_P.all fun q hq => absurd hq List.not_mem_nil) hK hN [] rfl [] rfl rfl hsize rfl hW8 hdg hf (fun r hr => ?_)
  obtain ⟨j, hj, rfl⟩ := hr
  exact kk j hj
/-- a number of the script, or another -/
theorem kCell {k b0 L : Nat} {xs : Nat → Int32} (hL : L < 1000) (hk : k < 1000) (Sf : CallFix p m c cc nL s args Ts own) (cw : CallB R s args own index yL_cell bytes maxL ret wsL_cell ({ frames := 0, cells := 0, slots := 0, locals := 0 } : Room) 0 0 2 ∧ (Cond.static yL_cell).before args s = true) (hX : va_X b0 L xs s H) (hsize : ls.size = nL) (hW8 : (rest.map fun v => v.category).sum ≤ 8) (hdg : decode cc pc = .ok (.invokestatic index, 3)) (hf : cells ≤ R.cells ∧ slots ≤ R.slots)
    (kk : ∀ r : Int32, W p l e R s m args below meth c H locs cells slots Q (F0 m (pc + 3) ls (.int r :: rest))) : W p l e R s m args below meth c H locs cells slots Q (F0 m pc ls (.int (nI k) :: .ref b0 :: rest)) :=
  vp_callSi (va_runS (As := [.ref b0, .int (nI k)]) (rest := rest) Sf (mL_cell l b0 L k xs hL hk) cw ⟨fun a U g mk q => ⟨q.1, va_X.moved (u := U) (U := U.calling g mk a) (Vm.Alike.refl U.vm) q.2⟩, fun U hU hW => ⟨rfl, by subst hU; exact va_X.moved hW.alike hX⟩⟩ rfl rfl hsize rfl (lv_room hW8) hdg hf).run (fun r _ => kk r)
end LC
