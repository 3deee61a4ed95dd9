/-! ===== act, over a state of both boards; a call of it ===== -/
theorem mL_actq (l : Launch) (hst : l.stackTraces = false) (D : va_G) (cI c2 c3 : ClassId) (x : Nat) (a b : Nat → Nat) (q : LQ) (hq : PIq q) (xx : Int32) (sz : Nat) : Met l yL_act wsL_act ({ frames := 9, cells := 84, slots := 310, locals := 156 } : Room) (va_Pc [.ref x, .ref (q.2.2.2.2.2.2.2.2.2.2.2.1 0), .int xx] (fun U => wPQ D [(cI, .int), (c2, .array .int), (c3, .array (.array .int))] sz (lsW cI c2 c3 x a b q) U ∧ K2A cI c2 c3 U)) (va_Qi (fun (zz : Int32) (u : LQ) => zz = 1 ∧ PIq u ∧ u.2.2.2.2.2.2.2.2.2.2.2.1 0 = q.2.2.2.2.2.2.2.2.2.2.2.1 0) (wB D [(cI, .int), (c2, .array .int), (c3, .array (.array .int))] (va_A (lsW cI c2 c3 x a b q) sz) (lsW cI c2 c3 x a b)) (va_A (lsW cI c2 c3 x a b q) sz)) 84 310 (va_A (lsW cI c2 c3 x a b q) sz) :=
  mL_act l hst D cI c2 c3 x a b _ _ _ q.1 q.2.1 _ _ _ _ _ _ _ _ _ hq xx sz
section KPW
variable {p : Program} {l : Launch} {e : Env} {R : Room} {s : State} {m : MethodId} {args : Array Value} {below : List Frame} {meth : Method} {c : Code} {H : Heap} {locs : List Loc} {cells slots : Nat} {Q : State → Prop}
variable {D : va_G} {tys tys' : List (ClassId × FieldType)} {Wd Wc Wr : va_W}
variable {y : MethodName} {bytes cc : ByteArray} {maxL nL n index mc ms : Nat} {ret : Option FieldType} {ws : List Cond} {rm : Room} {Ts : List Cond} {own : String} {As st0 rest : List Value} {pc : Nat} {ls : Array Slot} {B' : State → Prop}
variable {S : Type} {w W2 : S → va_W} {A : Nat → Prop} {H0 : Heap}
/-- a static call of a method with handlers -/
theorem kPWi {post : Int32 → S → Prop} {hh : List (Nat × Nat × Nat × Nat)} (Sf : CallFix p m c cc nL s args Ts own) (hM : Met l y ws rm (va_Pc As B') (va_Qi post (wB D tys' (va_A Wc H.size) w) (va_A Wc H.size)) mc ms (va_A Wc H.size)) (cw : vx_CSW R s args own index y bytes maxL ret hh ws rm mc ms n)
    (hpr : PreS s H (va_Pc As B') As) (hP : va_P D vwCl Wd H) (hD : va_D A Wd) (hS : va_S A H0 H locs) (hA : ∀ q, H0.size ≤ q → A q) (pm : Wd.Perm (Wc ++ Wr)) (pm2 : ∀ u, (w u ++ Wr).Perm (W2 u))
    (hn : As.length = n) (hsize : ls.size = nL) (hstack : st0 = As.reverse ++ rest) (hW8 : (rest.map fun v => v.category).sum ≤ 8) (hdg : decode cc pc = .ok (.invokestatic index, 3)) (hf : cells + mc ≤ R.cells ∧ slots + ms ≤ R.slots)
    (kk : ∀ (r : Int32) (u : S) (H1 : Heap) (locs1 : List Loc), post r u → va_P D vwCl (W2 u) H1 → va_D A (W2 u) → va_S A H0 H1 locs1 → W p l e R s m args below meth c H1 locs1 (cells + mc) (slots + ms) Q (F0 m (pc + 3) ls (.int r :: rest))) : W p l e R s m args below meth c H locs cells slots Q (F0 m pc ls st0) := by
  have hFc := freeP (hD.pm pm) hS hA
  refine va_calli (vx_runSW (As := As) (rest := rest) Sf hM cw hpr rfl hn hsize hstack (lv_room hW8) hdg hf) hS (fun q _ h => hFc q h) hFc (fun r u t H1 locs1 ht hvm hw hB hz1 hk1 hS1 => ?_)
  obtain ⟨hP1, hK1, hD1⟩ := hB
  rw [ht] at hP1
  obtain ⟨hP2, hD2⟩ := joinP (hP.pm pm) (hD.pm pm) hk1 hFc hP1 hD1
  exact kk r u H1 locs1 hw (hP2.pm (pm2 u)) (hD2.pm (pm2 u)) hS1
/-- a constructor of a nest mate -/
theorem kPNIv {post : S → Prop} {b : Addr} {host : String} (Sf : CallFix p m c cc nL s args Ts own) (hM : Met l y ws rm (va_Pc (.ref b :: As) B') (va_Qv post (wB D tys' (va_A Wc H.size) w) (va_A Wc H.size)) mc ms (va_A Wc H.size)) (cw : va_CN R s args own index y host bytes maxL none ws rm mc ms n ∧ y.name = "<init>" ∧ (Cond.instanceMethod y).before args s = true)
    (hpr : PreS s H (va_Pc (.ref b :: As) B') (.ref b :: As)) (hP : va_P D vwCl Wd H) (hD : va_D A Wd) (hS : va_S A H0 H locs) (hA : ∀ q, H0.size ≤ q → A q) (pm : Wd.Perm (Wc ++ Wr)) (pm2 : ∀ u, (w u ++ Wr).Perm (W2 u))
    (hn : As.length = n) (hsize : ls.size = nL) (hstack : st0 = As.reverse ++ .ref b :: rest) (hW8 : (rest.map fun v => v.category).sum ≤ 8) (hdg : decode cc pc = .ok (.invokespecial index, 3)) (hf : cells + mc ≤ R.cells ∧ slots + ms ≤ R.slots)
    (kk : ∀ (u : S) (H1 : Heap) (locs1 : List Loc), post u → va_P D vwCl (W2 u) H1 → va_D A (W2 u) → va_S A H0 H1 locs1 → W p l e R s m args below meth c H1 locs1 (cells + mc) (slots + ms) Q (F0 m (pc + 3) ls rest)) : W p l e R s m args below meth c H locs cells slots Q (F0 m pc ls st0) := by
  have hFc := freeP (hD.pm pm) hS hA
  refine va_callv (va_runIN (As := As) (rest := rest) Sf hM cw hpr rfl hn hsize hstack (lv_room hW8) hdg hf) hS (fun q _ h => hFc q h) hFc (fun u t H1 locs1 ht hvm hw hB hz1 hk1 hS1 => ?_)
  obtain ⟨hP1, hK1, hD1⟩ := hB
  rw [ht] at hP1
  obtain ⟨hP2, hD2⟩ := joinP (hP.pm pm) (hD.pm pm) hk1 hFc hP1 hD1
  exact kk u H1 locs1 hw (hP2.pm (pm2 u)) (hD2.pm (pm2 u)) hS1
end KPW
def K2B (cI c2 c3 : ClassId) (W0 : va_W) (sz b0 L : Nat) (xs : Nat → Int32) (U : State) : Prop := KG cI c2 c3 U ∧ KX U ∧ ZA (va_A W0 sz) U U.heap ∧ va_X b0 L xs U U.heap ∧ ¬ va_A W0 sz b0 ∧ va_Nw (.methodLinkNest RL 68 yX2_init RL) U
