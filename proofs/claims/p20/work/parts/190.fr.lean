/-! a callee that takes a part of the world: the frame rule for worlds of the form w1 ++ (w ++ w2) -/
theorem vp_mem {D : va_G} {cl : List vw_C} {ws : va_W} {H : Heap} (h : va_P D cl ws H) {q : Nat × va_E} (hq : q ∈ ws) : va_at D cl q H := by
  obtain ⟨k, hk⟩ := List.getElem?_of_mem hq
  exact h k q hk
theorem vp_of {D : va_G} {cl : List vw_C} {ws : va_W} {H : Heap} (h : ∀ q ∈ ws, va_at D cl q H) : va_P D cl ws H := fun k q hk => h q (List.mem_of_getElem? hk)
theorem mid_get {w1 w w2 : va_W} {i : Nat} {p : Nat × va_E} (h : w[i]? = some p) : (w1 ++ (w ++ w2))[w1.length + i]? = some p := by
  have h1 : i < w.length := (List.getElem?_eq_some_iff.mp h).1
  rw [List.getElem?_append_right (Nat.le_add_right _ _), Nat.add_sub_cancel_left, List.getElem?_append_left h1]
  exact h
theorem fst_get {w1 w2 : va_W} {i : Nat} {p : Nat × va_E} (h : w1[i]? = some p) : (w1 ++ w2)[i]? = some p := by
  rw [List.getElem?_append_left (List.getElem?_eq_some_iff.mp h).1]
  exact h
theorem snd_get {w1 w w2 : va_W} {i : Nat} {p : Nat × va_E} (h : w2[i]? = some p) : (w1 ++ (w ++ w2))[w1.length + (w.length + i)]? = some p := by
  rw [List.getElem?_append_right (Nat.le_add_right _ _), Nat.add_sub_cancel_left, List.getElem?_append_right (Nat.le_add_right _ _), Nat.add_sub_cancel_left]
  exact h
theorem fr_P {D : va_G} {cl : List vw_C} {w1 w w2 : va_W} {H : Heap} (h : va_P D cl (w1 ++ (w ++ w2)) H) : va_P D cl w H := fun k q hk => h _ q (mid_get hk)
theorem fr_D {A : Nat → Prop} {w1 w w2 : va_W} (h : va_D A (w1 ++ (w ++ w2))) : va_D A w := ⟨fun i j p q hi hj e => by
  have := h.1 _ _ p q (mid_get hi) (mid_get hj) e
  omega, fun k q hk => h.2 _ q (mid_get hk)⟩
theorem va_D_fst {A : Nat → Prop} {ws ws' : va_W} (h : ws'.map Prod.fst = ws.map Prod.fst) (hD : va_D A ws) : va_D A ws' := by
  have key : ∀ (i : Nat) (p : Nat × va_E), ws'[i]? = some p → ∃ p0, ws[i]? = some p0 ∧ p0.1 = p.1 := by
    intro i p hp
    have h1 : (ws'.map Prod.fst)[i]? = some p.1 := by rw [List.getElem?_map, hp]; rfl
    rw [h, List.getElem?_map] at h1
    cases hw : ws[i]? with
    | none => rw [hw] at h1; cases h1
    | some p0 => rw [hw] at h1; exact ⟨p0, rfl, Option.some.inj h1⟩
  refine ⟨fun i j p q hi hj e => ?_, fun k q hk => ?_⟩
  · obtain ⟨p0, h1, h2⟩ := key i p hi
    obtain ⟨q0, h3, h4⟩ := key j q hj
    exact hD.1 i j p0 q0 h1 h3 (h2.trans (e.trans h4.symm))
  · obtain ⟨q0, h3, h4⟩ := key k q hk
    rw [← h4]
    exact hD.2 k q0 h3
theorem fr_join {A : Nat → Prop} {D : va_G} {cl : List vw_C} {w1 w w2 w' : va_W} {H H1 : Heap} (hP : va_P D cl (w1 ++ (w ++ w2)) H) (hD : va_D A (w1 ++ (w ++ w2))) (hP1 : va_P D cl w' H1) (hk : ∀ q : Nat, q < H.size → ¬ va_A w H.size q → H1[q]? = H[q]?) (hf : w'.map Prod.fst = w.map Prod.fst) : va_P D cl (w1 ++ (w' ++ w2)) H1 ∧ va_D A (w1 ++ (w' ++ w2)) := by
  refine ⟨vp_of fun q hq => ?_, va_D_fst (by simp [hf]) hD⟩
  rcases List.mem_append.mp hq with h | h
  · obtain ⟨i, hi⟩ := List.getElem?_of_mem h
    have g1 := hP i q (fst_get hi)
    refine g1.kept (hk q.1 g1.lt fun z => ?_)
    rcases z with ⟨k, e, z⟩ | z
    · have h2 := hD.1 i _ q (q.1, e) (fst_get hi) (mid_get z) rfl
      have h3 := (List.getElem?_eq_some_iff.mp hi).1
      omega
    · exact absurd g1.lt (Nat.not_lt.mpr z)
  · rcases List.mem_append.mp h with h | h
    · exact vp_mem hP1 h
    · obtain ⟨i, hi⟩ := List.getElem?_of_mem h
      have g1 := hP _ q (snd_get (w1 := w1) (w := w) hi)
      refine g1.kept (hk q.1 g1.lt fun z => ?_)
      rcases z with ⟨k, e, z⟩ | z
      · have h2 := hD.1 _ _ q (q.1, e) (snd_get (w1 := w1) (w := w) hi) (mid_get z) rfl
        have h3 := (List.getElem?_eq_some_iff.mp z).1
        omega
      · exact absurd g1.lt (Nat.not_lt.mpr z)
theorem fr_K {D : va_G} {cl : List vw_C} {tys tys' : List (ClassId × FieldType)} {U : State} (h : va_K D cl tys U) (hs : ∀ q ∈ tys', q ∈ tys) : va_K D cl tys' U := ⟨h.1, fun k q hk => by
  obtain ⟨i, hi⟩ := List.getElem?_of_mem (hs q (List.mem_of_getElem? hk))
  exact h.2 i q hi⟩
/-- what the catching methods know: pairs that don't cast, and what throwing needs -/
def xncs : List (String × String) := [("java/lang/IllegalArgumentException", "java/lang/IllegalStateException"), ("java/lang/IllegalArgumentException", "java/lang/IndexOutOfBoundsException"), ("java/lang/IllegalStateException", "java/lang/IllegalArgumentException"), ("java/lang/IllegalStateException", "java/lang/IndexOutOfBoundsException"), ("java/lang/IndexOutOfBoundsException", "java/lang/IllegalArgumentException"), ("java/lang/IndexOutOfBoundsException", "java/lang/IllegalStateException")]
def pN (U : State) : Prop := ∀ q ∈ xncs, va_Nc q.1 q.2 U
theorem pN_moved {u U : State} (hvm : u.vm.Alike U.vm) (h : pN u) : pN U := fun q hq => va_Nc.moved hvm (h q hq)
theorem pT_to {A B : Nat → Prop} {s U : State} {H : Heap} {locs : List Loc} (h : pT A s) (hS : va_S A s.heap H locs) (hU : U.heap = H) (hW : s.WarmedH U.vm) (hB : ∀ q, B q → A q) : pT B U := by
  refine ⟨?_, ?_, fun q hq => ?_, fun w hw => xnw_warm hW w hw (h.2.2.2 w hw)⟩
  · rw [hU]; exact vx_Zq.moved hW.alike ((h.1.kept hS.2.1).narrow hB)
  · rw [hU]; exact vx_Zq.moved hW.alike ((h.2.1.kept hS.2.1).narrow hB)
  · obtain ⟨sa, h9⟩ := h.2.2.1 q hq
    exact ⟨sa, vk_R.warm hW h9⟩
def vXW (hh : List (Nat × Nat × Nat × Nat)) : VX := fun l _ c A _ s => l.stackTraces = false ∧ c.exceptionTable.toList = tableOf hh ∧ pT A s ∧ pN s
def rmW : Room := { frames := 9, cells := 1, slots := 6, locals := 360 }
/-- a catching method of the law: it answers r, the world is w' -/
def CtW (y : MethodName) (ws : List Cond) (tys : List (ClassId × FieldType)) (args : List Value) (w : va_W) (r : Int32) (w' : va_W) : Prop := ∀ (l : Launch) (D : va_G) (sz : Nat), l.stackTraces = false → Met l y ws rmW (va_Pc args (fun U => pB tys w D sz U ∧ pT (va_A w sz) U ∧ pN U)) (va_Qi (fun (x : Int32) (_ : Unit) => x = r) (fun _ t => wB tys w' D (va_A w sz) t) (va_A w sz)) 1 6 (va_A w sz)
theorem pW_blind (tys : List (ClassId × FieldType)) (w : va_W) (D : va_G) (sz : Nat) (args : List Value) : FrameBlind (va_Pc args (fun U => pB tys w D sz U ∧ pT (va_A w sz) U ∧ pN U)) := fun a U g mk q => ⟨q.1, (pB_blind tys w D sz args a U g mk ⟨q.1, q.2.1⟩).2, pT_blind _ U g mk a q.2.2.1, pN_moved (u := U) (U := U.calling g mk a) (Vm.Alike.refl U.vm) q.2.2.2⟩
theorem CtW_of {own : String} {y : MethodName} {ws ws' : List Cond} {cc : ByteArray} {maxL : Nat} {ret : Option FieldType} {hh : List (Nat × Nat × Nat × Nat)} {tys : List (ClassId × FieldType)} {args : List Value} {w w' : va_W} {r : Int32} (hy : plainName y.cls = true) (hyo : y.cls = own) (hw : ws = Cond.codeWith y cc maxL ret hh :: ws') (hlen : (lg_sl args).length ≤ maxL)
    (h : V own cc maxL ret ws rmW (vXW hh) tys (qI tys w' r 1 6) 0 0 w 0 (lv_args 0 args) []) : CtW y ws tys args w r w' := by
  intro l D sz hlt
  refine MetFree.of_bodyS (code := cc) (maxLocals := maxL) (ret := ret) hy ?_ ?_
  · intro args s m h hn
    obtain ⟨m9, meth, c, hn9, h1, h2, h3, h4, -, h5, h6, -⟩ := Cond.codeWith_spec (atoms_spec (ws := ws) h _ (by rw [hw]; exact List.mem_cons_self))
    cases hn.symm.trans hn9
    exact ⟨meth, c, h1, h2, h3, h4, h5, h6⟩
  · intro p e s m a below meth c s₁ B hml hv _
    obtain ⟨rfl, ⟨hsz, hP, hK, hD0⟩, hT, hN⟩ := hv
    have hh0 : s₁.heap = s.heap := by rw [B.state]; rfl
    have htab : c.exceptionTable.toList = tableOf hh := vx_table (x := y) B (atoms_spec (ws := ws) B.pre _ (by rw [hw]; exact List.mem_cons_self))
    have hown : s.vm.findClass own = some m.cls := by rw [← hyo]; exact findClass_of_methodNamed B.named
    subst hsz
    have hl := lv_entry args (n := maxL) hlen
    have K := h p l e s m args.toArray below meth c D (va_A w s.heap.size) s.heap [] _ B.exec B.bytes B.returns hml hown (atoms_spec (ws := ws) B.pre) B.notSynchronized ⟨hlt, htab, hT, hN⟩ hK (fun q h => Or.inr h) hP hD0.self va_S.rf hl
    rw [← lg_entry_eq] at K
    obtain ⟨t, a1, o, b1, b2, b3⟩ := K s₁ hh0 (Stand.of_body B)
    exact ⟨t, o, a1, b1, b2, b3⟩
section VF
variable {own : String} {cc : ByteArray} {nL : Nat} {ret : Option FieldType} {Ts : List Cond} {R : Room} {X : VX} {tys tys0 : List (ClassId × FieldType)} {Q : VQ} {k n : Nat} {ws w w' w1 w2 ws' : va_W} {pc : Nat} {lv : List (Nat × Value)} {st : List Value}
theorem V_callIf {q : Nat} {idx n' dc : Nat} {y : MethodName} {wsy : List Cond} {C : String} {b ci : Nat} {fs : List Value} {qq : vw_C} {As rest st0 : List Value} {r : Int32} (d : decode cc pc = .ok (.invokevirtual idx, 3)) (hM : CtI y wsy (rmD dc) tys0 (.ref b :: As) w r w') (hY : YV y wsy n') (hn : As.length = n') (hG : GoodIn Ts (wsV own idx C y wsy)) (hC : y.cls = C) (q0 : Nat) (he : w[q0]? = some (b, .inr (ci, fs))) (hc : vwCl[ci]? = some qq) (hC2 : qq.1 = C) (hst : st0 = As.reverse ++ .ref b :: rest) (hrest : (rest.map fun v => v.category).sum ≤ 8) (hR : dc + 1 ≤ R.frames ∧ 40 * dc + 40 ≤ R.locals) (hRc : k ≤ R.cells ∧ n ≤ R.slots) (hws : ws = w1 ++ (w ++ w2)) (hws' : w1 ++ (w' ++ w2) = ws') (hfst : w'.map Prod.fst = w.map Prod.fst) (htys : ∀ z ∈ tys0, z ∈ tys)
    (h : V own cc nL ret Ts R X tys Q k n ws' q lv (.int r :: rest)) (hq : pc + 3 = q := by rfl) : V own cc nL ret Ts R X tys Q k n ws pc lv st0 := by
  subst hq hst hws hws'
  intro p l e s m args below meth c D A H locs ls hx hb hr hm ho ht hk hX hK hA hP hD hS hl
  have hFc : ∀ z, va_A w H.size z → A z := fun z hz => hz.elim (fun ⟨j, e, he⟩ => hD.2 _ _ (mid_get he)) (fun h => hA z (Nat.le_trans hS.1 h))
  obtain ⟨bytes, maxL, rt, wy', hw, hd1, hmL⟩ := hY
  have hR2 : (rmD dc).frames + 1 ≤ R.frames ∧ 8 + (maxL + 11) + (rmD dc).locals ≤ R.locals := ⟨hR.1, by have h1 := hR.2; show 8 + (maxL + 11) + 40 * dc ≤ R.locals; omega⟩
  refine va_calli (va_runV (As := As) (rest := rest) ⟨hx, hb, hm, ho, ht⟩ (hM l D H.size) (cwV n' ht hG hw rfl rfl ⟨hC, hd1⟩ hR2) ⟨pB_blind _ _ _ _ _, by rw [← hC2]; exact va_recv (fr_K hK htys) (fr_P hP) hc he, fun U hU hW => ⟨rfl, by rw [hU], by rw [hU]; exact fr_P hP, va_K.moved hW.alike (fr_K hK htys), (fr_D hD).weaken (fun _ _ _ _ => trivial)⟩⟩ rfl hn hl.1 rfl (lv_room hrest) d ⟨hRc.1, hRc.2⟩) hS (fun z _ h => hFc z h) hFc (fun r' u t H1 locs1 ht1 hvm hw1 hB hz1 hk1 hS1 => ?_)
  obtain ⟨hP1, hK1, hD1⟩ := hB
  rw [ht1] at hP1
  subst hw1
  obtain ⟨j1, j2⟩ := fr_join hP hD hP1 hk1 hfst
  exact h p l e s m args below meth c D A H1 locs1 ls hx hb hr hm ho ht hk hX hK hA j1 j2 hS1 hl
theorem V_callX0 {q : Nat} {idx n' dc : Nat} {y : MethodName} {wsy : List Cond} {C : String} {b ci : Nat} {fs : List Value} {qq : vw_C} {As rest st0 : List Value} {r : Int32} {E : String} {hh : List (Nat × Nat × Nat × Nat)} (d : decode cc pc = .ok (.invokevirtual idx, 3)) (hM : CtX y wsy (rmX dc) tys0 (.ref b :: As) w E r w') (hE : E = "") (hY : YV y wsy n') (hn : As.length = n') (hG : GoodIn Ts (wsV own idx C y wsy)) (hC : y.cls = C) (q0 : Nat) (he : w[q0]? = some (b, .inr (ci, fs))) (hc : vwCl[ci]? = some qq) (hC2 : qq.1 = C) (hst : st0 = As.reverse ++ .ref b :: rest) (hrest : (rest.map fun v => v.category).sum ≤ 8) (hR : 9 ≤ R.frames ∧ 360 ≤ R.locals ∧ k + 1 ≤ R.cells ∧ n + 6 ≤ R.slots) (hws : ws = w1 ++ (w ++ w2)) (hws' : w1 ++ (w' ++ w2) = ws') (hfst : w'.map Prod.fst = w.map Prod.fst) (htys : ∀ z ∈ tys0, z ∈ tys)
    (h : V own cc nL ret Ts R (vXW hh) tys Q (k + 1) (n + 6) ws' q lv (.int r :: rest)) (hq : pc + 3 = q := by rfl) : V own cc nL ret Ts R (vXW hh) tys Q k n ws pc lv st0 := by
  subst hq hst hws hws'
  intro p l e s m args below meth c D A H locs ls hx hb hr hm ho ht hk hX hK hA hP hD hS hl
  have hFc : ∀ z, va_A w H.size z → A z := fun z hz => hz.elim (fun ⟨j, e, he⟩ => hD.2 _ _ (mid_get he)) (fun h => hA z (Nat.le_trans hS.1 h))
  obtain ⟨bytes, maxL, rt, wy', hw, hd1, hmL⟩ := hY
  have hR2 : (rmX dc).frames + 1 ≤ R.frames ∧ 8 + (maxL + 11) + (rmX dc).locals ≤ R.locals := ⟨hR.1, by have h1 := hR.2.1; show 8 + (maxL + 11) + 320 ≤ R.locals; omega⟩
  refine vx_calli (vx_runV (As := As) (rest := rest) ⟨hx, hb, hm, ho, ht⟩ (hM l D H.size hX.1) (cwV n' ht hG hw rfl rfl ⟨hC, hd1⟩ hR2) ⟨pX_blind _ _ _ _ _, by rw [← hC2]; exact va_recv (fr_K hK htys) (fr_P hP) hc he, fun U hU hW => ⟨rfl, ⟨by rw [hU], by rw [hU]; exact fr_P hP, va_K.moved hW.alike (fr_K hK htys), (fr_D hD).weaken (fun _ _ _ _ => trivial)⟩, pT_to hX.2.2.1 hS hU hW hFc⟩⟩ rfl hn hl.1 rfl (lv_room hrest) d ⟨hR.2.2.1, hR.2.2.2⟩) hS (fun z _ h => hFc z h) hFc (fun z _ h => hFc z h) (fun E' ce q9 u t H1 locs1 ht1 hvm hpx hB hz1 hk1 hS1 hce hcv hcl => ?_) (fun r' u t H1 locs1 ht1 hvm hw1 hB hz1 hk1 hS1 => ?_)
  · exact absurd hE hB.2.1
  · obtain ⟨hP1, hK1, hD1⟩ := hB
    rw [ht1] at hP1
    obtain ⟨-, hw1⟩ := hw1
    subst hw1
    obtain ⟨j1, j2⟩ := fr_join hP hD hP1 hk1 hfst
    exact h p l e s m args below meth c D A H1 locs1 ls hx hb hr hm ho ht hk hX hK hA j1 j2 hS1 hl
theorem V_callX1 {q : Nat} {idx n' dc : Nat} {y : MethodName} {wsy : List Cond} {C : String} {b ci : Nat} {fs : List Value} {qq : vw_C} {As rest st0 : List Value} {r : Int32} {E : String} {hh : List (Nat × Nat × Nat × Nat)} (d : decode cc pc = .ok (.invokevirtual idx, 3)) (hM : CtX y wsy (rmX dc) tys0 (.ref b :: As) w E r w') (hE : E ≠ "") (hY : YV y wsy n') (hn : As.length = n') (hG : GoodIn Ts (wsV own idx C y wsy)) (hC : y.cls = C) (q0 : Nat) (he : w[q0]? = some (b, .inr (ci, fs))) (hc : vwCl[ci]? = some qq) (hC2 : qq.1 = C) (hst : st0 = As.reverse ++ .ref b :: rest) (hrest : (rest.map fun v => v.category).sum ≤ 8) (hR : 9 ≤ R.frames ∧ 360 ≤ R.locals ∧ k + 1 ≤ R.cells ∧ n + 6 ≤ R.slots) (hws : ws = w1 ++ (w ++ w2)) (htys : ∀ z ∈ tys0, z ∈ tys)
    (pre : List ExceptionTableEntry) (x : ExceptionTableEntry) (suf : List ExceptionTableEntry) (hsplit : tableOf hh = pre ++ x :: suf) (hpass : ∀ z ∈ pre, z.catchType ≠ 0 ∧ ∃ nm : String, Cond.classLink own z.catchType nm ∈ Ts ∧ (E, nm) ∈ xncs) (hcov : covers x pc = true) (hct : x.catchType ≠ 0) (hlk : Cond.classLink own x.catchType E ∈ Ts) (hca : Cond.castable E E ∈ xnw) (h : ∀ q9 : Nat, V own cc nL ret Ts R (vXW hh) tys Q (k + 1) (n + 6) ws x.handlerPc lv [.ref q9]) : V own cc nL ret Ts R (vXW hh) tys Q k n ws pc lv st0 := by
  subst hst hws
  intro p l e s m args below meth c D A H locs ls hx hb hr hm ho ht hk hX hK hA hP hD hS hl
  have hFc : ∀ z, va_A w H.size z → A z := fun z hz => hz.elim (fun ⟨j, e, he⟩ => hD.2 _ _ (mid_get he)) (fun h => hA z (Nat.le_trans hS.1 h))
  obtain ⟨bytes, maxL, rt, wy', hw, hd1, hmL⟩ := hY
  have hR2 : (rmX dc).frames + 1 ≤ R.frames ∧ 8 + (maxL + 11) + (rmX dc).locals ≤ R.locals := ⟨hR.1, by have h1 := hR.2.1; show 8 + (maxL + 11) + 320 ≤ R.locals; omega⟩
  refine vx_calli (vx_runV (As := As) (rest := rest) ⟨hx, hb, hm, ho, ht⟩ (hM l D H.size hX.1) (cwV n' ht hG hw rfl rfl ⟨hC, hd1⟩ hR2) ⟨pX_blind _ _ _ _ _, by rw [← hC2]; exact va_recv (fr_K hK htys) (fr_P hP) hc he, fun U hU hW => ⟨rfl, ⟨by rw [hU], by rw [hU]; exact fr_P hP, va_K.moved hW.alike (fr_K hK htys), (fr_D hD).weaken (fun _ _ _ _ => trivial)⟩, pT_to hX.2.2.1 hS hU hW hFc⟩⟩ rfl hn hl.1 rfl (lv_room hrest) d ⟨hR.2.2.1, hR.2.2.2⟩) hS (fun z _ h => hFc z h) hFc (fun z _ h => hFc z h) (fun E' ce q9 u t H1 locs1 ht1 hvm hpx hB hz1 hk1 hS1 hce hcv hcl => ?_) (fun r' u t H1 locs1 ht1 hvm hw1 hB hz1 hk1 hS1 => ?_)
  · obtain ⟨hE9, -, hlb, hP1, hK1, hD1⟩ := hB
    rw [ht1] at hP1
    subst hE9
    obtain ⟨j1, j2⟩ := fr_join hP hD hP1 hk1 rfl
    refine vx_catch (name := E') ho pre x suf (hX.2.1.trans hsplit) (fun z hz => ?_) hcov hct (ht _ hlk) (va_Nw.use (xnw_tab _ hca) (hX.2.2.1.2.2.2 _ hca)) hce hcv hcl ?_
    · obtain ⟨z1, nm, z2, z3⟩ := hpass z hz
      exact Or.inr ⟨z1, nm, ht _ z2, hX.2.2.2 _ z3⟩
    · exact h q9 p l e s m args below meth c D A H1 locs1 ls hx hb hr hm ho ht hk hX hK hA j1 j2 hS1 hl
  · exact absurd hw1.1 hE
def vXL (b L : Nat) (xs : Nat → Int32) : VX := fun l _ c A args s => l.stackTraces = false ∧ pT A s ∧ pN s ∧ args = #[Value.ref b] ∧ va_X b L xs s s.heap ∧ b < s.heap.size ∧ ¬ A b ∧ ∀ q, A q → s.heap.size ≤ q
def YW (y : MethodName) (wsy : List Cond) (n : Nat) : Prop := ∃ (bytes : ByteArray) (maxL : Nat) (rt : Option FieldType) (hh : List (Nat × Nat × Nat × Nat)) (ws' : List Cond), wsy = Cond.codeWith y bytes maxL rt hh :: ws' ∧ (y.cls ≠ "java/lang/invoke/MethodHandle" ∧ y.cls ≠ "java/lang/invoke/VarHandle" ∧ (parseMethodDescriptor y.desc).map (fun d => d.parameters.length) = some n) ∧ maxL ≤ 21
theorem V_callWs {q idx n' : Nat} {y : MethodName} {wsy : List Cond} {As rest st0 : List Value} {r : Int32} {b L : Nat} {xs : Nat → Int32} (d : decode cc pc = .ok (.invokestatic idx, 3)) (hM : CtW y wsy tys0 As w r w') (hY : YW y wsy n') (hn : As.length = n') (hG : GoodIn Ts (va_wsS own idx y wsy)) (hst : st0 = As.reverse ++ rest) (hrest : (rest.map fun v => v.category).sum ≤ 8) (hR : 10 ≤ R.frames ∧ 400 ≤ R.locals) (hRc : k + 1 ≤ R.cells ∧ n + 6 ≤ R.slots) (hws : ws = w1 ++ (w ++ w2)) (hws' : w1 ++ (w' ++ w2) = ws') (hfst : w'.map Prod.fst = w.map Prod.fst) (htys : ∀ z ∈ tys0, z ∈ tys)
    (h : V own cc nL ret Ts R (vXL b L xs) tys Q (k + 1) (n + 6) ws' q lv (.int r :: rest)) (hq : pc + 3 = q := by rfl) : V own cc nL ret Ts R (vXL b L xs) tys Q k n ws pc lv st0 := by
  subst hq hst hws hws'
  intro p l e s m args below meth c D A H locs ls hx hb hr hm ho ht hk hX hK hA hP hD hS hl
  have hFc : ∀ z, va_A w H.size z → A z := fun z hz => hz.elim (fun ⟨j, e, he⟩ => hD.2 _ _ (mid_get he)) (fun h => hA z (Nat.le_trans hS.1 h))
  obtain ⟨bytes, maxL, rt, hh, wy', hw, hd1, hmL⟩ := hY
  have hR2 : rmW.frames + 1 ≤ R.frames ∧ 8 + (maxL + 11) + rmW.locals ≤ R.locals := ⟨hR.1, by have h1 := hR.2; show 8 + (maxL + 11) + 360 ≤ R.locals; omega⟩
  refine va_calli (vx_runSW (As := As) (rest := rest) ⟨hx, hb, hm, ho, ht⟩ (hM l D H.size hX.1) (vx_cwSW n' ht hG hw rfl rfl hd1 hR2) ⟨pW_blind _ _ _ _ _, fun U hU hW => ⟨rfl, ⟨by rw [hU], by rw [hU]; exact fr_P hP, va_K.moved hW.alike (fr_K hK htys), (fr_D hD).weaken (fun _ _ _ _ => trivial)⟩, pT_to hX.2.1 hS hU hW hFc, pN_moved hW.alike hX.2.2.1⟩⟩ rfl hn hl.1 rfl (lv_room hrest) d ⟨hRc.1, hRc.2⟩) hS (fun z _ h => hFc z h) hFc (fun r' u t H1 locs1 ht1 hvm hw1 hB hz1 hk1 hS1 => ?_)
  obtain ⟨hP1, hK1, hD1⟩ := hB
  rw [ht1] at hP1
  subst hw1
  obtain ⟨j1, j2⟩ := fr_join hP hD hP1 hk1 hfst
  exact h p l e s m args below meth c D A H1 locs1 ls hx hb hr hm ho ht hk hX hK hA j1 j2 hS1 hl
theorem V_sld {q b L : Nat} {xs : Nat → Int32} {z : Int} (d : decode cc pc = .ok (.iaload, 1)) (j : Nat) (hz : z = (j : Int)) (hj : j < L) (hL : L < 2147483648) (hq : pc + 1 = q) (h : V own cc nL ret Ts R (vXL b L xs) tys Q k n ws q lv (.int (xs j) :: st)) : V own cc nL ret Ts R (vXL b L xs) tys Q k n ws pc lv (.int (iZ z) :: .ref b :: st) := by
  subst hq
  intro p l e s m args below meth c D A H locs ls hx hb hr hm ho ht hk hX hK hA hP hD hS hl
  obtain ⟨g1, g2⟩ := iZ_in hz hj hL
  have h2 := h p l e s m args below meth c D A H locs ls hx hb hr hm ho ht hk hX hK hA hP hD hS hl
  rw [← g2] at h2
  obtain ⟨-, -, -, -, x1, x2, x3, -⟩ := hX
  exact va_sld hx hb x1 x2 x3 hS g1 d h2
theorem V_slen {q b L : Nat} {xs : Nat → Int32} (d : decode cc pc = .ok (.arraylength, 1)) (hq : pc + 1 = q) (h : V own cc nL ret Ts R (vXL b L xs) tys Q k n ws q lv (.int (iZ (L : Int)) :: st)) : V own cc nL ret Ts R (vXL b L xs) tys Q k n ws pc lv (.ref b :: st) := by
  subst hq
  intro p l e s m args below meth c D A H locs ls hx hb hr hm ho ht hk hX hK hA hP hD hS hl
  have h2 := h p l e s m args below meth c D A H locs ls hx hb hr hm ho ht hk hX hK hA hP hD hS hl
  rw [iZ_nI] at h2
  obtain ⟨-, -, -, -, x1, x2, x3, -⟩ := hX
  exact va_slen hx hb x1 x2 x3 hS d h2
theorem V_tabIn {dflt lo hi : Int} {offs : Array Int} {len : Nat} {x : Int} {off : Int} {tgt : Nat} (d : decode cc pc = .ok (.tableswitch dflt lo hi offs, len)) (hx0 : -2147483648 ≤ x ∧ x < 2147483648) (h1 : ¬ x < lo) (h2 : ¬ hi < x) (ho' : offs[(x - lo).toNat]? = some off) (ht' : (pc : Int) + off = (tgt : Int)) (h : V own cc nL ret Ts R X tys Q k n ws tgt lv st) : V own cc nL ret Ts R X tys Q k n ws pc lv (.int (iZ x) :: st) := by
  intro p l e s m args below meth c D A H locs ls hx hb hr hm ho ht hk hX hK hA hP hD hS hl
  have e1 := iZ_toInt hx0
  exact lv_tableIn hx hb d (by rw [e1]; exact h1) (by rw [e1]; exact h2) (by rw [e1]; exact ho') ht' (h p l e s m args below meth c D A H locs ls hx hb hr hm ho ht hk hX hK hA hP hD hS hl)
theorem V_tabOut {dflt lo hi : Int} {offs : Array Int} {len : Nat} {x : Int} {tgt : Nat} (d : decode cc pc = .ok (.tableswitch dflt lo hi offs, len)) (hx0 : -2147483648 ≤ x ∧ x < 2147483648) (h1 : x < lo ∨ hi < x) (ht' : (pc : Int) + dflt = (tgt : Int)) (h : V own cc nL ret Ts R X tys Q k n ws tgt lv st) : V own cc nL ret Ts R X tys Q k n ws pc lv (.int (iZ x) :: st) := by
  intro p l e s m args below meth c D A H locs ls hx hb hr hm ho ht hk hX hK hA hP hD hS hl
  have e1 := iZ_toInt hx0
  exact lv_tableOut hx hb d (by rw [e1]; exact h1) ht' (h p l e s m args below meth c D A H locs ls hx hb hr hm ho ht hk hX hK hA hP hD hS hl)
end VF
