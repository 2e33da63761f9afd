/-! contracts in a standard form: from the world w with the arguments args the method answers r, and the world is w' -/
def wB (tys : List (ClassId × FieldType)) (w' : va_W) (D : va_G) (A : Nat → Prop) (t : State) : Prop := va_P D vwCl w' t.heap ∧ va_K D vwCl tys t ∧ va_D A w'
def pB (tys : List (ClassId × FieldType)) (w : va_W) (D : va_G) (sz : Nat) (U : State) : Prop := U.heap.size = sz ∧ va_P D vwCl w U.heap ∧ va_K D vwCl tys U ∧ va_D (fun _ => True) w
theorem pB_blind (tys : List (ClassId × FieldType)) (w : va_W) (D : va_G) (sz : Nat) (args : List Value) : FrameBlind (va_Pc args (pB tys w D sz)) := fun a U g mk q => ⟨q.1, q.2.1, q.2.2.1, va_K.moved (u := U) (U := U.calling g mk a) (Vm.Alike.refl U.vm) q.2.2.2.1, q.2.2.2.2⟩
/-- what the caller needs of the callee's name and code -/
def YV (y : MethodName) (wsy : List Cond) (n : Nat) : Prop := ∃ (bytes : ByteArray) (maxL : Nat) (rt : Option FieldType) (ws' : List Cond), wsy = Cond.code y bytes maxL rt :: ws' ∧ (y.cls ≠ "java/lang/invoke/MethodHandle" ∧ y.cls ≠ "java/lang/invoke/VarHandle" ∧ (parseMethodDescriptor y.desc).map (fun d => d.parameters.length) = some n) ∧ maxL ≤ 21
def qI (tys : List (ClassId × FieldType)) (w' : va_W) (r : Int32) (k n : Nat) : VQ := fun D A args s below => MQ below (va_Qi (fun (x : Int32) (_ : Unit) => x = r) (fun _ t => wB tys w' D A t) A) args s k n A
def CtI (y : MethodName) (ws : List Cond) (rm : Room) (tys : List (ClassId × FieldType)) (args : List Value) (w : va_W) (r : Int32) (w' : va_W) : Prop := ∀ (l : Launch) (D : va_G) (sz : Nat), Met l y ws rm (va_Pc args (pB tys w D sz)) (va_Qi (fun (x : Int32) (_ : Unit) => x = r) (fun _ t => wB tys w' D (va_A w sz) t) (va_A w sz)) 0 0 (va_A w sz)
theorem CtI_of {own : String} {y : MethodName} {ws ws' : List Cond} {rm : Room} {cc : ByteArray} {maxL : Nat} {ret : Option FieldType} {tys : List (ClassId × FieldType)} {args : List Value} {w w' : va_W} {r : Int32} (hy : plainName y.cls = true) (hyo : y.cls = own) (hw : ws = Cond.code y cc maxL ret :: ws') (hlen : (lg_sl args).length ≤ maxL)
    (h : V own cc maxL ret ws rm vX0 tys (qI tys w' r 0 0) 0 0 w 0 (lv_args 0 args) []) : CtI y ws rm tys args w r w' := by
  intro l D sz
  refine Met.ofW (cc := cc) (maxL := maxL) (ret := ret) hy hw ?_
  intro p e s m a below meth c s₁ B hml hv
  obtain ⟨rfl, hsz, hP, hK, hD0⟩ := hv
  have hown : s.vm.findClass own = some m.cls := by rw [← hyo]; exact findClass_of_methodNamed B.named
  subst hsz
  have hl := lv_entry args (n := maxL) hlen
  rw [lg_entry_eq]
  exact h p l e s m args.toArray below meth c D (va_A w s.heap.size) s.heap [] _ B.exec B.bytes B.returns hml hown (atoms_spec (ws := ws) B.pre) B.notSynchronized trivial hK (fun q h => Or.inr h) hP hD0.self va_S.rf hl
def qL (tys : List (ClassId × FieldType)) (w' : va_W) (r : Int64) (k n : Nat) : VQ := fun D A args s below => MQ below (va_Ql (fun (x : Int64) (_ : Unit) => x = r) (fun _ t => wB tys w' D A t) A) args s k n A
def CtL (y : MethodName) (ws : List Cond) (rm : Room) (tys : List (ClassId × FieldType)) (args : List Value) (w : va_W) (r : Int64) (w' : va_W) : Prop := ∀ (l : Launch) (D : va_G) (sz : Nat), Met l y ws rm (va_Pc args (pB tys w D sz)) (va_Ql (fun (x : Int64) (_ : Unit) => x = r) (fun _ t => wB tys w' D (va_A w sz) t) (va_A w sz)) 0 0 (va_A w sz)
theorem CtL_of {own : String} {y : MethodName} {ws ws' : List Cond} {rm : Room} {cc : ByteArray} {maxL : Nat} {ret : Option FieldType} {tys : List (ClassId × FieldType)} {args : List Value} {w w' : va_W} {r : Int64} (hy : plainName y.cls = true) (hyo : y.cls = own) (hw : ws = Cond.code y cc maxL ret :: ws') (hlen : (lg_sl args).length ≤ maxL)
    (h : V own cc maxL ret ws rm vX0 tys (qL tys w' r 0 0) 0 0 w 0 (lv_args 0 args) []) : CtL y ws rm tys args w r w' := by
  intro l D sz
  refine Met.ofW (cc := cc) (maxL := maxL) (ret := ret) hy hw ?_
  intro p e s m a below meth c s₁ B hml hv
  obtain ⟨rfl, hsz, hP, hK, hD0⟩ := hv
  have hown : s.vm.findClass own = some m.cls := by rw [← hyo]; exact findClass_of_methodNamed B.named
  subst hsz
  have hl := lv_entry args (n := maxL) hlen
  rw [lg_entry_eq]
  exact h p l e s m args.toArray below meth c D (va_A w s.heap.size) s.heap [] _ B.exec B.bytes B.returns hml hown (atoms_spec (ws := ws) B.pre) B.notSynchronized trivial hK (fun q h => Or.inr h) hP hD0.self va_S.rf hl
def qV (tys : List (ClassId × FieldType)) (w' : va_W) (k n : Nat) : VQ := fun D A args s below => MQ below (va_Qv (fun (_ : Unit) => True) (fun _ t => wB tys w' D A t) A) args s k n A
def CtV (y : MethodName) (ws : List Cond) (rm : Room) (tys : List (ClassId × FieldType)) (args : List Value) (w : va_W) (w' : va_W) : Prop := ∀ (l : Launch) (D : va_G) (sz : Nat), Met l y ws rm (va_Pc args (pB tys w D sz)) (va_Qv (fun (_ : Unit) => True) (fun _ t => wB tys w' D (va_A w sz) t) (va_A w sz)) 0 0 (va_A w sz)
theorem CtV_of {own : String} {y : MethodName} {ws ws' : List Cond} {rm : Room} {cc : ByteArray} {maxL : Nat} {ret : Option FieldType} {tys : List (ClassId × FieldType)} {args : List Value} {w w' : va_W} (hy : plainName y.cls = true) (hyo : y.cls = own) (hw : ws = Cond.code y cc maxL ret :: ws') (hlen : (lg_sl args).length ≤ maxL)
    (h : V own cc maxL ret ws rm vX0 tys (qV tys w' 0 0) 0 0 w 0 (lv_args 0 args) []) : CtV y ws rm tys args w w' := by
  intro l D sz
  refine Met.ofW (cc := cc) (maxL := maxL) (ret := ret) hy hw ?_
  intro p e s m a below meth c s₁ B hml hv
  obtain ⟨rfl, hsz, hP, hK, hD0⟩ := hv
  have hown : s.vm.findClass own = some m.cls := by rw [← hyo]; exact findClass_of_methodNamed B.named
  subst hsz
  have hl := lv_entry args (n := maxL) hlen
  rw [lg_entry_eq]
  exact h p l e s m args.toArray below meth c D (va_A w s.heap.size) s.heap [] _ B.exec B.bytes B.returns hml hown (atoms_spec (ws := ws) B.pre) B.notSynchronized trivial hK (fun q h => Or.inr h) hP hD0.self va_S.rf hl
section VC
variable {own : String} {cc : ByteArray} {nL : Nat} {ret : Option FieldType} {Ts : List Cond} {R : Room} {X : VX} {tys : List (ClassId × FieldType)} {Q : VQ} {k n : Nat} {ws w' : va_W} {pc : Nat} {lv : List (Nat × Value)} {st : List Value}
theorem V_iret {x r : Int32} (d : decode cc pc = .ok (.ireturn, 1)) (hret : ret = some .int) (e0 : x = r) (hw : ws = w') : V own cc nL ret Ts R X tys (qI tys w' r k n) k n ws pc lv [.int x] := by
  subst e0 hw
  intro p l e s m args below meth c D A H locs ls hx hb hr hm ho ht hk hX hK hA hP hD hS hl
  exact W.iret hx hb (hr.trans hret) (fun t ht hW => ⟨⟨x, (), rfl, rfl, by rw [ht]; exact hP, va_K.moved hW.alike hK, hD⟩, hS.F ht⟩) hS.2.2 d
theorem V_zret {x : Int32} {b : Bool} (d : decode cc pc = .ok (.ireturn, 1)) (hret : ret = some .boolean) (e0 : x = iZ (bZ b)) (hw : ws = w') : V own cc nL ret Ts R X tys (qI tys w' (iZ (bZ b)) k n) k n ws pc lv [.int x] := by
  subst e0 hw
  intro p l e s m args below meth c D A H locs ls hx hb hr hm ho ht hk hX hK hA hP hD hS hl
  exact W.zret hx hb (hr.trans hret) (by cases b <;> rfl) (fun t ht hW => ⟨⟨_, (), rfl, rfl, by rw [ht]; exact hP, va_K.moved hW.alike hK, hD⟩, hS.F ht⟩) hS.2.2 d
theorem V_lret {x r : Int64} (d : decode cc pc = .ok (.lreturn, 1)) (hret : ret = some .long) (e0 : x = r) (hw : ws = w') : V own cc nL ret Ts R X tys (qL tys w' r k n) k n ws pc lv [.long x] := by
  subst e0 hw
  intro p l e s m args below meth c D A H locs ls hx hb hr hm ho ht hk hX hK hA hP hD hS hl
  exact W.lret hx hb (hr.trans hret) (fun t ht hW => ⟨⟨x, (), rfl, rfl, by rw [ht]; exact hP, va_K.moved hW.alike hK, hD⟩, hS.F ht⟩) hS.2.2 d
theorem V_vret (d : decode cc pc = .ok (.return_, 1)) (hret : ret = none) (hw : ws = w') : V own cc nL ret Ts R X tys (qV tys w' k n) k n ws pc lv [] := by
  subst hw
  intro p l e s m args below meth c D A H locs ls hx hb hr hm ho ht hk hX hK hA hP hD hS hl
  exact W.vret hx hb (hr.trans hret) (fun t ht hW => ⟨⟨(), rfl, trivial, by rw [ht]; exact hP, va_K.moved hW.alike hK, hD⟩, hS.F ht⟩) hS.2.2 d
theorem V_callIv {q idx n' dc : Nat} {y : MethodName} {wsy : List Cond} {C : String} {b ci : Nat} {fs : List Value} {qq : vw_C} {As rest st0 : List Value} {r : Int32} (d : decode cc pc = .ok (.invokevirtual idx, 3)) (hM : CtI y wsy (rmD dc) tys (.ref b :: As) ws r w') (hY : YV y wsy n') (hn : As.length = n') (hG : GoodIn Ts (wsV own idx C y wsy)) (hC : y.cls = C) (q0 : Nat) (he : ws[q0]? = some (b, .inr (ci, fs))) (hc : vwCl[ci]? = some qq) (hC2 : qq.1 = C) (hst : st0 = As.reverse ++ .ref b :: rest) (hrest : (rest.map fun v => v.category).sum ≤ 8) (hR : dc + 1 ≤ R.frames ∧ 40 * dc + 40 ≤ R.locals ∧ k ≤ R.cells ∧ n ≤ R.slots)
    (h : V own cc nL ret Ts R X tys Q k n w' q lv (.int r :: rest)) (hq : pc + 3 = q := by rfl) : V own cc nL ret Ts R X tys Q k n ws pc lv st0 := by
  subst hq
  subst hst
  intro p l e s m args below meth c D A H locs ls hx hb hr hm ho ht hk hX hK hA hP hD hS hl
  have hFc : ∀ z, va_A ws H.size z → A z := fun z hz => hz.elim (fun ⟨j, e, he⟩ => hD.2 j _ he) (fun h => hA z (Nat.le_trans hS.1 h))
  obtain ⟨bytes, maxL, rt, wy', hw, hd1, hmL⟩ := hY
  have hR2 : (rmD dc).frames + 1 ≤ R.frames ∧ 8 + (maxL + 11) + (rmD dc).locals ≤ R.locals := ⟨hR.1, by have h1 := hR.2.1; show 8 + (maxL + 11) + 40 * dc ≤ R.locals; omega⟩
  refine va_calli (va_runV (As := As) (rest := rest) ⟨hx, hb, hm, ho, ht⟩ (hM l D H.size) (cwV n' ht hG hw rfl rfl ⟨hC, hd1⟩ hR2) ⟨pB_blind _ _ _ _ _, by rw [← hC2]; exact va_recv hK hP hc he, fun U hU hW => ⟨rfl, by rw [hU], by rw [hU]; exact hP, va_K.moved hW.alike hK, hD.weaken (fun _ _ _ _ => trivial)⟩⟩ rfl hn hl.1 rfl (lv_room hrest) d ⟨hR.2.2.1, hR.2.2.2⟩) hS (fun z _ h => hFc z h) hFc (fun r' u t H1 locs1 ht1 hvm hw1 hB hz1 hk1 hS1 => ?_)
  obtain ⟨hP1, hK1, hD1⟩ := hB
  rw [ht1] at hP1
  subst hw1
  exact h p l e s m args below meth c D A H1 locs1 ls hx hb hr hm ho ht hk hX hK hA hP1 (hD1.weaken (fun _ z _ hz => hFc z.1 hz)) hS1 hl
theorem V_callIs {q idx n' dc : Nat} {y : MethodName} {wsy : List Cond} {As rest st0 : List Value} {r : Int32} (d : decode cc pc = .ok (.invokestatic idx, 3)) (hM : CtI y wsy (rmD dc) tys As ws r w') (hY : YV y wsy n') (hn : As.length = n') (hG : GoodIn Ts (va_wsS own idx y wsy)) (hst : st0 = As.reverse ++ rest) (hrest : (rest.map fun v => v.category).sum ≤ 8) (hR : dc + 1 ≤ R.frames ∧ 40 * dc + 40 ≤ R.locals ∧ k ≤ R.cells ∧ n ≤ R.slots)
    (h : V own cc nL ret Ts R X tys Q k n w' q lv (.int r :: rest)) (hq : pc + 3 = q := by rfl) : V own cc nL ret Ts R X tys Q k n ws pc lv st0 := by
  subst hq
  subst hst
  intro p l e s m args below meth c D A H locs ls hx hb hr hm ho ht hk hX hK hA hP hD hS hl
  have hFc : ∀ z, va_A ws H.size z → A z := fun z hz => hz.elim (fun ⟨j, e, he⟩ => hD.2 j _ he) (fun h => hA z (Nat.le_trans hS.1 h))
  obtain ⟨bytes, maxL, rt, wy', hw, hd1, hmL⟩ := hY
  have hR2 : (rmD dc).frames + 1 ≤ R.frames ∧ 8 + (maxL + 11) + (rmD dc).locals ≤ R.locals := ⟨hR.1, by have h1 := hR.2.1; show 8 + (maxL + 11) + 40 * dc ≤ R.locals; omega⟩
  refine va_calli (va_runS (As := As) (rest := rest) ⟨hx, hb, hm, ho, ht⟩ (hM l D H.size) (va_cwS n' ht hG hw rfl rfl hd1 hR2) ⟨pB_blind _ _ _ _ _, fun U hU hW => ⟨rfl, by rw [hU], by rw [hU]; exact hP, va_K.moved hW.alike hK, hD.weaken (fun _ _ _ _ => trivial)⟩⟩ rfl hn hl.1 rfl (lv_room hrest) d ⟨hR.2.2.1, hR.2.2.2⟩) hS (fun z _ h => hFc z h) hFc (fun r' u t H1 locs1 ht1 hvm hw1 hB hz1 hk1 hS1 => ?_)
  obtain ⟨hP1, hK1, hD1⟩ := hB
  rw [ht1] at hP1
  subst hw1
  exact h p l e s m args below meth c D A H1 locs1 ls hx hb hr hm ho ht hk hX hK hA hP1 (hD1.weaken (fun _ z _ hz => hFc z.1 hz)) hS1 hl
theorem V_callLv {q idx n' dc : Nat} {y : MethodName} {wsy : List Cond} {C : String} {b ci : Nat} {fs : List Value} {qq : vw_C} {As rest st0 : List Value} {r : Int64} (d : decode cc pc = .ok (.invokevirtual idx, 3)) (hM : CtL y wsy (rmD dc) tys (.ref b :: As) ws r w') (hY : YV y wsy n') (hn : As.length = n') (hG : GoodIn Ts (wsV own idx C y wsy)) (hC : y.cls = C) (q0 : Nat) (he : ws[q0]? = some (b, .inr (ci, fs))) (hc : vwCl[ci]? = some qq) (hC2 : qq.1 = C) (hst : st0 = As.reverse ++ .ref b :: rest) (hrest : (rest.map fun v => v.category).sum ≤ 8) (hR : dc + 1 ≤ R.frames ∧ 40 * dc + 40 ≤ R.locals ∧ k ≤ R.cells ∧ n ≤ R.slots)
    (h : V own cc nL ret Ts R X tys Q k n w' q lv (.long r :: rest)) (hq : pc + 3 = q := by rfl) : V own cc nL ret Ts R X tys Q k n ws pc lv st0 := by
  subst hq
  subst hst
  intro p l e s m args below meth c D A H locs ls hx hb hr hm ho ht hk hX hK hA hP hD hS hl
  have hFc : ∀ z, va_A ws H.size z → A z := fun z hz => hz.elim (fun ⟨j, e, he⟩ => hD.2 j _ he) (fun h => hA z (Nat.le_trans hS.1 h))
  obtain ⟨bytes, maxL, rt, wy', hw, hd1, hmL⟩ := hY
  have hR2 : (rmD dc).frames + 1 ≤ R.frames ∧ 8 + (maxL + 11) + (rmD dc).locals ≤ R.locals := ⟨hR.1, by have h1 := hR.2.1; show 8 + (maxL + 11) + 40 * dc ≤ R.locals; omega⟩
  refine va_calll (va_runV (As := As) (rest := rest) ⟨hx, hb, hm, ho, ht⟩ (hM l D H.size) (cwV n' ht hG hw rfl rfl ⟨hC, hd1⟩ hR2) ⟨pB_blind _ _ _ _ _, by rw [← hC2]; exact va_recv hK hP hc he, fun U hU hW => ⟨rfl, by rw [hU], by rw [hU]; exact hP, va_K.moved hW.alike hK, hD.weaken (fun _ _ _ _ => trivial)⟩⟩ rfl hn hl.1 rfl (lv_room hrest) d ⟨hR.2.2.1, hR.2.2.2⟩) hS (fun z _ h => hFc z h) hFc (fun r' u t H1 locs1 ht1 hvm hw1 hB hz1 hk1 hS1 => ?_)
  obtain ⟨hP1, hK1, hD1⟩ := hB
  rw [ht1] at hP1
  subst hw1
  exact h p l e s m args below meth c D A H1 locs1 ls hx hb hr hm ho ht hk hX hK hA hP1 (hD1.weaken (fun _ z _ hz => hFc z.1 hz)) hS1 hl
theorem V_callLs {q idx n' dc : Nat} {y : MethodName} {wsy : List Cond} {As rest st0 : List Value} {r : Int64} (d : decode cc pc = .ok (.invokestatic idx, 3)) (hM : CtL y wsy (rmD dc) tys As ws r w') (hY : YV y wsy n') (hn : As.length = n') (hG : GoodIn Ts (va_wsS own idx y wsy)) (hst : st0 = As.reverse ++ rest) (hrest : (rest.map fun v => v.category).sum ≤ 8) (hR : dc + 1 ≤ R.frames ∧ 40 * dc + 40 ≤ R.locals ∧ k ≤ R.cells ∧ n ≤ R.slots)
    (h : V own cc nL ret Ts R X tys Q k n w' q lv (.long r :: rest)) (hq : pc + 3 = q := by rfl) : V own cc nL ret Ts R X tys Q k n ws pc lv st0 := by
  subst hq
  subst hst
  intro p l e s m args below meth c D A H locs ls hx hb hr hm ho ht hk hX hK hA hP hD hS hl
  have hFc : ∀ z, va_A ws H.size z → A z := fun z hz => hz.elim (fun ⟨j, e, he⟩ => hD.2 j _ he) (fun h => hA z (Nat.le_trans hS.1 h))
  obtain ⟨bytes, maxL, rt, wy', hw, hd1, hmL⟩ := hY
  have hR2 : (rmD dc).frames + 1 ≤ R.frames ∧ 8 + (maxL + 11) + (rmD dc).locals ≤ R.locals := ⟨hR.1, by have h1 := hR.2.1; show 8 + (maxL + 11) + 40 * dc ≤ R.locals; omega⟩
  refine va_calll (va_runS (As := As) (rest := rest) ⟨hx, hb, hm, ho, ht⟩ (hM l D H.size) (va_cwS n' ht hG hw rfl rfl hd1 hR2) ⟨pB_blind _ _ _ _ _, fun U hU hW => ⟨rfl, by rw [hU], by rw [hU]; exact hP, va_K.moved hW.alike hK, hD.weaken (fun _ _ _ _ => trivial)⟩⟩ rfl hn hl.1 rfl (lv_room hrest) d ⟨hR.2.2.1, hR.2.2.2⟩) hS (fun z _ h => hFc z h) hFc (fun r' u t H1 locs1 ht1 hvm hw1 hB hz1 hk1 hS1 => ?_)
  obtain ⟨hP1, hK1, hD1⟩ := hB
  rw [ht1] at hP1
  subst hw1
  exact h p l e s m args below meth c D A H1 locs1 ls hx hb hr hm ho ht hk hX hK hA hP1 (hD1.weaken (fun _ z _ hz => hFc z.1 hz)) hS1 hl
theorem V_callVv {q idx n' dc : Nat} {y : MethodName} {wsy : List Cond} {C : String} {b ci : Nat} {fs : List Value} {qq : vw_C} {As rest st0 : List Value} (d : decode cc pc = .ok (.invokevirtual idx, 3)) (hM : CtV y wsy (rmD dc) tys (.ref b :: As) ws w') (hY : YV y wsy n') (hn : As.length = n') (hG : GoodIn Ts (wsV own idx C y wsy)) (hC : y.cls = C) (q0 : Nat) (he : ws[q0]? = some (b, .inr (ci, fs))) (hc : vwCl[ci]? = some qq) (hC2 : qq.1 = C) (hst : st0 = As.reverse ++ .ref b :: rest) (hrest : (rest.map fun v => v.category).sum ≤ 8) (hR : dc + 1 ≤ R.frames ∧ 40 * dc + 40 ≤ R.locals ∧ k ≤ R.cells ∧ n ≤ R.slots)
    (h : V own cc nL ret Ts R X tys Q k n w' q lv rest) (hq : pc + 3 = q := by rfl) : V own cc nL ret Ts R X tys Q k n ws pc lv st0 := by
  subst hq
  subst hst
  intro p l e s m args below meth c D A H locs ls hx hb hr hm ho ht hk hX hK hA hP hD hS hl
  have hFc : ∀ z, va_A ws H.size z → A z := fun z hz => hz.elim (fun ⟨j, e, he⟩ => hD.2 j _ he) (fun h => hA z (Nat.le_trans hS.1 h))
  obtain ⟨bytes, maxL, rt, wy', hw, hd1, hmL⟩ := hY
  have hR2 : (rmD dc).frames + 1 ≤ R.frames ∧ 8 + (maxL + 11) + (rmD dc).locals ≤ R.locals := ⟨hR.1, by have h1 := hR.2.1; show 8 + (maxL + 11) + 40 * dc ≤ R.locals; omega⟩
  refine va_callv (va_runV (As := As) (rest := rest) ⟨hx, hb, hm, ho, ht⟩ (hM l D H.size) (cwV n' ht hG hw rfl rfl ⟨hC, hd1⟩ hR2) ⟨pB_blind _ _ _ _ _, by rw [← hC2]; exact va_recv hK hP hc he, fun U hU hW => ⟨rfl, by rw [hU], by rw [hU]; exact hP, va_K.moved hW.alike hK, hD.weaken (fun _ _ _ _ => trivial)⟩⟩ rfl hn hl.1 rfl (lv_room hrest) d ⟨hR.2.2.1, hR.2.2.2⟩) hS (fun z _ h => hFc z h) hFc (fun u t H1 locs1 ht1 hvm hw1 hB hz1 hk1 hS1 => ?_)
  obtain ⟨hP1, hK1, hD1⟩ := hB
  rw [ht1] at hP1
  exact h p l e s m args below meth c D A H1 locs1 ls hx hb hr hm ho ht hk hX hK hA hP1 (hD1.weaken (fun _ z _ hz => hFc z.1 hz)) hS1 hl
theorem V_callVs {q idx n' dc : Nat} {y : MethodName} {wsy : List Cond} {As rest st0 : List Value} (d : decode cc pc = .ok (.invokestatic idx, 3)) (hM : CtV y wsy (rmD dc) tys As ws w') (hY : YV y wsy n') (hn : As.length = n') (hG : GoodIn Ts (va_wsS own idx y wsy)) (hst : st0 = As.reverse ++ rest) (hrest : (rest.map fun v => v.category).sum ≤ 8) (hR : dc + 1 ≤ R.frames ∧ 40 * dc + 40 ≤ R.locals ∧ k ≤ R.cells ∧ n ≤ R.slots)
    (h : V own cc nL ret Ts R X tys Q k n w' q lv rest) (hq : pc + 3 = q := by rfl) : V own cc nL ret Ts R X tys Q k n ws pc lv st0 := by
  subst hq
  subst hst
  intro p l e s m args below meth c D A H locs ls hx hb hr hm ho ht hk hX hK hA hP hD hS hl
  have hFc : ∀ z, va_A ws H.size z → A z := fun z hz => hz.elim (fun ⟨j, e, he⟩ => hD.2 j _ he) (fun h => hA z (Nat.le_trans hS.1 h))
  obtain ⟨bytes, maxL, rt, wy', hw, hd1, hmL⟩ := hY
  have hR2 : (rmD dc).frames + 1 ≤ R.frames ∧ 8 + (maxL + 11) + (rmD dc).locals ≤ R.locals := ⟨hR.1, by have h1 := hR.2.1; show 8 + (maxL + 11) + 40 * dc ≤ R.locals; omega⟩
  refine va_callv (va_runS (As := As) (rest := rest) ⟨hx, hb, hm, ho, ht⟩ (hM l D H.size) (va_cwS n' ht hG hw rfl rfl hd1 hR2) ⟨pB_blind _ _ _ _ _, fun U hU hW => ⟨rfl, by rw [hU], by rw [hU]; exact hP, va_K.moved hW.alike hK, hD.weaken (fun _ _ _ _ => trivial)⟩⟩ rfl hn hl.1 rfl (lv_room hrest) d ⟨hR.2.2.1, hR.2.2.2⟩) hS (fun z _ h => hFc z h) hFc (fun u t H1 locs1 ht1 hvm hw1 hB hz1 hk1 hS1 => ?_)
  obtain ⟨hP1, hK1, hD1⟩ := hB
  rw [ht1] at hP1
  exact h p l e s m args below meth c D A H1 locs1 ls hx hb hr hm ho ht hk hX hK hA hP1 (hD1.weaken (fun _ z _ hz => hFc z.1 hz)) hS1 hl
end VC
