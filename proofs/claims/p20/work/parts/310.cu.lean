/-! the law's world: the class's cells, the law's five rows; contracts that count what is made at the least -/
def wal (a : Nat → Nat) (c : Nat → ClassId) (S : St) (b : Nat → Nat) (d : Nat → ClassId) (F : Nat → Nat → Int32) (g : Nat → Nat) : va_W := wkc a c S g ++ [(b 0, .inl (d 0, 60, .inl (F 0))), (b 1, .inl (d 1, 12, .inl (F 1))), (b 2, .inl (d 2, 8, .inl (F 2))), (b 3, .inl (d 3, 4, .inl (F 3))), (b 4, .inl (d 4, 2, .inl (F 4)))]
def tyl (c d : Nat → ClassId) : List (ClassId × FieldType) := tyk c ++ [(d 0, .int), (d 1, .int), (d 2, .int), (d 3, .int), (d 4, .int)]
theorem tyl_in (c d : Nat → ClassId) : ∀ z ∈ tyk c, z ∈ tyl c d := fun _ h => List.mem_append_left _ h
def rmU (d kc : Nat) : Room := { frames := d, cells := kc, slots := 6 * kc, locals := 40 * d }
def vXU : VX := fun l _ _ A _ s => l.stackTraces = false ∧ pT A s ∧ pN s
def uQ (wf : (Nat → Nat) → va_W) (tys : List (ClassId × FieldType)) (P : Int32 → Prop) (δ : Int32 → Nat) (D : va_G) (A : Nat → Prop) (sz : Nat) : Array Value → State → Outcome → State → Prop := va_Qi (fun (x : Int32) (u : Int32 × (Nat → Nat)) => u.1 = x ∧ P x ∧ ∀ j, u.2 j < 4096) (fun u t => wB tys (wf u.2) D A t ∧ sz + δ u.1 ≤ t.heap.size) A
def qU (wf : (Nat → Nat) → va_W) (tys : List (ClassId × FieldType)) (P : Int32 → Prop) (δ : Int32 → Nat) (k n : Nat) : VQ := fun D A args s below => MQ below (uQ wf tys P δ D A s.heap.size) args s k n A
def uQL (wf : (Nat → Nat) → va_W) (tys : List (ClassId × FieldType)) (D : va_G) (A : Nat → Prop) : Array Value → State → Outcome → State → Prop := va_Ql (fun (_ : Int64) (u : Nat → Nat) => ∀ j, u j < 4096) (fun u t => wB tys (wf u) D A t) A
def qUL (wf : (Nat → Nat) → va_W) (tys : List (ClassId × FieldType)) (k n : Nat) : VQ := fun D A args s below => MQ below (uQL wf tys D A) args s k n A
def pU (tys : List (ClassId × FieldType)) (w : va_W) (D : va_G) (sz : Nat) (args : List Value) : Array Value → State → Prop := va_Pc args (fun U => pB tys w D sz U ∧ pT (va_A w sz) U ∧ pN U)
def CtU (y : MethodName) (ws : List Cond) (rm : Room) (tys : List (ClassId × FieldType)) (args : List Value) (w : va_W) (wf : (Nat → Nat) → va_W) (P : Int32 → Prop) (δ : Int32 → Nat) (kc : Nat) : Prop := ∀ (l : Launch) (D : va_G) (sz : Nat), l.stackTraces = false → Met l y ws rm (pU tys w D sz args) (uQ wf tys P δ D (va_A w sz) sz) kc (6 * kc) (va_A w sz)
def CtUL (y : MethodName) (ws : List Cond) (rm : Room) (tys : List (ClassId × FieldType)) (args : List Value) (w : va_W) (wf : (Nat → Nat) → va_W) (kc : Nat) : Prop := ∀ (l : Launch) (D : va_G) (sz : Nat), l.stackTraces = false → Met l y ws rm (pU tys w D sz args) (uQL wf tys D (va_A w sz)) kc (6 * kc) (va_A w sz)
theorem CtU_of {own : String} {y : MethodName} {ws ws' : List Cond} {rm : Room} {cc : ByteArray} {maxL : Nat} {ret : Option FieldType} {tys : List (ClassId × FieldType)} {args : List Value} {w : va_W} {wf : (Nat → Nat) → va_W} {P : Int32 → Prop} {δ : Int32 → Nat} {kc : Nat} (hy : plainName y.cls = true) (hyo : y.cls = own) (hw : ws = Cond.code y cc maxL ret :: ws') (hlen : (lg_sl args).length ≤ maxL)
    (h : VB 0 own cc maxL ret ws rm vXU tys (qU wf tys P δ kc (6 * kc)) 0 0 w 0 (lv_args 0 args) []) : CtU y ws rm tys args w wf P δ kc := by
  intro l D sz hlt
  refine Met.ofW (cc := cc) (maxL := maxL) (ret := ret) hy hw ?_
  intro p e s m a below meth c s₁ B hml hv
  obtain ⟨rfl, ⟨hsz, hP, hK, hD0⟩, hT, hN⟩ := hv
  have hown : s.vm.findClass own = some m.cls := by rw [← hyo]; exact findClass_of_methodNamed B.named
  subst hsz
  have hl := lv_entry args (n := maxL) hlen
  rw [lg_entry_eq]
  exact h p l e s m args.toArray below meth c D (va_A w s.heap.size) s.heap [] _ B.exec B.bytes B.returns hml hown (atoms_spec (ws := ws) B.pre) B.notSynchronized ⟨hlt, hT, hN⟩ hK (fun q h => Or.inr h) hP hD0.self va_S.rf hl (Nat.le_refl _)
theorem CtUW_of {own : String} {y : MethodName} {ws ws' : List Cond} {rm : Room} {cc : ByteArray} {maxL : Nat} {ret : Option FieldType} {hh : List (Nat × Nat × Nat × Nat)} {tys : List (ClassId × FieldType)} {args : List Value} {w : va_W} {wf : (Nat → Nat) → va_W} {P : Int32 → Prop} {δ : Int32 → Nat} {kc : Nat} (hy : plainName y.cls = true) (hyo : y.cls = own) (hw : ws = Cond.codeWith y cc maxL ret hh :: ws') (hlen : (lg_sl args).length ≤ maxL)
    (h : VB 0 own cc maxL ret ws rm (vXW hh) tys (qU wf tys P δ kc (6 * kc)) 0 0 w 0 (lv_args 0 args) []) : CtU y ws rm tys args w wf P δ kc := by
  intro l D sz hlt
  refine MetFree.of_bodyS (code := cc) (maxLocals := maxL) (ret := ret) hy ?_ ?_
  · intro args s m h hn
    obtain ⟨m9, meth, c, hn9, h1, h2, h3, h4, -, h5, h6, -⟩ := Cond.codeWith_spec (atoms_spec (ws := ws) h _ (by rw [hw]; exact List.mem_cons_self))
    cases hn.symm.trans hn9
    exact ⟨meth, c, h1, h2, h3, h4, h5, h6⟩
  · intro p e s m a below meth c s₁ B hml hv _
    obtain ⟨rfl, ⟨hsz, hP, hK, hD0⟩, hT, hN⟩ := hv
    have hh0 : s₁.heap = s.heap := by rw [B.state]; rfl
    have htab : c.exceptionTable.toList = tableOf hh := vx_table (x := y) B (atoms_spec (ws := ws) B.pre _ (by rw [hw]; exact List.mem_cons_self))
    have hown : s.vm.findClass own = some m.cls := by rw [← hyo]; exact findClass_of_methodNamed B.named
    subst hsz
    have hl := lv_entry args (n := maxL) hlen
    have K := h p l e s m args.toArray below meth c D (va_A w s.heap.size) s.heap [] _ B.exec B.bytes B.returns hml hown (atoms_spec (ws := ws) B.pre) B.notSynchronized ⟨hlt, htab, hT, hN⟩ hK (fun q h => Or.inr h) hP hD0.self va_S.rf hl (Nat.le_refl _)
    rw [← lg_entry_eq] at K
    obtain ⟨t, a1, o, b1, b2, b3⟩ := K s₁ hh0 (Stand.of_body B)
    exact ⟨t, o, a1, b1, b2, b3⟩
theorem CtUL_of {own : String} {y : MethodName} {ws ws' : List Cond} {rm : Room} {cc : ByteArray} {maxL : Nat} {ret : Option FieldType} {tys : List (ClassId × FieldType)} {args : List Value} {w : va_W} {wf : (Nat → Nat) → va_W} {kc : Nat} (hy : plainName y.cls = true) (hyo : y.cls = own) (hw : ws = Cond.code y cc maxL ret :: ws') (hlen : (lg_sl args).length ≤ maxL)
    (h : VB 0 own cc maxL ret ws rm vXU tys (qUL wf tys kc (6 * kc)) 0 0 w 0 (lv_args 0 args) []) : CtUL y ws rm tys args w wf kc := by
  intro l D sz hlt
  refine Met.ofW (cc := cc) (maxL := maxL) (ret := ret) hy hw ?_
  intro p e s m a below meth c s₁ B hml hv
  obtain ⟨rfl, ⟨hsz, hP, hK, hD0⟩, hT, hN⟩ := hv
  have hown : s.vm.findClass own = some m.cls := by rw [← hyo]; exact findClass_of_methodNamed B.named
  subst hsz
  have hl := lv_entry args (n := maxL) hlen
  rw [lg_entry_eq]
  exact h p l e s m args.toArray below meth c D (va_A w s.heap.size) s.heap [] _ B.exec B.bytes B.returns hml hown (atoms_spec (ws := ws) B.pre) B.notSynchronized ⟨hlt, hT, hN⟩ hK (fun q h => Or.inr h) hP hD0.self va_S.rf hl (Nat.le_refl _)
section VBC
variable {lo : Nat} {own : String} {cc : ByteArray} {nL : Nat} {ret : Option FieldType} {Ts : List Cond} {R : Room} {X : VX} {tys tys0 : List (ClassId × FieldType)} {Q : VQ} {k n : Nat} {ws w w' w1 w2 ws' : va_W} {pc : Nat} {lv : List (Nat × Value)} {st : List Value}
theorem VB_iretU {wf : (Nat → Nat) → va_W} {P : Int32 → Prop} {δ : Int32 → Nat} {x : Int32} (d : decode cc pc = .ok (.ireturn, 1)) (hret : ret = some .int) (hP0 : P x) (hδ : δ x ≤ lo) {g : Nat → Nat} (hg : ∀ j, g j < 4096) (hw : ws = wf g) : VB lo own cc nL ret Ts R X tys (qU wf tys P δ k n) k n ws pc lv [.int x] := by
  subst hw
  intro p l e s m args below meth c D A H locs ls hx hb hr hm ho ht hk hX hK hA hP hD hS hl hlo
  exact W.iret hx hb (hr.trans hret) (fun t ht hW => ⟨⟨x, (x, g), rfl, ⟨rfl, hP0, hg⟩, ⟨by rw [ht]; exact hP, va_K.moved hW.alike hK, hD⟩, by rw [ht]; show s.heap.size + δ x ≤ H.size; omega⟩, hS.F ht⟩) hS.2.2 d
theorem VB_zretU {wf : (Nat → Nat) → va_W} {P : Int32 → Prop} {δ : Int32 → Nat} {x : Int32} (d : decode cc pc = .ok (.ireturn, 1)) (hret : ret = some .boolean) (hz : narrow .boolean (.int x) = .int x) (hP0 : P x) (hδ : δ x ≤ lo) {g : Nat → Nat} (hg : ∀ j, g j < 4096) (hw : ws = wf g) : VB lo own cc nL ret Ts R X tys (qU wf tys P δ k n) k n ws pc lv [.int x] := by
  subst hw
  intro p l e s m args below meth c D A H locs ls hx hb hr hm ho ht hk hX hK hA hP hD hS hl hlo
  exact W.zret hx hb (hr.trans hret) hz (fun t ht hW => ⟨⟨x, (x, g), rfl, ⟨rfl, hP0, hg⟩, ⟨by rw [ht]; exact hP, va_K.moved hW.alike hK, hD⟩, by rw [ht]; show s.heap.size + δ x ≤ H.size; omega⟩, hS.F ht⟩) hS.2.2 d
theorem VB_lretU {wf : (Nat → Nat) → va_W} {x : Int64} (d : decode cc pc = .ok (.lreturn, 1)) (hret : ret = some .long) {g : Nat → Nat} (hg : ∀ j, g j < 4096) (hw : ws = wf g) : VB lo own cc nL ret Ts R X tys (qUL wf tys k n) k n ws pc lv [.long x] := by
  subst hw
  intro p l e s m args below meth c D A H locs ls hx hb hr hm ho ht hk hX hK hA hP hD hS hl hlo
  exact W.lret hx hb (hr.trans hret) (fun t ht hW => ⟨⟨x, g, rfl, hg, by rw [ht]; exact hP, va_K.moved hW.alike hK, hD⟩, hS.F ht⟩) hS.2.2 d
theorem pU_blind (tys : List (ClassId × FieldType)) (w : va_W) (D : va_G) (sz : Nat) (args : List Value) : FrameBlind (pU tys w D sz args) := fun a U g mk q => ⟨q.1, (pB_blind tys w D sz args a U g mk ⟨q.1, q.2.1⟩).2, pT_blind _ U g mk a q.2.2.1, pN_moved (u := U) (U := U.calling g mk a) (Vm.Alike.refl U.vm) q.2.2.2⟩
theorem VB_callU {q idx n' : Nat} {dc kc : Nat} {wf : (Nat → Nat) → va_W} {P : Int32 → Prop} {δ : Int32 → Nat} {y : MethodName} {wsy : List Cond} {As rest st0 : List Value} (d : decode cc pc = .ok (.invokestatic idx, 3)) (hM : CtU y wsy (rmU dc kc) tys As ws wf P δ kc) (hY : YV y wsy n') (hn : As.length = n') (hG : GoodIn Ts (va_wsS own idx y wsy)) (hXX : ∀ l meth c A args s, X l meth c A args s → l.stackTraces = false ∧ pT A s ∧ pN s) (hst : st0 = As.reverse ++ rest) (hrest : (rest.map fun v => v.category).sum ≤ 8) (hR : dc + 1 ≤ R.frames ∧ 40 * dc + 40 ≤ R.locals) (hRc : k + kc ≤ R.cells ∧ n + 6 * kc ≤ R.slots)
    (h : ∀ (x : Int32) (g' : Nat → Nat), P x → (∀ j, g' j < 4096) → VB (lo + δ x) own cc nL ret Ts R X tys Q (k + kc) (n + 6 * kc) (wf g') q lv (.int x :: rest)) (hq : pc + 3 = q := by rfl) : VB lo own cc nL ret Ts R X tys Q k n ws pc lv st0 := by
  subst hq hst
  intro p l e s m args below meth c D A H locs ls hx hb hr hm ho ht hk hX hK hA hP hD hS hl hlo
  have hFc : ∀ z, va_A ws H.size z → A z := fun z hz => hz.elim (fun ⟨j, e, he⟩ => hD.2 j _ he) (fun h => hA z (Nat.le_trans hS.1 h))
  obtain ⟨bytes, maxL, rt, wy', hw, hd1, hmL⟩ := hY
  have hR2 : (rmU dc kc).frames + 1 ≤ R.frames ∧ 8 + (maxL + 11) + (rmU dc kc).locals ≤ R.locals := ⟨hR.1, by have h1 := hR.2; show 8 + (maxL + 11) + 40 * dc ≤ R.locals; omega⟩
  refine va_calli (va_runS (As := As) (rest := rest) ⟨hx, hb, hm, ho, ht⟩ (hM l D H.size (hXX _ _ _ _ _ _ hX).1) (va_cwS n' ht hG hw rfl rfl hd1 hR2) ⟨pU_blind _ _ _ _ _, fun U hU hW => ⟨rfl, ⟨by rw [hU], by rw [hU]; exact hP, va_K.moved hW.alike hK, hD.weaken (fun _ _ _ _ => trivial)⟩, pT_to (hXX _ _ _ _ _ _ hX).2.1 hS hU hW hFc, pN_moved hW.alike (hXX _ _ _ _ _ _ hX).2.2⟩⟩ rfl hn hl.1 rfl (lv_room hrest) d ⟨hRc.1, hRc.2⟩) hS (fun z _ h => hFc z h) hFc (fun r' u t H1 locs1 ht1 hvm hw1 hB hz1 hk1 hS1 => ?_)
  obtain ⟨⟨hP1, hK1, hD1⟩, hlb⟩ := hB
  rw [ht1] at hP1 hlb
  obtain ⟨u1, u2⟩ := u
  obtain ⟨rfl, hP0, hg'⟩ := hw1
  have hlb' : H.size + δ u1 ≤ H1.size := hlb
  exact h u1 u2 hP0 hg' p l e s m args below meth c D A H1 locs1 ls hx hb hr hm ho ht hk hX hK hA hP1 (hD1.weaken (fun _ z _ hz => hFc z.1 hz)) hS1 hl (by omega)
theorem VB_callUL {q idx n' : Nat} {dc kc : Nat} {wf : (Nat → Nat) → va_W} {y : MethodName} {wsy : List Cond} {As rest st0 : List Value} (d : decode cc pc = .ok (.invokestatic idx, 3)) (hM : CtUL y wsy (rmU dc kc) tys As ws wf kc) (hY : YV y wsy n') (hn : As.length = n') (hG : GoodIn Ts (va_wsS own idx y wsy)) (hXX : ∀ l meth c A args s, X l meth c A args s → l.stackTraces = false ∧ pT A s ∧ pN s) (hst : st0 = As.reverse ++ rest) (hrest : (rest.map fun v => v.category).sum ≤ 8) (hR : dc + 1 ≤ R.frames ∧ 40 * dc + 40 ≤ R.locals) (hRc : k + kc ≤ R.cells ∧ n + 6 * kc ≤ R.slots)
    (h : ∀ (x : Int64) (g' : Nat → Nat), (∀ j, g' j < 4096) → VB lo own cc nL ret Ts R X tys Q (k + kc) (n + 6 * kc) (wf g') q lv (.long x :: rest)) (hq : pc + 3 = q := by rfl) : VB lo own cc nL ret Ts R X tys Q k n ws pc lv st0 := by
  subst hq hst
  intro p l e s m args below meth c D A H locs ls hx hb hr hm ho ht hk hX hK hA hP hD hS hl hlo
  have hFc : ∀ z, va_A ws H.size z → A z := fun z hz => hz.elim (fun ⟨j, e, he⟩ => hD.2 j _ he) (fun h => hA z (Nat.le_trans hS.1 h))
  obtain ⟨bytes, maxL, rt, wy', hw, hd1, hmL⟩ := hY
  have hR2 : (rmU dc kc).frames + 1 ≤ R.frames ∧ 8 + (maxL + 11) + (rmU dc kc).locals ≤ R.locals := ⟨hR.1, by have h1 := hR.2; show 8 + (maxL + 11) + 40 * dc ≤ R.locals; omega⟩
  refine va_calll (va_runS (As := As) (rest := rest) ⟨hx, hb, hm, ho, ht⟩ (hM l D H.size (hXX _ _ _ _ _ _ hX).1) (va_cwS n' ht hG hw rfl rfl hd1 hR2) ⟨pU_blind _ _ _ _ _, fun U hU hW => ⟨rfl, ⟨by rw [hU], by rw [hU]; exact hP, va_K.moved hW.alike hK, hD.weaken (fun _ _ _ _ => trivial)⟩, pT_to (hXX _ _ _ _ _ _ hX).2.1 hS hU hW hFc, pN_moved hW.alike (hXX _ _ _ _ _ _ hX).2.2⟩⟩ rfl hn hl.1 rfl (lv_room hrest) d ⟨hRc.1, hRc.2⟩) hS (fun z _ h => hFc z h) hFc (fun r' u t H1 locs1 ht1 hvm hw1 hB hz1 hk1 hS1 => ?_)
  obtain ⟨hP1, hK1, hD1⟩ := hB
  rw [ht1] at hP1
  exact h r' u hw1 p l e s m args below meth c D A H1 locs1 ls hx hb hr hm ho ht hk hX hK hA hP1 (hD1.weaken (fun _ z _ hz => hFc z.1 hz)) hS1 hl (by omega)
theorem VB_callUW {q idx n' : Nat} {wf : (Nat → Nat) → va_W} {P : Int32 → Prop} {δ : Int32 → Nat} {y : MethodName} {wsy : List Cond} {As rest st0 : List Value} (d : decode cc pc = .ok (.invokestatic idx, 3)) (hM : CtU y wsy rmW tys As ws wf P δ 1) (hY : YW y wsy n') (hn : As.length = n') (hG : GoodIn Ts (va_wsS own idx y wsy)) (hXX : ∀ l meth c A args s, X l meth c A args s → l.stackTraces = false ∧ pT A s ∧ pN s) (hst : st0 = As.reverse ++ rest) (hrest : (rest.map fun v => v.category).sum ≤ 8) (hR : 10 ≤ R.frames ∧ 400 ≤ R.locals) (hRc : k + 1 ≤ R.cells ∧ n + 6 ≤ R.slots)
    (h : ∀ (x : Int32) (g' : Nat → Nat), P x → (∀ j, g' j < 4096) → VB (lo + δ x) own cc nL ret Ts R X tys Q (k + 1) (n + 6) (wf g') q lv (.int x :: rest)) (hq : pc + 3 = q := by rfl) : VB lo own cc nL ret Ts R X tys Q k n ws pc lv st0 := by
  subst hq hst
  intro p l e s m args below meth c D A H locs ls hx hb hr hm ho ht hk hX hK hA hP hD hS hl hlo
  have hFc : ∀ z, va_A ws H.size z → A z := fun z hz => hz.elim (fun ⟨j, e, he⟩ => hD.2 j _ he) (fun h => hA z (Nat.le_trans hS.1 h))
  obtain ⟨bytes, maxL, rt, hh, wy', hw, hd1, hmL⟩ := hY
  have hR2 : rmW.frames + 1 ≤ R.frames ∧ 8 + (maxL + 11) + rmW.locals ≤ R.locals := ⟨hR.1, by have h1 := hR.2; show 8 + (maxL + 11) + 360 ≤ R.locals; omega⟩
  refine va_calli (vx_runSW (As := As) (rest := rest) ⟨hx, hb, hm, ho, ht⟩ (hM l D H.size (hXX _ _ _ _ _ _ hX).1) (vx_cwSW n' ht hG hw rfl rfl hd1 hR2) ⟨pU_blind _ _ _ _ _, fun U hU hW => ⟨rfl, ⟨by rw [hU], by rw [hU]; exact hP, va_K.moved hW.alike hK, hD.weaken (fun _ _ _ _ => trivial)⟩, pT_to (hXX _ _ _ _ _ _ hX).2.1 hS hU hW hFc, pN_moved hW.alike (hXX _ _ _ _ _ _ hX).2.2⟩⟩ rfl hn hl.1 rfl (lv_room hrest) d ⟨hRc.1, hRc.2⟩) hS (fun z _ h => hFc z h) hFc (fun r' u t H1 locs1 ht1 hvm hw1 hB hz1 hk1 hS1 => ?_)
  obtain ⟨⟨hP1, hK1, hD1⟩, hlb⟩ := hB
  rw [ht1] at hP1 hlb
  obtain ⟨u1, u2⟩ := u
  obtain ⟨rfl, hP0, hg'⟩ := hw1
  have hlb' : H.size + δ u1 ≤ H1.size := hlb
  exact h u1 u2 hP0 hg' p l e s m args below meth c D A H1 locs1 ls hx hb hr hm ho ht hk hX hK hA hP1 (hD1.weaken (fun _ z _ hz => hFc z.1 hz)) hS1 hl (by omega)
theorem VB_callIf {q idx n' dc : Nat} {y : MethodName} {wsy : List Cond} {C : String} {b ci : Nat} {fs : List Value} {qq : vw_C} {As rest st0 : List Value} {r : Int32} (d : decode cc pc = .ok (.invokevirtual idx, 3)) (hM : CtI y wsy (rmD dc) tys0 (.ref b :: As) w r w') (hY : YV y wsy n') (hn : As.length = n') (hG : GoodIn Ts (wsV own idx C y wsy)) (hC : y.cls = C) (q0 : Nat) (he : w[q0]? = some (b, .inr (ci, fs))) (hc : vwCl[ci]? = some qq) (hC2 : qq.1 = C) (hst : st0 = As.reverse ++ .ref b :: rest) (hrest : (rest.map fun v => v.category).sum ≤ 8) (hR : dc + 1 ≤ R.frames ∧ 40 * dc + 40 ≤ R.locals) (hRc : k ≤ R.cells ∧ n ≤ R.slots) (hws : ws = w1 ++ (w ++ w2)) (hws' : w1 ++ (w' ++ w2) = ws') (hfst : w'.map Prod.fst = w.map Prod.fst) (htys : ∀ z ∈ tys0, z ∈ tys)
    (h : VB lo own cc nL ret Ts R X tys Q k n ws' q lv (.int r :: rest)) (hq : pc + 3 = q := by rfl) : VB lo own cc nL ret Ts R X tys Q k n ws pc lv st0 := by
  subst hq hst hws hws'
  intro p l e s m args below meth c D A H locs ls hx hb hr hm ho ht hk hX hK hA hP hD hS hl hlo
  have hFc : ∀ z, va_A w H.size z → A z := fun z hz => hz.elim (fun ⟨j, e, he⟩ => hD.2 _ _ (mid_get he)) (fun h => hA z (Nat.le_trans hS.1 h))
  obtain ⟨bytes, maxL, rt, wy', hw, hd1, hmL⟩ := hY
  have hR2 : (rmD dc).frames + 1 ≤ R.frames ∧ 8 + (maxL + 11) + (rmD dc).locals ≤ R.locals := ⟨hR.1, by have h1 := hR.2; show 8 + (maxL + 11) + 40 * dc ≤ R.locals; omega⟩
  refine va_calli (va_runV (As := As) (rest := rest) ⟨hx, hb, hm, ho, ht⟩ (hM l D H.size) (cwV n' ht hG hw rfl rfl ⟨hC, hd1⟩ hR2) ⟨pB_blind _ _ _ _ _, by rw [← hC2]; exact va_recv (fr_K hK htys) (fr_P hP) hc he, fun U hU hW => ⟨rfl, by rw [hU], by rw [hU]; exact fr_P hP, va_K.moved hW.alike (fr_K hK htys), (fr_D hD).weaken (fun _ _ _ _ => trivial)⟩⟩ rfl hn hl.1 rfl (lv_room hrest) d ⟨hRc.1, hRc.2⟩) hS (fun z _ h => hFc z h) hFc (fun r' u t H1 locs1 ht1 hvm hw1 hB hz1 hk1 hS1 => ?_)
  obtain ⟨hP1, hK1, hD1⟩ := hB
  rw [ht1] at hP1
  subst hw1
  obtain ⟨j1, j2⟩ := fr_join hP hD hP1 hk1 hfst
  exact h p l e s m args below meth c D A H1 locs1 ls hx hb hr hm ho ht hk hX hK hA j1 j2 hS1 hl (by omega)
theorem VB_callX0 {q : Nat} {idx n' dc : Nat} {y : MethodName} {wsy : List Cond} {C : String} {b ci : Nat} {fs : List Value} {qq : vw_C} {As rest st0 : List Value} {r : Int32} {E : String} (d : decode cc pc = .ok (.invokevirtual idx, 3)) (hM : CtX y wsy (rmX dc) tys0 (.ref b :: As) w E r w') (hE : E = "") (hY : YV y wsy n') (hn : As.length = n') (hG : GoodIn Ts (wsV own idx C y wsy)) (hC : y.cls = C) (q0 : Nat) (he : w[q0]? = some (b, .inr (ci, fs))) (hc : vwCl[ci]? = some qq) (hC2 : qq.1 = C) (hst : st0 = As.reverse ++ .ref b :: rest) (hrest : (rest.map fun v => v.category).sum ≤ 8) (hR : 9 ≤ R.frames ∧ 360 ≤ R.locals) (hRc : k + 1 ≤ R.cells ∧ n + 6 ≤ R.slots) (hws : ws = w1 ++ (w ++ w2)) (hXX : ∀ l meth c A args s, X l meth c A args s → l.stackTraces = false ∧ pT A s ∧ pN s) (hws' : w1 ++ (w' ++ w2) = ws') (hfst : w'.map Prod.fst = w.map Prod.fst) (htys : ∀ z ∈ tys0, z ∈ tys)
    (h : VB lo own cc nL ret Ts R X tys Q (k + 1) (n + 6) ws' q lv (.int r :: rest)) (hq : pc + 3 = q := by rfl) : VB lo own cc nL ret Ts R X tys Q k n ws pc lv st0 := by
  subst hq hst hws hws'
  intro p l e s m args below meth c D A H locs ls hx hb hr hm ho ht hk hX hK hA hP hD hS hl hlo
  have hFc : ∀ z, va_A w H.size z → A z := fun z hz => hz.elim (fun ⟨j, e, he⟩ => hD.2 _ _ (mid_get he)) (fun h => hA z (Nat.le_trans hS.1 h))
  obtain ⟨bytes, maxL, rt, wy', hw, hd1, hmL⟩ := hY
  have hR2 : (rmX dc).frames + 1 ≤ R.frames ∧ 8 + (maxL + 11) + (rmX dc).locals ≤ R.locals := ⟨hR.1, by have h1 := hR.2; show 8 + (maxL + 11) + 320 ≤ R.locals; omega⟩
  refine vx_calli (vx_runV (As := As) (rest := rest) ⟨hx, hb, hm, ho, ht⟩ (hM l D H.size (hXX _ _ _ _ _ _ hX).1) (cwV n' ht hG hw rfl rfl ⟨hC, hd1⟩ hR2) ⟨pX_blind _ _ _ _ _, by rw [← hC2]; exact va_recv (fr_K hK htys) (fr_P hP) hc he, fun U hU hW => ⟨rfl, ⟨by rw [hU], by rw [hU]; exact fr_P hP, va_K.moved hW.alike (fr_K hK htys), (fr_D hD).weaken (fun _ _ _ _ => trivial)⟩, pT_to (hXX _ _ _ _ _ _ hX).2.1 hS hU hW hFc⟩⟩ rfl hn hl.1 rfl (lv_room hrest) d ⟨hRc.1, hRc.2⟩) hS (fun z _ h => hFc z h) hFc (fun z _ h => hFc z h) (fun E' ce q9 u t H1 locs1 ht1 hvm hpx hB hz1 hk1 hS1 hce hcv hcl => ?_) (fun r' u t H1 locs1 ht1 hvm hw1 hB hz1 hk1 hS1 => ?_)
  · exact absurd hE hB.2.1
  · obtain ⟨hP1, hK1, hD1⟩ := hB
    rw [ht1] at hP1
    obtain ⟨-, hw1⟩ := hw1
    subst hw1
    obtain ⟨j1, j2⟩ := fr_join hP hD hP1 hk1 hfst
    exact h p l e s m args below meth c D A H1 locs1 ls hx hb hr hm ho ht hk hX hK hA j1 j2 hS1 hl (by omega)
theorem VB_callX1 {q : Nat} {idx n' dc : Nat} {y : MethodName} {wsy : List Cond} {C : String} {b ci : Nat} {fs : List Value} {qq : vw_C} {As rest st0 : List Value} {r : Int32} {E : String} {hh : List (Nat × Nat × Nat × Nat)} (d : decode cc pc = .ok (.invokevirtual idx, 3)) (hM : CtX y wsy (rmX dc) tys0 (.ref b :: As) w E r w') (hE : E ≠ "") (hY : YV y wsy n') (hn : As.length = n') (hG : GoodIn Ts (wsV own idx C y wsy)) (hC : y.cls = C) (q0 : Nat) (he : w[q0]? = some (b, .inr (ci, fs))) (hc : vwCl[ci]? = some qq) (hC2 : qq.1 = C) (hst : st0 = As.reverse ++ .ref b :: rest) (hrest : (rest.map fun v => v.category).sum ≤ 8) (hR : 9 ≤ R.frames ∧ 360 ≤ R.locals) (hRc : k + 1 ≤ R.cells ∧ n + 6 ≤ R.slots) (hws : ws = w1 ++ (w ++ w2)) (htys : ∀ z ∈ tys0, z ∈ tys)
    (pre : List ExceptionTableEntry) (x : ExceptionTableEntry) (suf : List ExceptionTableEntry) (hsplit : tableOf hh = pre ++ x :: suf) (hpass : ∀ z ∈ pre, z.catchType ≠ 0 ∧ ∃ nm : String, Cond.classLink own z.catchType nm ∈ Ts ∧ (E, nm) ∈ xncs) (hcov : covers x pc = true) (hct : x.catchType ≠ 0) (hlk : Cond.classLink own x.catchType E ∈ Ts) (hca : Cond.castable E E ∈ xnw) (h : ∀ q9 : Nat, VB (lo + 1) own cc nL ret Ts R (vXW hh) tys Q (k + 1) (n + 6) ws x.handlerPc lv [.ref q9]) : VB lo own cc nL ret Ts R (vXW hh) tys Q k n ws pc lv st0 := by
  subst hst hws
  have hXX : ∀ l meth c A args s, vXW hh l meth c A args s → l.stackTraces = false ∧ pT A s ∧ pN s := fun _ _ _ _ _ _ h => ⟨h.1, h.2.2.1, h.2.2.2⟩
  intro p l e s m args below meth c D A H locs ls hx hb hr hm ho ht hk hX hK hA hP hD hS hl hlo
  have hFc : ∀ z, va_A w H.size z → A z := fun z hz => hz.elim (fun ⟨j, e, he⟩ => hD.2 _ _ (mid_get he)) (fun h => hA z (Nat.le_trans hS.1 h))
  obtain ⟨bytes, maxL, rt, wy', hw, hd1, hmL⟩ := hY
  have hR2 : (rmX dc).frames + 1 ≤ R.frames ∧ 8 + (maxL + 11) + (rmX dc).locals ≤ R.locals := ⟨hR.1, by have h1 := hR.2; show 8 + (maxL + 11) + 320 ≤ R.locals; omega⟩
  refine vx_calli (vx_runV (As := As) (rest := rest) ⟨hx, hb, hm, ho, ht⟩ (hM l D H.size (hXX _ _ _ _ _ _ hX).1) (cwV n' ht hG hw rfl rfl ⟨hC, hd1⟩ hR2) ⟨pX_blind _ _ _ _ _, by rw [← hC2]; exact va_recv (fr_K hK htys) (fr_P hP) hc he, fun U hU hW => ⟨rfl, ⟨by rw [hU], by rw [hU]; exact fr_P hP, va_K.moved hW.alike (fr_K hK htys), (fr_D hD).weaken (fun _ _ _ _ => trivial)⟩, pT_to (hXX _ _ _ _ _ _ hX).2.1 hS hU hW hFc⟩⟩ rfl hn hl.1 rfl (lv_room hrest) d ⟨hRc.1, hRc.2⟩) hS (fun z _ h => hFc z h) hFc (fun z _ h => hFc z h) (fun E' ce q9 u t H1 locs1 ht1 hvm hpx hB hz1 hk1 hS1 hce hcv hcl => ?_) (fun r' u t H1 locs1 ht1 hvm hw1 hB hz1 hk1 hS1 => ?_)
  · obtain ⟨hE9, -, hlb, hP1, hK1, hD1⟩ := hB
    rw [ht1] at hP1 hlb
    subst hE9
    obtain ⟨j1, j2⟩ := fr_join hP hD hP1 hk1 rfl
    refine vx_catch (name := E') ho pre x suf (hX.2.1.trans hsplit) (fun z hz => ?_) hcov hct (ht _ hlk) (va_Nw.use (xnw_tab _ hca) (hX.2.2.1.2.2.2 _ hca)) hce hcv hcl ?_
    · obtain ⟨z1, nm, z2, z3⟩ := hpass z hz
      exact Or.inr ⟨z1, nm, ht _ z2, hX.2.2.2 _ z3⟩
    · exact h q9 p l e s m args below meth c D A H1 locs1 ls hx hb hr hm ho ht hk hX hK hA j1 j2 hS1 hl (by omega)
  · exact absurd hw1.1 hE
end VBC
theorem xU_U : ∀ l meth c A args s, vXU l meth c A args s → l.stackTraces = false ∧ pT A s ∧ pN s := fun _ _ _ _ _ _ h => h
theorem xU_W {hh : List (Nat × Nat × Nat × Nat)} : ∀ l meth c A args s, vXW hh l meth c A args s → l.stackTraces = false ∧ pT A s ∧ pN s := fun _ _ _ _ _ _ h => ⟨h.1, h.2.2.1, h.2.2.2⟩
theorem xU_L {b L : Nat} {xs : Nat → Int32} : ∀ l meth c A args s, vXL b L xs l meth c A args s → l.stackTraces = false ∧ pT A s ∧ pN s := fun _ _ _ _ _ _ h => ⟨h.1, h.2.1, h.2.2.1⟩
