/-! methods that may throw: their contracts, their ends -/
def xtexts : List (Nat × String) := [(47, "an argument is out of range"), (58, "12 things were added"), (69, "no such thing"), (78, "a colour is out of range"), (100, "a thing of another kind"), (108, "a thing of another kind, or people out of range"), (113, "the outfit is not possible, or too soon"), (130, "the warmth is out of range"), (142, "the warmth or people is out of range"), (144, "the care is out of range"), (160, "days is out of range"), (165, "today would be above 10000"), (170, "no such thing, or days or warmth out of range"), (181, "days or warmth is out of range")]
def xdec : List Cond := [.declares ⟨"java/lang/RuntimeException", "<init>", "(Ljava/lang/String;)V"⟩, .declares ⟨"java/lang/Exception", "<init>", "(Ljava/lang/String;)V"⟩, .declares ⟨"java/lang/Throwable", "<init>", "(Ljava/lang/String;)V"⟩]
def xnw : List Cond := [.castable "java/lang/IllegalArgumentException" "java/lang/IllegalArgumentException", .castable "java/lang/IllegalStateException" "java/lang/IllegalStateException", .castable "java/lang/IndexOutOfBoundsException" "java/lang/IndexOutOfBoundsException"] ++ xdec
theorem xnw_tab : ∀ w ∈ xnw, w.onTables = true := by decide +kernel
theorem xnw_warm {s U : State} (hW : s.WarmedH U.vm) : ∀ w ∈ xnw, va_Nw w s → va_Nw w U := by
  intro w hw h
  simp only [xnw, xdec, List.cons_append, List.nil_append, List.mem_cons, List.not_mem_nil, or_false] at hw
  rcases hw with rfl | rfl | rfl | rfl | rfl | rfl
  · exact va_Nw.warmC hW h
  · exact va_Nw.warmC hW h
  · exact va_Nw.warmC hW h
  · exact va_tabs rfl (rfl : (s.setVm U.vm).vm = U.vm) (by rw [Cond.declares_setVm hW.alike]; exact h)
  · exact va_tabs rfl (rfl : (s.setVm U.vm).vm = U.vm) (by rw [Cond.declares_setVm hW.alike]; exact h)
  · exact va_tabs rfl (rfl : (s.setVm U.vm).vm = U.vm) (by rw [Cond.declares_setVm hW.alike]; exact h)
abbrev xnames : List String := ["java/lang/RuntimeException", "java/lang/Exception"]
def pT (A : Nat → Prop) (U : State) : Prop := vx_Zq Bundle.tN "UNASSIGNED_STACK" Bundle.steD A U U.heap ∧ vx_Zq Bundle.tN "SUPPRESSED_SENTINEL" Bundle.listD A U U.heap ∧ (∀ q ∈ xtexts, ∃ sa : Nat, vk_R RX0 q.1 q.2 sa U) ∧ ∀ w ∈ xnw, va_Nw w U
theorem pT_blind (A : Nat → Prop) (U : State) (g : JFrame) (mk : MethodId) (a : Array Value) (h : pT A U) : pT A (U.calling g mk a) :=
  ⟨vx_Zq.moved (u := U) (U := U.calling g mk a) (H := U.heap) (Vm.Alike.refl U.vm) h.1, vx_Zq.moved (u := U) (U := U.calling g mk a) (H := U.heap) (Vm.Alike.refl U.vm) h.2.1, fun q hq => by
    obtain ⟨sa, h9⟩ := h.2.2.1 q hq
    exact ⟨sa, vk_R.same (u := U) (U := U.calling g mk a) rfl h9⟩, fun w hw => va_Nw.same (u := U) (U := U.calling g mk a) (xnw_tab w hw) rfl (h.2.2.2 w hw)⟩
def vXT : VX := fun l _ c A _ s => l.stackTraces = false ∧ (∀ x ∈ c.exceptionTable.toList, False) ∧ pT A s
def rmX (_ : Nat) : Room := { frames := 8, cells := 1, slots := 6, locals := 320 }
def tX (tys : List (ClassId × FieldType)) (w : va_W) (E : String) (D : va_G) (A : Nat → Prop) (sz : Nat) : String → State → State → Prop := vx_X (fun _ : Unit => True) (fun E' _ t => E' = E ∧ E ≠ "" ∧ sz + 1 ≤ t.heap.size ∧ wB tys w D A t) A
def rX (tys : List (ClassId × FieldType)) (w' : va_W) (E : String) (r : Int32) (D : va_G) (A : Nat → Prop) : Array Value → State → Outcome → State → Prop := va_Qi (fun (x : Int32) (_ : Unit) => E = "" ∧ x = r) (fun _ t => wB tys w' D A t) A
def qX (tys : List (ClassId × FieldType)) (w w' : va_W) (E : String) (r : Int32) : VQ := fun D A args s below => vx_MQ below (rX tys w' E r D A) (tX tys w E D A s.heap.size) args s 1 6 A
def CtX (y : MethodName) (ws : List Cond) (rm : Room) (tys : List (ClassId × FieldType)) (args : List Value) (w : va_W) (E : String) (r : Int32) (w' : va_W) : Prop := ∀ (l : Launch) (D : va_G) (sz : Nat), l.stackTraces = false → vx_Met l y ws rm (va_Pc args (fun U => pB tys w D sz U ∧ pT (va_A w sz) U)) (rX tys w' E r D (va_A w sz)) (tX tys w E D (va_A w sz) sz) 1 6 (va_A w sz)
theorem pX_blind (tys : List (ClassId × FieldType)) (w : va_W) (D : va_G) (sz : Nat) (args : List Value) : FrameBlind (va_Pc args (fun U => pB tys w D sz U ∧ pT (va_A w sz) U)) := fun a U g mk q => ⟨q.1, (pB_blind tys w D sz args a U g mk ⟨q.1, q.2.1⟩).2, pT_blind _ U g mk a q.2.2⟩
theorem CtX_of {own : String} {y : MethodName} {ws ws' : List Cond} {rm : Room} {cc : ByteArray} {maxL : Nat} {ret : Option FieldType} {tys : List (ClassId × FieldType)} {args : List Value} {w w' : va_W} {E : String} {r : Int32} (hy : plainName y.cls = true) (hyo : y.cls = own) (hw : ws = Cond.code y cc maxL ret :: ws') (hlen : (lg_sl args).length ≤ maxL)
    (h : V own cc maxL ret ws rm vXT tys (qX tys w w' E r) 0 0 w 0 (lv_args 0 args) []) : CtX y ws rm tys args w E r w' := by
  intro l D sz hlt
  refine vx_ofW (cc := cc) (maxL := maxL) (ret := ret) hy hw ?_
  intro p e s m a below meth c s₁ B hml htab hv
  obtain ⟨rfl, ⟨hsz, hP, hK, hD0⟩, hT⟩ := hv
  have hown : s.vm.findClass own = some m.cls := by rw [← hyo]; exact findClass_of_methodNamed B.named
  subst hsz
  have hl := lv_entry args (n := maxL) hlen
  rw [lg_entry_eq]
  exact h p l e s m args.toArray below meth c D (va_A w s.heap.size) s.heap [] _ B.exec B.bytes B.returns hml hown (atoms_spec (ws := ws) B.pre) B.notSynchronized ⟨hlt, htab, hT⟩ hK (fun q h => Or.inr h) hP hD0.self va_S.rf hl
section VS1
variable {p : Program} {l : Launch} {e : Env} {R : Room} {s : State} {m : MethodId} {args : Array Value} {below : List Frame} {meth : Method} {c : Code} {H : Heap} {locs : List Loc} {cells slots : Nat} {Q : State → Prop}
variable {mc ms : Nat} {free : Addr → Prop} {A0 A1 : Nat → Prop} {H0 : Heap} {a : Array Value} {ls : Array Slot} {st0 rest : List Value}
variable {Qc : Array Value → State → Outcome → State → Prop} {XC : String → State → State → Prop}
theorem vx_throwS1 {cc : ByteArray} {pc : Nat} (hexec : p.tables.exec = Jvm.exec) (hb : c.code = cc) (hl : l.stackTraces = false) {own cls text : String} {names : List String} {ik is ic mc ms sa : Nat} {A : Nat → Prop}
    (hown : s.vm.findClass own = some m.cls) (hcls : Bundle.fit cls = true) (hnames : ∀ n ∈ names, Bundle.fit n = true)
    (hk : (Cond.classLink own ik cls).before args s = true) (hini : (Cond.initialized cls).before args s = true) (hstr : vk_R own is text sa s) (hat : ∀ w ∈ vx_atS own ic cls names, w.before args s = true)
    (hgood : ∀ w ∈ Cond.classLink own ik cls :: Cond.initialized cls :: vx_atS own ic cls names, vx_ot w = true)
    (hU : vx_Zq Bundle.tN "UNASSIGNED_STACK" Bundle.steD A s s.heap) (hN : vx_Zq Bundle.tN "SUPPRESSED_SENTINEL" Bundle.listD A s s.heap) (hS : va_S A s.heap H locs) (hsize : ls.size = c.maxLocals)
    (d0 : decode cc pc = .ok (.new ik, 3)) (d3 : decode cc (pc + 3) = .ok (.dup, 1)) (d4 : decode cc (pc + 4) = .ok (.ldc is, 2)) (d6 : decode cc (pc + 6) = .ok (.invokespecial ic, 3)) (d9 : decode cc (pc + 9) = .ok (.athrow, 1))
    (hout : ∀ x ∈ c.exceptionTable.toList, covers x (pc + 9) = false)
    (hRframes : names.length + 3 < R.frames) (hRlocals : (rest.map fun v => v.category).sum + (13 * (names.length + 1) + 43) ≤ R.locals) (hRcells : cells + 1 ≤ R.cells) (hRslots : slots + 6 ≤ R.slots) (hlocks : meth.locks = false)
    (hx : ∀ t : State, s.vm.Alike t.vm → H.size < t.heap.size → (∀ q : Nat, q < H.size → t.heap[q]? = H[q]?) → XC cls s t)
    (hf : ∀ z ∈ locs, free z.base) (hc : cells + 1 ≤ mc) (hs : slots + 6 ≤ ms) :
    W p l e R s m args below meth c H locs cells slots (vx_MQ below Qc XC args s mc ms free) (F0 m pc ls rest) := by
  intro T hT X
  have htr : e.platform.stackTraces = false := (show e.platform.stackTraces = l.stackTraces by rw [X.admits.platform]).trans hl
  have Y := vx_rebase X (R' := { frames := R.frames, locals := R.locals, cells := 1, slots := 6 }) (Nat.le_refl _) (Nat.le_refl _) hRcells hRslots
  obtain ⟨s', hA⟩ : ∃ z, z = (T.setVm s.vm).setFrames (.invoking m args :: below) := ⟨_, rfl⟩
  rw [← hA] at Y
  have hvm : s'.vm = s.vm := by rw [hA]; rfl
  have hhp : s'.heap = H := by rw [hA]; exact hT
  have hW0 : s.WarmedH s'.vm := by rw [hvm]; exact State.WarmedH.refl s
  have hat' : ∀ w ∈ vx_atS own ic cls names, w.before args s' = true := fun w hw => vx_ot_at hW0 hvm.symm (hgood w (List.mem_cons_of_mem _ (List.mem_cons_of_mem _ hw))) (hat w hw)
  have hk' : (Cond.classLink own ik cls).before args s' = true := vx_ot_at hW0 hvm.symm (hgood _ List.mem_cons_self) hk
  have hini' : (Cond.initialized cls).before args s' = true := vx_ot_at hW0 hvm.symm (hgood _ (List.mem_cons_of_mem _ List.mem_cons_self)) hini
  have hU' : vx_Zq Bundle.tN "UNASSIGNED_STACK" Bundle.steD A s' s'.heap := by rw [hhp]; exact vx_Zq.moved hW0.alike (hU.kept hS.2.1)
  have hN' : vx_Zq Bundle.tN "SUPPRESSED_SENTINEL" Bundle.listD A s' s'.heap := by rw [hhp]; exact vx_Zq.moved hW0.alike (hN.kept hS.2.1)
  have h : ∀ w ∈ Bundle.ownAtoms own ic cls names, w.before args s' = true := vx_own hat' (vx_isRefq hU'.1) (vx_isRefq hN'.1) hU'.2.word hN'.2.word
  have hown' : s'.vm.findClass own = some m.cls := by rw [hvm]; exact hown
  have hins : (Cond.instantiable cls 6).before args s' = true := h _ (by simp [Bundle.ownAtoms])
  obtain ⟨vm₁, cX, kX, hfX, hkX, -, -, X₁, st1⟩ := Y.newCold hexec (own := own) (C := cls) (index := ik) (n := 6) hown' hk' hins hini'
    (g := F0 m pc ls rest) rfl (by rw [hb]; exact d0) (Nat.le_refl _) (Nat.le_refl _)
  generalize hT1 : (T.setVm vm₁).pushCell { cls := cX, slots := kX.instanceTypes.map defaultValue, vm := .none } = T1 at X₁ st1
  have hcat : (Value.ref T.heap.size).category = 1 := rfl
  have hcellA : T1.heap[T.heap.size]? = some (freshCell cX kX) := by rw [← hT1]; exact State.heap_pushCell_size _ _
  have d3' : decode c.code (pc + 3) = .ok (.dup, 1) := by rw [hb]; exact d3
  have d4' : decode c.code (pc + 4) = .ok (.ldc is, 2) := by rw [hb]; exact d4
  have hstr' : vk_R own is text sa s' := vk_R.warm hW0 hstr
  obtain ⟨U, hsteps, hrun, hend, hW, hsame, ce, hce, hO⟩ := X₁.ctorThrowS hexec htr (own := own) (cls := cls) (names := names) (ic := ic) hown' hcls hnames h (fun x hx => nomatch hx) hfX hkX hcellA (by rw [hhp, hT]; exact Nat.le_refl _) (msg := .ref sa) rfl
    (g := { method := m, pc := pc + 6, locals := ls, stack := .ref sa :: .ref T.heap.size :: .ref T.heap.size :: rest, locked := none }) rfl hsize rfl rfl (rest := rest) rfl
    (by rw [hb]; exact d6) (by rw [hb]; exact d9) hout hRframes (by simp only [List.map_cons, List.sum_cons, hcat]; omega) hlocks
  obtain ⟨f1, f2⟩ := vx_frame hsame
  rw [hhp] at f1 f2
  have hWs : s.WarmedH U.vm := State.WarmedH.trans hW0 hW
  have hcl : s.vm.findClass cls = some ce.cls := by
    have h9 := hO.cls
    rw [hvm] at h9
    exact h9
  have hall : s.sameButNew ({ U with vm := s.vm } : State) locs mc ms := by
    subst hA
    obtain ⟨e1, e2⟩ := hsame
    rw [State.setFrames_setFrames] at e1
    have h2 : (T.setVm s.vm).sameButNew ({ U with vm := s.vm } : State) [] (0 + 1) (0 + 6) := ⟨e1, e2⟩
    have h3 := X.same.trans h2
    rw [List.append_nil] at h3
    exact h3.mono hc hs
  refine ⟨U, ?_, .threw T.heap.size, hrun, hend, Or.inr ⟨T.heap.size, rfl, cls, ce, locs, hx U hWs.alike (by rw [← hT]; exact (Array.getElem?_eq_some_iff.mp hce).1) (fun q hq => f2 q hq (fun z hz => nomatch hz)), hce, hO.vm, hcl, hWs, hall, hf⟩⟩
  refine st1 _ ?_
  show Steps p.tables e below (T1.setTop { method := m, pc := pc + 3, locals := ls, stack := .ref T.heap.size :: rest, locked := none }) _
  jvm_step X₁.here [X₁.here.top, hexec, d3', Value.category]
  exact X₁.ldcString hexec (own := own) (text := text) (index := is) (a := sa) hown' hstr'.1 hstr'.2
    (g := { method := m, pc := pc + 4, locals := ls, stack := .ref T.heap.size :: .ref T.heap.size :: rest, locked := none }) rfl d4' _ hsteps
end VS1
section VT
variable {own : String} {cc : ByteArray} {nL : Nat} {ret : Option FieldType} {Ts : List Cond} {R : Room} {X : VX} {tys : List (ClassId × FieldType)} {Q : VQ} {k n : Nat} {ws w0 w' : va_W} {pc : Nat} {lv : List (Nat × Value)} {st : List Value}
theorem V_iretX {x r : Int32} {E : String} (d : decode cc pc = .ok (.ireturn, 1)) (hret : ret = some .int) (e0 : x = r) (hE : E = "") (hw : ws = w') : V own cc nL ret Ts R X tys (qX tys w0 w' E r) 0 0 ws pc lv [.int x] := by
  subst e0 hw
  intro p l e s m args below meth c D A H locs ls hx hb hr hm ho ht hk hX hK hA hP hD hS hl
  refine vx_ret (W.widen (k := 1) (n := 6) (Nat.zero_le _) (Nat.zero_le _) ?_)
  exact W.iret hx hb (hr.trans hret) (fun t ht hW => ⟨⟨x, (), rfl, ⟨hE, rfl⟩, by rw [ht]; exact hP, va_K.moved hW.alike hK, hD⟩, hS.F ht⟩) hS.2.2 d
theorem V_zretX {x : Int32} {b : Bool} {E : String} (d : decode cc pc = .ok (.ireturn, 1)) (hret : ret = some .boolean) (e0 : x = iZ (bZ b)) (hE : E = "") (hw : ws = w') : V own cc nL ret Ts R X tys (qX tys w0 w' E (iZ (bZ b))) 0 0 ws pc lv [.int x] := by
  subst e0 hw
  intro p l e s m args below meth c D A H locs ls hx hb hr hm ho ht hk hX hK hA hP hD hS hl
  refine vx_ret (W.widen (k := 1) (n := 6) (Nat.zero_le _) (Nat.zero_le _) ?_)
  exact W.zret hx hb (hr.trans hret) (by cases b <;> rfl) (fun t ht hW => ⟨⟨_, (), rfl, ⟨hE, rfl⟩, by rw [ht]; exact hP, va_K.moved hW.alike hK, hD⟩, hS.F ht⟩) hS.2.2 d
/-- throw new cls("text") -/
theorem V_throw {cls text E : String} {ik is ic : Nat} {r : Int32} (d0 : decode cc pc = .ok (.new ik, 3)) (d3 : decode cc (pc + 3) = .ok (.dup, 1)) (d4 : decode cc (pc + 4) = .ok (.ldc is, 2)) (d6 : decode cc (pc + 6) = .ok (.invokespecial ic, 3)) (d9 : decode cc (pc + 9) = .ok (.athrow, 1))
    (hcls : Bundle.fit cls = true) (hnames : ∀ z ∈ xnames, Bundle.fit z = true) (hck : Cond.classLink own ik cls ∈ Ts) (hini : Cond.initialized cls ∈ Ts) (hat : ∀ w ∈ (vx_atS own ic cls xnames).filter goodWord, w ∈ Ts) (hng : ∀ w ∈ (vx_atS own ic cls xnames).filter (fun w => !goodWord w), w ∈ xnw)
    (hgood : ∀ w ∈ Cond.classLink own ik cls :: Cond.initialized cls :: vx_atS own ic cls xnames, vx_ot w = true) (hown : own = RX0) (htext : (is, text) ∈ xtexts) (hE : cls = E) (hE0 : cls ≠ "") (hrest : (st.map fun v => v.category).sum ≤ 8) (hR : 5 < R.frames ∧ 100 ≤ R.locals ∧ 1 ≤ R.cells ∧ 6 ≤ R.slots) : V own cc nL ret Ts R vXT tys (qX tys ws w' E r) 0 0 ws pc lv st := by
  subst hE
  intro p l e s m args below meth c D A H locs ls hx hb hr hm ho ht hk hX hK hA hP hD hS hl
  obtain ⟨hlt, htab, hU, hN, hstr, hcs⟩ := hX
  obtain ⟨sa, hsa⟩ := hstr _ htext
  subst hown
  refine vx_throwS1 (names := xnames) (A := A) (mc := 1) (ms := 6) hx hb hlt ho hcls hnames (ht _ hck) (ht _ hini) hsa (vx_hat (fun w hw => ht w (hat w hw)) hng (fun w hw => va_Nw.use (xnw_tab w hw) (hcs w hw))) hgood hU hN hS (hl.1.trans hm.symm) d0 d3 d4 d6 d9 (fun x hx9 => (htab x hx9).elim) hR.1 (by show _ + (13 * (2 + 1) + 43) ≤ R.locals; have h1 := hR.2.1; omega) (by have h1 := hR.2.2.1; omega) (by have h1 := hR.2.2.2; omega) hk (fun t hW hz hq => ⟨(), trivial, ⟨rfl, hE0, by have h8 := hS.1; omega, hP.kept (fun k q hkq => hq q.1 (hP k q hkq).lt), va_K.moved hW hK, hD⟩, Nat.le_trans hS.1 (Nat.le_of_lt hz), fun q h1 h2 => (hq q (Nat.lt_of_lt_of_le h1 hS.1)).trans (hS.2.1 q h1 h2)⟩) hS.2.2 (Nat.le_refl _) (Nat.le_refl _)
end VT
def EIAE : String := "java/lang/IllegalArgumentException"
theorem xg_IAE : ∀ w ∈ Cond.classLink RX0 45 EIAE :: Cond.initialized EIAE :: vx_atS RX0 49 EIAE xnames, vx_ot w = true := by decide +kernel
theorem xf_IAE : ∀ w ∈ (vx_atS RX0 49 EIAE xnames).filter (fun w => !goodWord w), w ∈ xnw := by decide +kernel
def EISE : String := "java/lang/IllegalStateException"
theorem xg_ISE : ∀ w ∈ Cond.classLink RX0 56 EISE :: Cond.initialized EISE :: vx_atS RX0 60 EISE xnames, vx_ot w = true := by decide +kernel
theorem xf_ISE : ∀ w ∈ (vx_atS RX0 60 EISE xnames).filter (fun w => !goodWord w), w ∈ xnw := by decide +kernel
def EIOB : String := "java/lang/IndexOutOfBoundsException"
theorem xg_IOB : ∀ w ∈ Cond.classLink RX0 67 EIOB :: Cond.initialized EIOB :: vx_atS RX0 71 EIOB xnames, vx_ot w = true := by decide +kernel
theorem xf_IOB : ∀ w ∈ (vx_atS RX0 71 EIOB xnames).filter (fun w => !goodWord w), w ∈ xnw := by decide +kernel
theorem xn_ok : ∀ z ∈ xnames, Bundle.fit z = true := by decide +kernel
