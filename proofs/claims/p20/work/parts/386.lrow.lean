/-! the law's own rows: its script, its end, its dice -/
section VBL
variable {lo : Nat} {own : String} {cc : ByteArray} {nL : Nat} {ret : Option FieldType} {Ts : List Cond} {R : Room} {X : VX} {tys : List (ClassId × FieldType)} {Q : VQ} {k n : Nat} {ws : va_W} {pc : Nat} {lv : List (Nat × Value)} {st : List Value}
/-- the law has ended: with false, or so many cells are made -/
def qF (N : Nat) : VQ := fun _ _ _ s below t => t.status = .running ∧ ∃ o, Ended t below o ∧ (o = .returned (some (.int 0)) ∨ s.heap.size + N ≤ t.heap.size)
theorem VB_ret0 {N : Nat} (d : decode cc pc = .ok (.ireturn, 1)) (hret : ret = some .boolean) : VB lo own cc nL ret Ts R X tys (qF N) k n ws pc lv [.int (iZ 0)] := by
  intro p l e s m args below meth c D A H locs ls hx hb hr hm ho ht hk hX hK hA hP hD hS hl hlo
  intro T hT Y
  obtain ⟨fs, hret9, hrun, hended, hW, hframe⟩ := Y.leave (v := some (.int 0)) (hlocks := hk) (fun h => by rw [hr, hret] at h; cases h)
  have hmeth' : T.vm.method? m = some meth := Y.method'
  refine ⟨T.setFrames fs, ?_, hrun, _, hended, Or.inl rfl⟩
  rw [show (iZ 0 : Int32) = 0 from rfl]
  jvm_step Y.here [Y.here.top, hx, hb, d, hmeth', hr, hret, narrow_b0]
  (try refine ⟨rfl, ?_⟩); (try refine ⟨rfl, ?_⟩)
  first | (intro acts; rw [hret9 _ acts rfl rfl rfl]) | rw [hret9 _ _ rfl rfl rfl]
  exact Steps.refl _
theorem VB_ret1 {N : Nat} (hN : N ≤ lo) (d : decode cc pc = .ok (.ireturn, 1)) (hret : ret = some .boolean) : VB lo own cc nL ret Ts R X tys (qF N) k n ws pc lv [.int (iZ 1)] := by
  intro p l e s m args below meth c D A H locs ls hx hb hr hm ho ht hk hX hK hA hP hD hS hl hlo
  intro T hT Y
  obtain ⟨fs, hret9, hrun, hended, hW, hframe⟩ := Y.leave (v := some (.int 1)) (hlocks := hk) (fun h => by rw [hr, hret] at h; cases h)
  have hmeth' : T.vm.method? m = some meth := Y.method'
  refine ⟨T.setFrames fs, ?_, hrun, _, hended, Or.inr (by show s.heap.size + N ≤ T.heap.size; rw [hT]; omega)⟩
  rw [show (iZ 1 : Int32) = 1 from rfl]
  jvm_step Y.here [Y.here.top, hx, hb, d, hmeth', hr, hret, narrow_b1]
  (try refine ⟨rfl, ?_⟩); (try refine ⟨rfl, ?_⟩)
  first | (intro acts; rw [hret9 _ acts rfl rfl rfl]) | rw [hret9 _ _ rfl rfl rfl]
  exact Steps.refl _
theorem VB_em {x : Int32} (h1 : x = 0 → VB lo own cc nL ret Ts R X tys Q k n ws pc lv st) (h2 : ¬ x = 0 → VB lo own cc nL ret Ts R X tys Q k n ws pc lv st) : VB lo own cc nL ret Ts R X tys Q k n ws pc lv st := (Decidable.em (x = 0)).elim h1 h2
theorem VB_sld {q b L : Nat} {xs : Nat → Int32} {z : Int} {v : Int32} (d : decode cc pc = .ok (.iaload, 1)) (hXs : ∀ l meth c A args s, X l meth c A args s → va_X b L xs s s.heap ∧ b < s.heap.size ∧ ¬ A b) (j : Nat) (hz : z = (j : Int)) (hj : j < L) (hL : L < 2147483648) (hv : xs j = v) (hq : pc + 1 = q) (h : VB lo own cc nL ret Ts R X tys Q k n ws q lv (.int v :: st)) : VB lo own cc nL ret Ts R X tys Q k n ws pc lv (.int (iZ z) :: .ref b :: st) := by
  subst hq
  intro p l e s m args below meth c D A H locs ls hx hb hr hm ho ht hk hX hK hA hP hD hS hl hlo
  obtain ⟨g1, g2⟩ := iZ_in hz hj hL
  have h2 := h p l e s m args below meth c D A H locs ls hx hb hr hm ho ht hk hX hK hA hP hD hS hl hlo
  rw [← hv, ← g2] at h2
  obtain ⟨x1, x2, x3⟩ := hXs _ _ _ _ _ _ hX
  exact va_sld hx hb x1 x2 x3 hS g1 d h2
theorem VB_slen {q b L : Nat} {xs : Nat → Int32} (d : decode cc pc = .ok (.arraylength, 1)) (hXs : ∀ l meth c A args s, X l meth c A args s → va_X b L xs s s.heap ∧ b < s.heap.size ∧ ¬ A b) (hq : pc + 1 = q) (h : VB lo own cc nL ret Ts R X tys Q k n ws q lv (.int (iZ (L : Int)) :: st)) : VB lo own cc nL ret Ts R X tys Q k n ws pc lv (.ref b :: st) := by
  subst hq
  intro p l e s m args below meth c D A H locs ls hx hb hr hm ho ht hk hX hK hA hP hD hS hl hlo
  have h2 := h p l e s m args below meth c D A H locs ls hx hb hr hm ho ht hk hX hK hA hP hD hS hl hlo
  rw [iZ_nI] at h2
  obtain ⟨x1, x2, x3⟩ := hXs _ _ _ _ _ _ hX
  exact va_slen hx hb x1 x2 x3 hS d h2
theorem VB_ldc {q : Nat} {i : Nat} {v : Int32} (d : decode cc pc = .ok (.ldc i, 2)) (hw : Cond.constant own i v ∈ Ts) (hq : pc + 2 = q := by rfl) (h : VB lo own cc nL ret Ts R X tys Q k n ws q lv (.int v :: st)) : VB lo own cc nL ret Ts R X tys Q k n ws pc lv st := by
  subst hq
  intro p l e s m args below meth c D A H locs ls hx hb hr hm ho ht hk hX hK hA hP hD hS hl hlo
  exact lv_ldc hx hb ho (ht _ hw) d (h p l e s m args below meth c D A H locs ls hx hb hr hm ho ht hk hX hK hA hP hD hS hl hlo)
end VBL
/-- the dice: a method that reads the script alone -/
def vXD (b L : Nat) (xs : Nat → Int32) : VX := fun _ _ _ A _ s => va_X b L xs s s.heap ∧ b < s.heap.size ∧ ¬ A b
def pDi (D : va_G) (sz b L : Nat) (xs : Nat → Int32) (args : List Value) : Array Value → State → Prop := va_Pc args (fun U => pB [] [] D sz U ∧ va_X b L xs U U.heap ∧ b < U.heap.size)
theorem pDi_blind (D : va_G) (sz b L : Nat) (xs : Nat → Int32) (args : List Value) : FrameBlind (pDi D sz b L xs args) := fun a U g mk q => ⟨q.1, (pB_blind [] [] D sz args a U g mk ⟨q.1, q.2.1⟩).2, va_X.moved (u := U) (U := U.calling g mk a) (Vm.Alike.refl U.vm) q.2.2.1, q.2.2.2⟩
def qDi (r : Int32) (k n : Nat) : VQ := fun D A args s below => MQ below (va_Qi (fun (x : Int32) (_ : Unit) => x = r) (fun _ _ => True) A) args s k n A
def CtD (y : MethodName) (ws : List Cond) (rm : Room) (args : List Value) (b L : Nat) (xs : Nat → Int32) (r : Int32) : Prop := ∀ (l : Launch) (D : va_G) (sz : Nat), Met l y ws rm (pDi D sz b L xs args) (va_Qi (fun (x : Int32) (_ : Unit) => x = r) (fun _ _ => True) (va_A [] sz)) 0 0 (va_A [] sz)
theorem CtD_of {own : String} {y : MethodName} {ws ws' : List Cond} {rm : Room} {cc : ByteArray} {maxL : Nat} {ret : Option FieldType} {args : List Value} {b L : Nat} {xs : Nat → Int32} {r : Int32} (hy : plainName y.cls = true) (hyo : y.cls = own) (hw : ws = Cond.code y cc maxL ret :: ws') (hlen : (lg_sl args).length ≤ maxL)
    (h : VB 0 own cc maxL ret ws rm (vXD b L xs) [] (qDi r 0 0) 0 0 [] 0 (lv_args 0 args) []) : CtD y ws rm args b L xs r := by
  intro l D sz
  refine Met.ofW (cc := cc) (maxL := maxL) (ret := ret) hy hw ?_
  intro p e s m a below meth c s₁ B hml hv
  obtain ⟨rfl, ⟨hsz, hP, hK, hD0⟩, hXb, hbl⟩ := hv
  have hown : s.vm.findClass own = some m.cls := by rw [← hyo]; exact findClass_of_methodNamed B.named
  subst hsz
  have hl := lv_entry args (n := maxL) hlen
  rw [lg_entry_eq]
  exact h p l e s m args.toArray below meth c D (va_A [] s.heap.size) s.heap [] _ B.exec B.bytes B.returns hml hown (atoms_spec (ws := ws) B.pre) B.notSynchronized ⟨hXb, hbl, fun q => q.elim (fun ⟨_, _, w⟩ => nomatch w) (fun w => absurd hbl (Nat.not_lt.mpr w))⟩ hK (fun q h => Or.inr h) hP hD0.self va_S.rf hl (Nat.le_refl _)
section VBL2
variable {lo : Nat} {own : String} {cc : ByteArray} {nL : Nat} {ret : Option FieldType} {Ts : List Cond} {R : Room} {X : VX} {tys : List (ClassId × FieldType)} {Q : VQ} {k n : Nat} {ws : va_W} {pc : Nat} {lv : List (Nat × Value)} {st : List Value}
theorem VB_iretD {x r : Int32} (d : decode cc pc = .ok (.ireturn, 1)) (hret : ret = some .int) (e0 : x = r) : VB lo own cc nL ret Ts R X tys (qDi r k n) k n ws pc lv [.int x] := by
  subst e0
  intro p l e s m args below meth c D A H locs ls hx hb hr hm ho ht hk hX hK hA hP hD hS hl hlo
  exact W.iret hx hb (hr.trans hret) (fun t ht hW => ⟨⟨x, (), rfl, rfl, trivial⟩, hS.F ht⟩) hS.2.2 d
theorem VB_callD {q idx n' dc : Nat} {y : MethodName} {wsy : List Cond} {As rest st0 : List Value} {b L : Nat} {xs : Nat → Int32} {r : Int32} (d : decode cc pc = .ok (.invokestatic idx, 3)) (hM : CtD y wsy (rmD dc) As b L xs r) (hY : YV y wsy n') (hn : As.length = n') (hG : GoodIn Ts (va_wsS own idx y wsy)) (hXs : ∀ l meth c A args s, X l meth c A args s → va_X b L xs s s.heap ∧ b < s.heap.size ∧ ¬ A b) (hst : st0 = As.reverse ++ rest) (hrest : (rest.map fun v => v.category).sum ≤ 8) (hR : dc + 1 ≤ R.frames ∧ 40 * dc + 40 ≤ R.locals) (hRc : k ≤ R.cells ∧ n ≤ R.slots)
    (h : VB lo own cc nL ret Ts R X tys Q k n ws q lv (.int r :: rest)) (hq : pc + 3 = q := by rfl) : VB lo own cc nL ret Ts R X tys Q k n ws pc lv st0 := by
  subst hq hst
  intro p l e s m args below meth c D A H locs ls hx hb hr hm ho ht hk hX hK hA hP hD hS hl hlo
  have hFc : ∀ z, va_A [] H.size z → A z := fun z hz => hz.elim (fun ⟨j, e, he⟩ => nomatch he) (fun h => hA z (Nat.le_trans hS.1 h))
  obtain ⟨bytes, maxL, rt, wy', hw, hd1, hmL⟩ := hY
  have hR2 : (rmD dc).frames + 1 ≤ R.frames ∧ 8 + (maxL + 11) + (rmD dc).locals ≤ R.locals := ⟨hR.1, by have h1 := hR.2; show 8 + (maxL + 11) + 40 * dc ≤ R.locals; omega⟩
  obtain ⟨x1, x2, x3⟩ := hXs _ _ _ _ _ _ hX
  refine va_calli (va_runS (As := As) (rest := rest) ⟨hx, hb, hm, ho, ht⟩ (hM l D H.size) (va_cwS n' ht hG hw rfl rfl hd1 hR2) ⟨pDi_blind _ _ _ _ _ _, fun U hU hW => ⟨rfl, ⟨by rw [hU], (fun k q h => nomatch h), va_K.moved hW.alike (fr_K hK (fun _ h => nomatch h)), ⟨(fun i j p q h => nomatch h), (fun k q h => nomatch h)⟩⟩, by rw [hU]; exact va_X.moved hW.alike (x1.kept (hS.2.1 b x2 x3)), by rw [hU]; exact Nat.lt_of_lt_of_le x2 hS.1⟩⟩ rfl hn hl.1 rfl (lv_room hrest) d ⟨hRc.1, hRc.2⟩) hS (fun z _ h => hFc z h) hFc (fun r' u t H1 locs1 ht1 hvm hw1 hB hz1 hk1 hS1 => ?_)
  subst hw1
  obtain ⟨j1, j2⟩ := fr_join (w1 := []) (w := []) (w2 := ws) (w' := []) hP hD (fun k q h => nomatch h) hk1 rfl
  exact h p l e s m args below meth c D A H1 locs1 ls hx hb hr hm ho ht hk hX hK hA j1 j2 hS1 hl (by omega)
end VBL2
theorem xL_s {b L : Nat} {xs : Nat → Int32} : ∀ l meth c A args s, vXL b L xs l meth c A args s → va_X b L xs s s.heap ∧ b < s.heap.size ∧ ¬ A b := fun _ _ _ _ _ _ h => ⟨h.2.2.2.2.1, h.2.2.2.2.2.1, h.2.2.2.2.2.2.1⟩
set_option maxRecDepth 100000 in
set_option maxHeartbeats 8000000 in
theorem yv_L_dice : YV yL_dice wsL_dice 2 := ⟨_, _, _, _, rfl, by decide +kernel, by decide⟩
set_option maxRecDepth 100000 in
set_option maxHeartbeats 8000000 in
theorem u_dice {b L : Nat} {xs : Nat → Int32} (k : Nat) (hk : k < L) (hL : L ≤ 260) (hx : xs k = 31) : CtD yL_dice wsL_dice (rmD 0) [.ref b, .int (iZ (k : Int))] b L xs (iZ 31) := by
  refine CtD_of (own := RL) (by decide) rfl rfl (Nat.le_of_ble_eq_true rfl) ?_
  refine VB_lvq (lv' := [(0, _), (1, _)]) rfl ?_
  refine VB_iload_n (q := 1) dL_dice_0 1 rfl rfl ?_
  refine VB_aload_n (q := 2) dL_dice_1 0 rfl rfl ?_
  refine VB_slen dL_dice_2 (fun _ _ _ _ _ _ h => h) (show 2 + 1 = 3 from rfl) ?_
  refine VB_icmp_ge (q := 6) (tgt := 12) dL_dice_3 (by omega) (by omega) (by decide) (fun h => absurd h (by omega)) (fun _ => ?_)
  refine VB_aload_n (q := 7) dL_dice_6 0 rfl rfl ?_
  refine VB_iload_n (q := 8) dL_dice_7 1 rfl rfl ?_
  refine VB_sld dL_dice_8 (fun _ _ _ _ _ _ h => h) k rfl hk (by omega) hx (show 8 + 1 = 9 from rfl) ?_
  refine VB_goto (tgt := 31) dL_dice_9 (by decide) ?_
  refine VB_ldc (q := 33) (v := 2147483647) dL_dice_31 (by decide +kernel) rfl ?_
  refine VB_iand (q := 34) dL_dice_33 rfl ?_
  exact VB_iretD dL_dice_34 rfl (by decide +kernel)
/-- a row of the law with one place written anew -/
def setF (F : Nat → Nat → Int32) (i j : Nat) (x : Int32) : Nat → Nat → Int32 := fun p => if p = i then upd (F i) j x else F p
def roomB : Room := { frames := 13, cells := 20000, slots := 130000, locals := 524 }
