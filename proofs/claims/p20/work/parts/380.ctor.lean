/-! the constructors: from a blank object to the first state -/
def vXN : VX := fun _ meth _ _ _ _ => meth.name = "<init>"
abbrev ZA : Type := (Nat → Nat) × (Nat → ClassId)
def rmN (mc ms : Nat) : Room := { frames := 1, cells := mc, slots := ms, locals := 30 }
def qN (B : ZA → List (ClassId × FieldType) × va_W) (h0 : Nat) (k n : Nat) : VQ := fun D A args s below => MQ below (va_Qv (fun z : ZA => z.1 0 = h0) (fun z t => wB (B z).1 (B z).2 D A t) A) args s k n A
def CtN (y : MethodName) (ws : List Cond) (args : List Value) (w : va_W) (B : ZA → List (ClassId × FieldType) × va_W) (h0 mc ms : Nat) : Prop := ∀ (l : Launch) (D : va_G) (sz : Nat), Met l y ws (rmN mc ms) (va_Pc args (pB [] w D sz)) (va_Qv (fun z : ZA => z.1 0 = h0) (fun z t => wB (B z).1 (B z).2 D (va_A w sz) t) (va_A w sz)) mc ms (va_A w sz)
theorem CtN_of {own : String} {y : MethodName} {ws ws' : List Cond} {cc : ByteArray} {maxL : Nat} {args : List Value} {w : va_W} {B : ZA → List (ClassId × FieldType) × va_W} {h0 mc ms : Nat} (hy : plainName y.cls = true) (hyn : y.name = "<init>") (hyo : y.cls = own) (hw : ws = Cond.code y cc maxL none :: ws') (hlen : (lg_sl args).length ≤ maxL)
    (h : V own cc maxL none ws (rmN mc ms) vXN [] (qN B h0 mc ms) 0 0 w 0 (lv_args 0 args) []) : CtN y ws args w B h0 mc ms := by
  intro l D sz
  refine Met.ofW (cc := cc) (maxL := maxL) (ret := none) hy hw ?_
  intro p e s m a below meth c s₁ B9 hml hv
  obtain ⟨rfl, hsz, hP, hK, hD0⟩ := hv
  have hown : s.vm.findClass own = some m.cls := by rw [← hyo]; exact findClass_of_methodNamed B9.named
  subst hsz
  have hl := lv_entry args (n := maxL) hlen
  rw [lg_entry_eq]
  exact h p l e s m args.toArray below meth c D (va_A w s.heap.size) s.heap [] _ B9.exec B9.bytes B9.returns hml hown (atoms_spec (ws := ws) B9.pre) B9.notSynchronized ((name_of_methodNamed B9.named B9.method).1.trans hyn) hK (fun q h => Or.inr h) hP hD0.self va_S.rf hl
section VN
variable {own : String} {cc : ByteArray} {nL : Nat} {ret : Option FieldType} {Ts : List Cond} {R : Room} {X : VX} {tys : List (ClassId × FieldType)} {Q : VQ} {k n : Nat} {ws : va_W} {pc : Nat} {lv : List (Nat × Value)} {st : List Value}
theorem V_nret {B : ZA → List (ClassId × FieldType) × va_W} {h0 : Nat} (z : ZA) (d : decode cc pc = .ok (.return_, 1)) (hret : ret = none) (hz : z.1 0 = h0) (htys : tys = (B z).1) (hw : ws = (B z).2) : V own cc nL ret Ts R X tys (qN B h0 k n) k n ws pc lv [] := by
  subst htys hw
  intro p l e s m args below meth c D A H locs ls hx hb hr hm ho ht hk hX hK hA hP hD hS hl
  exact W.vret hx hb (hr.trans hret) (fun t ht hW => ⟨⟨z, rfl, hz, by rw [ht]; exact hP, va_K.moved hW.alike hK, hD⟩, hS.F ht⟩) hS.2.2 d
theorem V_new {q : Nat} {C : String} {T : u_T} {N ci index : Nat} {fs : List Value} (d : decode cc pc = .ok (.new index, 3)) (hin : ∀ w ∈ u_ws C T N, w ∈ Ts) (ty0 : Nat → FieldType) (hty : ∀ k, k < N → parseFieldDescriptor (T k).2.2.1 = some (ty0 k)) (hcl : Cond.classLink own index C ∈ Ts) (hinst : Cond.instantiable C N ∈ Ts) (hini : Cond.initialized C ∈ Ts) (hc : vwCl[ci]? = some (C, T, N)) (hfs : ∀ j, j < N → defaultValue (ty0 j) = vp_V fs j) (hcells : k + 1 ≤ R.cells) (hslots : n + N ≤ R.slots) (hq : pc + 3 = q) (h : ∀ qa : Nat, V own cc nL ret Ts R X tys Q (k + 1) (n + N) (ws ++ [(qa, .inr (ci, fs))]) q lv (.ref qa :: st)) : V own cc nL ret Ts R X tys Q k n ws pc lv st := by
  subst hq
  intro p l e s m args below meth c D A H locs ls hx hb hr hm ho ht hk hX hK hA hP hD hS hl
  exact va_new hx hb ht hin ty0 hty ho (ht _ hcl) (ht _ hinst) (ht _ hini) hK hP hD hS hA hc hfs hcells hslots d (fun qa H1 hP1 hD1 hS1 => h qa p l e s m args below meth c D A H1 locs ls hx hb hr hm ho ht hk hX hK hA hP1 hD1 hS1 hl)
theorem V_callN {q idx mc ms h0 : Nat} {y : MethodName} {wsy : List Cond} {wr wc : va_W} {rest : List Value} {B : ZA → List (ClassId × FieldType) × va_W} (d : decode cc pc = .ok (.invokespecial idx, 3)) (hM : CtN y wsy [.ref h0] wc B h0 mc ms) (hY : ∃ (bytes : ByteArray) (maxL : Nat) (wy' : List Cond), wsy = Cond.code y bytes maxL none :: wy' ∧ (y.cls ≠ "java/lang/invoke/MethodHandle" ∧ y.cls ≠ "java/lang/invoke/VarHandle" ∧ (parseMethodDescriptor y.desc).map (fun d => d.parameters.length) = some 0) ∧ maxL ≤ 21) (hyn : y.name = "<init>") (hG : GoodIn Ts wsy) (hini : Cond.initialized y.cls ∈ Ts) (hl9 : Cond.methodLink own idx y ∈ Ts) (hin : Cond.instanceMethod y ∈ Ts)
    (isC isR : List Nat) (hC : isC.map (fun i => ws[i]?) = wc.map some) (hC2 : isC.filterMap (fun i => ws[i]?) = wc) (hnC : va_nd isC = true) (hR : isR.map (fun i => ws[i]?) = wr.map some) (hn : va_nd isR = true) (hdis : ∀ i ∈ isR, i ∉ isC) (hrest : (rest.map fun v => v.category).sum ≤ 8) (hRoom : 2 ≤ R.frames ∧ 70 ≤ R.locals) (hkn : k + mc ≤ R.cells ∧ n + ms ≤ R.slots) (hq : pc + 3 = q)
    (h : ∀ z : ZA, z.1 0 = h0 → V own cc nL ret Ts R X (tys ++ (B z).1) Q (k + mc) (n + ms) (wr ++ (B z).2) q lv rest) : V own cc nL ret Ts R X tys Q k n ws pc lv (.ref h0 :: rest) := by
  subst hq
  intro p l e s m args below meth c D A H locs ls hx hb hr hm ho ht hk hX hK hA hP hD hS hl
  have hKc := hK.sub (tys' := []) [] rfl
  have hPc := hP.sub isC hC2
  have hDc := hD.sub isC hnC hC
  have hFc := va_free hD hS hA isC hC
  obtain ⟨bytes, maxL, wy', hw, hd1, hmL⟩ := hY
  have hR2 : (rmN mc ms).frames + 1 ≤ R.frames ∧ 8 + (maxL + 11) + (rmN mc ms).locals ≤ R.locals := ⟨hRoom.1, by have h1 := hRoom.2; show 8 + (maxL + 11) + 30 ≤ R.locals; omega⟩
  refine va_callv (va_runI (As := []) (rest := rest) ⟨hx, hb, hm, ho, ht⟩ (hM l D H.size) (cwI 0 ht hG hw rfl rfl (ht _ hini) (ht _ hl9) (ht _ hin) hyn hd1 hR2) ⟨pB_blind _ _ _ _ _, fun U hU hW => ⟨rfl, by rw [hU], by rw [hU]; exact hPc, va_K.moved hW.alike hKc, hDc.weaken (fun _ _ _ _ => trivial)⟩⟩ rfl rfl hl.1 rfl (lv_room hrest) d hkn) hS (fun z _ h => hFc z h) hFc (fun z t H1 locs1 ht1 hvm hw1 hB hz1 hk1 hS1 => ?_)
  obtain ⟨hP1, hK1, hD1⟩ := hB
  rw [ht1] at hP1
  obtain ⟨j1, j2⟩ := va_join hP hD isC isR hC hR hn hdis hk1 hFc hP1 hD1
  exact h z hw1 p l e s m args below meth c D A H1 locs1 ls hx hb hr hm ho ht hk hX (hK.app (va_K.moved hvm.symm hK1)) hA j1 j2 hS1 hl
/-- the world and its classes in another order -/
theorem V_perm {tys' : List (ClassId × FieldType)} {ws' : va_W} (it iw : List Nat) (h1 : it.filterMap (fun i => tys[i]?) = tys') (h2 : iw.filterMap (fun i => ws[i]?) = ws') (h3 : va_nd iw = true) (h4 : iw.map (fun i => ws[i]?) = ws'.map some) (h : V own cc nL ret Ts R X tys' Q k n ws' pc lv st) : V own cc nL ret Ts R X tys Q k n ws pc lv st := by
  intro p l e s m args below meth c D A H locs ls hx hb hr hm ho ht hk hX hK hA hP hD hS hl
  exact h p l e s m args below meth c D A H locs ls hx hb hr hm ho ht hk hX (hK.sub it h1) hA (hP.sub iw h2) (hD.sub iw h3 h4) hS hl
end VN
def S0 : St := (0, 0, fun _ => 0, fun _ => 0, fun _ => 0, fun _ => 0, fun _ => 0, fun _ => 0, fun _ => false, fun _ => false, fun _ => 0)
theorem S0_ok : Ok S0 := ⟨Nat.zero_le _, Nat.zero_le _, fun _ => Nat.zero_le _, fun _ => Nat.zero_le _, fun _ => Nat.zero_le _, fun _ => Nat.zero_le _, fun _ => Nat.zero_le _, fun _ => Nat.zero_le _, fun _ => Nat.zero_le _, fun _ _ _ _ => rfl, fun _ _ => rfl⟩
def B0 (z : ZA) : List (ClassId × FieldType) × va_W := (tyk z.2, wkc z.1 z.2 S0 (fun _ => 0))
def blX0 : List Value := [.null, .null, .null, .null, .null, .null, .int (iZ 0), .int (iZ 0), .int (iZ 0), .long 0, .null, .null]
set_option maxRecDepth 100000 in
set_option maxHeartbeats 4000000 in
theorem c_X0_init (h0 : Nat) : CtN yX0_init wsX0_init [.ref h0] [(h0, .inr (0, blX0))] B0 h0 8 1236 := by
  refine CtN_of (own := RX0) (cc := cX0_init) (maxL := 1) (by decide +kernel) rfl rfl rfl (Nat.le_of_ble_eq_true rfl) ?_
  refine V_aload_n (q := 1) dX0_init_0 0 rfl rfl ?_
  refine V_objInit (q := 4) dX0_init_1 (by decide +kernel) (by decide +kernel) (by decide +kernel) (by decide) (by decide) rfl ?_
  refine V_aload_n (q := 5) dX0_init_4 0 rfl rfl ?_
  refine V_bipush (q := 7) dX0_init_5 (by decide) rfl ?_
  refine V_newa (q := 9) (ty := .int) (N' := 12) (a0 := (12, .inl (fun _ => iZ 0))) dX0_init_7 (by decide +kernel) rfl (fun _ => rfl) rfl (by decide) (by decide) (by decide) (by decide) rfl (fun q1 c1 => ?_)
  refine V_putF (q := 12) (ty := .array .int) (ws' := [(h0, .inr (0, [.ref q1, .null, .null, .null, .null, .null, .int (iZ 0), .int (iZ 0), .int (iZ 0), .long 0, .null, .null])), (q1, .inl (c1, 12, .inl (fun _ => iZ 0)))]) dX0_init_9 (fun _ _ _ _ _ _ h => h) (fun _ h => List.mem_cons_of_mem _ (List.mem_append_right _ h)) tyX0 tyX0_ok nmX0 0 rfl rfl 0 (by decide) (by decide +kernel) rfl rfl (by decide +kernel) rfl rfl (Nat.le_of_ble_eq_true rfl) rfl rfl ?_
  refine V_aload_n (q := 13) dX0_init_12 0 rfl rfl ?_
  refine V_bipush (q := 15) dX0_init_13 (by decide) rfl ?_
  refine V_newa (q := 17) (ty := .int) (N' := 12) (a0 := (12, .inl (fun _ => iZ 0))) dX0_init_15 (by decide +kernel) rfl (fun _ => rfl) rfl (by decide) (by decide) (by decide) (by decide) rfl (fun q2 c2 => ?_)
  refine V_putF (q := 20) (ty := .array .int) (ws' := [(h0, .inr (0, [.ref q1, .ref q2, .null, .null, .null, .null, .int (iZ 0), .int (iZ 0), .int (iZ 0), .long 0, .null, .null])), (q1, .inl (c1, 12, .inl (fun _ => iZ 0))), (q2, .inl (c2, 12, .inl (fun _ => iZ 0)))]) dX0_init_17 (fun _ _ _ _ _ _ h => h) (fun _ h => List.mem_cons_of_mem _ (List.mem_append_right _ h)) tyX0 tyX0_ok nmX0 0 rfl rfl 1 (by decide) (by decide +kernel) rfl rfl (by decide +kernel) rfl rfl (Nat.le_of_ble_eq_true rfl) rfl rfl ?_
  refine V_aload_n (q := 21) dX0_init_20 0 rfl rfl ?_
  refine V_bipush (q := 23) dX0_init_21 (by decide) rfl ?_
  refine V_newa (q := 25) (ty := .int) (N' := 12) (a0 := (12, .inl (fun _ => iZ 0))) dX0_init_23 (by decide +kernel) rfl (fun _ => rfl) rfl (by decide) (by decide) (by decide) (by decide) rfl (fun q3 c3 => ?_)
  refine V_putF (q := 28) (ty := .array .int) (ws' := [(h0, .inr (0, [.ref q1, .ref q2, .ref q3, .null, .null, .null, .int (iZ 0), .int (iZ 0), .int (iZ 0), .long 0, .null, .null])), (q1, .inl (c1, 12, .inl (fun _ => iZ 0))), (q2, .inl (c2, 12, .inl (fun _ => iZ 0))), (q3, .inl (c3, 12, .inl (fun _ => iZ 0)))]) dX0_init_25 (fun _ _ _ _ _ _ h => h) (fun _ h => List.mem_cons_of_mem _ (List.mem_append_right _ h)) tyX0 tyX0_ok nmX0 0 rfl rfl 2 (by decide) (by decide +kernel) rfl rfl (by decide +kernel) rfl rfl (Nat.le_of_ble_eq_true rfl) rfl rfl ?_
  refine V_aload_n (q := 29) dX0_init_28 0 rfl rfl ?_
  refine V_bipush (q := 31) dX0_init_29 (by decide) rfl ?_
  refine V_newa (q := 33) (ty := .int) (N' := 12) (a0 := (12, .inl (fun _ => iZ 0))) dX0_init_31 (by decide +kernel) rfl (fun _ => rfl) rfl (by decide) (by decide) (by decide) (by decide) rfl (fun q4 c4 => ?_)
  refine V_putF (q := 36) (ty := .array .int) (ws' := [(h0, .inr (0, [.ref q1, .ref q2, .ref q3, .ref q4, .null, .null, .int (iZ 0), .int (iZ 0), .int (iZ 0), .long 0, .null, .null])), (q1, .inl (c1, 12, .inl (fun _ => iZ 0))), (q2, .inl (c2, 12, .inl (fun _ => iZ 0))), (q3, .inl (c3, 12, .inl (fun _ => iZ 0))), (q4, .inl (c4, 12, .inl (fun _ => iZ 0)))]) dX0_init_33 (fun _ _ _ _ _ _ h => h) (fun _ h => List.mem_cons_of_mem _ (List.mem_append_right _ h)) tyX0 tyX0_ok nmX0 0 rfl rfl 3 (by decide) (by decide +kernel) rfl rfl (by decide +kernel) rfl rfl (Nat.le_of_ble_eq_true rfl) rfl rfl ?_
  refine V_aload_n (q := 37) dX0_init_36 0 rfl rfl ?_
  refine V_bipush (q := 39) dX0_init_37 (by decide) rfl ?_
  refine V_newa (q := 41) (ty := .int) (N' := 12) (a0 := (12, .inl (fun _ => iZ 0))) dX0_init_39 (by decide +kernel) rfl (fun _ => rfl) rfl (by decide) (by decide) (by decide) (by decide) rfl (fun q5 c5 => ?_)
  refine V_putF (q := 44) (ty := .array .int) (ws' := [(h0, .inr (0, [.ref q1, .ref q2, .ref q3, .ref q4, .ref q5, .null, .int (iZ 0), .int (iZ 0), .int (iZ 0), .long 0, .null, .null])), (q1, .inl (c1, 12, .inl (fun _ => iZ 0))), (q2, .inl (c2, 12, .inl (fun _ => iZ 0))), (q3, .inl (c3, 12, .inl (fun _ => iZ 0))), (q4, .inl (c4, 12, .inl (fun _ => iZ 0))), (q5, .inl (c5, 12, .inl (fun _ => iZ 0)))]) dX0_init_41 (fun _ _ _ _ _ _ h => h) (fun _ h => List.mem_cons_of_mem _ (List.mem_append_right _ h)) tyX0 tyX0_ok nmX0 0 rfl rfl 4 (by decide) (by decide +kernel) rfl rfl (by decide +kernel) rfl rfl (Nat.le_of_ble_eq_true rfl) rfl rfl ?_
  refine V_aload_n (q := 45) dX0_init_44 0 rfl rfl ?_
  refine V_bipush (q := 47) dX0_init_45 (by decide) rfl ?_
  refine V_newa (q := 49) (ty := .int) (N' := 12) (a0 := (12, .inl (fun _ => iZ 0))) dX0_init_47 (by decide +kernel) rfl (fun _ => rfl) rfl (by decide) (by decide) (by decide) (by decide) rfl (fun q6 c6 => ?_)
  refine V_putF (q := 52) (ty := .array .int) (ws' := [(h0, .inr (0, [.ref q1, .ref q2, .ref q3, .ref q4, .ref q5, .ref q6, .int (iZ 0), .int (iZ 0), .int (iZ 0), .long 0, .null, .null])), (q1, .inl (c1, 12, .inl (fun _ => iZ 0))), (q2, .inl (c2, 12, .inl (fun _ => iZ 0))), (q3, .inl (c3, 12, .inl (fun _ => iZ 0))), (q4, .inl (c4, 12, .inl (fun _ => iZ 0))), (q5, .inl (c5, 12, .inl (fun _ => iZ 0))), (q6, .inl (c6, 12, .inl (fun _ => iZ 0)))]) dX0_init_49 (fun _ _ _ _ _ _ h => h) (fun _ h => List.mem_cons_of_mem _ (List.mem_append_right _ h)) tyX0 tyX0_ok nmX0 0 rfl rfl 5 (by decide) (by decide +kernel) rfl rfl (by decide +kernel) rfl rfl (Nat.le_of_ble_eq_true rfl) rfl rfl ?_
  refine V_aload_n (q := 53) dX0_init_52 0 rfl rfl ?_
  refine V_sipush (q := 56) dX0_init_53 (by decide) rfl ?_
  refine V_newa (q := 58) (ty := .int) (N' := 1152) (a0 := (1152, .inl (fun _ => iZ 0))) dX0_init_56 (by decide +kernel) rfl (fun _ => rfl) rfl (by decide) (by decide) (by decide) (by decide) rfl (fun q7 c7 => ?_)
  refine V_putF (q := 61) (ty := .array .int) (ws' := [(h0, .inr (0, [.ref q1, .ref q2, .ref q3, .ref q4, .ref q5, .ref q6, .int (iZ 0), .int (iZ 0), .int (iZ 0), .long 0, .ref q7, .null])), (q1, .inl (c1, 12, .inl (fun _ => iZ 0))), (q2, .inl (c2, 12, .inl (fun _ => iZ 0))), (q3, .inl (c3, 12, .inl (fun _ => iZ 0))), (q4, .inl (c4, 12, .inl (fun _ => iZ 0))), (q5, .inl (c5, 12, .inl (fun _ => iZ 0))), (q6, .inl (c6, 12, .inl (fun _ => iZ 0))), (q7, .inl (c7, 1152, .inl (fun _ => iZ 0)))]) dX0_init_58 (fun _ _ _ _ _ _ h => h) (fun _ h => List.mem_cons_of_mem _ (List.mem_append_right _ h)) tyX0 tyX0_ok nmX0 0 rfl rfl 10 (by decide) (by decide +kernel) rfl rfl (by decide +kernel) rfl rfl (Nat.le_of_ble_eq_true rfl) rfl rfl ?_
  refine V_aload_n (q := 62) dX0_init_61 0 rfl rfl ?_
  refine V_bipush (q := 64) dX0_init_62 (by decide) rfl ?_
  refine V_newa (q := 66) (ty := .int) (N' := 12) (a0 := (12, .inl (fun _ => iZ 0))) dX0_init_64 (by decide +kernel) rfl (fun _ => rfl) rfl (by decide) (by decide) (by decide) (by decide) rfl (fun q8 c8 => ?_)
  refine V_putF (q := 69) (ty := .array .int) (ws' := [(h0, .inr (0, [.ref q1, .ref q2, .ref q3, .ref q4, .ref q5, .ref q6, .int (iZ 0), .int (iZ 0), .int (iZ 0), .long 0, .ref q7, .ref q8])), (q1, .inl (c1, 12, .inl (fun _ => iZ 0))), (q2, .inl (c2, 12, .inl (fun _ => iZ 0))), (q3, .inl (c3, 12, .inl (fun _ => iZ 0))), (q4, .inl (c4, 12, .inl (fun _ => iZ 0))), (q5, .inl (c5, 12, .inl (fun _ => iZ 0))), (q6, .inl (c6, 12, .inl (fun _ => iZ 0))), (q7, .inl (c7, 1152, .inl (fun _ => iZ 0))), (q8, .inl (c8, 12, .inl (fun _ => iZ 0)))]) dX0_init_66 (fun _ _ _ _ _ _ h => h) (fun _ h => List.mem_cons_of_mem _ (List.mem_append_right _ h)) tyX0 tyX0_ok nmX0 0 rfl rfl 11 (by decide) (by decide +kernel) rfl rfl (by decide +kernel) rfl rfl (Nat.le_of_ble_eq_true rfl) rfl rfl ?_
  exact V_nret ((fun j => match j with | 0 => h0 | 1 => q1 | 2 => q2 | 3 => q3 | 4 => q4 | 5 => q5 | 6 => q6 | 7 => q7 | _ => q8, fun j => match j with | 1 => c1 | 2 => c2 | 3 => c3 | 4 => c4 | 5 => c5 | 6 => c6 | 7 => c7 | _ => c8) : ZA) dX0_init_69 rfl rfl rfl rfl
theorem ok_add {S : St} (ho : Ok S) {k c w m r : Int} (h : cAdd S k c w m r = 0) : Ok (uA S k.toNat c.toNat w.toNat m.toNat r.toNat) := by
  obtain ⟨h1, h2, h3, h4, h5, h6, h7, h8, h9, h10, h11⟩ := ho
  unfold cAdd at h
  split at h
  · next q =>
    split at h
    · cases h
    · next q2 =>
      simp only [inZ, Bool.and_eq_true, decide_eq_true_eq] at q
      refine ⟨by show sN S + 1 ≤ 12; omega, h2, fun j => ?_, fun j => ?_, fun j => ?_, fun j => ?_, fun j => ?_, fun j => ?_, h9, h10, fun j hj => h11 j (by have hj2 : sN S + 1 ≤ j := hj; omega)⟩
      · show fu (sK S) (sN S) k.toNat j ≤ 2
        have := h3 j
        unfold fu
        split <;> omega
      · show fu (sC S) (sN S) c.toNat j ≤ 7
        have := h4 j
        unfold fu
        split <;> omega
      · show fu (sW S) (sN S) w.toNat j ≤ 10
        have := h5 j
        unfold fu
        split <;> omega
      · show fu (sM S) (sN S) m.toNat j ≤ 9
        have := h6 j
        unfold fu
        split <;> omega
      · show fu (sR S) (sN S) r.toNat j ≤ 2
        have := h7 j
        unfold fu
        split <;> omega
      · show fu (sL S) (sN S) m.toNat j ≤ fu (sM S) (sN S) m.toNat j
        have := h8 j
        unfold fu
        split <;> omega
  · cases h
