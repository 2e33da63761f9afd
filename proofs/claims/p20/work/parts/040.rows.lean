/-! the closed judgement V: W for every machine that fits; rows over it -/
abbrev VQ : Type := va_G → (Nat → Prop) → Array Value → State → List Frame → State → Prop
abbrev VX : Type := Launch → Method → Code → (Nat → Prop) → Array Value → State → Prop
def V (own : String) (cc : ByteArray) (nL : Nat) (ret : Option FieldType) (Ts : List Cond) (R : Room) (X : VX) (tys : List (ClassId × FieldType)) (Q : VQ) (k n : Nat) (ws : va_W) (pc : Nat) (lv : List (Nat × Value)) (st : List Value) : Prop :=
  ∀ (p : Program) (l : Launch) (e : Env) (s : State) (m : MethodId) (args : Array Value) (below : List Frame) (meth : Method) (c : Code) (D : va_G) (A : Nat → Prop) (H : Heap) (locs : List Loc) (ls : Array Slot),
    p.tables.exec = Jvm.exec → c.code = cc → meth.sig.returnType = ret → c.maxLocals = nL → s.vm.findClass own = some m.cls → (∀ w ∈ Ts, w.before args s = true) → meth.locks = false → X l meth c A args s → va_K D vwCl tys s → (∀ q, s.heap.size ≤ q → A q) →
    va_P D vwCl ws H → va_D A ws → va_S A s.heap H locs → lv_has ls nL lv → W p l e R s m args below meth c H locs k n (Q D A args s below) (F0 m pc ls st)
def vX0 : VX := fun _ _ _ _ _ _ => True
def iZ (z : Int) : Int32 := Int32.ofInt z
def bZ (b : Bool) : Int := match b with
  | true => 1
  | false => 0
def rmD (d : Nat) : Room := { frames := d, cells := 0, slots := 0, locals := 40 * d }
theorem iZ_toInt {z : Int} (h : -2147483648 ≤ z ∧ z < 2147483648) : (iZ z).toInt = z := Int32.toInt_ofInt_of_le (by omega) (by omega)
theorem iZ_add (a b : Int) : iZ a + iZ b = iZ (a + b) := by unfold iZ; rw [Int32.ofInt_add]
theorem iZ_sub (a b : Int) : iZ a - iZ b = iZ (a - b) := by unfold iZ; rw [Int32.ofInt_sub]
theorem iZ_mul (a b : Int) : iZ a * iZ b = iZ (a * b) := by unfold iZ; rw [Int32.ofInt_mul]
theorem iZ_nI (a : Nat) : iZ (a : Int) = nI a := Int32.ofInt_eq_ofNat
theorem iZ_self (x : Int32) : iZ x.toInt = x := Int32.ofInt_toInt x
theorem iZ_inj {a b : Int} (ha : -2147483648 ≤ a ∧ a < 2147483648) (hb : -2147483648 ≤ b ∧ b < 2147483648) : iZ a = iZ b ↔ a = b :=
  ⟨fun h => by have h2 := congrArg Int32.toInt h; rwa [iZ_toInt ha, iZ_toInt hb] at h2, fun h => by rw [h]⟩
theorem iZ_lt {a b : Int} (ha : -2147483648 ≤ a ∧ a < 2147483648) (hb : -2147483648 ≤ b ∧ b < 2147483648) : iZ a < iZ b ↔ a < b := by rw [Int32.lt_iff_toInt_lt, iZ_toInt ha, iZ_toInt hb]
theorem iZ_le {a b : Int} (ha : -2147483648 ≤ a ∧ a < 2147483648) (hb : -2147483648 ≤ b ∧ b < 2147483648) : iZ a ≤ iZ b ↔ a ≤ b := by rw [Int32.le_iff_toInt_le, iZ_toInt ha, iZ_toInt hb]
theorem iZ_0 : iZ 0 = 0 := rfl
theorem bZ_in (b : Bool) : -2147483648 ≤ bZ b ∧ bZ b < 2147483648 := by cases b <;> decide
theorem iZ_in {z : Int} {j N : Nat} (hz : z = (j : Int)) (hj : j < N) (hN : N < 2147483648) : vp_in (iZ z) N ∧ (iZ z).toNatClampNeg = j := by
  subst hz
  have h := iZ_toInt (z := (j : Int)) (by omega)
  refine ⟨vp_in_iff.mpr ⟨by rw [h]; omega, by rw [h]; omega⟩, ?_⟩
  show (iZ (j : Int)).toInt.toNat = j
  rw [h]; exact Int.toNat_natCast j
theorem x_toInt (x : Int32) : -2147483648 ≤ x.toInt ∧ x.toInt < 2147483648 := by
  have h1 := Int32.le_toInt x
  have h2 := Int32.toInt_lt x
  omega
def lins (x : Nat × Value) : List (Nat × Value) → List (Nat × Value)
  | [] => [x]
  | q :: t => if q.1 < x.1 then q :: lins x t else x :: q :: t
theorem lins_mem {x q : Nat × Value} : ∀ {l : List (Nat × Value)}, q ∈ lins x l → q ∈ x :: l
  | [], h => h
  | y :: t, h => by
    unfold lins at h
    split at h
    · rcases List.mem_cons.mp h with h | h
      · exact List.mem_cons_of_mem _ (h ▸ List.mem_cons_self)
      · rcases List.mem_cons.mp (lins_mem h) with h | h
        · exact h ▸ List.mem_cons_self
        · exact List.mem_cons_of_mem _ (List.mem_cons_of_mem _ h)
    · exact h
def lset (l : List (Nat × Value)) (i : Nat) (v : Value) : List (Nat × Value) := lins (i, v) (l.filter (fun q => !(q.1 == i) && !(q.1 + 1 == i && q.2.category == 2)))
theorem lset_has {ls : Array Slot} {nL : Nat} {l l' : List (Nat × Value)} {i : Nat} {v : Value} (h : lv_has ls nL ((i, v) :: l.filter (fun q => !(q.1 == i) && !(q.1 + 1 == i && q.2.category == 2)))) (hl : lset l i v = l') : lv_has ls nL l' := by
  subst hl
  exact ⟨h.1, h.2.1, fun q hq => h.2.2 q (lins_mem hq)⟩
def lsetL (l : List (Nat × Value)) (i : Nat) (v : Value) : List (Nat × Value) := lins (i, v) (l.filter (fun q => !(q.1 == i) && (!(q.1 == i + 1) && !(q.1 + 1 == i && q.2.category == 2))))
theorem lsetL_has {ls : Array Slot} {nL : Nat} {l l' : List (Nat × Value)} {i : Nat} {v : Value} (h : lv_has ls nL ((i, v) :: l.filter (fun q => !(q.1 == i) && (!(q.1 == i + 1) && !(q.1 + 1 == i && q.2.category == 2))))) (hl : lsetL l i v = l') : lv_has ls nL l' := by
  subst hl
  exact ⟨h.1, h.2.1, fun q hq => h.2.2 q (lins_mem hq)⟩
section VR
variable {own : String} {cc : ByteArray} {nL : Nat} {ret : Option FieldType} {Ts : List Cond} {R : Room} {X : VX} {tys : List (ClassId × FieldType)} {Q : VQ} {k n : Nat} {ws : va_W} {pc : Nat} {lv : List (Nat × Value)} {st : List Value}
theorem V_iload_n {q : Nat} {i : Fin 4} {x : Int32} (d : decode cc pc = .ok (.iload_n i, 1)) (j : Nat) (hj : lv[j]? = some ((i : Nat), .int x)) (hq : pc + 1 = q := by rfl) (h : V own cc nL ret Ts R X tys Q k n ws q lv (.int x :: st)) : V own cc nL ret Ts R X tys Q k n ws pc lv st := by
  subst hq
  intro p l e s m args below meth c D A H locs ls hx hb hr hm ho ht hk hX hK hA hP hD hS hl
  exact lv_iload_n hx hb d rfl (lv_at hl j hj) (h p l e s m args below meth c D A H locs ls hx hb hr hm ho ht hk hX hK hA hP hD hS hl)
theorem V_iload {q : Nat} {i : Nat} {x : Int32} (d : decode cc pc = .ok (.iload i, 2)) (j : Nat) (hj : lv[j]? = some (i, .int x)) (hq : pc + 2 = q := by rfl) (h : V own cc nL ret Ts R X tys Q k n ws q lv (.int x :: st)) : V own cc nL ret Ts R X tys Q k n ws pc lv st := by
  subst hq
  intro p l e s m args below meth c D A H locs ls hx hb hr hm ho ht hk hX hK hA hP hD hS hl
  exact lv_iload hx hb d (lv_at hl j hj) (h p l e s m args below meth c D A H locs ls hx hb hr hm ho ht hk hX hK hA hP hD hS hl)
theorem V_aload_n {q : Nat} {i : Fin 4} {x : Nat} (d : decode cc pc = .ok (.aload_n i, 1)) (j : Nat) (hj : lv[j]? = some ((i : Nat), .ref x)) (hq : pc + 1 = q := by rfl) (h : V own cc nL ret Ts R X tys Q k n ws q lv (.ref x :: st)) : V own cc nL ret Ts R X tys Q k n ws pc lv st := by
  subst hq
  intro p l e s m args below meth c D A H locs ls hx hb hr hm ho ht hk hX hK hA hP hD hS hl
  exact lv_aload_n hx hb d rfl (lv_at hl j hj) (h p l e s m args below meth c D A H locs ls hx hb hr hm ho ht hk hX hK hA hP hD hS hl)
theorem V_aload {q : Nat} {i : Nat} {x : Nat} (d : decode cc pc = .ok (.aload i, 2)) (j : Nat) (hj : lv[j]? = some (i, .ref x)) (hq : pc + 2 = q := by rfl) (h : V own cc nL ret Ts R X tys Q k n ws q lv (.ref x :: st)) : V own cc nL ret Ts R X tys Q k n ws pc lv st := by
  subst hq
  intro p l e s m args below meth c D A H locs ls hx hb hr hm ho ht hk hX hK hA hP hD hS hl
  exact lv_aload hx hb d (lv_at hl j hj) (h p l e s m args below meth c D A H locs ls hx hb hr hm ho ht hk hX hK hA hP hD hS hl)
theorem V_lload_n {q : Nat} {i : Fin 4} {x : Int64} (d : decode cc pc = .ok (.lload_n i, 1)) (j : Nat) (hj : lv[j]? = some ((i : Nat), .long x)) (hq : pc + 1 = q := by rfl) (h : V own cc nL ret Ts R X tys Q k n ws q lv (.long x :: st)) : V own cc nL ret Ts R X tys Q k n ws pc lv st := by
  subst hq
  intro p l e s m args below meth c D A H locs ls hx hb hr hm ho ht hk hX hK hA hP hD hS hl
  exact lv_lload_n hx hb d rfl (lv_at hl j hj) (h p l e s m args below meth c D A H locs ls hx hb hr hm ho ht hk hX hK hA hP hD hS hl)
theorem V_lload {q : Nat} {i : Nat} {x : Int64} (d : decode cc pc = .ok (.lload i, 2)) (j : Nat) (hj : lv[j]? = some (i, .long x)) (hq : pc + 2 = q := by rfl) (h : V own cc nL ret Ts R X tys Q k n ws q lv (.long x :: st)) : V own cc nL ret Ts R X tys Q k n ws pc lv st := by
  subst hq
  intro p l e s m args below meth c D A H locs ls hx hb hr hm ho ht hk hX hK hA hP hD hS hl
  exact lv_lload hx hb d (lv_at hl j hj) (h p l e s m args below meth c D A H locs ls hx hb hr hm ho ht hk hX hK hA hP hD hS hl)
theorem V_istore_n {q : Nat} {i : Fin 4} {x : Int32} {lv' : List (Nat × Value)} (d : decode cc pc = .ok (.istore_n i, 1)) (hi : (i : Nat) < nL) (hl' : lset lv (i : Nat) (.int x) = lv') (hq : pc + 1 = q := by rfl) (h : V own cc nL ret Ts R X tys Q k n ws q lv' st) : V own cc nL ret Ts R X tys Q k n ws pc lv (.int x :: st) := by
  subst hq
  intro p l e s m args below meth c D A H locs ls hx hb hr hm ho ht hk hX hK hA hP hD hS hl
  exact lv_istore_n hx hb d rfl hl hi rfl (fun ls2 hl2 => h p l e s m args below meth c D A H locs ls2 hx hb hr hm ho ht hk hX hK hA hP hD hS (lset_has hl2 hl'))
theorem V_istore {q : Nat} {i : Nat} {x : Int32} {lv' : List (Nat × Value)} (d : decode cc pc = .ok (.istore i, 2)) (hi : i < nL) (hl' : lset lv i (.int x) = lv') (hq : pc + 2 = q := by rfl) (h : V own cc nL ret Ts R X tys Q k n ws q lv' st) : V own cc nL ret Ts R X tys Q k n ws pc lv (.int x :: st) := by
  subst hq
  intro p l e s m args below meth c D A H locs ls hx hb hr hm ho ht hk hX hK hA hP hD hS hl
  exact lv_istore hx hb d hl hi rfl (fun ls2 hl2 => h p l e s m args below meth c D A H locs ls2 hx hb hr hm ho ht hk hX hK hA hP hD hS (lset_has hl2 hl'))
theorem V_astore_n {q : Nat} {i : Fin 4} {x : Nat} {lv' : List (Nat × Value)} (d : decode cc pc = .ok (.astore_n i, 1)) (hi : (i : Nat) < nL) (hl' : lset lv (i : Nat) (.ref x) = lv') (hq : pc + 1 = q := by rfl) (h : V own cc nL ret Ts R X tys Q k n ws q lv' st) : V own cc nL ret Ts R X tys Q k n ws pc lv (.ref x :: st) := by
  subst hq
  intro p l e s m args below meth c D A H locs ls hx hb hr hm ho ht hk hX hK hA hP hD hS hl
  exact lv_astore_n hx hb d rfl hl hi rfl (fun ls2 hl2 => h p l e s m args below meth c D A H locs ls2 hx hb hr hm ho ht hk hX hK hA hP hD hS (lset_has hl2 hl'))
theorem V_astore {q : Nat} {i : Nat} {x : Nat} {lv' : List (Nat × Value)} (d : decode cc pc = .ok (.astore i, 2)) (hi : i < nL) (hl' : lset lv i (.ref x) = lv') (hq : pc + 2 = q := by rfl) (h : V own cc nL ret Ts R X tys Q k n ws q lv' st) : V own cc nL ret Ts R X tys Q k n ws pc lv (.ref x :: st) := by
  subst hq
  intro p l e s m args below meth c D A H locs ls hx hb hr hm ho ht hk hX hK hA hP hD hS hl
  exact lv_astore hx hb d hl hi rfl (fun ls2 hl2 => h p l e s m args below meth c D A H locs ls2 hx hb hr hm ho ht hk hX hK hA hP hD hS (lset_has hl2 hl'))
theorem V_lstore {q : Nat} {i : Nat} {x : Int64} {lv' : List (Nat × Value)} (d : decode cc pc = .ok (.lstore i, 2)) (hi : i + 1 < nL) (hl' : lsetL lv i (.long x) = lv') (hq : pc + 2 = q := by rfl) (h : V own cc nL ret Ts R X tys Q k n ws q lv' st) : V own cc nL ret Ts R X tys Q k n ws pc lv (.long x :: st) := by
  subst hq
  intro p l e s m args below meth c D A H locs ls hx hb hr hm ho ht hk hX hK hA hP hD hS hl
  exact lv_lstore hx hb d hl hi rfl (fun ls2 hl2 => h p l e s m args below meth c D A H locs ls2 hx hb hr hm ho ht hk hX hK hA hP hD hS (lsetL_has hl2 hl'))
theorem V_iinc {q : Nat} {i : Nat} {z : Int} {x y : Int} {lv' : List (Nat × Value)} (d : decode cc pc = .ok (.iinc i z, 3)) (j : Nat) (hj : lv[j]? = some (i, .int (iZ x))) (hy : x + z = y) (hi : i < nL) (hl' : lset lv i (.int (iZ y)) = lv') (hq : pc + 3 = q := by rfl) (h : V own cc nL ret Ts R X tys Q k n ws q lv' st) : V own cc nL ret Ts R X tys Q k n ws pc lv st := by
  subst hq
  intro p l e s m args below meth c D A H locs ls hx hb hr hm ho ht hk hX hK hA hP hD hS hl
  subst hy
  exact lv_iinc hx hb d hl hj (iZ_add x z) hi rfl (fun ls2 hl2 => h p l e s m args below meth c D A H locs ls2 hx hb hr hm ho ht hk hX hK hA hP hD hS (lset_has hl2 hl'))
theorem V_iconst {q : Nat} {z : Int} (d : decode cc pc = .ok (.iconst z, 1)) (hq : pc + 1 = q := by rfl) (h : V own cc nL ret Ts R X tys Q k n ws q lv (.int (iZ z) :: st)) : V own cc nL ret Ts R X tys Q k n ws pc lv st := by
  subst hq
  intro p l e s m args below meth c D A H locs ls hx hb hr hm ho ht hk hX hK hA hP hD hS hl
  exact lv_iconst hx hb d rfl (h p l e s m args below meth c D A H locs ls hx hb hr hm ho ht hk hX hK hA hP hD hS hl)
theorem V_bipush {q : Nat} {z : Int} (d : decode cc pc = .ok (.bipush z, 2)) (hz : (Int8.ofInt z).toInt32 = iZ z) (hq : pc + 2 = q := by rfl) (h : V own cc nL ret Ts R X tys Q k n ws q lv (.int (iZ z) :: st)) : V own cc nL ret Ts R X tys Q k n ws pc lv st := by
  subst hq
  intro p l e s m args below meth c D A H locs ls hx hb hr hm ho ht hk hX hK hA hP hD hS hl
  exact lv_bipush hx hb d hz (h p l e s m args below meth c D A H locs ls hx hb hr hm ho ht hk hX hK hA hP hD hS hl)
theorem V_sipush {q : Nat} {z : Int} (d : decode cc pc = .ok (.sipush z, 3)) (hz : (Int16.ofInt z).toInt32 = iZ z) (hq : pc + 3 = q := by rfl) (h : V own cc nL ret Ts R X tys Q k n ws q lv (.int (iZ z) :: st)) : V own cc nL ret Ts R X tys Q k n ws pc lv st := by
  subst hq
  intro p l e s m args below meth c D A H locs ls hx hb hr hm ho ht hk hX hK hA hP hD hS hl
  exact lv_sipush hx hb d hz (h p l e s m args below meth c D A H locs ls hx hb hr hm ho ht hk hX hK hA hP hD hS hl)
theorem V_lconst {q : Nat} {z : Fin 2} {v : Int64} (d : decode cc pc = .ok (.lconst z, 1)) (hv : Int64.ofNat (z : Nat) = v) (hq : pc + 1 = q := by rfl) (h : V own cc nL ret Ts R X tys Q k n ws q lv (.long v :: st)) : V own cc nL ret Ts R X tys Q k n ws pc lv st := by
  subst hq
  intro p l e s m args below meth c D A H locs ls hx hb hr hm ho ht hk hX hK hA hP hD hS hl
  exact lv_lconst hx hb d hv (h p l e s m args below meth c D A H locs ls hx hb hr hm ho ht hk hX hK hA hP hD hS hl)
theorem V_ldc2 {q : Nat} {i : Nat} {v : Int64} (d : decode cc pc = .ok (.ldc2_w i, 3)) (hw : Cond.constantLong own i v ∈ Ts) (hq : pc + 3 = q := by rfl) (h : V own cc nL ret Ts R X tys Q k n ws q lv (.long v :: st)) : V own cc nL ret Ts R X tys Q k n ws pc lv st := by
  subst hq
  intro p l e s m args below meth c D A H locs ls hx hb hr hm ho ht hk hX hK hA hP hD hS hl
  exact lv_ldc2 hx hb ho (ht _ hw) d (h p l e s m args below meth c D A H locs ls hx hb hr hm ho ht hk hX hK hA hP hD hS hl)
theorem V_iadd {q : Nat} {a b : Int} (d : decode cc pc = .ok (.iadd, 1)) (hq : pc + 1 = q := by rfl) (h : V own cc nL ret Ts R X tys Q k n ws q lv (.int (iZ (a + b)) :: st)) : V own cc nL ret Ts R X tys Q k n ws pc lv (.int (iZ b) :: .int (iZ a) :: st) := by
  subst hq
  intro p l e s m args below meth c D A H locs ls hx hb hr hm ho ht hk hX hK hA hP hD hS hl
  have h2 := h p l e s m args below meth c D A H locs ls hx hb hr hm ho ht hk hX hK hA hP hD hS hl
  rw [← iZ_add] at h2
  exact lv_iadd hx hb d h2
theorem V_isub {q : Nat} {a b : Int} (d : decode cc pc = .ok (.isub, 1)) (hq : pc + 1 = q := by rfl) (h : V own cc nL ret Ts R X tys Q k n ws q lv (.int (iZ (a - b)) :: st)) : V own cc nL ret Ts R X tys Q k n ws pc lv (.int (iZ b) :: .int (iZ a) :: st) := by
  subst hq
  intro p l e s m args below meth c D A H locs ls hx hb hr hm ho ht hk hX hK hA hP hD hS hl
  have h2 := h p l e s m args below meth c D A H locs ls hx hb hr hm ho ht hk hX hK hA hP hD hS hl
  rw [← iZ_sub] at h2
  exact lv_isub hx hb d h2
theorem V_imul {q : Nat} {a b : Int} (d : decode cc pc = .ok (.imul, 1)) (hq : pc + 1 = q := by rfl) (h : V own cc nL ret Ts R X tys Q k n ws q lv (.int (iZ (a * b)) :: st)) : V own cc nL ret Ts R X tys Q k n ws pc lv (.int (iZ b) :: .int (iZ a) :: st) := by
  subst hq
  intro p l e s m args below meth c D A H locs ls hx hb hr hm ho ht hk hX hK hA hP hD hS hl
  have h2 := h p l e s m args below meth c D A H locs ls hx hb hr hm ho ht hk hX hK hA hP hD hS hl
  rw [← iZ_mul] at h2
  exact lv_imul hx hb d h2
theorem V_iand {q : Nat} {x y : Int32} (d : decode cc pc = .ok (.iand, 1)) (hq : pc + 1 = q := by rfl) (h : V own cc nL ret Ts R X tys Q k n ws q lv (.int (x &&& y) :: st)) : V own cc nL ret Ts R X tys Q k n ws pc lv (.int y :: .int x :: st) := by
  subst hq
  intro p l e s m args below meth c D A H locs ls hx hb hr hm ho ht hk hX hK hA hP hD hS hl
  exact lv_iand hx hb d (h p l e s m args below meth c D A H locs ls hx hb hr hm ho ht hk hX hK hA hP hD hS hl)
theorem V_ior {q : Nat} {x y : Int32} (d : decode cc pc = .ok (.ior, 1)) (hq : pc + 1 = q := by rfl) (h : V own cc nL ret Ts R X tys Q k n ws q lv (.int (x ||| y) :: st)) : V own cc nL ret Ts R X tys Q k n ws pc lv (.int y :: .int x :: st) := by
  subst hq
  intro p l e s m args below meth c D A H locs ls hx hb hr hm ho ht hk hX hK hA hP hD hS hl
  exact lv_ior hx hb d (h p l e s m args below meth c D A H locs ls hx hb hr hm ho ht hk hX hK hA hP hD hS hl)
theorem V_ixor {q : Nat} {x y : Int32} (d : decode cc pc = .ok (.ixor, 1)) (hq : pc + 1 = q := by rfl) (h : V own cc nL ret Ts R X tys Q k n ws q lv (.int (x ^^^ y) :: st)) : V own cc nL ret Ts R X tys Q k n ws pc lv (.int y :: .int x :: st) := by
  subst hq
  intro p l e s m args below meth c D A H locs ls hx hb hr hm ho ht hk hX hK hA hP hD hS hl
  exact lv_ixor hx hb d (h p l e s m args below meth c D A H locs ls hx hb hr hm ho ht hk hX hK hA hP hD hS hl)
theorem V_ishl {q : Nat} {x y : Int32} (d : decode cc pc = .ok (.ishl, 1)) (hq : pc + 1 = q := by rfl) (h : V own cc nL ret Ts R X tys Q k n ws q lv (.int (x <<< (y &&& 31)) :: st)) : V own cc nL ret Ts R X tys Q k n ws pc lv (.int y :: .int x :: st) := by
  subst hq
  intro p l e s m args below meth c D A H locs ls hx hb hr hm ho ht hk hX hK hA hP hD hS hl
  exact lv_ishl hx hb d (h p l e s m args below meth c D A H locs ls hx hb hr hm ho ht hk hX hK hA hP hD hS hl)
theorem V_ishr {q : Nat} {x y : Int32} (d : decode cc pc = .ok (.ishr, 1)) (hq : pc + 1 = q := by rfl) (h : V own cc nL ret Ts R X tys Q k n ws q lv (.int (x >>> (y &&& 31)) :: st)) : V own cc nL ret Ts R X tys Q k n ws pc lv (.int y :: .int x :: st) := by
  subst hq
  intro p l e s m args below meth c D A H locs ls hx hb hr hm ho ht hk hX hK hA hP hD hS hl
  exact lv_ishr hx hb d (h p l e s m args below meth c D A H locs ls hx hb hr hm ho ht hk hX hK hA hP hD hS hl)
theorem V_land {q : Nat} {x y : Int64} (d : decode cc pc = .ok (.land, 1)) (hq : pc + 1 = q := by rfl) (h : V own cc nL ret Ts R X tys Q k n ws q lv (.long (x &&& y) :: st)) : V own cc nL ret Ts R X tys Q k n ws pc lv (.long y :: .long x :: st) := by
  subst hq
  intro p l e s m args below meth c D A H locs ls hx hb hr hm ho ht hk hX hK hA hP hD hS hl
  exact lv_land hx hb d (h p l e s m args below meth c D A H locs ls hx hb hr hm ho ht hk hX hK hA hP hD hS hl)
theorem V_lor {q : Nat} {x y : Int64} (d : decode cc pc = .ok (.lor, 1)) (hq : pc + 1 = q := by rfl) (h : V own cc nL ret Ts R X tys Q k n ws q lv (.long (x ||| y) :: st)) : V own cc nL ret Ts R X tys Q k n ws pc lv (.long y :: .long x :: st) := by
  subst hq
  intro p l e s m args below meth c D A H locs ls hx hb hr hm ho ht hk hX hK hA hP hD hS hl
  exact lv_lor hx hb d (h p l e s m args below meth c D A H locs ls hx hb hr hm ho ht hk hX hK hA hP hD hS hl)
theorem V_lxor {q : Nat} {x y : Int64} (d : decode cc pc = .ok (.lxor, 1)) (hq : pc + 1 = q := by rfl) (h : V own cc nL ret Ts R X tys Q k n ws q lv (.long (x ^^^ y) :: st)) : V own cc nL ret Ts R X tys Q k n ws pc lv (.long y :: .long x :: st) := by
  subst hq
  intro p l e s m args below meth c D A H locs ls hx hb hr hm ho ht hk hX hK hA hP hD hS hl
  exact lv_lxor hx hb d (h p l e s m args below meth c D A H locs ls hx hb hr hm ho ht hk hX hK hA hP hD hS hl)
theorem V_lshl {q : Nat} {x : Int64} {y : Int32} (d : decode cc pc = .ok (.lshl, 1)) (hq : pc + 1 = q := by rfl) (h : V own cc nL ret Ts R X tys Q k n ws q lv (.long (x <<< (y.toInt64 &&& 63)) :: st)) : V own cc nL ret Ts R X tys Q k n ws pc lv (.int y :: .long x :: st) := by
  subst hq
  intro p l e s m args below meth c D A H locs ls hx hb hr hm ho ht hk hX hK hA hP hD hS hl
  exact lv_lshl hx hb d rfl (h p l e s m args below meth c D A H locs ls hx hb hr hm ho ht hk hX hK hA hP hD hS hl)
theorem V_lcmp {q : Nat} {x y : Int64} (d : decode cc pc = .ok (.lcmp, 1)) (hq : pc + 1 = q := by rfl) (h : V own cc nL ret Ts R X tys Q k n ws q lv (.int (lg_cmp x y) :: st)) : V own cc nL ret Ts R X tys Q k n ws pc lv (.long y :: .long x :: st) := by
  subst hq
  intro p l e s m args below meth c D A H locs ls hx hb hr hm ho ht hk hX hK hA hP hD hS hl
  exact W.lcmp hx hb d (h p l e s m args below meth c D A H locs ls hx hb hr hm ho ht hk hX hK hA hP hD hS hl)
theorem V_i2l {q : Nat} {x : Int32} (d : decode cc pc = .ok (.i2l, 1)) (hq : pc + 1 = q := by rfl) (h : V own cc nL ret Ts R X tys Q k n ws q lv (.long x.toInt64 :: st)) : V own cc nL ret Ts R X tys Q k n ws pc lv (.int x :: st) := by
  subst hq
  intro p l e s m args below meth c D A H locs ls hx hb hr hm ho ht hk hX hK hA hP hD hS hl
  exact lv_i2l hx hb d rfl (h p l e s m args below meth c D A H locs ls hx hb hr hm ho ht hk hX hK hA hP hD hS hl)
theorem V_iushr {q : Nat} {x y : Int32} (d : decode cc pc = .ok (.iushr, 1)) (hq : pc + 1 = q := by rfl) (h : V own cc nL ret Ts R X tys Q k n ws q lv (.int ((x.toUInt32 >>> (y.toUInt32 &&& Int32.toUInt32 31)).toInt32) :: st)) : V own cc nL ret Ts R X tys Q k n ws pc lv (.int y :: .int x :: st) := by
  subst hq
  intro p l e s m args below meth c D A H locs ls hx hb hr hm ho ht hk hX hK hA hP hD hS hl
  exact lv_iushr hx hb d rfl (h p l e s m args below meth c D A H locs ls hx hb hr hm ho ht hk hX hK hA hP hD hS hl)
theorem V_iaddR {q : Nat} {x y : Int32} (d : decode cc pc = .ok (.iadd, 1)) (hq : pc + 1 = q := by rfl) (h : V own cc nL ret Ts R X tys Q k n ws q lv (.int (x + y) :: st)) : V own cc nL ret Ts R X tys Q k n ws pc lv (.int y :: .int x :: st) := by
  subst hq
  intro p l e s m args below meth c D A H locs ls hx hb hr hm ho ht hk hX hK hA hP hD hS hl
  exact lv_iadd hx hb d (h p l e s m args below meth c D A H locs ls hx hb hr hm ho ht hk hX hK hA hP hD hS hl)
theorem V_isubR {q : Nat} {x y : Int32} (d : decode cc pc = .ok (.isub, 1)) (hq : pc + 1 = q := by rfl) (h : V own cc nL ret Ts R X tys Q k n ws q lv (.int (x - y) :: st)) : V own cc nL ret Ts R X tys Q k n ws pc lv (.int y :: .int x :: st) := by
  subst hq
  intro p l e s m args below meth c D A H locs ls hx hb hr hm ho ht hk hX hK hA hP hD hS hl
  exact lv_isub hx hb d (h p l e s m args below meth c D A H locs ls hx hb hr hm ho ht hk hX hK hA hP hD hS hl)
theorem V_ldcw {q : Nat} {i : Nat} {v : Int32} (d : decode cc pc = .ok (.ldc_w i, 3)) (hw : Cond.constant own i v ∈ Ts) (hq : pc + 3 = q := by rfl) (h : V own cc nL ret Ts R X tys Q k n ws q lv (.int v :: st)) : V own cc nL ret Ts R X tys Q k n ws pc lv st := by
  subst hq
  intro p l e s m args below meth c D A H locs ls hx hb hr hm ho ht hk hX hK hA hP hD hS hl
  exact lv_ldcw hx hb ho (ht _ hw) d (h p l e s m args below meth c D A H locs ls hx hb hr hm ho ht hk hX hK hA hP hD hS hl)
theorem V_idiv {q : Nat} {a b : Nat} (d : decode cc pc = .ok (.idiv, 1)) (ha : a < 2147483648) (h0 : 0 < b) (hb' : b < 2147483648) (hq : pc + 1 = q := by rfl) (h : V own cc nL ret Ts R X tys Q k n ws q lv (.int (iZ ((a / b : Nat) : Int)) :: st)) : V own cc nL ret Ts R X tys Q k n ws pc lv (.int (iZ (b : Int)) :: .int (iZ (a : Int)) :: st) := by
  subst hq
  intro p l e s m args below meth c D A H locs ls hx hb hr hm ho ht hk hX hK hA hP hD hS hl
  have h2 := h p l e s m args below meth c D A H locs ls hx hb hr hm ho ht hk hX hK hA hP hD hS hl
  rw [iZ_nI, ← pk_div ha h0 hb', ← iZ_nI, ← iZ_nI] at h2
  exact lv_idiv hx hb d (by rw [iZ_nI]; exact nI_ne0 h0 hb') h2
theorem V_irem {q : Nat} {a b : Nat} (d : decode cc pc = .ok (.irem, 1)) (ha : a < 2147483648) (h0 : 0 < b) (hb' : b < 2147483648) (hq : pc + 1 = q := by rfl) (h : V own cc nL ret Ts R X tys Q k n ws q lv (.int (iZ ((a % b : Nat) : Int)) :: st)) : V own cc nL ret Ts R X tys Q k n ws pc lv (.int (iZ (b : Int)) :: .int (iZ (a : Int)) :: st) := by
  subst hq
  intro p l e s m args below meth c D A H locs ls hx hb hr hm ho ht hk hX hK hA hP hD hS hl
  have h2 := h p l e s m args below meth c D A H locs ls hx hb hr hm ho ht hk hX hK hA hP hD hS hl
  rw [iZ_nI, ← pk_rem ha h0 hb', ← iZ_nI, ← iZ_nI] at h2
  exact lv_irem hx hb d (by rw [iZ_nI]; exact nI_ne0 h0 hb') h2
theorem V_dup {q : Nat} {v : Value} (d : decode cc pc = .ok (.dup, 1)) (hv : v.category = 1) (hq : pc + 1 = q := by rfl) (h : V own cc nL ret Ts R X tys Q k n ws q lv (v :: v :: st)) : V own cc nL ret Ts R X tys Q k n ws pc lv (v :: st) := by
  subst hq
  intro p l e s m args below meth c D A H locs ls hx hb hr hm ho ht hk hX hK hA hP hD hS hl
  exact lv_dup hx hb d hv (h p l e s m args below meth c D A H locs ls hx hb hr hm ho ht hk hX hK hA hP hD hS hl)
theorem V_dup2 {q : Nat} {u v : Value} (d : decode cc pc = .ok (.dup2, 1)) (hu : u.category = 1) (hv : v.category = 1) (hq : pc + 1 = q := by rfl) (h : V own cc nL ret Ts R X tys Q k n ws q lv (u :: v :: u :: v :: st)) : V own cc nL ret Ts R X tys Q k n ws pc lv (u :: v :: st) := by
  subst hq
  intro p l e s m args below meth c D A H locs ls hx hb hr hm ho ht hk hX hK hA hP hD hS hl
  exact lv_dup2_11 hx hb d hu hv (h p l e s m args below meth c D A H locs ls hx hb hr hm ho ht hk hX hK hA hP hD hS hl)
theorem V_icmp_eq {q tgt : Nat} {off : Int} {a b : Int} (d : decode cc pc = .ok (.if_icmp .eq off, 3)) (ha : -2147483648 ≤ a ∧ a < 2147483648) (hb' : -2147483648 ≤ b ∧ b < 2147483648) (ht' : (pc : Int) + off = (tgt : Int)) (kt : a = b → V own cc nL ret Ts R X tys Q k n ws tgt lv st) (kf : ¬ a = b → V own cc nL ret Ts R X tys Q k n ws q lv st) (hq : pc + 3 = q := by rfl) : V own cc nL ret Ts R X tys Q k n ws pc lv (.int (iZ b) :: .int (iZ a) :: st) := by
  subst hq
  intro p l e s m args below meth c D A H locs ls hx hb hr hm ho ht hk hX hK hA hP hD hS hl
  exact lv_icmp_eq hx hb d ht' (fun c0 => kt (by have e1 := iZ_inj ha hb'; have e2 := iZ_lt ha hb'; have e3 := iZ_le ha hb'; have e4 := iZ_lt hb' ha; have e5 := iZ_le hb' ha; first | exact e1.mp c0 | exact fun q0 => c0 (e1.mpr q0) | exact e2.mp c0 | exact e3.mp c0 | exact e4.mp c0 | exact e5.mp c0 | (rw [e2] at c0; omega) | (rw [e3] at c0; omega) | (rw [e4] at c0; omega) | (rw [e5] at c0; omega)) p l e s m args below meth c D A H locs ls hx hb hr hm ho ht hk hX hK hA hP hD hS hl) (fun c0 => kf (by have e1 := iZ_inj ha hb'; have e2 := iZ_lt ha hb'; have e3 := iZ_le ha hb'; have e4 := iZ_lt hb' ha; have e5 := iZ_le hb' ha; first | exact e1.mp c0 | exact fun q0 => c0 (e1.mpr q0) | exact e2.mp c0 | exact e3.mp c0 | exact e4.mp c0 | exact e5.mp c0 | (rw [e2] at c0; omega) | (rw [e3] at c0; omega) | (rw [e4] at c0; omega) | (rw [e5] at c0; omega)) p l e s m args below meth c D A H locs ls hx hb hr hm ho ht hk hX hK hA hP hD hS hl)
theorem V_if_eq {q tgt : Nat} {off : Int} {a : Int} (d : decode cc pc = .ok (.ifCond .eq off, 3)) (ha : -2147483648 ≤ a ∧ a < 2147483648) (ht' : (pc : Int) + off = (tgt : Int)) (kt : a = 0 → V own cc nL ret Ts R X tys Q k n ws tgt lv st) (kf : ¬ a = 0 → V own cc nL ret Ts R X tys Q k n ws q lv st) (hq : pc + 3 = q := by rfl) : V own cc nL ret Ts R X tys Q k n ws pc lv (.int (iZ a) :: st) := by
  subst hq
  intro p l e s m args below meth c D A H locs ls hx hb hr hm ho ht hk hX hK hA hP hD hS hl
  exact lv_if_eq hx hb d ht' (fun c0 => kt (by have e1 := iZ_inj ha (show -2147483648 ≤ (0 : Int) ∧ (0 : Int) < 2147483648 by decide); have e2 := iZ_lt ha (show -2147483648 ≤ (0 : Int) ∧ (0 : Int) < 2147483648 by decide); have e3 := iZ_le ha (show -2147483648 ≤ (0 : Int) ∧ (0 : Int) < 2147483648 by decide); have e4 := iZ_lt (show -2147483648 ≤ (0 : Int) ∧ (0 : Int) < 2147483648 by decide) ha; have e5 := iZ_le (show -2147483648 ≤ (0 : Int) ∧ (0 : Int) < 2147483648 by decide) ha; rw [iZ_0] at e1 e2 e3 e4 e5; first | exact e1.mp c0 | exact fun q0 => c0 (e1.mpr q0) | exact e2.mp c0 | exact e3.mp c0 | exact e4.mp c0 | exact e5.mp c0 | (rw [e2] at c0; omega) | (rw [e3] at c0; omega) | (rw [e4] at c0; omega) | (rw [e5] at c0; omega)) p l e s m args below meth c D A H locs ls hx hb hr hm ho ht hk hX hK hA hP hD hS hl) (fun c0 => kf (by have e1 := iZ_inj ha (show -2147483648 ≤ (0 : Int) ∧ (0 : Int) < 2147483648 by decide); have e2 := iZ_lt ha (show -2147483648 ≤ (0 : Int) ∧ (0 : Int) < 2147483648 by decide); have e3 := iZ_le ha (show -2147483648 ≤ (0 : Int) ∧ (0 : Int) < 2147483648 by decide); have e4 := iZ_lt (show -2147483648 ≤ (0 : Int) ∧ (0 : Int) < 2147483648 by decide) ha; have e5 := iZ_le (show -2147483648 ≤ (0 : Int) ∧ (0 : Int) < 2147483648 by decide) ha; rw [iZ_0] at e1 e2 e3 e4 e5; first | exact e1.mp c0 | exact fun q0 => c0 (e1.mpr q0) | exact e2.mp c0 | exact e3.mp c0 | exact e4.mp c0 | exact e5.mp c0 | (rw [e2] at c0; omega) | (rw [e3] at c0; omega) | (rw [e4] at c0; omega) | (rw [e5] at c0; omega)) p l e s m args below meth c D A H locs ls hx hb hr hm ho ht hk hX hK hA hP hD hS hl)
theorem V_if_eqR {q tgt : Nat} {off : Int} {x : Int32} (d : decode cc pc = .ok (.ifCond .eq off, 3)) (ht' : (pc : Int) + off = (tgt : Int)) (kt : x = 0 → V own cc nL ret Ts R X tys Q k n ws tgt lv st) (kf : ¬ x = 0 → V own cc nL ret Ts R X tys Q k n ws q lv st) (hq : pc + 3 = q := by rfl) : V own cc nL ret Ts R X tys Q k n ws pc lv (.int x :: st) := by
  subst hq
  intro p l e s m args below meth c D A H locs ls hx hb hr hm ho ht hk hX hK hA hP hD hS hl
  exact lv_if_eq hx hb d ht' (fun c0 => kt c0 p l e s m args below meth c D A H locs ls hx hb hr hm ho ht hk hX hK hA hP hD hS hl) (fun c0 => kf c0 p l e s m args below meth c D A H locs ls hx hb hr hm ho ht hk hX hK hA hP hD hS hl)
theorem V_if_eqB {q tgt : Nat} {off : Int} {b : Bool} (d : decode cc pc = .ok (.ifCond .eq off, 3)) (ht' : (pc : Int) + off = (tgt : Int)) (kt : b = false → V own cc nL ret Ts R X tys Q k n ws tgt lv st) (kf : b = true → V own cc nL ret Ts R X tys Q k n ws q lv st) (hq : pc + 3 = q := by rfl) : V own cc nL ret Ts R X tys Q k n ws pc lv (.int (iZ (bZ b)) :: st) := by
  subst hq
  intro p l e s m args below meth c D A H locs ls hx hb hr hm ho ht hk hX hK hA hP hD hS hl
  cases b
  · exact lv_if_eq hx hb d ht' (fun c0 => kt (by first | rfl | exact absurd c0 (by decide)) p l e s m args below meth c D A H locs ls hx hb hr hm ho ht hk hX hK hA hP hD hS hl) (fun c0 => kf (by first | rfl | exact absurd c0 (by decide)) p l e s m args below meth c D A H locs ls hx hb hr hm ho ht hk hX hK hA hP hD hS hl)
  · exact lv_if_eq hx hb d ht' (fun c0 => kt (by first | rfl | exact absurd c0 (by decide)) p l e s m args below meth c D A H locs ls hx hb hr hm ho ht hk hX hK hA hP hD hS hl) (fun c0 => kf (by first | rfl | exact absurd c0 (by decide)) p l e s m args below meth c D A H locs ls hx hb hr hm ho ht hk hX hK hA hP hD hS hl)
theorem V_icmp_ne {q tgt : Nat} {off : Int} {a b : Int} (d : decode cc pc = .ok (.if_icmp .ne off, 3)) (ha : -2147483648 ≤ a ∧ a < 2147483648) (hb' : -2147483648 ≤ b ∧ b < 2147483648) (ht' : (pc : Int) + off = (tgt : Int)) (kt : ¬ a = b → V own cc nL ret Ts R X tys Q k n ws tgt lv st) (kf : a = b → V own cc nL ret Ts R X tys Q k n ws q lv st) (hq : pc + 3 = q := by rfl) : V own cc nL ret Ts R X tys Q k n ws pc lv (.int (iZ b) :: .int (iZ a) :: st) := by
  subst hq
  intro p l e s m args below meth c D A H locs ls hx hb hr hm ho ht hk hX hK hA hP hD hS hl
  exact lv_icmp_ne hx hb d ht' (fun c0 => kt (by have e1 := iZ_inj ha hb'; have e2 := iZ_lt ha hb'; have e3 := iZ_le ha hb'; have e4 := iZ_lt hb' ha; have e5 := iZ_le hb' ha; first | exact e1.mp c0 | exact fun q0 => c0 (e1.mpr q0) | exact e2.mp c0 | exact e3.mp c0 | exact e4.mp c0 | exact e5.mp c0 | (rw [e2] at c0; omega) | (rw [e3] at c0; omega) | (rw [e4] at c0; omega) | (rw [e5] at c0; omega)) p l e s m args below meth c D A H locs ls hx hb hr hm ho ht hk hX hK hA hP hD hS hl) (fun c0 => kf (by have e1 := iZ_inj ha hb'; have e2 := iZ_lt ha hb'; have e3 := iZ_le ha hb'; have e4 := iZ_lt hb' ha; have e5 := iZ_le hb' ha; first | exact e1.mp c0 | exact fun q0 => c0 (e1.mpr q0) | exact e2.mp c0 | exact e3.mp c0 | exact e4.mp c0 | exact e5.mp c0 | (rw [e2] at c0; omega) | (rw [e3] at c0; omega) | (rw [e4] at c0; omega) | (rw [e5] at c0; omega)) p l e s m args below meth c D A H locs ls hx hb hr hm ho ht hk hX hK hA hP hD hS hl)
theorem V_if_ne {q tgt : Nat} {off : Int} {a : Int} (d : decode cc pc = .ok (.ifCond .ne off, 3)) (ha : -2147483648 ≤ a ∧ a < 2147483648) (ht' : (pc : Int) + off = (tgt : Int)) (kt : ¬ a = 0 → V own cc nL ret Ts R X tys Q k n ws tgt lv st) (kf : a = 0 → V own cc nL ret Ts R X tys Q k n ws q lv st) (hq : pc + 3 = q := by rfl) : V own cc nL ret Ts R X tys Q k n ws pc lv (.int (iZ a) :: st) := by
  subst hq
  intro p l e s m args below meth c D A H locs ls hx hb hr hm ho ht hk hX hK hA hP hD hS hl
  exact lv_if_ne hx hb d ht' (fun c0 => kt (by have e1 := iZ_inj ha (show -2147483648 ≤ (0 : Int) ∧ (0 : Int) < 2147483648 by decide); have e2 := iZ_lt ha (show -2147483648 ≤ (0 : Int) ∧ (0 : Int) < 2147483648 by decide); have e3 := iZ_le ha (show -2147483648 ≤ (0 : Int) ∧ (0 : Int) < 2147483648 by decide); have e4 := iZ_lt (show -2147483648 ≤ (0 : Int) ∧ (0 : Int) < 2147483648 by decide) ha; have e5 := iZ_le (show -2147483648 ≤ (0 : Int) ∧ (0 : Int) < 2147483648 by decide) ha; rw [iZ_0] at e1 e2 e3 e4 e5; first | exact e1.mp c0 | exact fun q0 => c0 (e1.mpr q0) | exact e2.mp c0 | exact e3.mp c0 | exact e4.mp c0 | exact e5.mp c0 | (rw [e2] at c0; omega) | (rw [e3] at c0; omega) | (rw [e4] at c0; omega) | (rw [e5] at c0; omega)) p l e s m args below meth c D A H locs ls hx hb hr hm ho ht hk hX hK hA hP hD hS hl) (fun c0 => kf (by have e1 := iZ_inj ha (show -2147483648 ≤ (0 : Int) ∧ (0 : Int) < 2147483648 by decide); have e2 := iZ_lt ha (show -2147483648 ≤ (0 : Int) ∧ (0 : Int) < 2147483648 by decide); have e3 := iZ_le ha (show -2147483648 ≤ (0 : Int) ∧ (0 : Int) < 2147483648 by decide); have e4 := iZ_lt (show -2147483648 ≤ (0 : Int) ∧ (0 : Int) < 2147483648 by decide) ha; have e5 := iZ_le (show -2147483648 ≤ (0 : Int) ∧ (0 : Int) < 2147483648 by decide) ha; rw [iZ_0] at e1 e2 e3 e4 e5; first | exact e1.mp c0 | exact fun q0 => c0 (e1.mpr q0) | exact e2.mp c0 | exact e3.mp c0 | exact e4.mp c0 | exact e5.mp c0 | (rw [e2] at c0; omega) | (rw [e3] at c0; omega) | (rw [e4] at c0; omega) | (rw [e5] at c0; omega)) p l e s m args below meth c D A H locs ls hx hb hr hm ho ht hk hX hK hA hP hD hS hl)
theorem V_if_neR {q tgt : Nat} {off : Int} {x : Int32} (d : decode cc pc = .ok (.ifCond .ne off, 3)) (ht' : (pc : Int) + off = (tgt : Int)) (kt : ¬ x = 0 → V own cc nL ret Ts R X tys Q k n ws tgt lv st) (kf : x = 0 → V own cc nL ret Ts R X tys Q k n ws q lv st) (hq : pc + 3 = q := by rfl) : V own cc nL ret Ts R X tys Q k n ws pc lv (.int x :: st) := by
  subst hq
  intro p l e s m args below meth c D A H locs ls hx hb hr hm ho ht hk hX hK hA hP hD hS hl
  exact lv_if_ne hx hb d ht' (fun c0 => kt c0 p l e s m args below meth c D A H locs ls hx hb hr hm ho ht hk hX hK hA hP hD hS hl) (fun c0 => kf c0 p l e s m args below meth c D A H locs ls hx hb hr hm ho ht hk hX hK hA hP hD hS hl)
theorem V_if_neB {q tgt : Nat} {off : Int} {b : Bool} (d : decode cc pc = .ok (.ifCond .ne off, 3)) (ht' : (pc : Int) + off = (tgt : Int)) (kt : b = true → V own cc nL ret Ts R X tys Q k n ws tgt lv st) (kf : b = false → V own cc nL ret Ts R X tys Q k n ws q lv st) (hq : pc + 3 = q := by rfl) : V own cc nL ret Ts R X tys Q k n ws pc lv (.int (iZ (bZ b)) :: st) := by
  subst hq
  intro p l e s m args below meth c D A H locs ls hx hb hr hm ho ht hk hX hK hA hP hD hS hl
  cases b
  · exact lv_if_ne hx hb d ht' (fun c0 => kt (by first | rfl | exact absurd c0 (by decide)) p l e s m args below meth c D A H locs ls hx hb hr hm ho ht hk hX hK hA hP hD hS hl) (fun c0 => kf (by first | rfl | exact absurd c0 (by decide)) p l e s m args below meth c D A H locs ls hx hb hr hm ho ht hk hX hK hA hP hD hS hl)
  · exact lv_if_ne hx hb d ht' (fun c0 => kt (by first | rfl | exact absurd c0 (by decide)) p l e s m args below meth c D A H locs ls hx hb hr hm ho ht hk hX hK hA hP hD hS hl) (fun c0 => kf (by first | rfl | exact absurd c0 (by decide)) p l e s m args below meth c D A H locs ls hx hb hr hm ho ht hk hX hK hA hP hD hS hl)
theorem V_icmp_lt {q tgt : Nat} {off : Int} {a b : Int} (d : decode cc pc = .ok (.if_icmp .lt off, 3)) (ha : -2147483648 ≤ a ∧ a < 2147483648) (hb' : -2147483648 ≤ b ∧ b < 2147483648) (ht' : (pc : Int) + off = (tgt : Int)) (kt : a < b → V own cc nL ret Ts R X tys Q k n ws tgt lv st) (kf : b ≤ a → V own cc nL ret Ts R X tys Q k n ws q lv st) (hq : pc + 3 = q := by rfl) : V own cc nL ret Ts R X tys Q k n ws pc lv (.int (iZ b) :: .int (iZ a) :: st) := by
  subst hq
  intro p l e s m args below meth c D A H locs ls hx hb hr hm ho ht hk hX hK hA hP hD hS hl
  exact lv_icmp_lt hx hb d ht' (fun c0 => kt (by have e1 := iZ_inj ha hb'; have e2 := iZ_lt ha hb'; have e3 := iZ_le ha hb'; have e4 := iZ_lt hb' ha; have e5 := iZ_le hb' ha; first | exact e1.mp c0 | exact fun q0 => c0 (e1.mpr q0) | exact e2.mp c0 | exact e3.mp c0 | exact e4.mp c0 | exact e5.mp c0 | (rw [e2] at c0; omega) | (rw [e3] at c0; omega) | (rw [e4] at c0; omega) | (rw [e5] at c0; omega)) p l e s m args below meth c D A H locs ls hx hb hr hm ho ht hk hX hK hA hP hD hS hl) (fun c0 => kf (by have e1 := iZ_inj ha hb'; have e2 := iZ_lt ha hb'; have e3 := iZ_le ha hb'; have e4 := iZ_lt hb' ha; have e5 := iZ_le hb' ha; first | exact e1.mp c0 | exact fun q0 => c0 (e1.mpr q0) | exact e2.mp c0 | exact e3.mp c0 | exact e4.mp c0 | exact e5.mp c0 | (rw [e2] at c0; omega) | (rw [e3] at c0; omega) | (rw [e4] at c0; omega) | (rw [e5] at c0; omega)) p l e s m args below meth c D A H locs ls hx hb hr hm ho ht hk hX hK hA hP hD hS hl)
theorem V_if_lt {q tgt : Nat} {off : Int} {a : Int} (d : decode cc pc = .ok (.ifCond .lt off, 3)) (ha : -2147483648 ≤ a ∧ a < 2147483648) (ht' : (pc : Int) + off = (tgt : Int)) (kt : a < 0 → V own cc nL ret Ts R X tys Q k n ws tgt lv st) (kf : 0 ≤ a → V own cc nL ret Ts R X tys Q k n ws q lv st) (hq : pc + 3 = q := by rfl) : V own cc nL ret Ts R X tys Q k n ws pc lv (.int (iZ a) :: st) := by
  subst hq
  intro p l e s m args below meth c D A H locs ls hx hb hr hm ho ht hk hX hK hA hP hD hS hl
  exact lv_if_lt hx hb d ht' (fun c0 => kt (by have e1 := iZ_inj ha (show -2147483648 ≤ (0 : Int) ∧ (0 : Int) < 2147483648 by decide); have e2 := iZ_lt ha (show -2147483648 ≤ (0 : Int) ∧ (0 : Int) < 2147483648 by decide); have e3 := iZ_le ha (show -2147483648 ≤ (0 : Int) ∧ (0 : Int) < 2147483648 by decide); have e4 := iZ_lt (show -2147483648 ≤ (0 : Int) ∧ (0 : Int) < 2147483648 by decide) ha; have e5 := iZ_le (show -2147483648 ≤ (0 : Int) ∧ (0 : Int) < 2147483648 by decide) ha; rw [iZ_0] at e1 e2 e3 e4 e5; first | exact e1.mp c0 | exact fun q0 => c0 (e1.mpr q0) | exact e2.mp c0 | exact e3.mp c0 | exact e4.mp c0 | exact e5.mp c0 | (rw [e2] at c0; omega) | (rw [e3] at c0; omega) | (rw [e4] at c0; omega) | (rw [e5] at c0; omega)) p l e s m args below meth c D A H locs ls hx hb hr hm ho ht hk hX hK hA hP hD hS hl) (fun c0 => kf (by have e1 := iZ_inj ha (show -2147483648 ≤ (0 : Int) ∧ (0 : Int) < 2147483648 by decide); have e2 := iZ_lt ha (show -2147483648 ≤ (0 : Int) ∧ (0 : Int) < 2147483648 by decide); have e3 := iZ_le ha (show -2147483648 ≤ (0 : Int) ∧ (0 : Int) < 2147483648 by decide); have e4 := iZ_lt (show -2147483648 ≤ (0 : Int) ∧ (0 : Int) < 2147483648 by decide) ha; have e5 := iZ_le (show -2147483648 ≤ (0 : Int) ∧ (0 : Int) < 2147483648 by decide) ha; rw [iZ_0] at e1 e2 e3 e4 e5; first | exact e1.mp c0 | exact fun q0 => c0 (e1.mpr q0) | exact e2.mp c0 | exact e3.mp c0 | exact e4.mp c0 | exact e5.mp c0 | (rw [e2] at c0; omega) | (rw [e3] at c0; omega) | (rw [e4] at c0; omega) | (rw [e5] at c0; omega)) p l e s m args below meth c D A H locs ls hx hb hr hm ho ht hk hX hK hA hP hD hS hl)
theorem V_icmp_ge {q tgt : Nat} {off : Int} {a b : Int} (d : decode cc pc = .ok (.if_icmp .ge off, 3)) (ha : -2147483648 ≤ a ∧ a < 2147483648) (hb' : -2147483648 ≤ b ∧ b < 2147483648) (ht' : (pc : Int) + off = (tgt : Int)) (kt : b ≤ a → V own cc nL ret Ts R X tys Q k n ws tgt lv st) (kf : a < b → V own cc nL ret Ts R X tys Q k n ws q lv st) (hq : pc + 3 = q := by rfl) : V own cc nL ret Ts R X tys Q k n ws pc lv (.int (iZ b) :: .int (iZ a) :: st) := by
  subst hq
  intro p l e s m args below meth c D A H locs ls hx hb hr hm ho ht hk hX hK hA hP hD hS hl
  exact lv_icmp_ge hx hb d ht' (fun c0 => kt (by have e1 := iZ_inj ha hb'; have e2 := iZ_lt ha hb'; have e3 := iZ_le ha hb'; have e4 := iZ_lt hb' ha; have e5 := iZ_le hb' ha; first | exact e1.mp c0 | exact fun q0 => c0 (e1.mpr q0) | exact e2.mp c0 | exact e3.mp c0 | exact e4.mp c0 | exact e5.mp c0 | (rw [e2] at c0; omega) | (rw [e3] at c0; omega) | (rw [e4] at c0; omega) | (rw [e5] at c0; omega)) p l e s m args below meth c D A H locs ls hx hb hr hm ho ht hk hX hK hA hP hD hS hl) (fun c0 => kf (by have e1 := iZ_inj ha hb'; have e2 := iZ_lt ha hb'; have e3 := iZ_le ha hb'; have e4 := iZ_lt hb' ha; have e5 := iZ_le hb' ha; first | exact e1.mp c0 | exact fun q0 => c0 (e1.mpr q0) | exact e2.mp c0 | exact e3.mp c0 | exact e4.mp c0 | exact e5.mp c0 | (rw [e2] at c0; omega) | (rw [e3] at c0; omega) | (rw [e4] at c0; omega) | (rw [e5] at c0; omega)) p l e s m args below meth c D A H locs ls hx hb hr hm ho ht hk hX hK hA hP hD hS hl)
theorem V_if_ge {q tgt : Nat} {off : Int} {a : Int} (d : decode cc pc = .ok (.ifCond .ge off, 3)) (ha : -2147483648 ≤ a ∧ a < 2147483648) (ht' : (pc : Int) + off = (tgt : Int)) (kt : 0 ≤ a → V own cc nL ret Ts R X tys Q k n ws tgt lv st) (kf : a < 0 → V own cc nL ret Ts R X tys Q k n ws q lv st) (hq : pc + 3 = q := by rfl) : V own cc nL ret Ts R X tys Q k n ws pc lv (.int (iZ a) :: st) := by
  subst hq
  intro p l e s m args below meth c D A H locs ls hx hb hr hm ho ht hk hX hK hA hP hD hS hl
  exact lv_if_ge hx hb d ht' (fun c0 => kt (by have e1 := iZ_inj ha (show -2147483648 ≤ (0 : Int) ∧ (0 : Int) < 2147483648 by decide); have e2 := iZ_lt ha (show -2147483648 ≤ (0 : Int) ∧ (0 : Int) < 2147483648 by decide); have e3 := iZ_le ha (show -2147483648 ≤ (0 : Int) ∧ (0 : Int) < 2147483648 by decide); have e4 := iZ_lt (show -2147483648 ≤ (0 : Int) ∧ (0 : Int) < 2147483648 by decide) ha; have e5 := iZ_le (show -2147483648 ≤ (0 : Int) ∧ (0 : Int) < 2147483648 by decide) ha; rw [iZ_0] at e1 e2 e3 e4 e5; first | exact e1.mp c0 | exact fun q0 => c0 (e1.mpr q0) | exact e2.mp c0 | exact e3.mp c0 | exact e4.mp c0 | exact e5.mp c0 | (rw [e2] at c0; omega) | (rw [e3] at c0; omega) | (rw [e4] at c0; omega) | (rw [e5] at c0; omega)) p l e s m args below meth c D A H locs ls hx hb hr hm ho ht hk hX hK hA hP hD hS hl) (fun c0 => kf (by have e1 := iZ_inj ha (show -2147483648 ≤ (0 : Int) ∧ (0 : Int) < 2147483648 by decide); have e2 := iZ_lt ha (show -2147483648 ≤ (0 : Int) ∧ (0 : Int) < 2147483648 by decide); have e3 := iZ_le ha (show -2147483648 ≤ (0 : Int) ∧ (0 : Int) < 2147483648 by decide); have e4 := iZ_lt (show -2147483648 ≤ (0 : Int) ∧ (0 : Int) < 2147483648 by decide) ha; have e5 := iZ_le (show -2147483648 ≤ (0 : Int) ∧ (0 : Int) < 2147483648 by decide) ha; rw [iZ_0] at e1 e2 e3 e4 e5; first | exact e1.mp c0 | exact fun q0 => c0 (e1.mpr q0) | exact e2.mp c0 | exact e3.mp c0 | exact e4.mp c0 | exact e5.mp c0 | (rw [e2] at c0; omega) | (rw [e3] at c0; omega) | (rw [e4] at c0; omega) | (rw [e5] at c0; omega)) p l e s m args below meth c D A H locs ls hx hb hr hm ho ht hk hX hK hA hP hD hS hl)
theorem V_icmp_gt {q tgt : Nat} {off : Int} {a b : Int} (d : decode cc pc = .ok (.if_icmp .gt off, 3)) (ha : -2147483648 ≤ a ∧ a < 2147483648) (hb' : -2147483648 ≤ b ∧ b < 2147483648) (ht' : (pc : Int) + off = (tgt : Int)) (kt : b < a → V own cc nL ret Ts R X tys Q k n ws tgt lv st) (kf : a ≤ b → V own cc nL ret Ts R X tys Q k n ws q lv st) (hq : pc + 3 = q := by rfl) : V own cc nL ret Ts R X tys Q k n ws pc lv (.int (iZ b) :: .int (iZ a) :: st) := by
  subst hq
  intro p l e s m args below meth c D A H locs ls hx hb hr hm ho ht hk hX hK hA hP hD hS hl
  exact lv_icmp_gt hx hb d ht' (fun c0 => kt (by have e1 := iZ_inj ha hb'; have e2 := iZ_lt ha hb'; have e3 := iZ_le ha hb'; have e4 := iZ_lt hb' ha; have e5 := iZ_le hb' ha; first | exact e1.mp c0 | exact fun q0 => c0 (e1.mpr q0) | exact e2.mp c0 | exact e3.mp c0 | exact e4.mp c0 | exact e5.mp c0 | (rw [e2] at c0; omega) | (rw [e3] at c0; omega) | (rw [e4] at c0; omega) | (rw [e5] at c0; omega)) p l e s m args below meth c D A H locs ls hx hb hr hm ho ht hk hX hK hA hP hD hS hl) (fun c0 => kf (by have e1 := iZ_inj ha hb'; have e2 := iZ_lt ha hb'; have e3 := iZ_le ha hb'; have e4 := iZ_lt hb' ha; have e5 := iZ_le hb' ha; first | exact e1.mp c0 | exact fun q0 => c0 (e1.mpr q0) | exact e2.mp c0 | exact e3.mp c0 | exact e4.mp c0 | exact e5.mp c0 | (rw [e2] at c0; omega) | (rw [e3] at c0; omega) | (rw [e4] at c0; omega) | (rw [e5] at c0; omega)) p l e s m args below meth c D A H locs ls hx hb hr hm ho ht hk hX hK hA hP hD hS hl)
theorem V_if_gt {q tgt : Nat} {off : Int} {a : Int} (d : decode cc pc = .ok (.ifCond .gt off, 3)) (ha : -2147483648 ≤ a ∧ a < 2147483648) (ht' : (pc : Int) + off = (tgt : Int)) (kt : 0 < a → V own cc nL ret Ts R X tys Q k n ws tgt lv st) (kf : a ≤ 0 → V own cc nL ret Ts R X tys Q k n ws q lv st) (hq : pc + 3 = q := by rfl) : V own cc nL ret Ts R X tys Q k n ws pc lv (.int (iZ a) :: st) := by
  subst hq
  intro p l e s m args below meth c D A H locs ls hx hb hr hm ho ht hk hX hK hA hP hD hS hl
  exact lv_if_gt hx hb d ht' (fun c0 => kt (by have e1 := iZ_inj ha (show -2147483648 ≤ (0 : Int) ∧ (0 : Int) < 2147483648 by decide); have e2 := iZ_lt ha (show -2147483648 ≤ (0 : Int) ∧ (0 : Int) < 2147483648 by decide); have e3 := iZ_le ha (show -2147483648 ≤ (0 : Int) ∧ (0 : Int) < 2147483648 by decide); have e4 := iZ_lt (show -2147483648 ≤ (0 : Int) ∧ (0 : Int) < 2147483648 by decide) ha; have e5 := iZ_le (show -2147483648 ≤ (0 : Int) ∧ (0 : Int) < 2147483648 by decide) ha; rw [iZ_0] at e1 e2 e3 e4 e5; first | exact e1.mp c0 | exact fun q0 => c0 (e1.mpr q0) | exact e2.mp c0 | exact e3.mp c0 | exact e4.mp c0 | exact e5.mp c0 | (rw [e2] at c0; omega) | (rw [e3] at c0; omega) | (rw [e4] at c0; omega) | (rw [e5] at c0; omega)) p l e s m args below meth c D A H locs ls hx hb hr hm ho ht hk hX hK hA hP hD hS hl) (fun c0 => kf (by have e1 := iZ_inj ha (show -2147483648 ≤ (0 : Int) ∧ (0 : Int) < 2147483648 by decide); have e2 := iZ_lt ha (show -2147483648 ≤ (0 : Int) ∧ (0 : Int) < 2147483648 by decide); have e3 := iZ_le ha (show -2147483648 ≤ (0 : Int) ∧ (0 : Int) < 2147483648 by decide); have e4 := iZ_lt (show -2147483648 ≤ (0 : Int) ∧ (0 : Int) < 2147483648 by decide) ha; have e5 := iZ_le (show -2147483648 ≤ (0 : Int) ∧ (0 : Int) < 2147483648 by decide) ha; rw [iZ_0] at e1 e2 e3 e4 e5; first | exact e1.mp c0 | exact fun q0 => c0 (e1.mpr q0) | exact e2.mp c0 | exact e3.mp c0 | exact e4.mp c0 | exact e5.mp c0 | (rw [e2] at c0; omega) | (rw [e3] at c0; omega) | (rw [e4] at c0; omega) | (rw [e5] at c0; omega)) p l e s m args below meth c D A H locs ls hx hb hr hm ho ht hk hX hK hA hP hD hS hl)
theorem V_icmp_le {q tgt : Nat} {off : Int} {a b : Int} (d : decode cc pc = .ok (.if_icmp .le off, 3)) (ha : -2147483648 ≤ a ∧ a < 2147483648) (hb' : -2147483648 ≤ b ∧ b < 2147483648) (ht' : (pc : Int) + off = (tgt : Int)) (kt : a ≤ b → V own cc nL ret Ts R X tys Q k n ws tgt lv st) (kf : b < a → V own cc nL ret Ts R X tys Q k n ws q lv st) (hq : pc + 3 = q := by rfl) : V own cc nL ret Ts R X tys Q k n ws pc lv (.int (iZ b) :: .int (iZ a) :: st) := by
  subst hq
  intro p l e s m args below meth c D A H locs ls hx hb hr hm ho ht hk hX hK hA hP hD hS hl
  exact lv_icmp_le hx hb d ht' (fun c0 => kt (by have e1 := iZ_inj ha hb'; have e2 := iZ_lt ha hb'; have e3 := iZ_le ha hb'; have e4 := iZ_lt hb' ha; have e5 := iZ_le hb' ha; first | exact e1.mp c0 | exact fun q0 => c0 (e1.mpr q0) | exact e2.mp c0 | exact e3.mp c0 | exact e4.mp c0 | exact e5.mp c0 | (rw [e2] at c0; omega) | (rw [e3] at c0; omega) | (rw [e4] at c0; omega) | (rw [e5] at c0; omega)) p l e s m args below meth c D A H locs ls hx hb hr hm ho ht hk hX hK hA hP hD hS hl) (fun c0 => kf (by have e1 := iZ_inj ha hb'; have e2 := iZ_lt ha hb'; have e3 := iZ_le ha hb'; have e4 := iZ_lt hb' ha; have e5 := iZ_le hb' ha; first | exact e1.mp c0 | exact fun q0 => c0 (e1.mpr q0) | exact e2.mp c0 | exact e3.mp c0 | exact e4.mp c0 | exact e5.mp c0 | (rw [e2] at c0; omega) | (rw [e3] at c0; omega) | (rw [e4] at c0; omega) | (rw [e5] at c0; omega)) p l e s m args below meth c D A H locs ls hx hb hr hm ho ht hk hX hK hA hP hD hS hl)
theorem V_if_le {q tgt : Nat} {off : Int} {a : Int} (d : decode cc pc = .ok (.ifCond .le off, 3)) (ha : -2147483648 ≤ a ∧ a < 2147483648) (ht' : (pc : Int) + off = (tgt : Int)) (kt : a ≤ 0 → V own cc nL ret Ts R X tys Q k n ws tgt lv st) (kf : 0 < a → V own cc nL ret Ts R X tys Q k n ws q lv st) (hq : pc + 3 = q := by rfl) : V own cc nL ret Ts R X tys Q k n ws pc lv (.int (iZ a) :: st) := by
  subst hq
  intro p l e s m args below meth c D A H locs ls hx hb hr hm ho ht hk hX hK hA hP hD hS hl
  exact lv_if_le hx hb d ht' (fun c0 => kt (by have e1 := iZ_inj ha (show -2147483648 ≤ (0 : Int) ∧ (0 : Int) < 2147483648 by decide); have e2 := iZ_lt ha (show -2147483648 ≤ (0 : Int) ∧ (0 : Int) < 2147483648 by decide); have e3 := iZ_le ha (show -2147483648 ≤ (0 : Int) ∧ (0 : Int) < 2147483648 by decide); have e4 := iZ_lt (show -2147483648 ≤ (0 : Int) ∧ (0 : Int) < 2147483648 by decide) ha; have e5 := iZ_le (show -2147483648 ≤ (0 : Int) ∧ (0 : Int) < 2147483648 by decide) ha; rw [iZ_0] at e1 e2 e3 e4 e5; first | exact e1.mp c0 | exact fun q0 => c0 (e1.mpr q0) | exact e2.mp c0 | exact e3.mp c0 | exact e4.mp c0 | exact e5.mp c0 | (rw [e2] at c0; omega) | (rw [e3] at c0; omega) | (rw [e4] at c0; omega) | (rw [e5] at c0; omega)) p l e s m args below meth c D A H locs ls hx hb hr hm ho ht hk hX hK hA hP hD hS hl) (fun c0 => kf (by have e1 := iZ_inj ha (show -2147483648 ≤ (0 : Int) ∧ (0 : Int) < 2147483648 by decide); have e2 := iZ_lt ha (show -2147483648 ≤ (0 : Int) ∧ (0 : Int) < 2147483648 by decide); have e3 := iZ_le ha (show -2147483648 ≤ (0 : Int) ∧ (0 : Int) < 2147483648 by decide); have e4 := iZ_lt (show -2147483648 ≤ (0 : Int) ∧ (0 : Int) < 2147483648 by decide) ha; have e5 := iZ_le (show -2147483648 ≤ (0 : Int) ∧ (0 : Int) < 2147483648 by decide) ha; rw [iZ_0] at e1 e2 e3 e4 e5; first | exact e1.mp c0 | exact fun q0 => c0 (e1.mpr q0) | exact e2.mp c0 | exact e3.mp c0 | exact e4.mp c0 | exact e5.mp c0 | (rw [e2] at c0; omega) | (rw [e3] at c0; omega) | (rw [e4] at c0; omega) | (rw [e5] at c0; omega)) p l e s m args below meth c D A H locs ls hx hb hr hm ho ht hk hX hK hA hP hD hS hl)
theorem V_goto {tgt : Nat} {off : Int} (d : decode cc pc = .ok (.goto off, 3)) (ht' : (pc : Int) + off = (tgt : Int)) (h : V own cc nL ret Ts R X tys Q k n ws tgt lv st) : V own cc nL ret Ts R X tys Q k n ws pc lv st := by
  intro p l e s m args below meth c D A H locs ls hx hb hr hm ho ht hk hX hK hA hP hD hS hl
  exact lv_goto hx hb d ht' (h p l e s m args below meth c D A H locs ls hx hb hr hm ho ht hk hX hK hA hP hD hS hl)
theorem V_get {q : Nat} {C : String} {T : u_T} {N ci index a : Nat} {fs : List Value} {v : Value} (d : decode cc pc = .ok (.getfield index, 3)) (hin : ∀ w ∈ u_ws C T N, w ∈ Ts) (q0 : Nat) (he : ws[q0]? = some (a, .inr (ci, fs))) (hc : vwCl[ci]? = some (C, T, N)) (j : Nat) (hj : j < N) (hlink : Cond.fieldLink own index (T j).1 (T j).2.1 (T j).2.2.1 ∈ Ts) (hv : fs[j]? = some v) (hq : pc + 3 = q := by rfl) (h : V own cc nL ret Ts R X tys Q k n ws q lv (v :: st)) : V own cc nL ret Ts R X tys Q k n ws pc lv (.ref a :: st) := by
  subst hq
  intro p l e s m args below meth c D A H locs ls hx hb hr hm ho ht hk hX hK hA hP hD hS hl
  exact va_get hx hb ht hin ho hK hP q0 he hc j hj (ht _ hlink) (fun _ h9 => h9) hv d (h p l e s m args below meth c D A H locs ls hx hb hr hm ho ht hk hX hK hA hP hD hS hl)
theorem V_put {q : Nat} {C : String} {T : u_T} {N ci index a : Nat} {fs : List Value} {v : Value} {ws' : va_W} {ty : FieldType} (d : decode cc pc = .ok (.putfield index, 3)) (hin : ∀ w ∈ u_ws C T N, w ∈ Ts) (ty0 : Nat → FieldType) (hty : ∀ k, k < N → parseFieldDescriptor (T k).2.2.1 = some (ty0 k)) (hnm : ∀ a, a < N → ∀ b, b < N → a ≠ b → (T a).2.1 ≠ (T b).2.1) (q0 : Nat) (he : ws[q0]? = some (a, .inr (ci, fs))) (hc : vwCl[ci]? = some (C, T, N)) (j : Nat) (hj : j < N) (hlink : Cond.fieldLink own index (T j).1 (T j).2.1 (T j).2.2.1 ∈ Ts) (hfin : (T j).2.2.2 = false) (hd : parseFieldDescriptor (T j).2.2.1 = some ty) (hn : narrow ty v = v) (hfit : fits ty v = true) (hfl : j < fs.length) (hw : ws.set q0 (a, .inr (ci, fs.set j v)) = ws') (hq : pc + 3 = q := by rfl) (h : V own cc nL ret Ts R X tys Q k n ws' q lv st) : V own cc nL ret Ts R X tys Q k n ws pc lv (v :: .ref a :: st) := by
  subst hq
  intro p l e s m args below meth c D A H locs ls hx hb hr hm ho ht hk hX hK hA hP hD hS hl
  subst hw
  exact va_put hx hb ht hin ty0 hty hnm ho hK hP hD hS q0 he hc j hj (ht _ hlink) (fun _ h9 => h9) hfin hd hn hfit hfl d (fun H1 locs1 hP1 hD1 hS1 => h p l e s m args below meth c D A H1 locs1 ls hx hb hr hm ho ht hk hX hK hA hP1 hD1 hS1 hl)
theorem V_iald {q : Nat} {cA : ClassId} {N a : Nat} {f : Nat → Int32} {z : Int} {v : Int32} (d : decode cc pc = .ok (.iaload, 1)) (q0 t0 : Nat) (he : ws[q0]? = some (a, .inl (cA, N, .inl f))) (ht0 : tys[t0]? = some (cA, .int)) (j : Nat) (hz : z = (j : Int)) (hj : j < N) (hN : N < 2147483648) (hv : f j = v) (hq : pc + 1 = q := by rfl) (h : V own cc nL ret Ts R X tys Q k n ws q lv (.int v :: st)) : V own cc nL ret Ts R X tys Q k n ws pc lv (.int (iZ z) :: .ref a :: st) := by
  subst hq
  intro p l e s m args below meth c D A H locs ls hx hb hr hm ho ht hk hX hK hA hP hD hS hl
  obtain ⟨g1, g2⟩ := iZ_in hz hj hN
  have h2 := h p l e s m args below meth c D A H locs ls hx hb hr hm ho ht hk hX hK hA hP hD hS hl
  rw [← hv, ← g2] at h2
  exact va_iald hx hb hK hP q0 t0 he ht0 g1 d h2
theorem V_zald {q : Nat} {cA : ClassId} {N a : Nat} {f : Nat → Int32} {z : Int} {v : Int32} (d : decode cc pc = .ok (.baload, 1)) (q0 t0 : Nat) (he : ws[q0]? = some (a, .inl (cA, N, .inl f))) (ht0 : tys[t0]? = some (cA, .boolean)) (j : Nat) (hz : z = (j : Int)) (hj : j < N) (hN : N < 2147483648) (hv : f j = v) (hq : pc + 1 = q := by rfl) (h : V own cc nL ret Ts R X tys Q k n ws q lv (.int v :: st)) : V own cc nL ret Ts R X tys Q k n ws pc lv (.int (iZ z) :: .ref a :: st) := by
  subst hq
  intro p l e s m args below meth c D A H locs ls hx hb hr hm ho ht hk hX hK hA hP hD hS hl
  obtain ⟨g1, g2⟩ := iZ_in hz hj hN
  have h2 := h p l e s m args below meth c D A H locs ls hx hb hr hm ho ht hk hX hK hA hP hD hS hl
  rw [← hv, ← g2] at h2
  exact va_zald hx hb hK hP q0 t0 he ht0 g1 d h2
theorem V_iast {q : Nat} {cA : ClassId} {N a : Nat} {f : Nat → Int32} {z : Int} {x : Int32} {ws' : va_W} (d : decode cc pc = .ok (.iastore, 1)) (q0 t0 : Nat) (he : ws[q0]? = some (a, .inl (cA, N, .inl f))) (ht0 : tys[t0]? = some (cA, .int)) (j : Nat) (hz : z = (j : Int)) (hj : j < N) (hN : N < 2147483648) (hw : ws.set q0 (a, .inl (cA, N, .inl (upd f j x))) = ws') (hq : pc + 1 = q := by rfl) (h : V own cc nL ret Ts R X tys Q k n ws' q lv st) : V own cc nL ret Ts R X tys Q k n ws pc lv (.int x :: .int (iZ z) :: .ref a :: st) := by
  subst hq
  intro p l e s m args below meth c D A H locs ls hx hb hr hm ho ht hk hX hK hA hP hD hS hl
  subst hw
  obtain ⟨g1, g2⟩ := iZ_in hz hj hN
  subst g2
  exact va_iast hx hb hK hP hD hS q0 t0 he ht0 g1 d (fun H1 locs1 hP1 hD1 hS1 => h p l e s m args below meth c D A H1 locs1 ls hx hb hr hm ho ht hk hX hK hA hP1 hD1 hS1 hl)
theorem V_zast {q : Nat} {cA : ClassId} {N a : Nat} {f : Nat → Int32} {z : Int} {x : Bool} {ws' : va_W} (d : decode cc pc = .ok (.bastore, 1)) (q0 t0 : Nat) (he : ws[q0]? = some (a, .inl (cA, N, .inl f))) (ht0 : tys[t0]? = some (cA, .boolean)) (j : Nat) (hz : z = (j : Int)) (hj : j < N) (hN : N < 2147483648) (hw : ws.set q0 (a, .inl (cA, N, .inl (upd f j (iZ (bZ x))))) = ws') (hq : pc + 1 = q := by rfl) (h : V own cc nL ret Ts R X tys Q k n ws' q lv st) : V own cc nL ret Ts R X tys Q k n ws pc lv (.int (iZ (bZ x)) :: .int (iZ z) :: .ref a :: st) := by
  subst hq
  intro p l e s m args below meth c D A H locs ls hx hb hr hm ho ht hk hX hK hA hP hD hS hl
  subst hw
  obtain ⟨g1, g2⟩ := iZ_in hz hj hN
  subst g2
  have e0 : vp_nar .boolean (iZ (bZ x)) = iZ (bZ x) := by cases x <;> rfl
  exact va_zast hx hb hK hP hD hS q0 t0 he ht0 g1 d (fun H1 locs1 hP1 hD1 hS1 => h p l e s m args below meth c D A H1 locs1 ls hx hb hr hm ho ht hk hX hK hA (by rw [e0] at hP1; exact hP1) (by rw [e0] at hD1; exact hD1) hS1 hl)
theorem V_lald {q : Nat} {cA : ClassId} {N a : Nat} {f : Nat → Int64} {z : Int} {v : Int64} (d : decode cc pc = .ok (.laload, 1)) (q0 t0 : Nat) (he : ws[q0]? = some (a, .inl (cA, N, .inr (.inl f)))) (ht0 : tys[t0]? = some (cA, .long)) (j : Nat) (hz : z = (j : Int)) (hj : j < N) (hN : N < 2147483648) (hv : f j = v) (hq : pc + 1 = q := by rfl) (h : V own cc nL ret Ts R X tys Q k n ws q lv (.long v :: st)) : V own cc nL ret Ts R X tys Q k n ws pc lv (.int (iZ z) :: .ref a :: st) := by
  subst hq
  intro p l e s m args below meth c D A H locs ls hx hb hr hm ho ht hk hX hK hA hP hD hS hl
  obtain ⟨g1, g2⟩ := iZ_in hz hj hN
  have h2 := h p l e s m args below meth c D A H locs ls hx hb hr hm ho ht hk hX hK hA hP hD hS hl
  rw [← hv, ← g2] at h2
  exact va_lald hx hb hK hP q0 t0 he ht0 g1 d h2
theorem V_last {q : Nat} {cA : ClassId} {N a : Nat} {f : Nat → Int64} {z : Int} {x : Int64} {ws' : va_W} (d : decode cc pc = .ok (.lastore, 1)) (q0 t0 : Nat) (he : ws[q0]? = some (a, .inl (cA, N, .inr (.inl f)))) (ht0 : tys[t0]? = some (cA, .long)) (j : Nat) (hz : z = (j : Int)) (hj : j < N) (hN : N < 2147483648) (hw : ws.set q0 (a, .inl (cA, N, .inr (.inl (vp_updL f j x)))) = ws') (hq : pc + 1 = q := by rfl) (h : V own cc nL ret Ts R X tys Q k n ws' q lv st) : V own cc nL ret Ts R X tys Q k n ws pc lv (.long x :: .int (iZ z) :: .ref a :: st) := by
  subst hq
  intro p l e s m args below meth c D A H locs ls hx hb hr hm ho ht hk hX hK hA hP hD hS hl
  subst hw
  obtain ⟨g1, g2⟩ := iZ_in hz hj hN
  subst g2
  exact va_last hx hb hK hP hD hS q0 t0 he ht0 g1 d (fun H1 locs1 hP1 hD1 hS1 => h p l e s m args below meth c D A H1 locs1 ls hx hb hr hm ho ht hk hX hK hA hP1 hD1 hS1 hl)
theorem V_putF {q : Nat} {C : String} {T : u_T} {N ci index a : Nat} {fs : List Value} {v : Value} {ws' : va_W} {ty : FieldType} (d : decode cc pc = .ok (.putfield index, 3)) (hX0 : ∀ l meth c A args s, X l meth c A args s → meth.name = "<init>") (hin : ∀ w ∈ u_ws C T N, w ∈ Ts) (ty0 : Nat → FieldType) (hty : ∀ k, k < N → parseFieldDescriptor (T k).2.2.1 = some (ty0 k)) (hnm : ∀ a, a < N → ∀ b, b < N → a ≠ b → (T a).2.1 ≠ (T b).2.1) (q0 : Nat) (he : ws[q0]? = some (a, .inr (ci, fs))) (hc : vwCl[ci]? = some (C, T, N)) (j : Nat) (hj : j < N) (hlink : Cond.fieldLink own index (T j).1 (T j).2.1 (T j).2.2.1 ∈ Ts) (hfin : (T j).2.2.2 = true) (hdecl : (T j).1 = own) (hd : parseFieldDescriptor (T j).2.2.1 = some ty) (hn : narrow ty v = v) (hfit : fits ty v = true) (hfl : j < fs.length) (hw : ws.set q0 (a, .inr (ci, fs.set j v)) = ws') (hq : pc + 3 = q := by rfl) (h : V own cc nL ret Ts R X tys Q k n ws' q lv st) : V own cc nL ret Ts R X tys Q k n ws pc lv (v :: .ref a :: st) := by
  subst hq
  intro p l e s m args below meth c D A H locs ls hx hb hr hm ho ht hk hX hK hA hP hD hS hl
  subst hw
  exact va_putF hx hb ht hin ty0 hty hnm ho hK hP hD hS q0 he hc j hj (ht _ hlink) (fun _ h9 => h9) hfin (hX0 _ _ _ _ _ _ hX) hdecl hd hn hfit hfl d (fun H1 locs1 hP1 hD1 hS1 => h p l e s m args below meth c D A H1 locs1 ls hx hb hr hm ho ht hk hX hK hA hP1 hD1 hS1 hl)
theorem V_newa {q : Nat} {atype : ArrayType} {ty : FieldType} {z : Int} {N' : Nat} {a0 : vp_A} (d : decode cc pc = .ok (.newarray atype, 2)) (harr : Cond.arrayClass (newarray.typeOf atype) ∈ Ts) (hty : newarray.typeOf atype = ty) (ha : ∀ cA : ClassId, vp_cell cA a0 = arrV cA N' (fun _ => defaultValue ty)) (hz : z = (N' : Int)) (hN : N' < 2147483648) (hbytes : N' * componentBytes ty ≤ 536870912) (hcells : k + 1 ≤ R.cells) (hslots : n + N' ≤ R.slots) (hq : pc + 2 = q) (h : ∀ (qa : Nat) (cA : ClassId), V own cc nL ret Ts R X (tys ++ [(cA, ty)]) Q (k + 1) (n + N') (ws ++ [(qa, .inl (cA, a0))]) q lv (.ref qa :: st)) : V own cc nL ret Ts R X tys Q k n ws pc lv (.int (iZ z) :: st) := by
  subst hq
  intro p l e s m args below meth c D A H locs ls hx hb hr hm ho ht hk hX hK hA hP hD hS hl
  have e1 := iZ_toInt (z := z) (by omega)
  refine va_newa hx hb (ht _ harr) hty hK hP hD hS hA ha (by rw [Int32.lt_iff_toInt_lt, e1]; show ¬ z < 0; omega) (show (iZ z).toInt.toNat = N' by rw [e1]; omega) hbytes hcells hslots d (fun qa cA H1 hK1 hP1 hD1 hS1 => ?_)
  exact h qa cA p l e s m args below meth c D A H1 locs ls hx hb hr hm ho ht hk hX hK1 hA hP1 hD1 hS1 hl
theorem V_objInit {q : Nat} {idx a : Nat} (d : decode cc pc = .ok (.invokespecial idx, 3)) (h1 : Cond.methodLink own idx objectInit ∈ Ts) (h2 : Cond.instanceMethod objectInit ∈ Ts) (h3 : Cond.code objectInit ⟨#[0xb1]⟩ 1 none ∈ Ts) (hR : 1 ≤ R.frames ∧ 30 ≤ R.locals) (hrest : (st.map fun v => v.category).sum ≤ 8) (hq : pc + 3 = q := by rfl) (h : V own cc nL ret Ts R X tys Q k n ws q lv st) : V own cc nL ret Ts R X tys Q k n ws pc lv (.ref a :: st) := by
  subst hq
  intro p l e s m args below meth c D A H locs ls hx hb hr hm ho ht hk hX hK hA hP hD hS hl
  refine W.objInit hx hb ho (ht _ h1) (ht _ h2) (ht _ h3) rfl (by rw [hm]; exact hl.1) rfl d hR.1 (by have q1 := lv_room (pc := pc) (ls := ls) (m := m) (rest := .ref a :: st) hrest; have q2 := hR.2; omega) ?_
  exact (h p l e s m args below meth c D A H locs ls hx hb hr hm ho ht hk hX hK hA hP hD hS hl)
theorem V_widen {k' n' : Nat} (h1 : k ≤ k') (h2 : n ≤ n') (h : V own cc nL ret Ts R X tys Q k' n' ws pc lv st) : V own cc nL ret Ts R X tys Q k n ws pc lv st := by
  intro p l e s m args below meth c D A H locs ls hx hb hr hm ho ht hk hX hK hA hP hD hS hl
  exact W.widen h1 h2 (h p l e s m args below meth c D A H locs ls hx hb hr hm ho ht hk hX hK hA hP hD hS hl)
theorem V_loc {lv' : List (Nat × Value)} (ks : List Nat) (hl' : lv_pick lv ks = lv') (h : V own cc nL ret Ts R X tys Q k n ws pc lv' st) : V own cc nL ret Ts R X tys Q k n ws pc lv st := by
  intro p l e s m args below meth c D A H locs ls hx hb hr hm ho ht hk hX hK hA hP hD hS hl
  exact h p l e s m args below meth c D A H locs ls hx hb hr hm ho ht hk hX hK hA hP hD hS (lv_sub hl ks hl')
theorem V_top {x y : Int32} (e0 : x = y) (h : V own cc nL ret Ts R X tys Q k n ws pc lv (.int y :: st)) : V own cc nL ret Ts R X tys Q k n ws pc lv (.int x :: st) := e0 ▸ h
theorem V_topL {x y : Int64} (e0 : x = y) (h : V own cc nL ret Ts R X tys Q k n ws pc lv (.long y :: st)) : V own cc nL ret Ts R X tys Q k n ws pc lv (.long x :: st) := e0 ▸ h
theorem V_nm {x : Int32} (h : ∀ y : Int32, y = x → V own cc nL ret Ts R X tys Q k n ws pc lv (.int y :: st)) : V own cc nL ret Ts R X tys Q k n ws pc lv (.int x :: st) := h x rfl
theorem V_st {st' : List Value} (e0 : st = st') (h : V own cc nL ret Ts R X tys Q k n ws pc lv st') : V own cc nL ret Ts R X tys Q k n ws pc lv st := e0 ▸ h
theorem V_lvq {lv' : List (Nat × Value)} (e0 : lv = lv') (h : V own cc nL ret Ts R X tys Q k n ws pc lv' st) : V own cc nL ret Ts R X tys Q k n ws pc lv st := e0 ▸ h
theorem V_ws {ws' : va_W} (e0 : ws = ws') (h : V own cc nL ret Ts R X tys Q k n ws' pc lv st) : V own cc nL ret Ts R X tys Q k n ws pc lv st := e0 ▸ h
theorem V_cut {M : Nat} (x : Int32) (kk : V own cc nL ret Ts R X tys Q k n ws M lv (.int x :: st)) (h : (∀ y : Int32, y = x → V own cc nL ret Ts R X tys Q k n ws M lv (.int y :: st)) → V own cc nL ret Ts R X tys Q k n ws pc lv st) : V own cc nL ret Ts R X tys Q k n ws pc lv st := h (fun y e => e ▸ kk)
theorem V_cutL {M : Nat} (x : Int64) (kk : V own cc nL ret Ts R X tys Q k n ws M lv (.long x :: st)) (h : (∀ y : Int64, y = x → V own cc nL ret Ts R X tys Q k n ws M lv (.long y :: st)) → V own cc nL ret Ts R X tys Q k n ws pc lv st) : V own cc nL ret Ts R X tys Q k n ws pc lv st := h (fun y e => e ▸ kk)
end VR
