/-! the judgement V with a lower bound of the heap: as V, where lo cells and more have been made since the method's entry -/
def VB (lo : Nat) (own : String) (cc : ByteArray) (nL : Nat) (ret : Option FieldType) (Ts : List Cond) (R : Room) (X : VX) (tys : List (ClassId × FieldType)) (Q : VQ) (k n : Nat) (ws : va_W) (pc : Nat) (lv : List (Nat × Value)) (st : List Value) : Prop :=
  ∀ (p : Program) (l : Launch) (e : Env) (s : State) (m : MethodId) (args : Array Value) (below : List Frame) (meth : Method) (c : Code) (D : va_G) (A : Nat → Prop) (H : Heap) (locs : List Loc) (ls : Array Slot),
    p.tables.exec = Jvm.exec → c.code = cc → meth.sig.returnType = ret → c.maxLocals = nL → s.vm.findClass own = some m.cls → (∀ w ∈ Ts, w.before args s = true) → meth.locks = false → X l meth c A args s → va_K D vwCl tys s → (∀ q, s.heap.size ≤ q → A q) →
    va_P D vwCl ws H → va_D A ws → va_S A s.heap H locs → lv_has ls nL lv → s.heap.size + lo ≤ H.size → W p l e R s m args below meth c H locs k n (Q D A args s below) (F0 m pc ls st)
theorem vaS_tr {A : Nat → Prop} {H0 H H1 : Heap} {L L1 : List Loc} (h : va_S A H0 H L) (h1 : va_S A H H1 L1) : va_S A H0 H1 L1 := ⟨Nat.le_trans h.1 h1.1, fun q a b => (h1.2.1 q (Nat.lt_of_lt_of_le a h.1) b).trans (h.2.1 q a b), h1.2.2⟩
section VBR
variable {lo : Nat} {own : String} {cc : ByteArray} {nL : Nat} {ret : Option FieldType} {Ts : List Cond} {R : Room} {X : VX} {tys : List (ClassId × FieldType)} {Q : VQ} {k n : Nat} {ws : va_W} {pc : Nat} {lv : List (Nat × Value)} {st : List Value}
theorem VB_iload_n {q : Nat} {i : Fin 4} {x : Int32} (d : decode cc pc = .ok (.iload_n i, 1)) (j : Nat) (hj : lv[j]? = some ((i : Nat), .int x)) (hq : pc + 1 = q := by rfl) (h : VB lo own cc nL ret Ts R X tys Q k n ws q lv (.int x :: st)) : VB lo own cc nL ret Ts R X tys Q k n ws pc lv st := by
  subst hq
  intro p l e s m args below meth c D A H locs ls hx hb hr hm ho ht hk hX hK hA hP hD hS hl hlo
  exact lv_iload_n hx hb d rfl (lv_at hl j hj) (h p l e s m args below meth c D A H locs ls hx hb hr hm ho ht hk hX hK hA hP hD hS hl hlo)
theorem VB_iload {q : Nat} {i : Nat} {x : Int32} (d : decode cc pc = .ok (.iload i, 2)) (j : Nat) (hj : lv[j]? = some (i, .int x)) (hq : pc + 2 = q := by rfl) (h : VB lo own cc nL ret Ts R X tys Q k n ws q lv (.int x :: st)) : VB lo own cc nL ret Ts R X tys Q k n ws pc lv st := by
  subst hq
  intro p l e s m args below meth c D A H locs ls hx hb hr hm ho ht hk hX hK hA hP hD hS hl hlo
  exact lv_iload hx hb d (lv_at hl j hj) (h p l e s m args below meth c D A H locs ls hx hb hr hm ho ht hk hX hK hA hP hD hS hl hlo)
theorem VB_aload_n {q : Nat} {i : Fin 4} {x : Nat} (d : decode cc pc = .ok (.aload_n i, 1)) (j : Nat) (hj : lv[j]? = some ((i : Nat), .ref x)) (hq : pc + 1 = q := by rfl) (h : VB lo own cc nL ret Ts R X tys Q k n ws q lv (.ref x :: st)) : VB lo own cc nL ret Ts R X tys Q k n ws pc lv st := by
  subst hq
  intro p l e s m args below meth c D A H locs ls hx hb hr hm ho ht hk hX hK hA hP hD hS hl hlo
  exact lv_aload_n hx hb d rfl (lv_at hl j hj) (h p l e s m args below meth c D A H locs ls hx hb hr hm ho ht hk hX hK hA hP hD hS hl hlo)
theorem VB_aload {q : Nat} {i : Nat} {x : Nat} (d : decode cc pc = .ok (.aload i, 2)) (j : Nat) (hj : lv[j]? = some (i, .ref x)) (hq : pc + 2 = q := by rfl) (h : VB lo own cc nL ret Ts R X tys Q k n ws q lv (.ref x :: st)) : VB lo own cc nL ret Ts R X tys Q k n ws pc lv st := by
  subst hq
  intro p l e s m args below meth c D A H locs ls hx hb hr hm ho ht hk hX hK hA hP hD hS hl hlo
  exact lv_aload hx hb d (lv_at hl j hj) (h p l e s m args below meth c D A H locs ls hx hb hr hm ho ht hk hX hK hA hP hD hS hl hlo)
theorem VB_lload_n {q : Nat} {i : Fin 4} {x : Int64} (d : decode cc pc = .ok (.lload_n i, 1)) (j : Nat) (hj : lv[j]? = some ((i : Nat), .long x)) (hq : pc + 1 = q := by rfl) (h : VB lo own cc nL ret Ts R X tys Q k n ws q lv (.long x :: st)) : VB lo own cc nL ret Ts R X tys Q k n ws pc lv st := by
  subst hq
  intro p l e s m args below meth c D A H locs ls hx hb hr hm ho ht hk hX hK hA hP hD hS hl hlo
  exact lv_lload_n hx hb d rfl (lv_at hl j hj) (h p l e s m args below meth c D A H locs ls hx hb hr hm ho ht hk hX hK hA hP hD hS hl hlo)
theorem VB_lload {q : Nat} {i : Nat} {x : Int64} (d : decode cc pc = .ok (.lload i, 2)) (j : Nat) (hj : lv[j]? = some (i, .long x)) (hq : pc + 2 = q := by rfl) (h : VB lo own cc nL ret Ts R X tys Q k n ws q lv (.long x :: st)) : VB lo own cc nL ret Ts R X tys Q k n ws pc lv st := by
  subst hq
  intro p l e s m args below meth c D A H locs ls hx hb hr hm ho ht hk hX hK hA hP hD hS hl hlo
  exact lv_lload hx hb d (lv_at hl j hj) (h p l e s m args below meth c D A H locs ls hx hb hr hm ho ht hk hX hK hA hP hD hS hl hlo)
theorem VB_istore_n {q : Nat} {i : Fin 4} {x : Int32} {lv' : List (Nat × Value)} (d : decode cc pc = .ok (.istore_n i, 1)) (hi : (i : Nat) < nL) (hl' : lset lv (i : Nat) (.int x) = lv') (hq : pc + 1 = q := by rfl) (h : VB lo own cc nL ret Ts R X tys Q k n ws q lv' st) : VB lo own cc nL ret Ts R X tys Q k n ws pc lv (.int x :: st) := by
  subst hq
  intro p l e s m args below meth c D A H locs ls hx hb hr hm ho ht hk hX hK hA hP hD hS hl hlo
  exact lv_istore_n hx hb d rfl hl hi rfl (fun ls2 hl2 => h p l e s m args below meth c D A H locs ls2 hx hb hr hm ho ht hk hX hK hA hP hD hS (lset_has hl2 hl') hlo)
theorem VB_istore {q : Nat} {i : Nat} {x : Int32} {lv' : List (Nat × Value)} (d : decode cc pc = .ok (.istore i, 2)) (hi : i < nL) (hl' : lset lv i (.int x) = lv') (hq : pc + 2 = q := by rfl) (h : VB lo own cc nL ret Ts R X tys Q k n ws q lv' st) : VB lo own cc nL ret Ts R X tys Q k n ws pc lv (.int x :: st) := by
  subst hq
  intro p l e s m args below meth c D A H locs ls hx hb hr hm ho ht hk hX hK hA hP hD hS hl hlo
  exact lv_istore hx hb d hl hi rfl (fun ls2 hl2 => h p l e s m args below meth c D A H locs ls2 hx hb hr hm ho ht hk hX hK hA hP hD hS (lset_has hl2 hl') hlo)
theorem VB_astore_n {q : Nat} {i : Fin 4} {x : Nat} {lv' : List (Nat × Value)} (d : decode cc pc = .ok (.astore_n i, 1)) (hi : (i : Nat) < nL) (hl' : lset lv (i : Nat) (.ref x) = lv') (hq : pc + 1 = q := by rfl) (h : VB lo own cc nL ret Ts R X tys Q k n ws q lv' st) : VB lo own cc nL ret Ts R X tys Q k n ws pc lv (.ref x :: st) := by
  subst hq
  intro p l e s m args below meth c D A H locs ls hx hb hr hm ho ht hk hX hK hA hP hD hS hl hlo
  exact lv_astore_n hx hb d rfl hl hi rfl (fun ls2 hl2 => h p l e s m args below meth c D A H locs ls2 hx hb hr hm ho ht hk hX hK hA hP hD hS (lset_has hl2 hl') hlo)
theorem VB_astore {q : Nat} {i : Nat} {x : Nat} {lv' : List (Nat × Value)} (d : decode cc pc = .ok (.astore i, 2)) (hi : i < nL) (hl' : lset lv i (.ref x) = lv') (hq : pc + 2 = q := by rfl) (h : VB lo own cc nL ret Ts R X tys Q k n ws q lv' st) : VB lo own cc nL ret Ts R X tys Q k n ws pc lv (.ref x :: st) := by
  subst hq
  intro p l e s m args below meth c D A H locs ls hx hb hr hm ho ht hk hX hK hA hP hD hS hl hlo
  exact lv_astore hx hb d hl hi rfl (fun ls2 hl2 => h p l e s m args below meth c D A H locs ls2 hx hb hr hm ho ht hk hX hK hA hP hD hS (lset_has hl2 hl') hlo)
theorem VB_lstore {q : Nat} {i : Nat} {x : Int64} {lv' : List (Nat × Value)} (d : decode cc pc = .ok (.lstore i, 2)) (hi : i + 1 < nL) (hl' : lsetL lv i (.long x) = lv') (hq : pc + 2 = q := by rfl) (h : VB lo own cc nL ret Ts R X tys Q k n ws q lv' st) : VB lo own cc nL ret Ts R X tys Q k n ws pc lv (.long x :: st) := by
  subst hq
  intro p l e s m args below meth c D A H locs ls hx hb hr hm ho ht hk hX hK hA hP hD hS hl hlo
  exact lv_lstore hx hb d hl hi rfl (fun ls2 hl2 => h p l e s m args below meth c D A H locs ls2 hx hb hr hm ho ht hk hX hK hA hP hD hS (lsetL_has hl2 hl') hlo)
theorem VB_iinc {q : Nat} {i : Nat} {z : Int} {x y : Int} {lv' : List (Nat × Value)} (d : decode cc pc = .ok (.iinc i z, 3)) (j : Nat) (hj : lv[j]? = some (i, .int (iZ x))) (hy : x + z = y) (hi : i < nL) (hl' : lset lv i (.int (iZ y)) = lv') (hq : pc + 3 = q := by rfl) (h : VB lo own cc nL ret Ts R X tys Q k n ws q lv' st) : VB lo own cc nL ret Ts R X tys Q k n ws pc lv st := by
  subst hq
  intro p l e s m args below meth c D A H locs ls hx hb hr hm ho ht hk hX hK hA hP hD hS hl hlo
  subst hy
  exact lv_iinc hx hb d hl hj (iZ_add x z) hi rfl (fun ls2 hl2 => h p l e s m args below meth c D A H locs ls2 hx hb hr hm ho ht hk hX hK hA hP hD hS (lset_has hl2 hl') hlo)
theorem VB_iconst {q : Nat} {z : Int} (d : decode cc pc = .ok (.iconst z, 1)) (hq : pc + 1 = q := by rfl) (h : VB lo own cc nL ret Ts R X tys Q k n ws q lv (.int (iZ z) :: st)) : VB lo own cc nL ret Ts R X tys Q k n ws pc lv st := by
  subst hq
  intro p l e s m args below meth c D A H locs ls hx hb hr hm ho ht hk hX hK hA hP hD hS hl hlo
  exact lv_iconst hx hb d rfl (h p l e s m args below meth c D A H locs ls hx hb hr hm ho ht hk hX hK hA hP hD hS hl hlo)
theorem VB_bipush {q : Nat} {z : Int} (d : decode cc pc = .ok (.bipush z, 2)) (hz : (Int8.ofInt z).toInt32 = iZ z) (hq : pc + 2 = q := by rfl) (h : VB lo own cc nL ret Ts R X tys Q k n ws q lv (.int (iZ z) :: st)) : VB lo own cc nL ret Ts R X tys Q k n ws pc lv st := by
  subst hq
  intro p l e s m args below meth c D A H locs ls hx hb hr hm ho ht hk hX hK hA hP hD hS hl hlo
  exact lv_bipush hx hb d hz (h p l e s m args below meth c D A H locs ls hx hb hr hm ho ht hk hX hK hA hP hD hS hl hlo)
theorem VB_sipush {q : Nat} {z : Int} (d : decode cc pc = .ok (.sipush z, 3)) (hz : (Int16.ofInt z).toInt32 = iZ z) (hq : pc + 3 = q := by rfl) (h : VB lo own cc nL ret Ts R X tys Q k n ws q lv (.int (iZ z) :: st)) : VB lo own cc nL ret Ts R X tys Q k n ws pc lv st := by
  subst hq
  intro p l e s m args below meth c D A H locs ls hx hb hr hm ho ht hk hX hK hA hP hD hS hl hlo
  exact lv_sipush hx hb d hz (h p l e s m args below meth c D A H locs ls hx hb hr hm ho ht hk hX hK hA hP hD hS hl hlo)
theorem VB_ldc2 {q : Nat} {i : Nat} {v : Int64} (d : decode cc pc = .ok (.ldc2_w i, 3)) (hw : Cond.constantLong own i v ∈ Ts) (hq : pc + 3 = q := by rfl) (h : VB lo own cc nL ret Ts R X tys Q k n ws q lv (.long v :: st)) : VB lo own cc nL ret Ts R X tys Q k n ws pc lv st := by
  subst hq
  intro p l e s m args below meth c D A H locs ls hx hb hr hm ho ht hk hX hK hA hP hD hS hl hlo
  exact lv_ldc2 hx hb ho (ht _ hw) d (h p l e s m args below meth c D A H locs ls hx hb hr hm ho ht hk hX hK hA hP hD hS hl hlo)
theorem VB_iadd {q : Nat} {a b : Int} (d : decode cc pc = .ok (.iadd, 1)) (hq : pc + 1 = q := by rfl) (h : VB lo own cc nL ret Ts R X tys Q k n ws q lv (.int (iZ (a + b)) :: st)) : VB lo own cc nL ret Ts R X tys Q k n ws pc lv (.int (iZ b) :: .int (iZ a) :: st) := by
  subst hq
  intro p l e s m args below meth c D A H locs ls hx hb hr hm ho ht hk hX hK hA hP hD hS hl hlo
  have h2 := h p l e s m args below meth c D A H locs ls hx hb hr hm ho ht hk hX hK hA hP hD hS hl hlo
  rw [← iZ_add] at h2
  exact lv_iadd hx hb d h2
theorem VB_isub {q : Nat} {a b : Int} (d : decode cc pc = .ok (.isub, 1)) (hq : pc + 1 = q := by rfl) (h : VB lo own cc nL ret Ts R X tys Q k n ws q lv (.int (iZ (a - b)) :: st)) : VB lo own cc nL ret Ts R X tys Q k n ws pc lv (.int (iZ b) :: .int (iZ a) :: st) := by
  subst hq
  intro p l e s m args below meth c D A H locs ls hx hb hr hm ho ht hk hX hK hA hP hD hS hl hlo
  have h2 := h p l e s m args below meth c D A H locs ls hx hb hr hm ho ht hk hX hK hA hP hD hS hl hlo
  rw [← iZ_sub] at h2
  exact lv_isub hx hb d h2
theorem VB_imul {q : Nat} {a b : Int} (d : decode cc pc = .ok (.imul, 1)) (hq : pc + 1 = q := by rfl) (h : VB lo own cc nL ret Ts R X tys Q k n ws q lv (.int (iZ (a * b)) :: st)) : VB lo own cc nL ret Ts R X tys Q k n ws pc lv (.int (iZ b) :: .int (iZ a) :: st) := by
  subst hq
  intro p l e s m args below meth c D A H locs ls hx hb hr hm ho ht hk hX hK hA hP hD hS hl hlo
  have h2 := h p l e s m args below meth c D A H locs ls hx hb hr hm ho ht hk hX hK hA hP hD hS hl hlo
  rw [← iZ_mul] at h2
  exact lv_imul hx hb d h2
theorem VB_iand {q : Nat} {x y : Int32} (d : decode cc pc = .ok (.iand, 1)) (hq : pc + 1 = q := by rfl) (h : VB lo own cc nL ret Ts R X tys Q k n ws q lv (.int (x &&& y) :: st)) : VB lo own cc nL ret Ts R X tys Q k n ws pc lv (.int y :: .int x :: st) := by
  subst hq
  intro p l e s m args below meth c D A H locs ls hx hb hr hm ho ht hk hX hK hA hP hD hS hl hlo
  exact lv_iand hx hb d (h p l e s m args below meth c D A H locs ls hx hb hr hm ho ht hk hX hK hA hP hD hS hl hlo)
theorem VB_ior {q : Nat} {x y : Int32} (d : decode cc pc = .ok (.ior, 1)) (hq : pc + 1 = q := by rfl) (h : VB lo own cc nL ret Ts R X tys Q k n ws q lv (.int (x ||| y) :: st)) : VB lo own cc nL ret Ts R X tys Q k n ws pc lv (.int y :: .int x :: st) := by
  subst hq
  intro p l e s m args below meth c D A H locs ls hx hb hr hm ho ht hk hX hK hA hP hD hS hl hlo
  exact lv_ior hx hb d (h p l e s m args below meth c D A H locs ls hx hb hr hm ho ht hk hX hK hA hP hD hS hl hlo)
theorem VB_ixor {q : Nat} {x y : Int32} (d : decode cc pc = .ok (.ixor, 1)) (hq : pc + 1 = q := by rfl) (h : VB lo own cc nL ret Ts R X tys Q k n ws q lv (.int (x ^^^ y) :: st)) : VB lo own cc nL ret Ts R X tys Q k n ws pc lv (.int y :: .int x :: st) := by
  subst hq
  intro p l e s m args below meth c D A H locs ls hx hb hr hm ho ht hk hX hK hA hP hD hS hl hlo
  exact lv_ixor hx hb d (h p l e s m args below meth c D A H locs ls hx hb hr hm ho ht hk hX hK hA hP hD hS hl hlo)
theorem VB_ishl {q : Nat} {x y : Int32} (d : decode cc pc = .ok (.ishl, 1)) (hq : pc + 1 = q := by rfl) (h : VB lo own cc nL ret Ts R X tys Q k n ws q lv (.int (x <<< (y &&& 31)) :: st)) : VB lo own cc nL ret Ts R X tys Q k n ws pc lv (.int y :: .int x :: st) := by
  subst hq
  intro p l e s m args below meth c D A H locs ls hx hb hr hm ho ht hk hX hK hA hP hD hS hl hlo
  exact lv_ishl hx hb d (h p l e s m args below meth c D A H locs ls hx hb hr hm ho ht hk hX hK hA hP hD hS hl hlo)
theorem VB_ishr {q : Nat} {x y : Int32} (d : decode cc pc = .ok (.ishr, 1)) (hq : pc + 1 = q := by rfl) (h : VB lo own cc nL ret Ts R X tys Q k n ws q lv (.int (x >>> (y &&& 31)) :: st)) : VB lo own cc nL ret Ts R X tys Q k n ws pc lv (.int y :: .int x :: st) := by
  subst hq
  intro p l e s m args below meth c D A H locs ls hx hb hr hm ho ht hk hX hK hA hP hD hS hl hlo
  exact lv_ishr hx hb d (h p l e s m args below meth c D A H locs ls hx hb hr hm ho ht hk hX hK hA hP hD hS hl hlo)
theorem VB_iaddR {q : Nat} {x y : Int32} (d : decode cc pc = .ok (.iadd, 1)) (hq : pc + 1 = q := by rfl) (h : VB lo own cc nL ret Ts R X tys Q k n ws q lv (.int (x + y) :: st)) : VB lo own cc nL ret Ts R X tys Q k n ws pc lv (.int y :: .int x :: st) := by
  subst hq
  intro p l e s m args below meth c D A H locs ls hx hb hr hm ho ht hk hX hK hA hP hD hS hl hlo
  exact lv_iadd hx hb d (h p l e s m args below meth c D A H locs ls hx hb hr hm ho ht hk hX hK hA hP hD hS hl hlo)
theorem VB_isubR {q : Nat} {x y : Int32} (d : decode cc pc = .ok (.isub, 1)) (hq : pc + 1 = q := by rfl) (h : VB lo own cc nL ret Ts R X tys Q k n ws q lv (.int (x - y) :: st)) : VB lo own cc nL ret Ts R X tys Q k n ws pc lv (.int y :: .int x :: st) := by
  subst hq
  intro p l e s m args below meth c D A H locs ls hx hb hr hm ho ht hk hX hK hA hP hD hS hl hlo
  exact lv_isub hx hb d (h p l e s m args below meth c D A H locs ls hx hb hr hm ho ht hk hX hK hA hP hD hS hl hlo)
theorem VB_ldcw {q : Nat} {i : Nat} {v : Int32} (d : decode cc pc = .ok (.ldc_w i, 3)) (hw : Cond.constant own i v ∈ Ts) (hq : pc + 3 = q := by rfl) (h : VB lo own cc nL ret Ts R X tys Q k n ws q lv (.int v :: st)) : VB lo own cc nL ret Ts R X tys Q k n ws pc lv st := by
  subst hq
  intro p l e s m args below meth c D A H locs ls hx hb hr hm ho ht hk hX hK hA hP hD hS hl hlo
  exact lv_ldcw hx hb ho (ht _ hw) d (h p l e s m args below meth c D A H locs ls hx hb hr hm ho ht hk hX hK hA hP hD hS hl hlo)
theorem VB_idiv {q : Nat} {a b : Nat} (d : decode cc pc = .ok (.idiv, 1)) (ha : a < 2147483648) (h0 : 0 < b) (hb' : b < 2147483648) (hq : pc + 1 = q := by rfl) (h : VB lo own cc nL ret Ts R X tys Q k n ws q lv (.int (iZ ((a / b : Nat) : Int)) :: st)) : VB lo own cc nL ret Ts R X tys Q k n ws pc lv (.int (iZ (b : Int)) :: .int (iZ (a : Int)) :: st) := by
  subst hq
  intro p l e s m args below meth c D A H locs ls hx hb hr hm ho ht hk hX hK hA hP hD hS hl hlo
  have h2 := h p l e s m args below meth c D A H locs ls hx hb hr hm ho ht hk hX hK hA hP hD hS hl hlo
  rw [iZ_nI, ← pk_div ha h0 hb', ← iZ_nI, ← iZ_nI] at h2
  exact lv_idiv hx hb d (by rw [iZ_nI]; exact nI_ne0 h0 hb') h2
theorem VB_irem {q : Nat} {a b : Nat} (d : decode cc pc = .ok (.irem, 1)) (ha : a < 2147483648) (h0 : 0 < b) (hb' : b < 2147483648) (hq : pc + 1 = q := by rfl) (h : VB lo own cc nL ret Ts R X tys Q k n ws q lv (.int (iZ ((a % b : Nat) : Int)) :: st)) : VB lo own cc nL ret Ts R X tys Q k n ws pc lv (.int (iZ (b : Int)) :: .int (iZ (a : Int)) :: st) := by
  subst hq
  intro p l e s m args below meth c D A H locs ls hx hb hr hm ho ht hk hX hK hA hP hD hS hl hlo
  have h2 := h p l e s m args below meth c D A H locs ls hx hb hr hm ho ht hk hX hK hA hP hD hS hl hlo
  rw [iZ_nI, ← pk_rem ha h0 hb', ← iZ_nI, ← iZ_nI] at h2
  exact lv_irem hx hb d (by rw [iZ_nI]; exact nI_ne0 h0 hb') h2
theorem VB_dup {q : Nat} {v : Value} (d : decode cc pc = .ok (.dup, 1)) (hv : v.category = 1) (hq : pc + 1 = q := by rfl) (h : VB lo own cc nL ret Ts R X tys Q k n ws q lv (v :: v :: st)) : VB lo own cc nL ret Ts R X tys Q k n ws pc lv (v :: st) := by
  subst hq
  intro p l e s m args below meth c D A H locs ls hx hb hr hm ho ht hk hX hK hA hP hD hS hl hlo
  exact lv_dup hx hb d hv (h p l e s m args below meth c D A H locs ls hx hb hr hm ho ht hk hX hK hA hP hD hS hl hlo)
theorem VB_dup2 {q : Nat} {u v : Value} (d : decode cc pc = .ok (.dup2, 1)) (hu : u.category = 1) (hv : v.category = 1) (hq : pc + 1 = q := by rfl) (h : VB lo own cc nL ret Ts R X tys Q k n ws q lv (u :: v :: u :: v :: st)) : VB lo own cc nL ret Ts R X tys Q k n ws pc lv (u :: v :: st) := by
  subst hq
  intro p l e s m args below meth c D A H locs ls hx hb hr hm ho ht hk hX hK hA hP hD hS hl hlo
  exact lv_dup2_11 hx hb d hu hv (h p l e s m args below meth c D A H locs ls hx hb hr hm ho ht hk hX hK hA hP hD hS hl hlo)
theorem VB_i2l {q : Nat} {x : Int32} (d : decode cc pc = .ok (.i2l, 1)) (hq : pc + 1 = q := by rfl) (h : VB lo own cc nL ret Ts R X tys Q k n ws q lv (.long x.toInt64 :: st)) : VB lo own cc nL ret Ts R X tys Q k n ws pc lv (.int x :: st) := by
  subst hq
  intro p l e s m args below meth c D A H locs ls hx hb hr hm ho ht hk hX hK hA hP hD hS hl hlo
  exact lv_i2l hx hb d rfl (h p l e s m args below meth c D A H locs ls hx hb hr hm ho ht hk hX hK hA hP hD hS hl hlo)
theorem VB_lcmp {q : Nat} {x y : Int64} (d : decode cc pc = .ok (.lcmp, 1)) (hq : pc + 1 = q := by rfl) (h : VB lo own cc nL ret Ts R X tys Q k n ws q lv (.int (lg_cmp x y) :: st)) : VB lo own cc nL ret Ts R X tys Q k n ws pc lv (.long y :: .long x :: st) := by
  subst hq
  intro p l e s m args below meth c D A H locs ls hx hb hr hm ho ht hk hX hK hA hP hD hS hl hlo
  exact W.lcmp hx hb d (h p l e s m args below meth c D A H locs ls hx hb hr hm ho ht hk hX hK hA hP hD hS hl hlo)
theorem VB_goto {tgt : Nat} {off : Int} (d : decode cc pc = .ok (.goto off, 3)) (ht' : (pc : Int) + off = (tgt : Int)) (h : VB lo own cc nL ret Ts R X tys Q k n ws tgt lv st) : VB lo own cc nL ret Ts R X tys Q k n ws pc lv st := by
  intro p l e s m args below meth c D A H locs ls hx hb hr hm ho ht hk hX hK hA hP hD hS hl hlo
  exact lv_goto hx hb d ht' (h p l e s m args below meth c D A H locs ls hx hb hr hm ho ht hk hX hK hA hP hD hS hl hlo)
theorem VB_iald {q : Nat} {cA : ClassId} {N a : Nat} {f : Nat → Int32} {z : Int} {v : Int32} (d : decode cc pc = .ok (.iaload, 1)) (q0 t0 : Nat) (he : ws[q0]? = some (a, .inl (cA, N, .inl f))) (ht0 : tys[t0]? = some (cA, .int)) (j : Nat) (hz : z = (j : Int)) (hj : j < N) (hN : N < 2147483648) (hv : f j = v) (hq : pc + 1 = q := by rfl) (h : VB lo own cc nL ret Ts R X tys Q k n ws q lv (.int v :: st)) : VB lo own cc nL ret Ts R X tys Q k n ws pc lv (.int (iZ z) :: .ref a :: st) := by
  subst hq
  intro p l e s m args below meth c D A H locs ls hx hb hr hm ho ht hk hX hK hA hP hD hS hl hlo
  obtain ⟨g1, g2⟩ := iZ_in hz hj hN
  have h2 := h p l e s m args below meth c D A H locs ls hx hb hr hm ho ht hk hX hK hA hP hD hS hl hlo
  rw [← hv, ← g2] at h2
  exact va_iald hx hb hK hP q0 t0 he ht0 g1 d h2
theorem VB_widen {k' n' : Nat} (h1 : k ≤ k') (h2 : n ≤ n') (h : VB lo own cc nL ret Ts R X tys Q k' n' ws pc lv st) : VB lo own cc nL ret Ts R X tys Q k n ws pc lv st := by
  intro p l e s m args below meth c D A H locs ls hx hb hr hm ho ht hk hX hK hA hP hD hS hl hlo
  exact W.widen h1 h2 (h p l e s m args below meth c D A H locs ls hx hb hr hm ho ht hk hX hK hA hP hD hS hl hlo)
theorem VB_loc {lv' : List (Nat × Value)} (ks : List Nat) (hl' : lv_pick lv ks = lv') (h : VB lo own cc nL ret Ts R X tys Q k n ws pc lv' st) : VB lo own cc nL ret Ts R X tys Q k n ws pc lv st := by
  intro p l e s m args below meth c D A H locs ls hx hb hr hm ho ht hk hX hK hA hP hD hS hl hlo
  exact h p l e s m args below meth c D A H locs ls hx hb hr hm ho ht hk hX hK hA hP hD hS (lv_sub hl ks hl') hlo
theorem VB_top {x y : Int32} (e0 : x = y) (h : VB lo own cc nL ret Ts R X tys Q k n ws pc lv (.int y :: st)) : VB lo own cc nL ret Ts R X tys Q k n ws pc lv (.int x :: st) := e0 ▸ h
theorem VB_topL {x y : Int64} (e0 : x = y) (h : VB lo own cc nL ret Ts R X tys Q k n ws pc lv (.long y :: st)) : VB lo own cc nL ret Ts R X tys Q k n ws pc lv (.long x :: st) := e0 ▸ h
theorem VB_st {st' : List Value} (e0 : st = st') (h : VB lo own cc nL ret Ts R X tys Q k n ws pc lv st') : VB lo own cc nL ret Ts R X tys Q k n ws pc lv st := e0 ▸ h
theorem VB_lvq {lv' : List (Nat × Value)} (e0 : lv = lv') (h : VB lo own cc nL ret Ts R X tys Q k n ws pc lv' st) : VB lo own cc nL ret Ts R X tys Q k n ws pc lv st := e0 ▸ h
theorem VB_ws {ws' : va_W} (e0 : ws = ws') (h : VB lo own cc nL ret Ts R X tys Q k n ws' pc lv st) : VB lo own cc nL ret Ts R X tys Q k n ws pc lv st := e0 ▸ h
theorem VB_get {q : Nat} {C : String} {T : u_T} {N ci index a : Nat} {fs : List Value} {v : Value} (d : decode cc pc = .ok (.getfield index, 3)) (hin : ∀ w ∈ u_ws C T N, w ∈ Ts) (q0 : Nat) (he : ws[q0]? = some (a, .inr (ci, fs))) (hc : vwCl[ci]? = some (C, T, N)) (j : Nat) (hj : j < N) (hlink : Cond.fieldLink own index (T j).1 (T j).2.1 (T j).2.2.1 ∈ Ts) (hv : fs[j]? = some v) (hq : pc + 3 = q := by rfl) (h : VB lo own cc nL ret Ts R X tys Q k n ws q lv (v :: st)) : VB lo own cc nL ret Ts R X tys Q k n ws pc lv (.ref a :: st) := by
  subst hq
  intro p l e s m args below meth c D A H locs ls hx hb hr hm ho ht hk hX hK hA hP hD hS hl hlo
  exact va_get hx hb ht hin ho hK hP q0 he hc j hj (ht _ hlink) (fun _ h9 => h9) hv d (h p l e s m args below meth c D A H locs ls hx hb hr hm ho ht hk hX hK hA hP hD hS hl hlo)
theorem VB_icmp_eq {q tgt : Nat} {off : Int} {a b : Int} (d : decode cc pc = .ok (.if_icmp .eq off, 3)) (ha : -2147483648 ≤ a ∧ a < 2147483648) (hb' : -2147483648 ≤ b ∧ b < 2147483648) (ht' : (pc : Int) + off = (tgt : Int)) (kt : a = b → VB lo own cc nL ret Ts R X tys Q k n ws tgt lv st) (kf : ¬ a = b → VB lo own cc nL ret Ts R X tys Q k n ws q lv st) (hq : pc + 3 = q := by rfl) : VB lo own cc nL ret Ts R X tys Q k n ws pc lv (.int (iZ b) :: .int (iZ a) :: st) := by
  subst hq
  intro p l e s m args below meth c D A H locs ls hx hb hr hm ho ht hk hX hK hA hP hD hS hl hlo
  exact lv_icmp_eq hx hb d ht' (fun c0 => kt (by have e1 := iZ_inj ha hb'; have e2 := iZ_lt ha hb'; have e3 := iZ_le ha hb'; have e4 := iZ_lt hb' ha; have e5 := iZ_le hb' ha; first | exact e1.mp c0 | exact fun q0 => c0 (e1.mpr q0) | exact e2.mp c0 | exact e3.mp c0 | exact e4.mp c0 | exact e5.mp c0 | (rw [e2] at c0; omega) | (rw [e3] at c0; omega) | (rw [e4] at c0; omega) | (rw [e5] at c0; omega)) p l e s m args below meth c D A H locs ls hx hb hr hm ho ht hk hX hK hA hP hD hS hl hlo) (fun c0 => kf (by have e1 := iZ_inj ha hb'; have e2 := iZ_lt ha hb'; have e3 := iZ_le ha hb'; have e4 := iZ_lt hb' ha; have e5 := iZ_le hb' ha; first | exact e1.mp c0 | exact fun q0 => c0 (e1.mpr q0) | exact e2.mp c0 | exact e3.mp c0 | exact e4.mp c0 | exact e5.mp c0 | (rw [e2] at c0; omega) | (rw [e3] at c0; omega) | (rw [e4] at c0; omega) | (rw [e5] at c0; omega)) p l e s m args below meth c D A H locs ls hx hb hr hm ho ht hk hX hK hA hP hD hS hl hlo)
theorem VB_icmp_ne {q tgt : Nat} {off : Int} {a b : Int} (d : decode cc pc = .ok (.if_icmp .ne off, 3)) (ha : -2147483648 ≤ a ∧ a < 2147483648) (hb' : -2147483648 ≤ b ∧ b < 2147483648) (ht' : (pc : Int) + off = (tgt : Int)) (kt : ¬ a = b → VB lo own cc nL ret Ts R X tys Q k n ws tgt lv st) (kf : a = b → VB lo own cc nL ret Ts R X tys Q k n ws q lv st) (hq : pc + 3 = q := by rfl) : VB lo own cc nL ret Ts R X tys Q k n ws pc lv (.int (iZ b) :: .int (iZ a) :: st) := by
  subst hq
  intro p l e s m args below meth c D A H locs ls hx hb hr hm ho ht hk hX hK hA hP hD hS hl hlo
  exact lv_icmp_ne hx hb d ht' (fun c0 => kt (by have e1 := iZ_inj ha hb'; have e2 := iZ_lt ha hb'; have e3 := iZ_le ha hb'; have e4 := iZ_lt hb' ha; have e5 := iZ_le hb' ha; first | exact e1.mp c0 | exact fun q0 => c0 (e1.mpr q0) | exact e2.mp c0 | exact e3.mp c0 | exact e4.mp c0 | exact e5.mp c0 | (rw [e2] at c0; omega) | (rw [e3] at c0; omega) | (rw [e4] at c0; omega) | (rw [e5] at c0; omega)) p l e s m args below meth c D A H locs ls hx hb hr hm ho ht hk hX hK hA hP hD hS hl hlo) (fun c0 => kf (by have e1 := iZ_inj ha hb'; have e2 := iZ_lt ha hb'; have e3 := iZ_le ha hb'; have e4 := iZ_lt hb' ha; have e5 := iZ_le hb' ha; first | exact e1.mp c0 | exact fun q0 => c0 (e1.mpr q0) | exact e2.mp c0 | exact e3.mp c0 | exact e4.mp c0 | exact e5.mp c0 | (rw [e2] at c0; omega) | (rw [e3] at c0; omega) | (rw [e4] at c0; omega) | (rw [e5] at c0; omega)) p l e s m args below meth c D A H locs ls hx hb hr hm ho ht hk hX hK hA hP hD hS hl hlo)
theorem VB_icmp_lt {q tgt : Nat} {off : Int} {a b : Int} (d : decode cc pc = .ok (.if_icmp .lt off, 3)) (ha : -2147483648 ≤ a ∧ a < 2147483648) (hb' : -2147483648 ≤ b ∧ b < 2147483648) (ht' : (pc : Int) + off = (tgt : Int)) (kt : a < b → VB lo own cc nL ret Ts R X tys Q k n ws tgt lv st) (kf : b ≤ a → VB lo own cc nL ret Ts R X tys Q k n ws q lv st) (hq : pc + 3 = q := by rfl) : VB lo own cc nL ret Ts R X tys Q k n ws pc lv (.int (iZ b) :: .int (iZ a) :: st) := by
  subst hq
  intro p l e s m args below meth c D A H locs ls hx hb hr hm ho ht hk hX hK hA hP hD hS hl hlo
  exact lv_icmp_lt hx hb d ht' (fun c0 => kt (by have e1 := iZ_inj ha hb'; have e2 := iZ_lt ha hb'; have e3 := iZ_le ha hb'; have e4 := iZ_lt hb' ha; have e5 := iZ_le hb' ha; first | exact e1.mp c0 | exact fun q0 => c0 (e1.mpr q0) | exact e2.mp c0 | exact e3.mp c0 | exact e4.mp c0 | exact e5.mp c0 | (rw [e2] at c0; omega) | (rw [e3] at c0; omega) | (rw [e4] at c0; omega) | (rw [e5] at c0; omega)) p l e s m args below meth c D A H locs ls hx hb hr hm ho ht hk hX hK hA hP hD hS hl hlo) (fun c0 => kf (by have e1 := iZ_inj ha hb'; have e2 := iZ_lt ha hb'; have e3 := iZ_le ha hb'; have e4 := iZ_lt hb' ha; have e5 := iZ_le hb' ha; first | exact e1.mp c0 | exact fun q0 => c0 (e1.mpr q0) | exact e2.mp c0 | exact e3.mp c0 | exact e4.mp c0 | exact e5.mp c0 | (rw [e2] at c0; omega) | (rw [e3] at c0; omega) | (rw [e4] at c0; omega) | (rw [e5] at c0; omega)) p l e s m args below meth c D A H locs ls hx hb hr hm ho ht hk hX hK hA hP hD hS hl hlo)
theorem VB_icmp_ge {q tgt : Nat} {off : Int} {a b : Int} (d : decode cc pc = .ok (.if_icmp .ge off, 3)) (ha : -2147483648 ≤ a ∧ a < 2147483648) (hb' : -2147483648 ≤ b ∧ b < 2147483648) (ht' : (pc : Int) + off = (tgt : Int)) (kt : b ≤ a → VB lo own cc nL ret Ts R X tys Q k n ws tgt lv st) (kf : a < b → VB lo own cc nL ret Ts R X tys Q k n ws q lv st) (hq : pc + 3 = q := by rfl) : VB lo own cc nL ret Ts R X tys Q k n ws pc lv (.int (iZ b) :: .int (iZ a) :: st) := by
  subst hq
  intro p l e s m args below meth c D A H locs ls hx hb hr hm ho ht hk hX hK hA hP hD hS hl hlo
  exact lv_icmp_ge hx hb d ht' (fun c0 => kt (by have e1 := iZ_inj ha hb'; have e2 := iZ_lt ha hb'; have e3 := iZ_le ha hb'; have e4 := iZ_lt hb' ha; have e5 := iZ_le hb' ha; first | exact e1.mp c0 | exact fun q0 => c0 (e1.mpr q0) | exact e2.mp c0 | exact e3.mp c0 | exact e4.mp c0 | exact e5.mp c0 | (rw [e2] at c0; omega) | (rw [e3] at c0; omega) | (rw [e4] at c0; omega) | (rw [e5] at c0; omega)) p l e s m args below meth c D A H locs ls hx hb hr hm ho ht hk hX hK hA hP hD hS hl hlo) (fun c0 => kf (by have e1 := iZ_inj ha hb'; have e2 := iZ_lt ha hb'; have e3 := iZ_le ha hb'; have e4 := iZ_lt hb' ha; have e5 := iZ_le hb' ha; first | exact e1.mp c0 | exact fun q0 => c0 (e1.mpr q0) | exact e2.mp c0 | exact e3.mp c0 | exact e4.mp c0 | exact e5.mp c0 | (rw [e2] at c0; omega) | (rw [e3] at c0; omega) | (rw [e4] at c0; omega) | (rw [e5] at c0; omega)) p l e s m args below meth c D A H locs ls hx hb hr hm ho ht hk hX hK hA hP hD hS hl hlo)
theorem VB_icmp_gt {q tgt : Nat} {off : Int} {a b : Int} (d : decode cc pc = .ok (.if_icmp .gt off, 3)) (ha : -2147483648 ≤ a ∧ a < 2147483648) (hb' : -2147483648 ≤ b ∧ b < 2147483648) (ht' : (pc : Int) + off = (tgt : Int)) (kt : b < a → VB lo own cc nL ret Ts R X tys Q k n ws tgt lv st) (kf : a ≤ b → VB lo own cc nL ret Ts R X tys Q k n ws q lv st) (hq : pc + 3 = q := by rfl) : VB lo own cc nL ret Ts R X tys Q k n ws pc lv (.int (iZ b) :: .int (iZ a) :: st) := by
  subst hq
  intro p l e s m args below meth c D A H locs ls hx hb hr hm ho ht hk hX hK hA hP hD hS hl hlo
  exact lv_icmp_gt hx hb d ht' (fun c0 => kt (by have e1 := iZ_inj ha hb'; have e2 := iZ_lt ha hb'; have e3 := iZ_le ha hb'; have e4 := iZ_lt hb' ha; have e5 := iZ_le hb' ha; first | exact e1.mp c0 | exact fun q0 => c0 (e1.mpr q0) | exact e2.mp c0 | exact e3.mp c0 | exact e4.mp c0 | exact e5.mp c0 | (rw [e2] at c0; omega) | (rw [e3] at c0; omega) | (rw [e4] at c0; omega) | (rw [e5] at c0; omega)) p l e s m args below meth c D A H locs ls hx hb hr hm ho ht hk hX hK hA hP hD hS hl hlo) (fun c0 => kf (by have e1 := iZ_inj ha hb'; have e2 := iZ_lt ha hb'; have e3 := iZ_le ha hb'; have e4 := iZ_lt hb' ha; have e5 := iZ_le hb' ha; first | exact e1.mp c0 | exact fun q0 => c0 (e1.mpr q0) | exact e2.mp c0 | exact e3.mp c0 | exact e4.mp c0 | exact e5.mp c0 | (rw [e2] at c0; omega) | (rw [e3] at c0; omega) | (rw [e4] at c0; omega) | (rw [e5] at c0; omega)) p l e s m args below meth c D A H locs ls hx hb hr hm ho ht hk hX hK hA hP hD hS hl hlo)
theorem VB_icmp_le {q tgt : Nat} {off : Int} {a b : Int} (d : decode cc pc = .ok (.if_icmp .le off, 3)) (ha : -2147483648 ≤ a ∧ a < 2147483648) (hb' : -2147483648 ≤ b ∧ b < 2147483648) (ht' : (pc : Int) + off = (tgt : Int)) (kt : a ≤ b → VB lo own cc nL ret Ts R X tys Q k n ws tgt lv st) (kf : b < a → VB lo own cc nL ret Ts R X tys Q k n ws q lv st) (hq : pc + 3 = q := by rfl) : VB lo own cc nL ret Ts R X tys Q k n ws pc lv (.int (iZ b) :: .int (iZ a) :: st) := by
  subst hq
  intro p l e s m args below meth c D A H locs ls hx hb hr hm ho ht hk hX hK hA hP hD hS hl hlo
  exact lv_icmp_le hx hb d ht' (fun c0 => kt (by have e1 := iZ_inj ha hb'; have e2 := iZ_lt ha hb'; have e3 := iZ_le ha hb'; have e4 := iZ_lt hb' ha; have e5 := iZ_le hb' ha; first | exact e1.mp c0 | exact fun q0 => c0 (e1.mpr q0) | exact e2.mp c0 | exact e3.mp c0 | exact e4.mp c0 | exact e5.mp c0 | (rw [e2] at c0; omega) | (rw [e3] at c0; omega) | (rw [e4] at c0; omega) | (rw [e5] at c0; omega)) p l e s m args below meth c D A H locs ls hx hb hr hm ho ht hk hX hK hA hP hD hS hl hlo) (fun c0 => kf (by have e1 := iZ_inj ha hb'; have e2 := iZ_lt ha hb'; have e3 := iZ_le ha hb'; have e4 := iZ_lt hb' ha; have e5 := iZ_le hb' ha; first | exact e1.mp c0 | exact fun q0 => c0 (e1.mpr q0) | exact e2.mp c0 | exact e3.mp c0 | exact e4.mp c0 | exact e5.mp c0 | (rw [e2] at c0; omega) | (rw [e3] at c0; omega) | (rw [e4] at c0; omega) | (rw [e5] at c0; omega)) p l e s m args below meth c D A H locs ls hx hb hr hm ho ht hk hX hK hA hP hD hS hl hlo)
theorem VB_if_eq {q tgt : Nat} {off : Int} {a : Int} (d : decode cc pc = .ok (.ifCond .eq off, 3)) (ha : -2147483648 ≤ a ∧ a < 2147483648) (ht' : (pc : Int) + off = (tgt : Int)) (kt : a = 0 → VB lo own cc nL ret Ts R X tys Q k n ws tgt lv st) (kf : ¬ a = 0 → VB lo own cc nL ret Ts R X tys Q k n ws q lv st) (hq : pc + 3 = q := by rfl) : VB lo own cc nL ret Ts R X tys Q k n ws pc lv (.int (iZ a) :: st) := by
  subst hq
  intro p l e s m args below meth c D A H locs ls hx hb hr hm ho ht hk hX hK hA hP hD hS hl hlo
  exact lv_if_eq hx hb d ht' (fun c0 => kt (by have e1 := iZ_inj ha (show -2147483648 ≤ (0 : Int) ∧ (0 : Int) < 2147483648 by decide); have e2 := iZ_lt ha (show -2147483648 ≤ (0 : Int) ∧ (0 : Int) < 2147483648 by decide); have e3 := iZ_le ha (show -2147483648 ≤ (0 : Int) ∧ (0 : Int) < 2147483648 by decide); have e4 := iZ_lt (show -2147483648 ≤ (0 : Int) ∧ (0 : Int) < 2147483648 by decide) ha; have e5 := iZ_le (show -2147483648 ≤ (0 : Int) ∧ (0 : Int) < 2147483648 by decide) ha; rw [iZ_0] at e1 e2 e3 e4 e5; first | exact e1.mp c0 | exact fun q0 => c0 (e1.mpr q0) | exact e2.mp c0 | exact e3.mp c0 | exact e4.mp c0 | exact e5.mp c0 | (rw [e2] at c0; omega) | (rw [e3] at c0; omega) | (rw [e4] at c0; omega) | (rw [e5] at c0; omega)) p l e s m args below meth c D A H locs ls hx hb hr hm ho ht hk hX hK hA hP hD hS hl hlo) (fun c0 => kf (by have e1 := iZ_inj ha (show -2147483648 ≤ (0 : Int) ∧ (0 : Int) < 2147483648 by decide); have e2 := iZ_lt ha (show -2147483648 ≤ (0 : Int) ∧ (0 : Int) < 2147483648 by decide); have e3 := iZ_le ha (show -2147483648 ≤ (0 : Int) ∧ (0 : Int) < 2147483648 by decide); have e4 := iZ_lt (show -2147483648 ≤ (0 : Int) ∧ (0 : Int) < 2147483648 by decide) ha; have e5 := iZ_le (show -2147483648 ≤ (0 : Int) ∧ (0 : Int) < 2147483648 by decide) ha; rw [iZ_0] at e1 e2 e3 e4 e5; first | exact e1.mp c0 | exact fun q0 => c0 (e1.mpr q0) | exact e2.mp c0 | exact e3.mp c0 | exact e4.mp c0 | exact e5.mp c0 | (rw [e2] at c0; omega) | (rw [e3] at c0; omega) | (rw [e4] at c0; omega) | (rw [e5] at c0; omega)) p l e s m args below meth c D A H locs ls hx hb hr hm ho ht hk hX hK hA hP hD hS hl hlo)
theorem VB_if_ne {q tgt : Nat} {off : Int} {a : Int} (d : decode cc pc = .ok (.ifCond .ne off, 3)) (ha : -2147483648 ≤ a ∧ a < 2147483648) (ht' : (pc : Int) + off = (tgt : Int)) (kt : ¬ a = 0 → VB lo own cc nL ret Ts R X tys Q k n ws tgt lv st) (kf : a = 0 → VB lo own cc nL ret Ts R X tys Q k n ws q lv st) (hq : pc + 3 = q := by rfl) : VB lo own cc nL ret Ts R X tys Q k n ws pc lv (.int (iZ a) :: st) := by
  subst hq
  intro p l e s m args below meth c D A H locs ls hx hb hr hm ho ht hk hX hK hA hP hD hS hl hlo
  exact lv_if_ne hx hb d ht' (fun c0 => kt (by have e1 := iZ_inj ha (show -2147483648 ≤ (0 : Int) ∧ (0 : Int) < 2147483648 by decide); have e2 := iZ_lt ha (show -2147483648 ≤ (0 : Int) ∧ (0 : Int) < 2147483648 by decide); have e3 := iZ_le ha (show -2147483648 ≤ (0 : Int) ∧ (0 : Int) < 2147483648 by decide); have e4 := iZ_lt (show -2147483648 ≤ (0 : Int) ∧ (0 : Int) < 2147483648 by decide) ha; have e5 := iZ_le (show -2147483648 ≤ (0 : Int) ∧ (0 : Int) < 2147483648 by decide) ha; rw [iZ_0] at e1 e2 e3 e4 e5; first | exact e1.mp c0 | exact fun q0 => c0 (e1.mpr q0) | exact e2.mp c0 | exact e3.mp c0 | exact e4.mp c0 | exact e5.mp c0 | (rw [e2] at c0; omega) | (rw [e3] at c0; omega) | (rw [e4] at c0; omega) | (rw [e5] at c0; omega)) p l e s m args below meth c D A H locs ls hx hb hr hm ho ht hk hX hK hA hP hD hS hl hlo) (fun c0 => kf (by have e1 := iZ_inj ha (show -2147483648 ≤ (0 : Int) ∧ (0 : Int) < 2147483648 by decide); have e2 := iZ_lt ha (show -2147483648 ≤ (0 : Int) ∧ (0 : Int) < 2147483648 by decide); have e3 := iZ_le ha (show -2147483648 ≤ (0 : Int) ∧ (0 : Int) < 2147483648 by decide); have e4 := iZ_lt (show -2147483648 ≤ (0 : Int) ∧ (0 : Int) < 2147483648 by decide) ha; have e5 := iZ_le (show -2147483648 ≤ (0 : Int) ∧ (0 : Int) < 2147483648 by decide) ha; rw [iZ_0] at e1 e2 e3 e4 e5; first | exact e1.mp c0 | exact fun q0 => c0 (e1.mpr q0) | exact e2.mp c0 | exact e3.mp c0 | exact e4.mp c0 | exact e5.mp c0 | (rw [e2] at c0; omega) | (rw [e3] at c0; omega) | (rw [e4] at c0; omega) | (rw [e5] at c0; omega)) p l e s m args below meth c D A H locs ls hx hb hr hm ho ht hk hX hK hA hP hD hS hl hlo)
theorem VB_if_lt {q tgt : Nat} {off : Int} {a : Int} (d : decode cc pc = .ok (.ifCond .lt off, 3)) (ha : -2147483648 ≤ a ∧ a < 2147483648) (ht' : (pc : Int) + off = (tgt : Int)) (kt : a < 0 → VB lo own cc nL ret Ts R X tys Q k n ws tgt lv st) (kf : 0 ≤ a → VB lo own cc nL ret Ts R X tys Q k n ws q lv st) (hq : pc + 3 = q := by rfl) : VB lo own cc nL ret Ts R X tys Q k n ws pc lv (.int (iZ a) :: st) := by
  subst hq
  intro p l e s m args below meth c D A H locs ls hx hb hr hm ho ht hk hX hK hA hP hD hS hl hlo
  exact lv_if_lt hx hb d ht' (fun c0 => kt (by have e1 := iZ_inj ha (show -2147483648 ≤ (0 : Int) ∧ (0 : Int) < 2147483648 by decide); have e2 := iZ_lt ha (show -2147483648 ≤ (0 : Int) ∧ (0 : Int) < 2147483648 by decide); have e3 := iZ_le ha (show -2147483648 ≤ (0 : Int) ∧ (0 : Int) < 2147483648 by decide); have e4 := iZ_lt (show -2147483648 ≤ (0 : Int) ∧ (0 : Int) < 2147483648 by decide) ha; have e5 := iZ_le (show -2147483648 ≤ (0 : Int) ∧ (0 : Int) < 2147483648 by decide) ha; rw [iZ_0] at e1 e2 e3 e4 e5; first | exact e1.mp c0 | exact fun q0 => c0 (e1.mpr q0) | exact e2.mp c0 | exact e3.mp c0 | exact e4.mp c0 | exact e5.mp c0 | (rw [e2] at c0; omega) | (rw [e3] at c0; omega) | (rw [e4] at c0; omega) | (rw [e5] at c0; omega)) p l e s m args below meth c D A H locs ls hx hb hr hm ho ht hk hX hK hA hP hD hS hl hlo) (fun c0 => kf (by have e1 := iZ_inj ha (show -2147483648 ≤ (0 : Int) ∧ (0 : Int) < 2147483648 by decide); have e2 := iZ_lt ha (show -2147483648 ≤ (0 : Int) ∧ (0 : Int) < 2147483648 by decide); have e3 := iZ_le ha (show -2147483648 ≤ (0 : Int) ∧ (0 : Int) < 2147483648 by decide); have e4 := iZ_lt (show -2147483648 ≤ (0 : Int) ∧ (0 : Int) < 2147483648 by decide) ha; have e5 := iZ_le (show -2147483648 ≤ (0 : Int) ∧ (0 : Int) < 2147483648 by decide) ha; rw [iZ_0] at e1 e2 e3 e4 e5; first | exact e1.mp c0 | exact fun q0 => c0 (e1.mpr q0) | exact e2.mp c0 | exact e3.mp c0 | exact e4.mp c0 | exact e5.mp c0 | (rw [e2] at c0; omega) | (rw [e3] at c0; omega) | (rw [e4] at c0; omega) | (rw [e5] at c0; omega)) p l e s m args below meth c D A H locs ls hx hb hr hm ho ht hk hX hK hA hP hD hS hl hlo)
theorem VB_if_ge {q tgt : Nat} {off : Int} {a : Int} (d : decode cc pc = .ok (.ifCond .ge off, 3)) (ha : -2147483648 ≤ a ∧ a < 2147483648) (ht' : (pc : Int) + off = (tgt : Int)) (kt : 0 ≤ a → VB lo own cc nL ret Ts R X tys Q k n ws tgt lv st) (kf : a < 0 → VB lo own cc nL ret Ts R X tys Q k n ws q lv st) (hq : pc + 3 = q := by rfl) : VB lo own cc nL ret Ts R X tys Q k n ws pc lv (.int (iZ a) :: st) := by
  subst hq
  intro p l e s m args below meth c D A H locs ls hx hb hr hm ho ht hk hX hK hA hP hD hS hl hlo
  exact lv_if_ge hx hb d ht' (fun c0 => kt (by have e1 := iZ_inj ha (show -2147483648 ≤ (0 : Int) ∧ (0 : Int) < 2147483648 by decide); have e2 := iZ_lt ha (show -2147483648 ≤ (0 : Int) ∧ (0 : Int) < 2147483648 by decide); have e3 := iZ_le ha (show -2147483648 ≤ (0 : Int) ∧ (0 : Int) < 2147483648 by decide); have e4 := iZ_lt (show -2147483648 ≤ (0 : Int) ∧ (0 : Int) < 2147483648 by decide) ha; have e5 := iZ_le (show -2147483648 ≤ (0 : Int) ∧ (0 : Int) < 2147483648 by decide) ha; rw [iZ_0] at e1 e2 e3 e4 e5; first | exact e1.mp c0 | exact fun q0 => c0 (e1.mpr q0) | exact e2.mp c0 | exact e3.mp c0 | exact e4.mp c0 | exact e5.mp c0 | (rw [e2] at c0; omega) | (rw [e3] at c0; omega) | (rw [e4] at c0; omega) | (rw [e5] at c0; omega)) p l e s m args below meth c D A H locs ls hx hb hr hm ho ht hk hX hK hA hP hD hS hl hlo) (fun c0 => kf (by have e1 := iZ_inj ha (show -2147483648 ≤ (0 : Int) ∧ (0 : Int) < 2147483648 by decide); have e2 := iZ_lt ha (show -2147483648 ≤ (0 : Int) ∧ (0 : Int) < 2147483648 by decide); have e3 := iZ_le ha (show -2147483648 ≤ (0 : Int) ∧ (0 : Int) < 2147483648 by decide); have e4 := iZ_lt (show -2147483648 ≤ (0 : Int) ∧ (0 : Int) < 2147483648 by decide) ha; have e5 := iZ_le (show -2147483648 ≤ (0 : Int) ∧ (0 : Int) < 2147483648 by decide) ha; rw [iZ_0] at e1 e2 e3 e4 e5; first | exact e1.mp c0 | exact fun q0 => c0 (e1.mpr q0) | exact e2.mp c0 | exact e3.mp c0 | exact e4.mp c0 | exact e5.mp c0 | (rw [e2] at c0; omega) | (rw [e3] at c0; omega) | (rw [e4] at c0; omega) | (rw [e5] at c0; omega)) p l e s m args below meth c D A H locs ls hx hb hr hm ho ht hk hX hK hA hP hD hS hl hlo)
theorem VB_if_gt {q tgt : Nat} {off : Int} {a : Int} (d : decode cc pc = .ok (.ifCond .gt off, 3)) (ha : -2147483648 ≤ a ∧ a < 2147483648) (ht' : (pc : Int) + off = (tgt : Int)) (kt : 0 < a → VB lo own cc nL ret Ts R X tys Q k n ws tgt lv st) (kf : a ≤ 0 → VB lo own cc nL ret Ts R X tys Q k n ws q lv st) (hq : pc + 3 = q := by rfl) : VB lo own cc nL ret Ts R X tys Q k n ws pc lv (.int (iZ a) :: st) := by
  subst hq
  intro p l e s m args below meth c D A H locs ls hx hb hr hm ho ht hk hX hK hA hP hD hS hl hlo
  exact lv_if_gt hx hb d ht' (fun c0 => kt (by have e1 := iZ_inj ha (show -2147483648 ≤ (0 : Int) ∧ (0 : Int) < 2147483648 by decide); have e2 := iZ_lt ha (show -2147483648 ≤ (0 : Int) ∧ (0 : Int) < 2147483648 by decide); have e3 := iZ_le ha (show -2147483648 ≤ (0 : Int) ∧ (0 : Int) < 2147483648 by decide); have e4 := iZ_lt (show -2147483648 ≤ (0 : Int) ∧ (0 : Int) < 2147483648 by decide) ha; have e5 := iZ_le (show -2147483648 ≤ (0 : Int) ∧ (0 : Int) < 2147483648 by decide) ha; rw [iZ_0] at e1 e2 e3 e4 e5; first | exact e1.mp c0 | exact fun q0 => c0 (e1.mpr q0) | exact e2.mp c0 | exact e3.mp c0 | exact e4.mp c0 | exact e5.mp c0 | (rw [e2] at c0; omega) | (rw [e3] at c0; omega) | (rw [e4] at c0; omega) | (rw [e5] at c0; omega)) p l e s m args below meth c D A H locs ls hx hb hr hm ho ht hk hX hK hA hP hD hS hl hlo) (fun c0 => kf (by have e1 := iZ_inj ha (show -2147483648 ≤ (0 : Int) ∧ (0 : Int) < 2147483648 by decide); have e2 := iZ_lt ha (show -2147483648 ≤ (0 : Int) ∧ (0 : Int) < 2147483648 by decide); have e3 := iZ_le ha (show -2147483648 ≤ (0 : Int) ∧ (0 : Int) < 2147483648 by decide); have e4 := iZ_lt (show -2147483648 ≤ (0 : Int) ∧ (0 : Int) < 2147483648 by decide) ha; have e5 := iZ_le (show -2147483648 ≤ (0 : Int) ∧ (0 : Int) < 2147483648 by decide) ha; rw [iZ_0] at e1 e2 e3 e4 e5; first | exact e1.mp c0 | exact fun q0 => c0 (e1.mpr q0) | exact e2.mp c0 | exact e3.mp c0 | exact e4.mp c0 | exact e5.mp c0 | (rw [e2] at c0; omega) | (rw [e3] at c0; omega) | (rw [e4] at c0; omega) | (rw [e5] at c0; omega)) p l e s m args below meth c D A H locs ls hx hb hr hm ho ht hk hX hK hA hP hD hS hl hlo)
theorem VB_if_le {q tgt : Nat} {off : Int} {a : Int} (d : decode cc pc = .ok (.ifCond .le off, 3)) (ha : -2147483648 ≤ a ∧ a < 2147483648) (ht' : (pc : Int) + off = (tgt : Int)) (kt : a ≤ 0 → VB lo own cc nL ret Ts R X tys Q k n ws tgt lv st) (kf : 0 < a → VB lo own cc nL ret Ts R X tys Q k n ws q lv st) (hq : pc + 3 = q := by rfl) : VB lo own cc nL ret Ts R X tys Q k n ws pc lv (.int (iZ a) :: st) := by
  subst hq
  intro p l e s m args below meth c D A H locs ls hx hb hr hm ho ht hk hX hK hA hP hD hS hl hlo
  exact lv_if_le hx hb d ht' (fun c0 => kt (by have e1 := iZ_inj ha (show -2147483648 ≤ (0 : Int) ∧ (0 : Int) < 2147483648 by decide); have e2 := iZ_lt ha (show -2147483648 ≤ (0 : Int) ∧ (0 : Int) < 2147483648 by decide); have e3 := iZ_le ha (show -2147483648 ≤ (0 : Int) ∧ (0 : Int) < 2147483648 by decide); have e4 := iZ_lt (show -2147483648 ≤ (0 : Int) ∧ (0 : Int) < 2147483648 by decide) ha; have e5 := iZ_le (show -2147483648 ≤ (0 : Int) ∧ (0 : Int) < 2147483648 by decide) ha; rw [iZ_0] at e1 e2 e3 e4 e5; first | exact e1.mp c0 | exact fun q0 => c0 (e1.mpr q0) | exact e2.mp c0 | exact e3.mp c0 | exact e4.mp c0 | exact e5.mp c0 | (rw [e2] at c0; omega) | (rw [e3] at c0; omega) | (rw [e4] at c0; omega) | (rw [e5] at c0; omega)) p l e s m args below meth c D A H locs ls hx hb hr hm ho ht hk hX hK hA hP hD hS hl hlo) (fun c0 => kf (by have e1 := iZ_inj ha (show -2147483648 ≤ (0 : Int) ∧ (0 : Int) < 2147483648 by decide); have e2 := iZ_lt ha (show -2147483648 ≤ (0 : Int) ∧ (0 : Int) < 2147483648 by decide); have e3 := iZ_le ha (show -2147483648 ≤ (0 : Int) ∧ (0 : Int) < 2147483648 by decide); have e4 := iZ_lt (show -2147483648 ≤ (0 : Int) ∧ (0 : Int) < 2147483648 by decide) ha; have e5 := iZ_le (show -2147483648 ≤ (0 : Int) ∧ (0 : Int) < 2147483648 by decide) ha; rw [iZ_0] at e1 e2 e3 e4 e5; first | exact e1.mp c0 | exact fun q0 => c0 (e1.mpr q0) | exact e2.mp c0 | exact e3.mp c0 | exact e4.mp c0 | exact e5.mp c0 | (rw [e2] at c0; omega) | (rw [e3] at c0; omega) | (rw [e4] at c0; omega) | (rw [e5] at c0; omega)) p l e s m args below meth c D A H locs ls hx hb hr hm ho ht hk hX hK hA hP hD hS hl hlo)
theorem VB_if_eqB {q tgt : Nat} {off : Int} {b : Bool} (d : decode cc pc = .ok (.ifCond .eq off, 3)) (ht' : (pc : Int) + off = (tgt : Int)) (kt : b = false → VB lo own cc nL ret Ts R X tys Q k n ws tgt lv st) (kf : b = true → VB lo own cc nL ret Ts R X tys Q k n ws q lv st) (hq : pc + 3 = q := by rfl) : VB lo own cc nL ret Ts R X tys Q k n ws pc lv (.int (iZ (bZ b)) :: st) := by
  subst hq
  intro p l e s m args below meth c D A H locs ls hx hb hr hm ho ht hk hX hK hA hP hD hS hl hlo
  cases b
  · exact lv_if_eq hx hb d ht' (fun c0 => kt (by first | rfl | exact absurd c0 (by decide)) p l e s m args below meth c D A H locs ls hx hb hr hm ho ht hk hX hK hA hP hD hS hl hlo) (fun c0 => kf (by first | rfl | exact absurd c0 (by decide)) p l e s m args below meth c D A H locs ls hx hb hr hm ho ht hk hX hK hA hP hD hS hl hlo)
  · exact lv_if_eq hx hb d ht' (fun c0 => kt (by first | rfl | exact absurd c0 (by decide)) p l e s m args below meth c D A H locs ls hx hb hr hm ho ht hk hX hK hA hP hD hS hl hlo) (fun c0 => kf (by first | rfl | exact absurd c0 (by decide)) p l e s m args below meth c D A H locs ls hx hb hr hm ho ht hk hX hK hA hP hD hS hl hlo)
theorem VB_if_neB {q tgt : Nat} {off : Int} {b : Bool} (d : decode cc pc = .ok (.ifCond .ne off, 3)) (ht' : (pc : Int) + off = (tgt : Int)) (kt : b = true → VB lo own cc nL ret Ts R X tys Q k n ws tgt lv st) (kf : b = false → VB lo own cc nL ret Ts R X tys Q k n ws q lv st) (hq : pc + 3 = q := by rfl) : VB lo own cc nL ret Ts R X tys Q k n ws pc lv (.int (iZ (bZ b)) :: st) := by
  subst hq
  intro p l e s m args below meth c D A H locs ls hx hb hr hm ho ht hk hX hK hA hP hD hS hl hlo
  cases b
  · exact lv_if_ne hx hb d ht' (fun c0 => kt (by first | rfl | exact absurd c0 (by decide)) p l e s m args below meth c D A H locs ls hx hb hr hm ho ht hk hX hK hA hP hD hS hl hlo) (fun c0 => kf (by first | rfl | exact absurd c0 (by decide)) p l e s m args below meth c D A H locs ls hx hb hr hm ho ht hk hX hK hA hP hD hS hl hlo)
  · exact lv_if_ne hx hb d ht' (fun c0 => kt (by first | rfl | exact absurd c0 (by decide)) p l e s m args below meth c D A H locs ls hx hb hr hm ho ht hk hX hK hA hP hD hS hl hlo) (fun c0 => kf (by first | rfl | exact absurd c0 (by decide)) p l e s m args below meth c D A H locs ls hx hb hr hm ho ht hk hX hK hA hP hD hS hl hlo)
theorem VB_uiadd {q : Nat} {x y : Int32} (d : decode cc pc = .ok (.iadd, 1)) (hq : pc + 1 = q := by rfl) (h : ∀ z : Int32, VB lo own cc nL ret Ts R X tys Q k n ws q lv (.int z :: st)) : VB lo own cc nL ret Ts R X tys Q k n ws pc lv (.int y :: .int x :: st) := by
  subst hq
  intro p l e s m args below meth c D A H locs ls hx hb hr hm ho ht hk hX hK hA hP hD hS hl hlo
  exact lv_iadd hx hb d (h _ p l e s m args below meth c D A H locs ls hx hb hr hm ho ht hk hX hK hA hP hD hS hl hlo)
theorem VB_uisub {q : Nat} {x y : Int32} (d : decode cc pc = .ok (.isub, 1)) (hq : pc + 1 = q := by rfl) (h : ∀ z : Int32, VB lo own cc nL ret Ts R X tys Q k n ws q lv (.int z :: st)) : VB lo own cc nL ret Ts R X tys Q k n ws pc lv (.int y :: .int x :: st) := by
  subst hq
  intro p l e s m args below meth c D A H locs ls hx hb hr hm ho ht hk hX hK hA hP hD hS hl hlo
  exact lv_isub hx hb d (h _ p l e s m args below meth c D A H locs ls hx hb hr hm ho ht hk hX hK hA hP hD hS hl hlo)
theorem VB_uimul {q : Nat} {x y : Int32} (d : decode cc pc = .ok (.imul, 1)) (hq : pc + 1 = q := by rfl) (h : ∀ z : Int32, VB lo own cc nL ret Ts R X tys Q k n ws q lv (.int z :: st)) : VB lo own cc nL ret Ts R X tys Q k n ws pc lv (.int y :: .int x :: st) := by
  subst hq
  intro p l e s m args below meth c D A H locs ls hx hb hr hm ho ht hk hX hK hA hP hD hS hl hlo
  exact lv_imul hx hb d (h _ p l e s m args below meth c D A H locs ls hx hb hr hm ho ht hk hX hK hA hP hD hS hl hlo)
theorem VB_uiand {q : Nat} {x y : Int32} (d : decode cc pc = .ok (.iand, 1)) (hq : pc + 1 = q := by rfl) (h : ∀ z : Int32, VB lo own cc nL ret Ts R X tys Q k n ws q lv (.int z :: st)) : VB lo own cc nL ret Ts R X tys Q k n ws pc lv (.int y :: .int x :: st) := by
  subst hq
  intro p l e s m args below meth c D A H locs ls hx hb hr hm ho ht hk hX hK hA hP hD hS hl hlo
  exact lv_iand hx hb d (h _ p l e s m args below meth c D A H locs ls hx hb hr hm ho ht hk hX hK hA hP hD hS hl hlo)
theorem VB_uior {q : Nat} {x y : Int32} (d : decode cc pc = .ok (.ior, 1)) (hq : pc + 1 = q := by rfl) (h : ∀ z : Int32, VB lo own cc nL ret Ts R X tys Q k n ws q lv (.int z :: st)) : VB lo own cc nL ret Ts R X tys Q k n ws pc lv (.int y :: .int x :: st) := by
  subst hq
  intro p l e s m args below meth c D A H locs ls hx hb hr hm ho ht hk hX hK hA hP hD hS hl hlo
  exact lv_ior hx hb d (h _ p l e s m args below meth c D A H locs ls hx hb hr hm ho ht hk hX hK hA hP hD hS hl hlo)
theorem VB_uixor {q : Nat} {x y : Int32} (d : decode cc pc = .ok (.ixor, 1)) (hq : pc + 1 = q := by rfl) (h : ∀ z : Int32, VB lo own cc nL ret Ts R X tys Q k n ws q lv (.int z :: st)) : VB lo own cc nL ret Ts R X tys Q k n ws pc lv (.int y :: .int x :: st) := by
  subst hq
  intro p l e s m args below meth c D A H locs ls hx hb hr hm ho ht hk hX hK hA hP hD hS hl hlo
  exact lv_ixor hx hb d (h _ p l e s m args below meth c D A H locs ls hx hb hr hm ho ht hk hX hK hA hP hD hS hl hlo)
theorem VB_uishl {q : Nat} {x y : Int32} (d : decode cc pc = .ok (.ishl, 1)) (hq : pc + 1 = q := by rfl) (h : ∀ z : Int32, VB lo own cc nL ret Ts R X tys Q k n ws q lv (.int z :: st)) : VB lo own cc nL ret Ts R X tys Q k n ws pc lv (.int y :: .int x :: st) := by
  subst hq
  intro p l e s m args below meth c D A H locs ls hx hb hr hm ho ht hk hX hK hA hP hD hS hl hlo
  exact lv_ishl hx hb d (h _ p l e s m args below meth c D A H locs ls hx hb hr hm ho ht hk hX hK hA hP hD hS hl hlo)
theorem VB_uishr {q : Nat} {x y : Int32} (d : decode cc pc = .ok (.ishr, 1)) (hq : pc + 1 = q := by rfl) (h : ∀ z : Int32, VB lo own cc nL ret Ts R X tys Q k n ws q lv (.int z :: st)) : VB lo own cc nL ret Ts R X tys Q k n ws pc lv (.int y :: .int x :: st) := by
  subst hq
  intro p l e s m args below meth c D A H locs ls hx hb hr hm ho ht hk hX hK hA hP hD hS hl hlo
  exact lv_ishr hx hb d (h _ p l e s m args below meth c D A H locs ls hx hb hr hm ho ht hk hX hK hA hP hD hS hl hlo)
theorem VB_uladd {q : Nat} {x y : Int64} (d : decode cc pc = .ok (.ladd, 1)) (hq : pc + 1 = q := by rfl) (h : ∀ z : Int64, VB lo own cc nL ret Ts R X tys Q k n ws q lv (.long z :: st)) : VB lo own cc nL ret Ts R X tys Q k n ws pc lv (.long y :: .long x :: st) := by
  subst hq
  intro p l e s m args below meth c D A H locs ls hx hb hr hm ho ht hk hX hK hA hP hD hS hl hlo
  exact lv_ladd hx hb d (h _ p l e s m args below meth c D A H locs ls hx hb hr hm ho ht hk hX hK hA hP hD hS hl hlo)
theorem VB_ulmul {q : Nat} {x y : Int64} (d : decode cc pc = .ok (.lmul, 1)) (hq : pc + 1 = q := by rfl) (h : ∀ z : Int64, VB lo own cc nL ret Ts R X tys Q k n ws q lv (.long z :: st)) : VB lo own cc nL ret Ts R X tys Q k n ws pc lv (.long y :: .long x :: st) := by
  subst hq
  intro p l e s m args below meth c D A H locs ls hx hb hr hm ho ht hk hX hK hA hP hD hS hl hlo
  exact lv_lmul hx hb d (h _ p l e s m args below meth c D A H locs ls hx hb hr hm ho ht hk hX hK hA hP hD hS hl hlo)
theorem VB_uany {x : Int32} (h : ∀ z : Int32, VB lo own cc nL ret Ts R X tys Q k n ws pc lv (.int z :: st)) : VB lo own cc nL ret Ts R X tys Q k n ws pc lv (.int x :: st) := h x
theorem VB_uanyL {x : Int64} (h : ∀ z : Int64, VB lo own cc nL ret Ts R X tys Q k n ws pc lv (.long z :: st)) : VB lo own cc nL ret Ts R X tys Q k n ws pc lv (.long x :: st) := h x
theorem VB_uicmp_eq {q tgt : Nat} {off : Int} {x y : Int32} (d : decode cc pc = .ok (.if_icmp .eq off, 3)) (ht' : (pc : Int) + off = (tgt : Int)) (kt : VB lo own cc nL ret Ts R X tys Q k n ws tgt lv st) (kf : VB lo own cc nL ret Ts R X tys Q k n ws q lv st) (hq : pc + 3 = q := by rfl) : VB lo own cc nL ret Ts R X tys Q k n ws pc lv (.int y :: .int x :: st) := by
  subst hq
  intro p l e s m args below meth c D A H locs ls hx hb hr hm ho ht hk hX hK hA hP hD hS hl hlo
  exact lv_icmp_eq hx hb d ht' (fun _ => kt p l e s m args below meth c D A H locs ls hx hb hr hm ho ht hk hX hK hA hP hD hS hl hlo) (fun _ => kf p l e s m args below meth c D A H locs ls hx hb hr hm ho ht hk hX hK hA hP hD hS hl hlo)
theorem VB_uif_eq {q tgt : Nat} {off : Int} {x : Int32} (d : decode cc pc = .ok (.ifCond .eq off, 3)) (ht' : (pc : Int) + off = (tgt : Int)) (kt : VB lo own cc nL ret Ts R X tys Q k n ws tgt lv st) (kf : VB lo own cc nL ret Ts R X tys Q k n ws q lv st) (hq : pc + 3 = q := by rfl) : VB lo own cc nL ret Ts R X tys Q k n ws pc lv (.int x :: st) := by
  subst hq
  intro p l e s m args below meth c D A H locs ls hx hb hr hm ho ht hk hX hK hA hP hD hS hl hlo
  exact lv_if_eq hx hb d ht' (fun _ => kt p l e s m args below meth c D A H locs ls hx hb hr hm ho ht hk hX hK hA hP hD hS hl hlo) (fun _ => kf p l e s m args below meth c D A H locs ls hx hb hr hm ho ht hk hX hK hA hP hD hS hl hlo)
theorem VB_uicmp_ne {q tgt : Nat} {off : Int} {x y : Int32} (d : decode cc pc = .ok (.if_icmp .ne off, 3)) (ht' : (pc : Int) + off = (tgt : Int)) (kt : VB lo own cc nL ret Ts R X tys Q k n ws tgt lv st) (kf : VB lo own cc nL ret Ts R X tys Q k n ws q lv st) (hq : pc + 3 = q := by rfl) : VB lo own cc nL ret Ts R X tys Q k n ws pc lv (.int y :: .int x :: st) := by
  subst hq
  intro p l e s m args below meth c D A H locs ls hx hb hr hm ho ht hk hX hK hA hP hD hS hl hlo
  exact lv_icmp_ne hx hb d ht' (fun _ => kt p l e s m args below meth c D A H locs ls hx hb hr hm ho ht hk hX hK hA hP hD hS hl hlo) (fun _ => kf p l e s m args below meth c D A H locs ls hx hb hr hm ho ht hk hX hK hA hP hD hS hl hlo)
theorem VB_uif_ne {q tgt : Nat} {off : Int} {x : Int32} (d : decode cc pc = .ok (.ifCond .ne off, 3)) (ht' : (pc : Int) + off = (tgt : Int)) (kt : VB lo own cc nL ret Ts R X tys Q k n ws tgt lv st) (kf : VB lo own cc nL ret Ts R X tys Q k n ws q lv st) (hq : pc + 3 = q := by rfl) : VB lo own cc nL ret Ts R X tys Q k n ws pc lv (.int x :: st) := by
  subst hq
  intro p l e s m args below meth c D A H locs ls hx hb hr hm ho ht hk hX hK hA hP hD hS hl hlo
  exact lv_if_ne hx hb d ht' (fun _ => kt p l e s m args below meth c D A H locs ls hx hb hr hm ho ht hk hX hK hA hP hD hS hl hlo) (fun _ => kf p l e s m args below meth c D A H locs ls hx hb hr hm ho ht hk hX hK hA hP hD hS hl hlo)
theorem VB_uicmp_lt {q tgt : Nat} {off : Int} {x y : Int32} (d : decode cc pc = .ok (.if_icmp .lt off, 3)) (ht' : (pc : Int) + off = (tgt : Int)) (kt : VB lo own cc nL ret Ts R X tys Q k n ws tgt lv st) (kf : VB lo own cc nL ret Ts R X tys Q k n ws q lv st) (hq : pc + 3 = q := by rfl) : VB lo own cc nL ret Ts R X tys Q k n ws pc lv (.int y :: .int x :: st) := by
  subst hq
  intro p l e s m args below meth c D A H locs ls hx hb hr hm ho ht hk hX hK hA hP hD hS hl hlo
  exact lv_icmp_lt hx hb d ht' (fun _ => kt p l e s m args below meth c D A H locs ls hx hb hr hm ho ht hk hX hK hA hP hD hS hl hlo) (fun _ => kf p l e s m args below meth c D A H locs ls hx hb hr hm ho ht hk hX hK hA hP hD hS hl hlo)
theorem VB_uif_lt {q tgt : Nat} {off : Int} {x : Int32} (d : decode cc pc = .ok (.ifCond .lt off, 3)) (ht' : (pc : Int) + off = (tgt : Int)) (kt : VB lo own cc nL ret Ts R X tys Q k n ws tgt lv st) (kf : VB lo own cc nL ret Ts R X tys Q k n ws q lv st) (hq : pc + 3 = q := by rfl) : VB lo own cc nL ret Ts R X tys Q k n ws pc lv (.int x :: st) := by
  subst hq
  intro p l e s m args below meth c D A H locs ls hx hb hr hm ho ht hk hX hK hA hP hD hS hl hlo
  exact lv_if_lt hx hb d ht' (fun _ => kt p l e s m args below meth c D A H locs ls hx hb hr hm ho ht hk hX hK hA hP hD hS hl hlo) (fun _ => kf p l e s m args below meth c D A H locs ls hx hb hr hm ho ht hk hX hK hA hP hD hS hl hlo)
theorem VB_uicmp_ge {q tgt : Nat} {off : Int} {x y : Int32} (d : decode cc pc = .ok (.if_icmp .ge off, 3)) (ht' : (pc : Int) + off = (tgt : Int)) (kt : VB lo own cc nL ret Ts R X tys Q k n ws tgt lv st) (kf : VB lo own cc nL ret Ts R X tys Q k n ws q lv st) (hq : pc + 3 = q := by rfl) : VB lo own cc nL ret Ts R X tys Q k n ws pc lv (.int y :: .int x :: st) := by
  subst hq
  intro p l e s m args below meth c D A H locs ls hx hb hr hm ho ht hk hX hK hA hP hD hS hl hlo
  exact lv_icmp_ge hx hb d ht' (fun _ => kt p l e s m args below meth c D A H locs ls hx hb hr hm ho ht hk hX hK hA hP hD hS hl hlo) (fun _ => kf p l e s m args below meth c D A H locs ls hx hb hr hm ho ht hk hX hK hA hP hD hS hl hlo)
theorem VB_uif_ge {q tgt : Nat} {off : Int} {x : Int32} (d : decode cc pc = .ok (.ifCond .ge off, 3)) (ht' : (pc : Int) + off = (tgt : Int)) (kt : VB lo own cc nL ret Ts R X tys Q k n ws tgt lv st) (kf : VB lo own cc nL ret Ts R X tys Q k n ws q lv st) (hq : pc + 3 = q := by rfl) : VB lo own cc nL ret Ts R X tys Q k n ws pc lv (.int x :: st) := by
  subst hq
  intro p l e s m args below meth c D A H locs ls hx hb hr hm ho ht hk hX hK hA hP hD hS hl hlo
  exact lv_if_ge hx hb d ht' (fun _ => kt p l e s m args below meth c D A H locs ls hx hb hr hm ho ht hk hX hK hA hP hD hS hl hlo) (fun _ => kf p l e s m args below meth c D A H locs ls hx hb hr hm ho ht hk hX hK hA hP hD hS hl hlo)
theorem VB_uicmp_gt {q tgt : Nat} {off : Int} {x y : Int32} (d : decode cc pc = .ok (.if_icmp .gt off, 3)) (ht' : (pc : Int) + off = (tgt : Int)) (kt : VB lo own cc nL ret Ts R X tys Q k n ws tgt lv st) (kf : VB lo own cc nL ret Ts R X tys Q k n ws q lv st) (hq : pc + 3 = q := by rfl) : VB lo own cc nL ret Ts R X tys Q k n ws pc lv (.int y :: .int x :: st) := by
  subst hq
  intro p l e s m args below meth c D A H locs ls hx hb hr hm ho ht hk hX hK hA hP hD hS hl hlo
  exact lv_icmp_gt hx hb d ht' (fun _ => kt p l e s m args below meth c D A H locs ls hx hb hr hm ho ht hk hX hK hA hP hD hS hl hlo) (fun _ => kf p l e s m args below meth c D A H locs ls hx hb hr hm ho ht hk hX hK hA hP hD hS hl hlo)
theorem VB_uif_gt {q tgt : Nat} {off : Int} {x : Int32} (d : decode cc pc = .ok (.ifCond .gt off, 3)) (ht' : (pc : Int) + off = (tgt : Int)) (kt : VB lo own cc nL ret Ts R X tys Q k n ws tgt lv st) (kf : VB lo own cc nL ret Ts R X tys Q k n ws q lv st) (hq : pc + 3 = q := by rfl) : VB lo own cc nL ret Ts R X tys Q k n ws pc lv (.int x :: st) := by
  subst hq
  intro p l e s m args below meth c D A H locs ls hx hb hr hm ho ht hk hX hK hA hP hD hS hl hlo
  exact lv_if_gt hx hb d ht' (fun _ => kt p l e s m args below meth c D A H locs ls hx hb hr hm ho ht hk hX hK hA hP hD hS hl hlo) (fun _ => kf p l e s m args below meth c D A H locs ls hx hb hr hm ho ht hk hX hK hA hP hD hS hl hlo)
theorem VB_uicmp_le {q tgt : Nat} {off : Int} {x y : Int32} (d : decode cc pc = .ok (.if_icmp .le off, 3)) (ht' : (pc : Int) + off = (tgt : Int)) (kt : VB lo own cc nL ret Ts R X tys Q k n ws tgt lv st) (kf : VB lo own cc nL ret Ts R X tys Q k n ws q lv st) (hq : pc + 3 = q := by rfl) : VB lo own cc nL ret Ts R X tys Q k n ws pc lv (.int y :: .int x :: st) := by
  subst hq
  intro p l e s m args below meth c D A H locs ls hx hb hr hm ho ht hk hX hK hA hP hD hS hl hlo
  exact lv_icmp_le hx hb d ht' (fun _ => kt p l e s m args below meth c D A H locs ls hx hb hr hm ho ht hk hX hK hA hP hD hS hl hlo) (fun _ => kf p l e s m args below meth c D A H locs ls hx hb hr hm ho ht hk hX hK hA hP hD hS hl hlo)
theorem VB_uif_le {q tgt : Nat} {off : Int} {x : Int32} (d : decode cc pc = .ok (.ifCond .le off, 3)) (ht' : (pc : Int) + off = (tgt : Int)) (kt : VB lo own cc nL ret Ts R X tys Q k n ws tgt lv st) (kf : VB lo own cc nL ret Ts R X tys Q k n ws q lv st) (hq : pc + 3 = q := by rfl) : VB lo own cc nL ret Ts R X tys Q k n ws pc lv (.int x :: st) := by
  subst hq
  intro p l e s m args below meth c D A H locs ls hx hb hr hm ho ht hk hX hK hA hP hD hS hl hlo
  exact lv_if_le hx hb d ht' (fun _ => kt p l e s m args below meth c D A H locs ls hx hb hr hm ho ht hk hX hK hA hP hD hS hl hlo) (fun _ => kf p l e s m args below meth c D A H locs ls hx hb hr hm ho ht hk hX hK hA hP hD hS hl hlo)
theorem VB_lstore_n {q : Nat} {i : Fin 4} {x : Int64} {lv' : List (Nat × Value)} (d : decode cc pc = .ok (.lstore_n i, 1)) (hi : (i : Nat) + 1 < nL) (hl' : lsetL lv (i : Nat) (.long x) = lv') (hq : pc + 1 = q := by rfl) (h : VB lo own cc nL ret Ts R X tys Q k n ws q lv' st) : VB lo own cc nL ret Ts R X tys Q k n ws pc lv (.long x :: st) := by
  subst hq
  intro p l e s m args below meth c D A H locs ls hx hb hr hm ho ht hk hX hK hA hP hD hS hl hlo
  exact lv_lstore_n hx hb d rfl hl hi rfl (fun ls2 hl2 => h p l e s m args below meth c D A H locs ls2 hx hb hr hm ho ht hk hX hK hA hP hD hS (lsetL_has hl2 hl') hlo)
theorem VB_iast {q : Nat} {cA : ClassId} {N a : Nat} {f : Nat → Int32} {z : Int} {x : Int32} {ws' : va_W} (d : decode cc pc = .ok (.iastore, 1)) (q0 t0 : Nat) (he : ws[q0]? = some (a, .inl (cA, N, .inl f))) (ht0 : tys[t0]? = some (cA, .int)) (j : Nat) (hz : z = (j : Int)) (hj : j < N) (hN : N < 2147483648) (hw : ws.set q0 (a, .inl (cA, N, .inl (upd f j x))) = ws') (hq : pc + 1 = q := by rfl) (h : VB lo own cc nL ret Ts R X tys Q k n ws' q lv st) : VB lo own cc nL ret Ts R X tys Q k n ws pc lv (.int x :: .int (iZ z) :: .ref a :: st) := by
  subst hq
  intro p l e s m args below meth c D A H locs ls hx hb hr hm ho ht hk hX hK hA hP hD hS hl hlo
  subst hw
  obtain ⟨g1, g2⟩ := iZ_in hz hj hN
  subst g2
  exact va_iast hx hb hK hP hD (H0 := H) ⟨Nat.le_refl _, fun _ _ _ => rfl, hS.2.2⟩ q0 t0 he ht0 g1 d (fun H1 locs1 hP1 hD1 hS1 => h p l e s m args below meth c D A H1 locs1 ls hx hb hr hm ho ht hk hX hK hA hP1 hD1 (vaS_tr hS hS1) hl (Nat.le_trans hlo hS1.1))
theorem VB_lo {lo' : Nat} (h0 : lo' ≤ lo) (h : VB lo' own cc nL ret Ts R X tys Q k n ws pc lv st) : VB lo own cc nL ret Ts R X tys Q k n ws pc lv st := by
  intro p l e s m args below meth c D A H locs ls hx hb hr hm ho ht hk hX hK hA hP hD hS hl hlo
  exact h p l e s m args below meth c D A H locs ls hx hb hr hm ho ht hk hX hK hA hP hD hS hl (by omega)
theorem VB_of (h : V own cc nL ret Ts R X tys Q k n ws pc lv st) : VB lo own cc nL ret Ts R X tys Q k n ws pc lv st := by
  intro p l e s m args below meth c D A H locs ls hx hb hr hm ho ht hk hX hK hA hP hD hS hl hlo
  exact h p l e s m args below meth c D A H locs ls hx hb hr hm ho ht hk hX hK hA hP hD hS hl
end VBR
