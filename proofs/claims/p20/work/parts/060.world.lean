/-! the common state of both objects, and the cells that hold it -/
abbrev St : Type := Nat × Nat × (Nat → Nat) × (Nat → Nat) × (Nat → Nat) × (Nat → Nat) × (Nat → Nat) × (Nat → Nat) × (Nat → Bool) × (Nat → Bool) × (Nat → Nat)
def sN (S : St) : Nat := S.1
def sT (S : St) : Nat := S.2.1
def sK (S : St) : Nat → Nat := S.2.2.1
def sC (S : St) : Nat → Nat := S.2.2.2.1
def sW (S : St) : Nat → Nat := S.2.2.2.2.1
def sM (S : St) : Nat → Nat := S.2.2.2.2.2.1
def sR (S : St) : Nat → Nat := S.2.2.2.2.2.2.1
def sL (S : St) : Nat → Nat := S.2.2.2.2.2.2.2.1
def sG (S : St) : Nat → Bool := S.2.2.2.2.2.2.2.2.1
def sX (S : St) : Nat → Bool := S.2.2.2.2.2.2.2.2.2.1
def sE (S : St) : Nat → Nat := S.2.2.2.2.2.2.2.2.2.2
def uT (S : St) (t : Nat) : St := (sN S, t, sK S, sC S, sW S, sM S, sR S, sL S, sG S, sX S, sE S)
def uL (S : St) (f : Nat → Nat) : St := (sN S, sT S, sK S, sC S, sW S, sM S, sR S, f, sG S, sX S, sE S)
def uG (S : St) (f : Nat → Bool) : St := (sN S, sT S, sK S, sC S, sW S, sM S, sR S, sL S, f, sX S, sE S)
def uX (S : St) (f : Nat → Bool) : St := (sN S, sT S, sK S, sC S, sW S, sM S, sR S, sL S, sG S, f, sE S)
def uE (S : St) (f : Nat → Nat) : St := (sN S, sT S, sK S, sC S, sW S, sM S, sR S, sL S, sG S, sX S, f)
def fu {α : Type} (f : Nat → α) (k : Nat) (v : α) : Nat → α := fun j => if j = k then v else f j
def uA (S : St) (k c w m r : Nat) : St := (sN S + 1, sT S, fu (sK S) (sN S) k, fu (sC S) (sN S) c, fu (sW S) (sN S) w, fu (sM S) (sN S) m, fu (sR S) (sN S) r, fu (sL S) (sN S) m, sG S, sX S, sE S)
/-- what holds of every state that is reached -/
def Ok (S : St) : Prop := sN S ≤ 12 ∧ sT S ≤ 10000 ∧ (∀ j, sK S j ≤ 2) ∧ (∀ j, sC S j ≤ 7) ∧ (∀ j, sW S j ≤ 10) ∧ (∀ j, sM S j ≤ 9) ∧ (∀ j, sR S j ≤ 2) ∧ (∀ j, sL S j ≤ sM S j) ∧ (∀ i, sE S i ≤ sT S + 1) ∧ (∀ a b, a ≤ 7 → b ≤ 7 → sX S (8 * a + b) = sX S (8 * b + a)) ∧ (∀ j, sN S ≤ j → sG S j = false)
def hasT (S : St) (j : Nat) : Bool := decide (j < sN S) && !(sG S j)
def bits (p : Nat → Bool) : Nat → Nat
  | 0 => 0
  | n + 1 => bits p n + (if p n then 2 ^ n else 0)
def fr (e : Nat) : Nat := if e = 0 then 0 else e + 6
def ow (S : St) : Int32 := iZ (bits (hasT S) 12)
def clL (S : St) : Int64 := lN (bits (sX S) 64)
abbrev iF (f : Nat → Nat) : Nat → Int32 := fun j => iZ (f j)
abbrev zF (f : Nat → Bool) : Nat → Int32 := fun j => iZ (bZ (f j))
def wkc (a : Nat → Nat) (c : Nat → ClassId) (S : St) (g : Nat → Nat) : va_W := [(a 0, .inr (0, [.ref (a 1), .ref (a 2), .ref (a 3), .ref (a 4), .ref (a 5), .ref (a 6), .int (iZ (sN S)), .int (ow S), .int (iZ (sT S)), .long (clL S), .ref (a 7), .ref (a 8)])), (a 1, .inl (c 1, 12, .inl (iF (sK S)))), (a 2, .inl (c 2, 12, .inl (iF (sC S)))), (a 3, .inl (c 3, 12, .inl (iF (sW S)))), (a 4, .inl (c 4, 12, .inl (iF (sM S)))), (a 5, .inl (c 5, 12, .inl (iF (sR S)))), (a 6, .inl (c 6, 12, .inl (iF (sL S)))), (a 7, .inl (c 7, 1152, .inl (iF (fun i => fr (sE S i))))), (a 8, .inl (c 8, 12, .inl (iF g)))]
def tyk (c : Nat → ClassId) : List (ClassId × FieldType) := [(c 1, .int), (c 2, .int), (c 3, .int), (c 4, .int), (c 5, .int), (c 6, .int), (c 7, .int), (c 8, .int)]
def mkc (b : Nat → Nat) (d : Nat → ClassId) (S : St) (g : Nat → Nat) (th : Nat) : va_W := [(b 0, .inr (1, [.int (iZ (sT S)), .int (iZ (sN S)), .ref (b 1), .ref (b 2), .ref (b 3), .ref (b 4), .ref (b 5), .ref (b 6), .ref (b 7), .ref (b 8), .ref (b 9), .ref (b 10), .int (iZ th)])), (b 1, .inl (d 1, 12, .inl (zF (sG S)))), (b 2, .inl (d 2, 12, .inl (iF (sK S)))), (b 3, .inl (d 3, 12, .inl (iF (sC S)))), (b 4, .inl (d 4, 12, .inl (iF (sW S)))), (b 5, .inl (d 5, 12, .inl (iF (sM S)))), (b 6, .inl (d 6, 12, .inl (iF (sR S)))), (b 7, .inl (d 7, 12, .inl (iF (sL S)))), (b 8, .inl (d 8, 64, .inl (zF (sX S)))), (b 9, .inl (d 9, 1152, .inl (iF (sE S)))), (b 10, .inl (d 10, 12, .inl (iF g)))]
def tym (d : Nat → ClassId) : List (ClassId × FieldType) := [(d 1, .boolean), (d 2, .int), (d 3, .int), (d 4, .int), (d 5, .int), (d 6, .int), (d 7, .int), (d 8, .boolean), (d 9, .int), (d 10, .int)]
/-! numbers -/
theorem bZ_t {b : Bool} (h : b = true) : iZ 1 = iZ (bZ b) := by subst h; rfl
theorem bZ_f {b : Bool} (h : b = false) : iZ 0 = iZ (bZ b) := by subst h; rfl
theorem bits_lt (p : Nat → Bool) : ∀ n, bits p n < 2 ^ n
  | 0 => Nat.zero_lt_one
  | n + 1 => by
    have h := bits_lt p n
    show bits p n + (if p n then 2 ^ n else 0) < 2 ^ (n + 1)
    rw [Nat.pow_succ]
    split <;> omega
theorem bits_le {p : Nat → Bool} {n m : Nat} (h : n ≤ m) : bits p n < 2 ^ m := Nat.lt_of_lt_of_le (bits_lt p n) (Nat.pow_le_pow_right (by decide) h)
theorem bits_cong {p q : Nat → Bool} : ∀ {n : Nat}, (∀ i, i < n → p i = q i) → bits p n = bits q n
  | 0, _ => rfl
  | n + 1, h => by
    show bits p n + (if p n then 2 ^ n else 0) = bits q n + (if q n then 2 ^ n else 0)
    rw [bits_cong (fun i hi => h i (Nat.lt_succ_of_lt hi)), h n (Nat.lt_succ_self n)]
theorem bits_tb (p : Nat → Bool) : ∀ (n i : Nat), (bits p n).testBit i = (decide (i < n) && p i)
  | 0, i => by simp [bits]
  | n + 1, i => by
    have ih := bits_tb p n i
    have hl := bits_lt p n
    show (bits p n + (if p n then 2 ^ n else 0)).testBit i = _
    by_cases hp : p n = true
    · rw [if_pos hp, Nat.add_comm]
      rcases Nat.lt_trichotomy i n with h | h | h
      · rw [Nat.testBit_two_pow_add_gt h, ih]
        simp [h, Nat.lt_succ_of_lt h]
      · subst h
        rw [Nat.testBit_two_pow_add_eq, Nat.testBit_lt_two_pow hl]
        simp [hp]
      · rw [Nat.testBit_lt_two_pow]
        · simp; intro h2; omega
        · have h2 : 2 ^ (n + 1) ≤ 2 ^ i := Nat.pow_le_pow_right (by decide) h
          rw [Nat.pow_succ] at h2
          omega
    · have hp' : p n = false := by cases h : p n <;> simp_all
      rw [if_neg hp, Nat.add_zero, ih]
      rcases Nat.lt_trichotomy i n with h | h | h
      · simp [h, Nat.lt_succ_of_lt h]
      · subst h; simp [hp']
      · have h1 : ¬ i < n := by omega
        have h2 : ¬ i < n + 1 := by omega
        simp [h1, h2]
theorem tb_ext {x y : Nat} (h : ∀ i, x.testBit i = y.testBit i) : x = y := Nat.eq_of_testBit_eq h
theorem s_l : ∀ n, n < 32 → ((nI n &&& 31).toBitVec.smod 32).toNat = n := by decide +kernel
theorem z_and (a b : Nat) : iZ a &&& iZ b = iZ ((a &&& b : Nat) : Int) := by
  rw [iZ_nI, iZ_nI, iZ_nI]
  apply Int32.toBitVec.inj
  show (BitVec.ofNat 32 a) &&& (BitVec.ofNat 32 b) = BitVec.ofNat 32 (a &&& b)
  exact (BitVec.ofNat_and ..).symm
theorem z_or (a b : Nat) : iZ a ||| iZ b = iZ ((a ||| b : Nat) : Int) := by
  rw [iZ_nI, iZ_nI, iZ_nI]
  apply Int32.toBitVec.inj
  show (BitVec.ofNat 32 a) ||| (BitVec.ofNat 32 b) = BitVec.ofNat 32 (a ||| b)
  exact (BitVec.ofNat_or ..).symm
theorem z_shr {a k : Nat} (ha : a < 2147483648) (hk : k < 32) : iZ a >>> (iZ k &&& 31) = iZ ((a / 2 ^ k : Nat) : Int) := by
  rw [iZ_nI, iZ_nI, iZ_nI]
  exact pk_shrN ha _ k (s_l k hk)
theorem z_shl {a k : Nat} (hk : k < 32) (h : a * 2 ^ k < 4294967296) : iZ a <<< (iZ k &&& 31) = iZ ((a * 2 ^ k : Nat) : Int) := by
  rw [iZ_nI, iZ_nI, iZ_nI]
  exact pk_shlN _ k (s_l k hk) h
theorem z_tb {x k : Nat} (hx : x < 2147483648) (hk : k < 32) : (iZ x >>> (iZ k &&& 31)) &&& iZ 1 = iZ (bZ (x.testBit k)) := by
  rw [z_shr hx hk, show (iZ 1 : Int32) = iZ ((1 : Nat) : Int) from rfl, z_and]
  congr 1
  rw [Nat.and_one_is_mod, Nat.testBit_eq_decide_div_mod_eq]
  rcases Nat.mod_two_eq_zero_or_one (x / 2 ^ k) with h | h <;> rw [h] <;> rfl
theorem ow_tb (S : St) {k : Nat} (hk : k < 12) : (ow S >>> (iZ k &&& 31)) &&& iZ 1 = iZ (bZ (hasT S k)) := by
  unfold ow
  rw [z_tb (Nat.lt_trans (bits_lt _ _) (by decide)) (by omega), bits_tb]
  simp [hk]
/-! one cell written anew -/
theorem wk6 {a : Nat → Nat} {c : Nat → ClassId} {S : St} {g : Nat → Nat} (f : Nat → Nat) : (wkc a c S g).set 6 (a 6, .inl (c 6, 12, .inl (iF f))) = wkc a c (uL S f) g := rfl
theorem wk7 {a : Nat → Nat} {c : Nat → ClassId} {S : St} {g : Nat → Nat} (F : Nat → Nat) : (wkc a c S g).set 7 (a 7, .inl (c 7, 1152, .inl (iF (fun i => fr (F i))))) = wkc a c (uE S F) g := rfl
theorem wk8 {a : Nat → Nat} {c : Nat → ClassId} {S : St} {g : Nat → Nat} (f : Nat → Nat) : (wkc a c S g).set 8 (a 8, .inl (c 8, 12, .inl (iF f))) = wkc a c S f := rfl
theorem mk7 {b : Nat → Nat} {d : Nat → ClassId} {S : St} {g : Nat → Nat} {th : Nat} (f : Nat → Nat) : (mkc b d S g th).set 7 (b 7, .inl (d 7, 12, .inl (iF f))) = mkc b d (uL S f) g th := rfl
theorem mk9 {b : Nat → Nat} {d : Nat → ClassId} {S : St} {g : Nat → Nat} {th : Nat} (f : Nat → Nat) : (mkc b d S g th).set 9 (b 9, .inl (d 9, 1152, .inl (iF f))) = mkc b d (uE S f) g th := rfl
theorem mk10 {b : Nat → Nat} {d : Nat → ClassId} {S : St} {g : Nat → Nat} {th : Nat} (f : Nat → Nat) : (mkc b d S g th).set 10 (b 10, .inl (d 10, 12, .inl (iF f))) = mkc b d S f th := rfl
theorem mk1 {b : Nat → Nat} {d : Nat → ClassId} {S : St} {g : Nat → Nat} {th : Nat} (f : Nat → Bool) : (mkc b d S g th).set 1 (b 1, .inl (d 1, 12, .inl (zF f))) = mkc b d (uG S f) g th := rfl
theorem mk8 {b : Nat → Nat} {d : Nat → ClassId} {S : St} {g : Nat → Nat} {th : Nat} (f : Nat → Bool) : (mkc b d S g th).set 8 (b 8, .inl (d 8, 64, .inl (zF f))) = mkc b d (uX S f) g th := rfl
theorem uE_uE (S : St) (F F' : Nat → Nat) : uE (uE S F) F' = uE S F' := rfl
theorem sE_uE (S : St) (F : Nat → Nat) : sE (uE S F) = F := rfl
theorem uL_uL (S : St) (F F' : Nat → Nat) : uL (uL S F) F' = uL S F' := rfl
theorem sL_uL (S : St) (F : Nat → Nat) : sL (uL S F) = F := rfl
theorem uE_self (S : St) : uE S (sE S) = S := rfl
theorem uL_self (S : St) : uL S (sL S) = S := rfl
def uK (S : St) (f : Nat → Nat) : St := (sN S, sT S, f, sC S, sW S, sM S, sR S, sL S, sG S, sX S, sE S)
def uC (S : St) (f : Nat → Nat) : St := (sN S, sT S, sK S, f, sW S, sM S, sR S, sL S, sG S, sX S, sE S)
def uW (S : St) (f : Nat → Nat) : St := (sN S, sT S, sK S, sC S, f, sM S, sR S, sL S, sG S, sX S, sE S)
def uM (S : St) (f : Nat → Nat) : St := (sN S, sT S, sK S, sC S, sW S, f, sR S, sL S, sG S, sX S, sE S)
def uR (S : St) (f : Nat → Nat) : St := (sN S, sT S, sK S, sC S, sW S, sM S, f, sL S, sG S, sX S, sE S)
def uN (S : St) (n : Nat) : St := (n, sT S, sK S, sC S, sW S, sM S, sR S, sL S, sG S, sX S, sE S)
def fkc (a : Nat → Nat) (n o t : Int32) (cl : Int64) : List Value := [.ref (a 1), .ref (a 2), .ref (a 3), .ref (a 4), .ref (a 5), .ref (a 6), .int n, .int o, .int t, .long cl, .ref (a 7), .ref (a 8)]
def wtl (a : Nat → Nat) (c : Nat → ClassId) (S : St) (g : Nat → Nat) : va_W := [(a 1, .inl (c 1, 12, .inl (iF (sK S)))), (a 2, .inl (c 2, 12, .inl (iF (sC S)))), (a 3, .inl (c 3, 12, .inl (iF (sW S)))), (a 4, .inl (c 4, 12, .inl (iF (sM S)))), (a 5, .inl (c 5, 12, .inl (iF (sR S)))), (a 6, .inl (c 6, 12, .inl (iF (sL S)))), (a 7, .inl (c 7, 1152, .inl (iF (fun i => fr (sE S i))))), (a 8, .inl (c 8, 12, .inl (iF g)))]
def wkr (a : Nat → Nat) (c : Nat → ClassId) (S : St) (g : Nat → Nat) (n o t : Int32) (cl : Int64) : va_W := (a 0, .inr (0, fkc a n o t cl)) :: wtl a c S g
section WK
variable {a b : Nat → Nat} {c d : Nat → ClassId} {S : St} {g : Nat → Nat} {th : Nat}
theorem wk1 (f : Nat → Nat) : (wkc a c S g).set 1 (a 1, .inl (c 1, 12, .inl (iF f))) = wkc a c (uK S f) g := rfl
theorem wk2 (f : Nat → Nat) : (wkc a c S g).set 2 (a 2, .inl (c 2, 12, .inl (iF f))) = wkc a c (uC S f) g := rfl
theorem wk3 (f : Nat → Nat) : (wkc a c S g).set 3 (a 3, .inl (c 3, 12, .inl (iF f))) = wkc a c (uW S f) g := rfl
theorem wk4 (f : Nat → Nat) : (wkc a c S g).set 4 (a 4, .inl (c 4, 12, .inl (iF f))) = wkc a c (uM S f) g := rfl
theorem wk5 (f : Nat → Nat) : (wkc a c S g).set 5 (a 5, .inl (c 5, 12, .inl (iF f))) = wkc a c (uR S f) g := rfl
theorem wkO (o : Int32) : (wkc a c S g).set 0 (a 0, .inr (0, (fkc a (iZ (sN S)) (ow S) (iZ (sT S)) (clL S)).set 7 (.int o))) = wkr a c S g (iZ (sN S)) o (iZ (sT S)) (clL S) := rfl
theorem wkN (n o n2 : Int32) (t : Int32) (cl : Int64) : (wkr a c S g n o t cl).set 0 (a 0, .inr (0, (fkc a n o t cl).set 6 (.int n2))) = wkr a c S g n2 o t cl := rfl
theorem wkr_eq : wkr a c S g (iZ (sN S)) (ow S) (iZ (sT S)) (clL S) = wkc a c S g := rfl
theorem wkG (F : Nat → Bool) : (wkc a c S g).set 0 (a 0, .inr (0, (fkc a (iZ (sN S)) (ow S) (iZ (sT S)) (clL S)).set 7 (.int (ow (uG S F))))) = wkc a c (uG S F) g := rfl
theorem wkT (t : Nat) : (wkc a c S g).set 0 (a 0, .inr (0, (fkc a (iZ (sN S)) (ow S) (iZ (sT S)) (clL S)).set 8 (.int (iZ t)))) = wkc a c (uT S t) g := rfl
theorem wkX (F : Nat → Bool) : (wkc a c S g).set 0 (a 0, .inr (0, (fkc a (iZ (sN S)) (ow S) (iZ (sT S)) (clL S)).set 9 (.long (clL (uX S F))))) = wkc a c (uX S F) g := rfl
theorem mk2 (f : Nat → Nat) : (mkc b d S g th).set 2 (b 2, .inl (d 2, 12, .inl (iF f))) = mkc b d (uK S f) g th := rfl
theorem mk3 (f : Nat → Nat) : (mkc b d S g th).set 3 (b 3, .inl (d 3, 12, .inl (iF f))) = mkc b d (uC S f) g th := rfl
theorem mk4 (f : Nat → Nat) : (mkc b d S g th).set 4 (b 4, .inl (d 4, 12, .inl (iF f))) = mkc b d (uW S f) g th := rfl
theorem mk5 (f : Nat → Nat) : (mkc b d S g th).set 5 (b 5, .inl (d 5, 12, .inl (iF f))) = mkc b d (uM S f) g th := rfl
theorem mk6 (f : Nat → Nat) : (mkc b d S g th).set 6 (b 6, .inl (d 6, 12, .inl (iF f))) = mkc b d (uR S f) g th := rfl
end WK
