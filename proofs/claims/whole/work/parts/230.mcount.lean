/-! sums of sums, walks of walks: the class's outfits and the reference's -/
theorem cnt_sm (p : Nat → Bool) : ∀ n, cnt p n = sm (fun i => if p i then 1 else 0) n
  | 0 => rfl
  | n + 1 => by
    show cnt p n + (if p n then 1 else 0) = sm (fun i => if p i then 1 else 0) n + (if p n then 1 else 0)
    rw [cnt_sm p n]
theorem sm_add (f : Nat → Nat) (a : Nat) : ∀ b, sm f (a + b) = sm f a + sm (fun j => f (a + j)) b
  | 0 => rfl
  | b + 1 => by
    show sm f (a + b) + f (a + b) = sm f a + (sm (fun j => f (a + j)) b + f (a + b))
    rw [sm_add f a b]
    omega
theorem sm_mul (f : Nat → Nat) (n : Nat) : ∀ m, sm f (n * m) = sm (fun i => sm (fun j => f (n * i + j)) n) m
  | 0 => rfl
  | m + 1 => by
    rw [Nat.mul_succ, sm_add, sm_mul f n m]
    rfl
theorem sm_plus (f g : Nat → Nat) : ∀ n, sm (fun i => f i + g i) n = sm f n + sm g n
  | 0 => rfl
  | n + 1 => by
    show sm (fun i => f i + g i) n + (f n + g n) = (sm f n + f n) + (sm g n + g n)
    rw [sm_plus f g n]
    omega
theorem sm_zero {f : Nat → Nat} {n : Nat} (h : ∀ i, i < n → f i = 0) : sm f n = 0 := by
  have h1 := sm_le (f := f) (c := 0) (n := n) (fun i hi => Nat.le_of_eq (h i hi))
  omega
theorem sm_swap (g : Nat → Nat → Nat) (m : Nat) : ∀ n, sm (fun e => sm (fun t => g e t) m) n = sm (fun t => sm (fun e => g e t) n) m
  | 0 => (sm_zero (fun _ _ => rfl)).symm
  | n + 1 => by
    show sm (fun e => sm (fun t => g e t) m) n + sm (fun t => g n t) m = sm (fun t => sm (fun e => g e t) n + g n t) m
    rw [sm_plus, sm_swap g m n]
/-- one place only -/
theorem sm_one {f : Nat → Nat} {k : Nat} : ∀ {n : Nat}, k < n → (∀ i, i < n → i ≠ k → f i = 0) → sm f n = f k
  | 0, h, _ => absurd h (Nat.not_lt_zero k)
  | n + 1, h, h0 => by
    show sm f n + f n = f k
    by_cases q : k = n
    · subst q
      rw [sm_zero (fun i hi => h0 i (Nat.lt_succ_of_lt hi) (Nat.ne_of_lt hi))]
      omega
    · rw [sm_one (k := k) (n := n) (by omega) (fun i hi hq => h0 i (Nat.lt_succ_of_lt hi) hq), h0 n (Nat.lt_succ_self n) (fun e => q e.symm)]
      rfl
theorem hz_lt {S : St} {x : Int} (h : hasZ S x = true) : 0 ≤ x ∧ x < sN S := by
  simp only [hasZ, hasT, Bool.and_eq_true, decide_eq_true_eq] at h
  omega
theorem cln_lt {S : St} {x k : Int} (h : clnZ S x k = true) : 0 ≤ x ∧ x < sN S := by
  simp only [clnZ, kdZ, Bool.and_eq_true] at h
  exact hz_lt h.1.1
theorem can_of {S : St} {t u e : Int} (h : canZ S t u e = true) : canZ S t u (-1) = true ∧ (0 ≤ t ∧ t < sN S) ∧ (0 ≤ u ∧ u < sN S) ∧ e < sN S := by
  simp only [canZ, Bool.and_eq_true, Bool.or_eq_true, decide_eq_true_eq] at h ⊢
  obtain ⟨⟨⟨h1, h2⟩, h3⟩, h4⟩ := h
  refine ⟨⟨⟨⟨h1, h2⟩, h3⟩, by first | exact Or.inl trivial | exact Or.inl rfl | trivial⟩, cln_lt h1, cln_lt h2, ?_⟩
  have hn : (0 : Int) ≤ sN S := Int.natCast_nonneg _
  rcases h4 with h4 | h4
  · omega
  · simp only [fovZ, Bool.and_eq_true] at h4
    exact (cln_lt h4.1.1).2
/-- one outfit of the sum -/
def ct3 (S : St) (w x : Int) (e t u : Nat) : Nat := if (canZ S (t : Int) (u : Int) ((e : Int) - 1) && decide (w ≤ (owZ S (t : Int) (u : Int) ((e : Int) - 1) : Int))) && (decide (x = -1) || decide ((t : Int) = x) || decide ((u : Int) = x) || decide ((e : Int) - 1 = x)) then 1 else 0
theorem ct3_0 {S : St} {w x : Int} {e t u : Nat} (h : canZ S (t : Int) (u : Int) ((e : Int) - 1) = false) : ct3 S w x e t u = 0 := by
  unfold ct3
  rw [h]
  rfl
theorem ct_sum {S : St} (w x : Int) : cnt (ctP S w x) 1872 = sm (fun t => sm (fun u => sm (fun e => ct3 S w x e t u) 13) 12) 12 := by
  rw [cnt_sm, show (1872 : Nat) = 144 * 13 from rfl, sm_mul]
  have e1 : ∀ e, e < 13 → sm (fun j => (fun i => if ctP S w x i then 1 else 0) (144 * e + j)) 144 = sm (fun t => sm (fun u => ct3 S w x e t u) 12) 12 := by
    intro e he
    rw [show sm (fun j => (fun i => if ctP S w x i then 1 else 0) (144 * e + j)) 144 = sm (fun j => (fun i => if ctP S w x i then 1 else 0) (144 * e + j)) (12 * 12) from rfl, sm_mul]
    refine sm_cong fun t ht => sm_cong fun u hu => ?_
    show (if ctP S w x (144 * e + (12 * t + u)) then 1 else 0) = ct3 S w x e t u
    have a1 : cT (144 * e + (12 * t + u)) = (t : Int) := by unfold cT; congr 1; omega
    have a2 : cU (144 * e + (12 * t + u)) = (u : Int) := by unfold cU; congr 1; omega
    have a3 : cE (144 * e + (12 * t + u)) = (e : Int) - 1 := by unfold cE; congr 2; omega
    unfold ctP ctA ct3
    rw [a1, a2, a3]
  rw [sm_cong e1, sm_swap]
  refine sm_cong fun t _ => ?_
  rw [sm_swap]
theorem ct_cut {S : St} (ho : Ok S) (w x : Int) : cnt (ctP S w x) 1872 = sm (fun t => sm (fun u => sm (fun e => ct3 S w x e t u) (sN S + 1)) (sN S)) (sN S) := by
  have hn := ho.1
  have c0 : ∀ {e t u : Nat}, sN S ≤ t ∨ sN S ≤ u ∨ sN S + 1 ≤ e → ct3 S w x e t u = 0 := fun {e t u} h => ct3_0 (by
    cases hc : canZ S (t : Int) (u : Int) ((e : Int) - 1) with
    | false => rfl
    | true =>
      have := can_of hc
      omega)
  rw [ct_sum, ← sm_ext (n := sN S) (m := 12) (fun t ht => sm_zero fun u _ => sm_zero fun e _ => c0 (Or.inl ht)) hn]
  refine sm_cong fun t ht => ?_
  rw [← sm_ext (n := sN S) (m := 12) (fun u hu => sm_zero fun e _ => c0 (Or.inr (Or.inl hu))) hn]
  refine sm_cong fun u hu => ?_
  exact (sm_ext (n := sN S + 1) (m := 13) (fun e he => c0 (Or.inr (Or.inr he))) (by omega)).symm
theorem co_sum {S : St} {t u : Nat} {w x : Int} (h : x = -1 ∨ (t : Int) = x ∨ (u : Int) = x) : sm (fun e => ct3 S w x e t u) (sN S + 1) = coZ S (t : Int) (u : Int) w := by
  unfold coZ
  by_cases hc : canZ S (t : Int) (u : Int) (-1) = true
  · rw [if_pos hc, cnt_sm]
    refine sm_cong fun e _ => ?_
    unfold ct3 coP warmZ
    have h2 : (decide (x = -1) || decide ((t : Int) = x) || decide ((u : Int) = x) || decide ((e : Int) - 1 = x)) = true := by
      simp only [Bool.or_eq_true, decide_eq_true_eq]
      omega
    rw [h2, Bool.and_true, Bool.and_comm]
  · rw [if_neg hc]
    refine sm_zero fun e _ => ct3_0 ?_
    cases hd : canZ S (t : Int) (u : Int) ((e : Int) - 1) with
    | false => rfl
    | true => exact absurd (can_of hd).1 hc
theorem out_eq {S : St} (ho : Ok S) (w : Int) : outZ S w = cnt (ctP S w (-1)) 1872 := by
  rw [ct_cut ho]
  exact sm_cong fun t _ => sm_cong fun u _ => (co_sum (Or.inl rfl)).symm
theorem add_eq {S : St} (ho : Ok S) {x : Int} (hx : hasZ S x = true) (w : Int) : addZ S x w = cnt (ctP S w x) 1872 := by
  rw [ct_cut ho]
  have h1 := hz_lt hx
  refine sm_cong fun t _ => sm_cong fun u _ => ?_
  unfold aB
  by_cases hc : (t : Int) = x ∨ (u : Int) = x
  · rw [if_pos hc]
    exact (co_sum (Or.inr hc)).symm
  · rw [if_neg hc, sm_one (k := x.toNat + 1) (by omega)]
    · unfold ct3 warmZ
      have e1 : ((x.toNat + 1 : Nat) : Int) - 1 = x := by omega
      rw [e1, decide_eq_true (rfl : x = x), Bool.or_true, Bool.and_true, Bool.and_comm]
    · intro i _ hi
      unfold ct3
      have h2 : (decide (x = -1) || decide ((t : Int) = x) || decide ((u : Int) = x) || decide ((i : Int) - 1 = x)) = false := by
        simp only [Bool.or_eq_false_iff, decide_eq_false_iff_not]
        omega
      rw [h2, Bool.and_false]
      rfl
/-- walks -/
def fo {α : Type} (f : Nat → α → α) (z : α) : Nat → α
  | 0 => z
  | k + 1 => f k (fo f z k)
theorem fo_add {α : Type} (f : Nat → α → α) (z : α) (a : Nat) : ∀ b, fo f z (a + b) = fo (fun j => f (a + j)) (fo f z a) b
  | 0 => rfl
  | b + 1 => by
    show f (a + b) (fo f z (a + b)) = f (a + b) (fo (fun j => f (a + j)) (fo f z a) b)
    rw [fo_add f z a b]
theorem fo_mul {α : Type} (f : Nat → α → α) (z : α) (n : Nat) : ∀ m, fo f z (n * m) = fo (fun i z => fo (fun j => f (n * i + j)) z n) z m
  | 0 => rfl
  | m + 1 => by
    rw [Nat.mul_succ, fo_add, fo_mul f z n m]
    rfl
theorem fo_rel {α β : Type} (R : α → β → Prop) {f : Nat → α → α} {g : Nat → β → β} {z : α} {y : β} (h0 : R z y) : ∀ n, (∀ i a b, i < n → R a b → R (f i a) (g i b)) → R (fo f z n) (fo g y n)
  | 0, _ => h0
  | n + 1, h => h n _ _ (Nat.lt_succ_self n) (fo_rel R h0 n (fun i a b hi hr => h i a b (Nat.lt_succ_of_lt hi) hr))
theorem fo_pad {α β : Type} (R : α → β → Prop) {g : Nat → β → β} {y : β} {a : α} {n : Nat} (h0 : R a (fo g y n)) : ∀ m, n ≤ m → (∀ i b, n ≤ i → i < m → R a b → R a (g i b)) → R a (fo g y m)
  | 0, hm, _ => by
    rw [show 0 = n by omega]
    exact h0
  | m + 1, hm, h => by
    rcases Nat.lt_or_ge m n with q | q
    · rw [show m + 1 = n by omega]
      exact h0
    · exact h m _ q (Nat.lt_succ_self m) (fo_pad R h0 m q (fun i b h1 h2 hr => h i b h1 (Nat.lt_succ_of_lt h2) hr))
/-- the best so far, of both -/
def rl (z y : Int × Nat) : Prop := z.1 = y.1 ∧ ((z.2 = y.2 ∧ z.2 ≤ 30) ∨ (z.2 = 31 ∧ y.2 = 100))
def mo1 (S : St) (w : Int) (p k : Nat) (z : Int × Nat) : Int × Nat := if moB S w p k z.2 then (10000 * gT k + 100 * gU k + gE k + 1, moI S p k) else z
theorem mo_fo (S : St) (w : Int) (p : Nat) : ∀ k, moS S w p k = fo (mo1 S w p) (-1, 100) k
  | 0 => rfl
  | k + 1 => by
    show (if moB S w p k (moS S w p k).2 then (10000 * gT k + 100 * gU k + gE k + 1, moI S p k) else moS S w p k) = mo1 S w p k (fo (mo1 S w p) (-1, 100) k)
    rw [mo_fo S w p k]
    rfl
theorem mo_no {S : St} {w : Int} {p k : Nat} {z : Int × Nat} (h : moA S p k = false) : mo1 S w p k z = z := by
  unfold mo1 moB
  rw [h]
  rfl
theorem mo_at {t u e : Nat} (hu : u < 12) (he : e < 13) : gT (156 * t + (13 * u + e)) = (t : Int) ∧ gU (156 * t + (13 * u + e)) = (u : Int) ∧ gE (156 * t + (13 * u + e)) = (e : Int) - 1 := by
  refine ⟨?_, ?_, ?_⟩
  · unfold gT; congr 1; omega
  · unfold gU; congr 1; omega
  · unfold gE; congr 2; omega
theorem ofK_fo (S : St) (w : Int) (t b : Nat) (z : Int × Nat) : ∀ k, ofK S w t b z k = fo (of1 S w t b) z k
  | 0 => rfl
  | k + 1 => by
    show of1 S w t b k (ofK S w t b z k) = of1 S w t b k (fo (of1 S w t b) z k)
    rw [ofK_fo S w t b z k]
def of2 (S : St) (w : Int) (p t b : Nat) (z : Int × Nat) : Int × Nat := if ofC S p t b then ofK S w t b z (sN S + 1) else z
theorem ofB_fo (S : St) (w : Int) (p t : Nat) (z : Int × Nat) : ∀ k, ofB S w p t z k = fo (of2 S w p t) z k
  | 0 => rfl
  | k + 1 => by
    show (if ofC S p t k then ofK S w t k (ofB S w p t z k) (sN S + 1) else ofB S w p t z k) = of2 S w p t k (fo (of2 S w p t) z k)
    rw [ofB_fo S w p t z k]
    rfl
theorem ofT_fo (S : St) (w : Int) (p : Nat) : ∀ k, ofT S w p k = fo (fun t z => ofB S w p t z (sN S)) (-1, 31) k
  | 0 => rfl
  | k + 1 => by
    show ofB S w p k (ofT S w p k) (sN S) = ofB S w p k (fo (fun t z => ofB S w p t z (sN S)) (-1, 31) k) (sN S)
    rw [ofT_fo S w p k]
theorem moA_no {S : St} {p t u e : Nat} (hu : u < 12) (he : e < 13) (h : ofC S p t u = false ∨ sN S ≤ t ∨ sN S ≤ u ∨ sN S + 1 ≤ e) : moA S p (156 * t + (13 * u + e)) = false := by
  obtain ⟨a1, a2, a3⟩ := mo_at (t := t) hu he
  unfold moA
  rw [a1, a2, a3]
  cases hc : canZ S (t : Int) (u : Int) ((e : Int) - 1) with
  | false => rfl
  | true =>
    obtain ⟨b1, b2, b3, b4⟩ := can_of hc
    rcases h with h | h
    · unfold ofC at h
      rw [b1, Bool.true_and] at h
      rw [h]
      rfl
    · omega
theorem mo_step {S : St} (ho : Ok S) {w : Int} {p t u e : Nat} (hu : u < 12) (he : e < 13) (hc : ofC S p t u = true) {z y : Int × Nat} (h : rl z y) : rl (of1 S w t u e z) (mo1 S w p (156 * t + (13 * u + e)) y) := by
  obtain ⟨a1, a2, a3⟩ := mo_at (t := t) hu he
  have hi : moI S p (156 * t + (13 * u + e)) = if moA S p (156 * t + (13 * u + e)) then owZ S (t : Int) (u : Int) ((e : Int) - 1) else 0 := by unfold moI; rw [a1, a2, a3]
  have ha : moA S p (156 * t + (13 * u + e)) = canZ S (t : Int) (u : Int) ((e : Int) - 1) := by
    unfold ofC at hc
    rw [Bool.and_eq_true] at hc
    unfold moA
    rw [a1, a2, a3, hc.2, Bool.and_true]
  have hle := owZ_le ho (t : Int) (u : Int) ((e : Int) - 1)
  unfold of1 mo1 moB warmZ
  rw [hi, ha, a1, a2, a3]
  cases hd : canZ S (t : Int) (u : Int) ((e : Int) - 1) with
  | false => simpa using h
  | true =>
    rw [if_pos rfl, Bool.true_and, Bool.and_true, Bool.and_comm]
    have e2 : decide (owZ S (t : Int) (u : Int) ((e : Int) - 1) < z.2) = decide (owZ S (t : Int) (u : Int) ((e : Int) - 1) < y.2) := by
      rw [decide_eq_decide]
      rcases h.2 with ⟨q1, q2⟩ | ⟨q1, q2⟩ <;> omega
    rw [e2]
    split
    · exact ⟨by show 10000 * (t : Int) + 100 * (u : Int) + ((e : Int) - 1) + 1 = 10000 * (t : Int) + 100 * (u : Int) + ((e : Int) - 1) + 1; rfl, Or.inl ⟨rfl, hle⟩⟩
    · exact h
theorem for_e {S : St} (ho : Ok S) {w : Int} {p t u : Nat} (hu : u < 12) {z y : Int × Nat} (h : rl z y) : rl (of2 S w p t u z) (fo (fun e => mo1 S w p (156 * t + (13 * u + e))) y 13) := by
  have hn := ho.1
  cases hc : ofC S p t u with
  | false =>
    have e1 : of2 S w p t u z = z := by
      unfold of2
      rw [hc]
      rfl
    rw [e1]
    refine fo_pad (n := 0) rl h 13 (Nat.zero_le _) (fun e b _ he hr => ?_)
    rw [mo_no (moA_no hu he (Or.inl hc))]
    exact hr
  | true =>
    have e1 : of2 S w p t u z = fo (of1 S w t u) z (sN S + 1) := by
      unfold of2
      rw [if_pos hc]
      exact ofK_fo S w t u z (sN S + 1)
    rw [e1]
    have h1 : rl (fo (of1 S w t u) z (sN S + 1)) (fo (fun e => mo1 S w p (156 * t + (13 * u + e))) y (sN S + 1)) :=
      fo_rel rl h (sN S + 1) (fun e a b he hr => mo_step ho hu (Nat.lt_of_lt_of_le he (Nat.succ_le_succ hn)) hc hr)
    refine fo_pad rl h1 13 (Nat.succ_le_succ hn) (fun e b he he2 hr => ?_)
    rw [mo_no (moA_no hu he2 (Or.inr (Or.inr (Or.inr he))))]
    exact hr
theorem for_u {S : St} (ho : Ok S) {w : Int} {p t : Nat} {z y : Int × Nat} (h : rl z y) : rl (ofB S w p t z (sN S)) (fo (fun j => mo1 S w p (156 * t + j)) y (13 * 12)) := by
  have hn := ho.1
  have e1 := fo_mul (fun j => mo1 S w p (156 * t + j)) y 13 12
  rw [e1, ofB_fo]
  have h1 : rl (fo (of2 S w p t) z (sN S)) (fo (fun i z => fo (fun j => (fun j => mo1 S w p (156 * t + j)) (13 * i + j)) z 13) y (sN S)) :=
    fo_rel rl h (sN S) (fun u a b hu hr => for_e ho (Nat.lt_of_lt_of_le hu hn) hr)
  refine fo_pad rl h1 12 hn (fun u b hu hu2 hr => ?_)
  refine fo_pad (n := 0) rl hr 13 (Nat.zero_le _) (fun e b _ he hr => ?_)
  have e2 : mo1 S w p (156 * t + (13 * u + e)) b = b := mo_no (moA_no hu2 he (Or.inr (Or.inr (Or.inl hu))))
  show rl _ (mo1 S w p (156 * t + (13 * u + e)) b)
  rw [e2]
  exact hr
theorem for_eq {S : St} (ho : Ok S) (w : Int) (p : Nat) : (ofT S w p (sN S)).1 = (moS S w p 1872).1 := by
  have hn := ho.1
  suffices h : rl (ofT S w p (sN S)) (moS S w p 1872) from h.1
  rw [ofT_fo, mo_fo]
  have e1 : fo (mo1 S w p) (-1, 100) 1872 = fo (fun i z => fo (fun j => mo1 S w p (156 * i + j)) z 156) (-1, 100) 12 := fo_mul (mo1 S w p) (-1, 100) 156 12
  rw [e1]
  have h1 : rl (fo (fun t z => ofB S w p t z (sN S)) (-1, 31) (sN S)) (fo (fun i z => fo (fun j => mo1 S w p (156 * i + j)) z 156) (-1, 100) (sN S)) :=
    fo_rel rl (⟨rfl, Or.inr ⟨rfl, rfl⟩⟩ : rl (-1, 31) (-1, 100)) (sN S) (fun t a b _ hr => for_u ho hr)
  refine fo_pad rl h1 12 hn (fun t b ht ht2 hr => ?_)
  refine fo_pad (n := 0) rl hr 156 (Nat.zero_le _) (fun j b _ hj hr => ?_)
  have e : j = 13 * (j / 13) + j % 13 := by omega
  have e2 : mo1 S w p (156 * t + j) b = b := by
    rw [e]
    exact mo_no (moA_no (by omega) (by omega) (Or.inr (Or.inl ht)))
  show rl _ (mo1 S w p (156 * t + j) b)
  rw [e2]
  exact hr
/-! the load: by what is left, then by number -/
def drt (S : St) (r : Int) (dk : Bool) (j : Nat) : Prop := washZ S (j : Int) r dk = true ∧ sL S j < sM S j
theorem drt_lt {S : St} {r : Int} {dk : Bool} {j : Nat} (h : drt S r dk j) : j < sN S := by
  have h1 := h.1
  simp only [washZ, Bool.and_eq_true] at h1
  have := hz_lt h1.1.1
  omega
theorem drt_lft {S : St} {r : Int} {dk : Bool} {j : Nat} (h : drt S r dk j) : lftZ S (j : Int) = sL S j := by
  have h1 := h.1
  simp only [washZ, Bool.and_eq_true] at h1
  unfold lftZ
  rw [if_pos h1.1.1]
  rfl
theorem nxt_is {S : St} {r : Int} {dk : Bool} {k : Nat} (hk : drt S r dk k) (hm : ∀ j, drt S r dk j → sL S k < sL S j ∨ (sL S k = sL S j ∧ k ≤ j)) : ∀ m, (m ≤ k → nxt S r dk m = -1 ∨ ∃ j : Nat, nxt S r dk m = (j : Int) ∧ drt S r dk j ∧ j < k) ∧ (k < m → nxt S r dk m = (k : Int))
  | 0 => ⟨fun _ => Or.inl rfl, fun h => absurd h (Nat.not_lt_zero k)⟩
  | m + 1 => by
    obtain ⟨h1, h2⟩ := nxt_is hk hm m
    have e : nxt S r dk (m + 1) = if nxP S r dk (nxt S r dk m) m then (m : Int) else nxt S r dk m := rfl
    have hd : nxP S r dk (nxt S r dk m) m = true → drt S r dk m := fun h => by
      unfold nxP at h
      rw [Bool.and_eq_true, Bool.and_eq_true, decide_eq_true_eq] at h
      exact h.1
    refine ⟨fun h => ?_, fun h => ?_⟩
    · rw [e]
      split
      · next q => exact Or.inr ⟨m, rfl, hd q, by omega⟩
      · rcases h1 (by omega) with q | ⟨j, q1, q2, q3⟩
        · exact Or.inl q
        · exact Or.inr ⟨j, q1, q2, q3⟩
    · rw [e]
      rcases Nat.lt_or_ge k m with q | q
      · rw [h2 q]
        have hn : ¬ nxP S r dk (k : Int) m = true := fun h9 => by
          have h8 := hd (by rw [h2 q]; exact h9)
          unfold nxP at h9
          rw [Bool.and_eq_true, Bool.or_eq_true, decide_eq_true_eq, decide_eq_true_eq, drt_lft hk] at h9
          have := hm m h8
          omega
        rw [if_neg hn]
      · have e2 : m = k := by omega
        subst e2
        have hp : nxP S r dk (nxt S r dk m) m = true := by
          unfold nxP
          rw [hk.1, decide_eq_true hk.2, Bool.true_and, Bool.true_and, Bool.or_eq_true, decide_eq_true_eq, decide_eq_true_eq]
          rcases h1 (Nat.le_refl m) with q | ⟨j, q1, q2, q3⟩
          · exact Or.inl q
          · right
            rw [q1, drt_lft q2]
            have := hm j q2
            omega
        rw [if_pos hp]
theorem nxt_no {S : St} {r : Int} {dk : Bool} (h : ∀ j, ¬ drt S r dk j) : ∀ m, nxt S r dk m = -1
  | 0 => rfl
  | m + 1 => by
    have e : nxt S r dk (m + 1) = if nxP S r dk (nxt S r dk m) m then (m : Int) else nxt S r dk m := rfl
    rw [e, if_neg, nxt_no h m]
    intro q
    unfold nxP at q
    rw [Bool.and_eq_true, Bool.and_eq_true, decide_eq_true_eq] at q
    exact h m q.1
/-- where both walks stand -/
def wI (S : St) (r : Int) (dk : Bool) (lf k : Nat) (z : St × Nat) : Prop := z = wst S r dk z.2 ∧ z.2 ≤ 5 ∧ sN z.1 = sN S ∧ (z.2 = 5 ∨ ∀ j, drt z.1 r dk j → lf < sL z.1 j ∨ (lf = sL z.1 j ∧ k ≤ j))
theorem wI_1 {S : St} {r : Int} {dk : Bool} {lf k : Nat} {z : St × Nat} (h : wI S r dk lf k z) : wI S r dk lf (k + 1) (wm1 r dk lf k z) := by
  obtain ⟨h1, h2, h3, h4⟩ := h
  unfold wm1
  by_cases hc : wmC r dk lf k z = true
  · rw [if_pos hc]
    simp only [wmC, Bool.and_eq_true, decide_eq_true_eq] at hc
    obtain ⟨⟨⟨c1, c2⟩, c3⟩, c4⟩ := hc
    have hk : drt z.1 r dk k := ⟨c1, by omega⟩
    have hm : ∀ j, drt z.1 r dk j → sL z.1 k < sL z.1 j ∨ (sL z.1 k = sL z.1 j ∧ k ≤ j) := fun j hj => by
      rcases h4 with q | q
      · omega
      · rw [c2]; exact q j hj
    have hn : nxt z.1 r dk (sN S) = (k : Int) := (nxt_is hk hm (sN S)).2 (by rw [← h3]; exact drt_lt hk)
    have hz : hasZ z.1 (k : Int) = true := by
      have h9 := c1
      simp only [washZ, Bool.and_eq_true] at h9
      exact h9.1.1
    have hmc : mc z.1 (k : Int) = uL z.1 (fu (sL z.1) k (sM z.1 k)) := by
      unfold mc
      rw [if_pos hz]
      rfl
    refine ⟨?_, c4, h3, Or.inr fun j hj => ?_⟩
    · show (uL z.1 (fu (sL z.1) k (sM z.1 k)), z.2 + 1) = wst S r dk (z.2 + 1)
      have e : wst S r dk (z.2 + 1) = if nxt (wst S r dk z.2).1 r dk (sN S) = -1 then wst S r dk z.2 else (mc (wst S r dk z.2).1 (nxt (wst S r dk z.2).1 r dk (sN S)), (wst S r dk z.2).2 + 1) := rfl
      rw [e, ← h1, hn, if_neg (by omega), hmc]
    · have hj1 : washZ z.1 (j : Int) r dk = true := hj.1
      have hj2 : fu (sL z.1) k (sM z.1 k) j < sM z.1 j := hj.2
      show lf < fu (sL z.1) k (sM z.1 k) j ∨ (lf = fu (sL z.1) k (sM z.1 k) j ∧ k + 1 ≤ j)
      by_cases hjk : j = k
      · subst hjk
        unfold fu at hj2
        rw [if_pos rfl] at hj2
        omega
      · unfold fu at hj2 ⊢
        rw [if_neg hjk] at hj2 ⊢
        have := hm j ⟨hj1, hj2⟩
        omega
  · rw [if_neg hc]
    refine ⟨h1, h2, h3, ?_⟩
    rcases h4 with q | q
    · exact Or.inl q
    · rcases Nat.lt_or_ge z.2 5 with q5 | q5
      · refine Or.inr fun j hj => ?_
        rcases q j hj with a | ⟨a, b⟩
        · exact Or.inl a
        · refine Or.inr ⟨a, ?_⟩
          rcases Nat.eq_or_lt_of_le b with c | c
          · exfalso
            subst c
            apply hc
            simp only [wmC, Bool.and_eq_true, decide_eq_true_eq]
            exact ⟨⟨⟨hj.1, a.symm⟩, by rw [a]; exact hj.2⟩, q5⟩
          · exact c
      · exact Or.inl (by omega)
theorem wI_K {S : St} {r : Int} {dk : Bool} {lf : Nat} {z : St × Nat} (h : wI S r dk lf 0 z) : ∀ k, wI S r dk lf k (wmK r dk lf z k)
  | 0 => h
  | k + 1 => wI_1 (wI_K h k)
theorem wI_L (S : St) (r : Int) (dk : Bool) : ∀ lf, wI S r dk lf 0 (wmL S r dk lf)
  | 0 => ⟨rfl, Nat.zero_le _, rfl, Or.inr fun j _ => by show 0 < sL S j ∨ (0 = sL S j ∧ 0 ≤ j); omega⟩
  | lf + 1 => by
    obtain ⟨h1, h2, h3, h4⟩ := wI_K (wI_L S r dk lf) (sN S)
    refine ⟨h1, h2, h3, h4.imp id fun h j hj => ?_⟩
    have h5 := drt_lt hj
    have h6 : j < sN S := by
      rw [← h3]
      exact h5
    have := h j hj
    show lf + 1 < sL (wmK r dk lf (wmL S r dk lf) (sN S)).1 j ∨ (lf + 1 = sL (wmK r dk lf (wmL S r dk lf) (sN S)).1 j ∧ 0 ≤ j)
    omega
theorem wst_stay {S : St} {r : Int} {dk : Bool} {c : Nat} (h : nxt (wst S r dk c).1 r dk (sN S) = -1) : ∀ m, wst S r dk (c + m) = wst S r dk c
  | 0 => rfl
  | m + 1 => by
    have e : wst S r dk (c + m + 1) = if nxt (wst S r dk (c + m)).1 r dk (sN S) = -1 then wst S r dk (c + m) else (mc (wst S r dk (c + m)).1 (nxt (wst S r dk (c + m)).1 r dk (sN S)), (wst S r dk (c + m)).2 + 1) := rfl
    rw [← Nat.add_assoc, e, wst_stay h m, if_pos h]
theorem load_eq {S : St} (ho : Ok S) (r : Int) (dk : Bool) : wst S r dk 5 = wmL S r dk 10 := by
  obtain ⟨h1, h2, h3, h4⟩ := wI_L S r dk 10
  have hok := (wmL_ok ho r dk 10).1.1
  generalize wmL S r dk 10 = z at h1 h2 h3 h4 hok
  rcases h4 with q | q
  · rw [q] at h1
    exact h1.symm
  · have hno : ∀ j, ¬ drt z.1 r dk j := fun j hj => by
      have a := q j hj
      have b := hok.2.2.2.2.2.1 j
      have c := hj.2
      omega
    have hx : nxt (wst S r dk z.2).1 r dk (sN S) = -1 := by
      rw [← h1]
      exact nxt_no hno _
    have := wst_stay hx (5 - z.2)
    rw [show z.2 + (5 - z.2) = 5 by omega] at this
    rw [this]
    exact h1.symm
