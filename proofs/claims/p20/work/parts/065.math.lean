/-! counts, sums, searches, sets as numbers -/
def cnt (p : Nat → Bool) : Nat → Nat
  | 0 => 0
  | n + 1 => cnt p n + (if p n then 1 else 0)
theorem cnt_t {p : Nat → Bool} {n : Nat} (h : p n = true) : cnt p (n + 1) = cnt p n + 1 := by simp [cnt, h]
theorem cnt_f {p : Nat → Bool} {n : Nat} (h : p n = false) : cnt p (n + 1) = cnt p n := by simp [cnt, h]
theorem cnt_le (p : Nat → Bool) : ∀ n, cnt p n ≤ n
  | 0 => Nat.le_refl 0
  | n + 1 => by
    have h := cnt_le p n
    show cnt p n + (if p n then 1 else 0) ≤ n + 1
    split <;> omega
theorem cnt_cong {p q : Nat → Bool} : ∀ {n : Nat}, (∀ i, i < n → p i = q i) → cnt p n = cnt q n
  | 0, _ => rfl
  | n + 1, h => by
    show cnt p n + (if p n then 1 else 0) = cnt q n + (if q n then 1 else 0)
    rw [cnt_cong (fun i hi => h i (Nat.lt_succ_of_lt hi)), h n (Nat.lt_succ_self n)]
def sm (f : Nat → Nat) : Nat → Nat
  | 0 => 0
  | n + 1 => sm f n + f n
theorem sm_cong {f g : Nat → Nat} : ∀ {n : Nat}, (∀ i, i < n → f i = g i) → sm f n = sm g n
  | 0, _ => rfl
  | n + 1, h => by
    show sm f n + f n = sm g n + g n
    rw [sm_cong (fun i hi => h i (Nat.lt_succ_of_lt hi)), h n (Nat.lt_succ_self n)]
theorem sm_le {f : Nat → Nat} {c : Nat} : ∀ {n : Nat}, (∀ i, i < n → f i ≤ c) → sm f n ≤ n * c
  | 0, _ => Nat.zero_le _
  | n + 1, h => by
    have h1 := sm_le (n := n) (fun i hi => h i (Nat.lt_succ_of_lt hi))
    have h2 := h n (Nat.lt_succ_self n)
    show sm f n + f n ≤ (n + 1) * c
    rw [Nat.succ_mul]
    omega
def exB (p : Nat → Bool) : Nat → Bool
  | 0 => false
  | n + 1 => exB p n || p n
theorem exB_true {p : Nat → Bool} : ∀ {n : Nat}, exB p n = true ↔ ∃ i, i < n ∧ p i = true
  | 0 => ⟨fun h => Bool.noConfusion h, fun ⟨i, h, _⟩ => absurd h (Nat.not_lt_zero i)⟩
  | n + 1 => by
    show (exB p n || p n) = true ↔ _
    rw [Bool.or_eq_true, exB_true (n := n)]
    constructor
    · rintro (⟨i, h1, h2⟩ | h)
      · exact ⟨i, Nat.lt_succ_of_lt h1, h2⟩
      · exact ⟨n, Nat.lt_succ_self n, h⟩
    · rintro ⟨i, h1, h2⟩
      rcases Nat.lt_succ_iff_lt_or_eq.mp h1 with h | h
      · exact Or.inl ⟨i, h, h2⟩
      · exact Or.inr (h ▸ h2)
theorem exB_hit {p : Nat → Bool} {n i : Nat} (hi : i < n) (h : p i = true) : exB p n = true := exB_true.mpr ⟨i, hi, h⟩
theorem exB_s {p : Nat → Bool} {n : Nat} (h1 : exB p n = false) (h2 : p n = false) : exB p (n + 1) = false := by
  show (exB p n || p n) = false
  rw [h1, h2]; rfl
theorem exB_cong {p q : Nat → Bool} : ∀ {n : Nat}, (∀ i, i < n → p i = q i) → exB p n = exB q n
  | 0, _ => rfl
  | n + 1, h => by
    show (exB p n || p n) = (exB q n || q n)
    rw [exB_cong (fun i hi => h i (Nat.lt_succ_of_lt hi)), h n (Nat.lt_succ_self n)]
/-- or of the numbers of a set -/
def orU (g : Nat → Nat) (s : Nat) : Nat → Nat
  | 0 => 0
  | n + 1 => orU g s n ||| (if s.testBit n then g n else 0)
theorem orU_t {g : Nat → Nat} {s n : Nat} (h : s.testBit n = true) : orU g s (n + 1) = orU g s n ||| g n := by simp [orU, h]
theorem orU_f {g : Nat → Nat} {s n : Nat} (h : s.testBit n = false) : orU g s (n + 1) = orU g s n := by simp [orU, h]
theorem orU_tb {g : Nat → Nat} {s : Nat} (i : Nat) : ∀ n, (orU g s n).testBit i = exB (fun j => s.testBit j && (g j).testBit i) n
  | 0 => by simp [orU, exB]
  | n + 1 => by
    show (orU g s n ||| (if s.testBit n then g n else 0)).testBit i = (exB _ n || _)
    rw [Nat.testBit_or, orU_tb i n]
    cases h : s.testBit n <;> simp [h]
theorem bits_t {p : Nat → Bool} {n : Nat} (h : p n = true) : bits p (n + 1) = bits p n ||| 2 ^ n := by
  apply Nat.eq_of_testBit_eq
  intro i
  rw [Nat.testBit_or, bits_tb, bits_tb, Nat.testBit_two_pow]
  rcases Nat.lt_trichotomy i n with q | q | q
  · have h1 : i < n + 1 := by omega
    have h2 : ¬ n = i := by omega
    simp [q, h1, h2]
  · subst q; simp [h]
  · have h1 : ¬ i < n + 1 := by omega
    have h2 : ¬ n = i := by omega
    have h3 : ¬ i < n := by omega
    simp [h1, h2, h3]
theorem bits_f {p : Nat → Bool} {n : Nat} (h : p n = false) : bits p (n + 1) = bits p n := by simp [bits, h]
theorem bits_up {p : Nat → Bool} {n : Nat} (m : Nat) (hnm : n ≤ m) (h : ∀ i, n ≤ i → p i = false) : bits p n = bits p m := by
  apply Nat.eq_of_testBit_eq
  intro i
  rw [bits_tb, bits_tb]
  rcases Nat.lt_or_ge i n with q | q
  · have h1 : i < m := by omega
    simp [q, h1]
  · simp [h i q]
theorem tb_lt {x n i : Nat} (h : x < 2 ^ n) (hi : n ≤ i) : x.testBit i = false := Nat.testBit_lt_two_pow (Nat.lt_of_lt_of_le h (Nat.pow_le_pow_right (by decide) hi))
/-- a without the members of b -/
def andn (a b : Nat) : Nat := a &&& (4294967295 ^^^ b)
theorem andn_tb {a b : Nat} (ha : a < 4294967296) (i : Nat) : (andn a b).testBit i = (a.testBit i && !b.testBit i) := by
  unfold andn
  rw [Nat.testBit_and, Nat.testBit_xor, show (4294967295 : Nat) = 2 ^ 32 - 1 from rfl, Nat.testBit_two_pow_sub_one]
  rcases Nat.lt_or_ge i 32 with h | h
  · simp [h]
  · rw [tb_lt (n := 32) ha h]; rfl
theorem z_andn (a b : Nat) : iZ a &&& (iZ b ^^^ iZ (-1)) = iZ ((andn a b : Nat) : Int) := by
  rw [show (iZ (-1) : Int32) = nI 4294967295 from rfl, iZ_nI, iZ_nI, iZ_nI]
  apply Int32.toBitVec.inj
  show (BitVec.ofNat 32 a) &&& ((BitVec.ofNat 32 b) ^^^ (BitVec.ofNat 32 4294967295)) = BitVec.ofNat 32 (andn a b)
  unfold andn
  rw [BitVec.ofNat_and, BitVec.ofNat_xor, BitVec.xor_comm]
theorem and_lt {a b n : Nat} (h : a < 2 ^ n) : a &&& b < 2 ^ n := Nat.lt_of_le_of_lt Nat.and_le_left h
theorem andn_lt {a b n : Nat} (h : a < 2 ^ n) : andn a b < 2 ^ n := and_lt h
theorem or_lt {a b n : Nat} (ha : a < 2 ^ n) (hb : b < 2 ^ n) : a ||| b < 2 ^ n := Nat.or_lt_two_pow ha hb
def pc (x : Nat) : Nat := cnt (fun i => x.testBit i) 12
theorem pc_le (x : Nat) : pc x ≤ 12 := cnt_le _ 12
