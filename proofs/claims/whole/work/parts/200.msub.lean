/-! parts of a set of twelve, as numbers: the next, the one before, all of them -/
def sb (x w : Nat) : Prop := ∀ i, x.testBit i = true → w.testBit i = true
theorem sb_rf (x : Nat) : sb x x := fun _ h => h
theorem sb_0 (w : Nat) : sb 0 w := fun i h => by simp at h
theorem sb_tr {x y z : Nat} (h1 : sb x y) (h2 : sb y z) : sb x z := fun i h => h2 i (h1 i h)
theorem sb_and {x w : Nat} (h : sb x w) : x &&& w = x := by
  apply Nat.eq_of_testBit_eq
  intro i
  rw [Nat.testBit_and]
  cases hx : x.testBit i with
  | false => rfl
  | true => rw [h i hx]; rfl
theorem sb_of {x w : Nat} (h : x &&& w = x) : sb x w := fun i hi => by
  have h2 := congrArg (fun z => z.testBit i) h
  simp only [Nat.testBit_and, hi, Bool.true_and] at h2
  exact h2
theorem sb_le {x w : Nat} (h : sb x w) : x ≤ w := by rw [← sb_and h]; exact Nat.and_le_right
theorem and_sb (x w : Nat) : sb (x &&& w) w := fun i h => by
  rw [Nat.testBit_and, Bool.and_eq_true] at h
  exact h.2
theorem sb_half {x w : Nat} (h : sb x w) : sb (x / 2) (w / 2) := fun i hi => by
  rw [Nat.testBit_div_two] at hi ⊢
  exact h _ hi
theorem land2 (a b : Nat) {x y : Nat} (hx : x < 2) (hy : y < 2) : (2 * a + x) &&& (2 * b + y) = 2 * (a &&& b) + x * y := by
  have e1 : (2 * a + x) / 2 = a := by omega
  have e2 : (2 * b + y) / 2 = b := by omega
  have hxy : x * y < 2 := by
    have h1 : x = 0 ∨ x = 1 := by omega
    rcases h1 with h1 | h1 <;> subst h1 <;> omega
  have e3 : (2 * (a &&& b) + x * y) / 2 = a &&& b := by omega
  apply Nat.eq_of_testBit_eq
  intro i
  cases i with
  | zero =>
    rw [Nat.testBit_and, Nat.testBit_zero, Nat.testBit_zero, Nat.testBit_zero]
    have h1 : x = 0 ∨ x = 1 := by omega
    have h2 : y = 0 ∨ y = 1 := by omega
    rcases h1 with h1 | h1 <;> rcases h2 with h2 | h2 <;> subst h1 <;> subst h2 <;> simp [Nat.add_mod]
  | succ i =>
    rw [Nat.testBit_and, Nat.testBit_succ, Nat.testBit_succ, Nat.testBit_succ, e1, e2, e3, Nat.testBit_and]
def dep : Nat → Nat → Nat → Nat
  | 0, _, _ => 0
  | n + 1, w, i => if w % 2 = 1 then 2 * dep n (w / 2) (i / 2) + i % 2 else 2 * dep n (w / 2) i
def pcn : Nat → Nat → Nat
  | 0, _ => 0
  | n + 1, w => w % 2 + pcn n (w / 2)
theorem dep_1 {n w i : Nat} (h : w % 2 = 1) : dep (n + 1) w i = 2 * dep n (w / 2) (i / 2) + i % 2 := if_pos h
theorem dep_0 {n w i : Nat} (h : w % 2 = 0) : dep (n + 1) w i = 2 * dep n (w / 2) i := if_neg (by omega)
theorem cnt_shift (p : Nat → Bool) : ∀ n, cnt p (n + 1) = (if p 0 then 1 else 0) + cnt (fun i => p (i + 1)) n
  | 0 => by simp [cnt]
  | n + 1 => by
    have ih := cnt_shift p n
    show cnt p (n + 1) + (if p (n + 1) then 1 else 0) = _ + (cnt (fun i => p (i + 1)) n + (if p (n + 1) then 1 else 0))
    omega
theorem pcn_eq : ∀ (n w : Nat), cnt (fun i => w.testBit i) n = pcn n w
  | 0, _ => rfl
  | n + 1, w => by
    rw [cnt_shift]
    have e : (fun i => w.testBit (i + 1)) = (fun i => (w / 2).testBit i) := by funext i; rw [Nat.testBit_succ]
    rw [e, pcn_eq n (w / 2), Nat.testBit_zero]
    show _ = w % 2 + pcn n (w / 2)
    rcases Nat.mod_two_eq_zero_or_one w with h | h <;> rw [h] <;> rfl
theorem pc_pcn (w : Nat) : pc w = pcn 12 w := pcn_eq 12 w
theorem pow_s (k : Nat) : 2 ^ (1 + k) = 2 * 2 ^ k := by rw [Nat.add_comm, Nat.pow_succ, Nat.mul_comm]
theorem dep_sb : ∀ (n w i : Nat), dep n w i ≤ w ∧ dep n w i &&& w = dep n w i
  | 0, w, i => ⟨Nat.zero_le _, Nat.zero_and _⟩
  | n + 1, w, i => by
    rcases Nat.mod_two_eq_zero_or_one w with h | h
    · obtain ⟨h1, h2⟩ := dep_sb n (w / 2) i
      rw [dep_0 h]
      have e : w = 2 * (w / 2) + 0 := by omega
      refine ⟨by omega, ?_⟩
      have h3 := land2 (dep n (w / 2) i) (w / 2) (x := 0) (y := 0) (by decide) (by decide)
      rw [← e, h2] at h3
      simpa using h3
    · obtain ⟨h1, h2⟩ := dep_sb n (w / 2) (i / 2)
      rw [dep_1 h]
      have e : w = 2 * (w / 2) + 1 := by omega
      refine ⟨by omega, ?_⟩
      have h3 := land2 (dep n (w / 2) (i / 2)) (w / 2) (x := i % 2) (y := 1) (by omega) (by decide)
      rw [← e, h2, Nat.mul_one] at h3
      exact h3
/-- one less than the difference: what the part has -/
theorem lemA : ∀ (n w p : Nat), w < 2 ^ n → p ≤ w → p &&& w = p → ∀ N, n ≤ N → (2 ^ N + p - w - 1) &&& w = p
  | 0, w, p, hw, hp, _, N, _ => by
    have h1 : w = 0 := by simpa using hw
    subst h1
    have h2 : p = 0 := by omega
    subst h2
    exact Nat.and_zero _
  | n + 1, w, p, hw, hp, ha, N, hN => by
    obtain ⟨M, rfl⟩ : ∃ M, N = M + 1 := ⟨N - 1, by omega⟩
    have hw2 : w / 2 < 2 ^ n := by rw [Nat.pow_succ] at hw; omega
    have hM : w / 2 < 2 ^ M := Nat.lt_of_lt_of_le hw2 (Nat.pow_le_pow_right (by decide) (by omega))
    have e1 : w = 2 * (w / 2) + w % 2 := by omega
    have e2 : p = 2 * (p / 2) + p % 2 := by omega
    have h4 := land2 (p / 2) (w / 2) (x := p % 2) (y := w % 2) (by omega) (by omega)
    rw [← e1, ← e2, ha] at h4
    have hxy : p % 2 * (w % 2) < 2 := by
      rcases Nat.mod_two_eq_zero_or_one p with q | q <;> rw [q] <;> omega
    have h5 : p / 2 &&& w / 2 = p / 2 := by omega
    have h6 : p % 2 * (w % 2) = p % 2 := by omega
    have ih := lemA n (w / 2) (p / 2) hw2 (by omega) h5 M (by omega)
    have h7 : p % 2 ≤ w % 2 := by
      rcases Nat.mod_two_eq_zero_or_one w with q | q
      · rw [q] at h6; omega
      · omega
    have e3 : 2 ^ (M + 1) + p - w - 1 = 2 * (2 ^ M + p / 2 - w / 2 - 1) + (1 + p % 2 - w % 2) := by rw [Nat.pow_succ]; omega
    have h8 := land2 (2 ^ M + p / 2 - w / 2 - 1) (w / 2) (x := 1 + p % 2 - w % 2) (y := w % 2) (by omega) (by omega)
    rw [← e3, ← e1, ih] at h8
    rw [h8]
    rcases Nat.mod_two_eq_zero_or_one w with q | q
    · rw [q]; omega
    · rw [q]; omega
theorem dep_next : ∀ (n w i : Nat), w < 2 ^ n → i + 1 < 2 ^ pcn n w → ∀ N, n ≤ N → (2 ^ N + dep n w i - w) &&& w = dep n w (i + 1)
  | 0, w, i, _, hi, _, _ => by
    have h1 : i + 1 < 1 := hi
    omega
  | n + 1, w, i, hw, hi, N, hN => by
    obtain ⟨M, rfl⟩ : ∃ M, N = M + 1 := ⟨N - 1, by omega⟩
    have hw2 : w / 2 < 2 ^ n := by rw [Nat.pow_succ] at hw; omega
    have hM : w / 2 < 2 ^ M := Nat.lt_of_lt_of_le hw2 (Nat.pow_le_pow_right (by decide) (by omega))
    have hi' : i + 1 < 2 ^ (w % 2 + pcn n (w / 2)) := hi
    rcases Nat.mod_two_eq_zero_or_one w with h | h
    · rw [h, Nat.zero_add] at hi'
      have ih := dep_next n (w / 2) i hw2 hi' M (by omega)
      obtain ⟨d1, -⟩ := dep_sb n (w / 2) i
      rw [dep_0 h, dep_0 h]
      have e1 : w = 2 * (w / 2) + 0 := by omega
      have e3 : 2 ^ (M + 1) + 2 * dep n (w / 2) i - w = 2 * (2 ^ M + dep n (w / 2) i - w / 2) + 0 := by rw [Nat.pow_succ]; omega
      have h8 := land2 (2 ^ M + dep n (w / 2) i - w / 2) (w / 2) (x := 0) (y := 0) (by decide) (by decide)
      rw [← e1, ih] at h8
      rw [e3, h8, Nat.zero_mul, Nat.add_zero]
    · rw [h, pow_s] at hi'
      have e1 : w = 2 * (w / 2) + 1 := by omega
      obtain ⟨d1, d2⟩ := dep_sb n (w / 2) (i / 2)
      rw [dep_1 h, dep_1 h]
      rcases Nat.mod_two_eq_zero_or_one i with q | q
      · have a1 : (i + 1) / 2 = i / 2 := by omega
        have a2 : (i + 1) % 2 = 1 := by omega
        rw [a1, a2, q]
        have lA := lemA n (w / 2) (dep n (w / 2) (i / 2)) hw2 d1 d2 M (by omega)
        have e3 : 2 ^ (M + 1) + (2 * dep n (w / 2) (i / 2) + 0) - w = 2 * (2 ^ M + dep n (w / 2) (i / 2) - w / 2 - 1) + 1 := by rw [Nat.pow_succ]; omega
        have h8 := land2 (2 ^ M + dep n (w / 2) (i / 2) - w / 2 - 1) (w / 2) (x := 1) (y := 1) (by decide) (by decide)
        rw [← e1, lA] at h8
        rw [e3, h8]
      · have a1 : (i + 1) / 2 = i / 2 + 1 := by omega
        have a2 : (i + 1) % 2 = 0 := by omega
        rw [a1, a2, q]
        have ih := dep_next n (w / 2) (i / 2) hw2 (by omega) M (by omega)
        have e3 : 2 ^ (M + 1) + (2 * dep n (w / 2) (i / 2) + 1) - w = 2 * (2 ^ M + dep n (w / 2) (i / 2) - w / 2) + 0 := by rw [Nat.pow_succ]; omega
        have h8 := land2 (2 ^ M + dep n (w / 2) (i / 2) - w / 2) (w / 2) (x := 0) (y := 1) (by decide) (by decide)
        rw [← e1, ih] at h8
        rw [e3, h8]
theorem dep_mono : ∀ (n w i j : Nat), i < j → j < 2 ^ pcn n w → dep n w i < dep n w j
  | 0, _, i, j, h, hj => by
    have h1 : j < 1 := hj
    omega
  | n + 1, w, i, j, h, hj => by
    have hj' : j < 2 ^ (w % 2 + pcn n (w / 2)) := hj
    rcases Nat.mod_two_eq_zero_or_one w with q | q
    · rw [q, Nat.zero_add] at hj'
      have ih := dep_mono n (w / 2) i j h hj'
      rw [dep_0 q, dep_0 q]
      omega
    · rw [q, pow_s] at hj'
      rw [dep_1 q, dep_1 q]
      rcases Nat.lt_or_ge (i / 2) (j / 2) with r | r
      · have ih := dep_mono n (w / 2) (i / 2) (j / 2) r (by omega)
        omega
      · have e : i / 2 = j / 2 := by omega
        rw [e]
        omega
theorem dep_onto : ∀ (n w x : Nat), w < 2 ^ n → x &&& w = x → ∃ i, i < 2 ^ pcn n w ∧ dep n w i = x
  | 0, w, x, hw, hx => by
    have h1 : w = 0 := by simpa using hw
    subst h1
    rw [Nat.and_zero] at hx
    exact ⟨0, by decide, hx⟩
  | n + 1, w, x, hw, hx => by
    have hw2 : w / 2 < 2 ^ n := by rw [Nat.pow_succ] at hw; omega
    have e1 : w = 2 * (w / 2) + w % 2 := by omega
    have e2 : x = 2 * (x / 2) + x % 2 := by omega
    have h4 := land2 (x / 2) (w / 2) (x := x % 2) (y := w % 2) (by omega) (by omega)
    rw [← e1, ← e2, hx] at h4
    have hxy : x % 2 * (w % 2) < 2 := by
      rcases Nat.mod_two_eq_zero_or_one x with q | q <;> rw [q] <;> omega
    have h5 : x / 2 &&& w / 2 = x / 2 := by omega
    have h6 : x % 2 * (w % 2) = x % 2 := by omega
    obtain ⟨i, hi, hd⟩ := dep_onto n (w / 2) (x / 2) hw2 h5
    rcases Nat.mod_two_eq_zero_or_one w with q | q
    · refine ⟨i, ?_, ?_⟩
      · show i < 2 ^ (w % 2 + pcn n (w / 2))
        rw [q, Nat.zero_add]; exact hi
      · rw [dep_0 q, hd]
        rw [q] at h6
        omega
    · refine ⟨2 * i + x % 2, ?_, ?_⟩
      · show 2 * i + x % 2 < 2 ^ (w % 2 + pcn n (w / 2))
        rw [q, pow_s]; omega
      · rw [dep_1 q, show (2 * i + x % 2) / 2 = i by omega, show (2 * i + x % 2) % 2 = x % 2 by omega, hd]
        omega
theorem dep_z : ∀ (n w : Nat), dep n w 0 = 0
  | 0, _ => rfl
  | n + 1, w => by
    rcases Nat.mod_two_eq_zero_or_one w with q | q
    · rw [dep_0 q, dep_z n]
    · rw [dep_1 q, show 0 / 2 = 0 from rfl, dep_z n]
theorem sq_dep {w : Nat} (hw : w < 4096) : ∀ i, i < 2 ^ pc w → sq w i = dep 12 w i
  | 0, _ => (dep_z 12 w).symm
  | i + 1, h => by
    have ih := sq_dep hw i (by omega)
    show nxp (sq w i) w = _
    rw [ih]
    have h2 := dep_next 12 w i hw (by rw [← pc_pcn]; exact h) 32 (by decide)
    exact h2
theorem sq_sb {w : Nat} (hw : w < 4096) {i : Nat} (h : i < 2 ^ pc w) : sb (sq w i) w := by
  rw [sq_dep hw i h]
  exact sb_of (dep_sb 12 w i).2
theorem sq_onto {w x : Nat} (hw : w < 4096) (h : sb x w) : ∃ i, i < 2 ^ pc w ∧ sq w i = x := by
  obtain ⟨i, h1, h2⟩ := dep_onto 12 w x hw (sb_and h)
  rw [← pc_pcn] at h1
  exact ⟨i, h1, (sq_dep hw i h1).trans h2⟩
theorem sq_mono {w i j : Nat} (hw : w < 4096) (h : i < j) (hj : j < 2 ^ pc w) : sq w i < sq w j := by
  rw [sq_dep hw i (by omega), sq_dep hw j hj]
  exact dep_mono 12 w i j h (by rw [← pc_pcn]; exact hj)
/-- the part just below -/
theorem lemP : ∀ (n w x y : Nat), w < 2 ^ n → x &&& w = x → y &&& w = y → y < x → y ≤ (x - 1) &&& w
  | 0, w, x, y, hw, hx, _, h => by
    have h1 : w = 0 := by simpa using hw
    subst h1
    rw [Nat.and_zero] at hx
    omega
  | n + 1, w, x, y, hw, hx, hy, h => by
    have hw2 : w / 2 < 2 ^ n := by rw [Nat.pow_succ] at hw; omega
    have e1 : w = 2 * (w / 2) + w % 2 := by omega
    have e2 : x = 2 * (x / 2) + x % 2 := by omega
    have e3 : y = 2 * (y / 2) + y % 2 := by omega
    have h4 := land2 (x / 2) (w / 2) (x := x % 2) (y := w % 2) (by omega) (by omega)
    rw [← e1, ← e2, hx] at h4
    have g4 := land2 (y / 2) (w / 2) (x := y % 2) (y := w % 2) (by omega) (by omega)
    rw [← e1, ← e3, hy] at g4
    have b1 : x % 2 * (w % 2) < 2 := by rcases Nat.mod_two_eq_zero_or_one x with q | q <;> rw [q] <;> omega
    have b2 : y % 2 * (w % 2) < 2 := by rcases Nat.mod_two_eq_zero_or_one y with q | q <;> rw [q] <;> omega
    have h5 : x / 2 &&& w / 2 = x / 2 := by omega
    have g5 : y / 2 &&& w / 2 = y / 2 := by omega
    have h6 : x % 2 * (w % 2) = x % 2 := by omega
    have g6 : y % 2 * (w % 2) = y % 2 := by omega
    rcases Nat.mod_two_eq_zero_or_one x with q | q
    · have ih := lemP n (w / 2) (x / 2) (y / 2) hw2 h5 g5 (by omega)
      have e4 : x - 1 = 2 * (x / 2 - 1) + 1 := by omega
      have h8 := land2 (x / 2 - 1) (w / 2) (x := 1) (y := w % 2) (by decide) (by omega)
      rw [← e4, ← e1] at h8
      rw [h8]
      rcases Nat.mod_two_eq_zero_or_one w with r | r
      · rw [r] at g6 ⊢; omega
      · rw [r]; omega
    · have e4 : x - 1 = 2 * (x / 2) + 0 := by omega
      have h8 := land2 (x / 2) (w / 2) (x := 0) (y := w % 2) (by decide) (by omega)
      rw [← e4, ← e1, h5] at h8
      rw [h8]
      omega
theorem pr_all {w x y : Nat} (hw : w < 4096) (hx : sb x w) (hy : sb y w) (h : y < x) : y ≤ (x - 1) &&& w := lemP 12 w x y hw (sb_and hx) (sb_and hy) h
