/-! the smallest bag: the class's search and the reference's end at the same one -/
theorem cnt_mono {p q : Nat → Bool} : ∀ {n : Nat}, (∀ i, i < n → p i = true → q i = true) → cnt p n ≤ cnt q n
  | 0, _ => Nat.le_refl 0
  | n + 1, h => by
    have h1 := cnt_mono (n := n) (fun i hi => h i (Nat.lt_succ_of_lt hi))
    have h2 := h n (Nat.lt_succ_self n)
    show cnt p n + (if p n then 1 else 0) ≤ cnt q n + (if q n then 1 else 0)
    cases hp : p n with
    | false => simp; omega
    | true => rw [h2 hp]; simp; omega
theorem cnt_same {p q : Nat → Bool} : ∀ {n : Nat}, (∀ i, i < n → p i = true → q i = true) → cnt q n ≤ cnt p n → ∀ i, i < n → q i = true → p i = true
  | 0, _, _, i, hi, _ => absurd hi (Nat.not_lt_zero i)
  | n + 1, h, hc, i, hi, hq => by
    have h1 := cnt_mono (n := n) (fun i hi => h i (Nat.lt_succ_of_lt hi))
    have h2 := h n (Nat.lt_succ_self n)
    have hc2 : cnt q n + (if q n then 1 else 0) ≤ cnt p n + (if p n then 1 else 0) := hc
    have h3 : q n = true → p n = true := by
      intro hqn
      cases hp : p n with
      | true => rfl
      | false => rw [hp, hqn] at hc2; simp at hc2; omega
    have h4 : cnt q n ≤ cnt p n := by
      cases hp : p n with
      | true => rw [hp, h2 hp] at hc2; omega
      | false =>
        cases hqn : q n with
        | true => rw [h3 hqn] at hp; cases hp
        | false => rw [hp, hqn] at hc2; simpa using hc2
    rcases Nat.lt_succ_iff_lt_or_eq.mp hi with r | r
    · exact cnt_same (fun i hi => h i (Nat.lt_succ_of_lt hi)) h4 i r hq
    · subst r; exact h3 hq
theorem pc_mono {x y : Nat} (h : sb x y) : pc x ≤ pc y := cnt_mono fun i _ hx => h i hx
theorem pc_same {x y : Nat} (hy : y < 4096) (h : sb x y) (hc : pc y ≤ pc x) : x = y := by
  have h2 := cnt_same (n := 12) (p := fun i => x.testBit i) (q := fun i => y.testBit i) (fun i _ hx => h i hx) hc
  apply Nat.eq_of_testBit_eq
  intro i
  cases hx : x.testBit i with
  | true => exact (h i hx).symm
  | false =>
    cases hyi : y.testBit i with
    | false => rfl
    | true => rw [h2 i (tb_lt12 hy hyi) hyi] at hx; cases hx
theorem Wt_le {S : St} {x y : Nat} (h : ∀ i, i < 12 → x.testBit i = true → y.testBit i = true ∨ sL S i = 0) : Wt S x ≤ Wt S y := sm_mono fun i hi => by
  unfold lfI
  cases hx : x.testBit i with
  | false => exact Nat.zero_le _
  | true =>
    rcases h i hi hx with q | q
    · rw [q]; exact Nat.le_refl _
    · rw [q]; exact Nat.zero_le _
theorem or_tb {a b i : Nat} : (a ||| b).testBit i = true ↔ a.testBit i = true ∨ b.testBit i = true := by
  rw [Nat.testBit_or, Bool.or_eq_true]
theorem and_tb {a b i : Nat} : (a &&& b).testBit i = true ↔ a.testBit i = true ∧ b.testBit i = true := by
  rw [Nat.testBit_and, Bool.and_eq_true]
theorem NM_mono {S : St} {g : Nat → Nat} {q q' n : Nat} (h : sb q q') : sb (orU g q n) (orU g q' n) := fun i hi => by
  rw [orU_tb, exB_true] at hi ⊢
  obtain ⟨j, h1, h2⟩ := hi
  rw [Bool.and_eq_true] at h2
  exact ⟨j, h1, by rw [Bool.and_eq_true]; exact ⟨h _ h2.1, h2.2⟩⟩
theorem enM_iff {S : St} (ho : Ok S) {g : Nat → Nat} {s : Nat} {y : Int} (hs : s < 4096) : enM S g s y = true ↔ ∀ q, sb q (s &&& kdB S 0) → y ≤ ((Wt S (andn (s &&& kdB S 0) q) + Wt S (orU g q (sN S) &&& (s &&& kdB S 1)) : Nat) : Int) := by
  have h0 : sb (s &&& kdB S 0) (kdB S 0) := and_sb _ _
  have h1 : sb (s &&& kdB S 1) (kdB S 1) := and_sb _ _
  unfold enM
  rw [decide_eq_true_eq, day_iff ho hs h0 h1]
  exact ⟨fun h q hq => by rw [← it_W ho h0 h1]; exact h q hq, fun h q hq => by rw [it_W ho h0 h1]; exact h q hq⟩
theorem Wt_0 {S : St} : Wt S 0 = 0 := by
  have h9 : ∀ n, sm (lfI S 0) n = 0 := by
    intro n
    induction n with
    | zero => rfl
    | succ n ih => show sm (lfI S 0) n + lfI S 0 n = 0; rw [ih]; simp [lfI]
  exact h9 12
theorem enM_0 {S : St} (ho : Ok S) {g : Nat → Nat} {y : Int} (hy : 1 ≤ y) : enM S g 0 y = false := by
  cases h : enM S g 0 y with
  | false => rfl
  | true =>
    have h1 := (enM_iff ho (by decide)).mp h 0 (sb_0 _)
    rw [Nat.zero_and, Nat.zero_and, Nat.and_zero, Wt_0, show andn 0 0 = 0 from rfl, Wt_0] at h1
    omega
theorem enM_mono {S : St} (ho : Ok S) {g : Nat → Nat} {s s' : Nat} {y : Int} (hs : s' < 4096) (h : sb s s') (he : enM S g s y = true) : enM S g s' y = true := by
  have hs2 : s < 4096 := Nat.lt_of_le_of_lt (sb_le h) hs
  rw [enM_iff ho hs]
  intro q' hq'
  have h1 := (enM_iff ho hs2).mp he (q' &&& s) (fun i hi => by
    obtain ⟨a1, a2⟩ := and_tb.mp hi
    exact and_tb.mpr ⟨a2, (and_tb.mp (hq' i a1)).2⟩)
  have h2 : Wt S (andn (s &&& kdB S 0) (q' &&& s)) ≤ Wt S (andn (s' &&& kdB S 0) q') := Wt_mono fun i hi => by
    obtain ⟨a1, a2⟩ := (an_tb (and_lt (n := 12) hs2)).mp hi
    obtain ⟨a3, a4⟩ := and_tb.mp a1
    refine (an_tb (and_lt (n := 12) hs)).mpr ⟨and_tb.mpr ⟨h i a3, a4⟩, ?_⟩
    cases hx : q'.testBit i with
    | false => rfl
    | true => rw [and_tb.mpr ⟨hx, a3⟩] at a2; cases a2
  have h3 : Wt S (orU g (q' &&& s) (sN S) &&& (s &&& kdB S 1)) ≤ Wt S (orU g q' (sN S) &&& (s' &&& kdB S 1)) := Wt_mono fun i hi => by
    obtain ⟨a1, a2⟩ := and_tb.mp hi
    obtain ⟨a3, a4⟩ := and_tb.mp a2
    exact and_tb.mpr ⟨NM_mono (S := S) (fun i hi => (and_tb.mp hi).1) i a1, and_tb.mpr ⟨h i a3, a4⟩⟩
  omega
theorem us_tb {S : St} {g : Nat → Nat} {i : Nat} : (usB S g).testBit i = true ↔ i < sN S ∧ 0 < lftZ S (i : Int) ∧ g i ≠ 0 := by
  unfold usB usP
  rw [bits_tb, Bool.and_eq_true, decide_eq_true_eq, Bool.and_eq_true, decide_eq_true_eq, decide_eq_true_eq]
theorem kd_left {S : St} {i : Nat} {k : Int} (h : kdZ S (i : Int) k = true) : lftZ S (i : Int) = sL S i := by
  simp only [kdZ, Bool.and_eq_true] at h
  unfold lftZ
  rw [if_pos h.1]
  rfl
theorem enM_use {S : St} (ho : Ok S) {w : Int} {g1 g2 : Nat → Nat} {s : Nat} {y : Int} (hs : s < 4096) (he : enM S (gM S w g2 12) s y = true) : enM S (gM S w g2 12) (s &&& usB S (gF S w g1)) y = true := by
  have hn := ho.1
  have hsu : s &&& usB S (gF S w g1) < 4096 := and_lt (n := 12) hs
  have hsk : s &&& kdB S 0 < 4096 := and_lt (n := 12) hs
  rw [enM_iff ho hsu]
  intro q' hq'
  have hPtb : ∀ i, (bits (fun i => decide (gF S w g1 i ≠ 0)) 12).testBit i = true ↔ i < 12 ∧ gF S w g1 i ≠ 0 := fun i => by
    rw [bits_tb, Bool.and_eq_true, decide_eq_true_eq, decide_eq_true_eq]
  generalize bits (fun i => decide (gF S w g1 i ≠ 0)) 12 = P at hPtb
  have hq1 : sb q' (kdB S 0) := fun i hi => (and_tb.mp (hq' i hi)).2
  have hqs : sb (q' ||| andn (s &&& kdB S 0) P) (s &&& kdB S 0) := fun i hi => by
    rcases or_tb.mp hi with r | r
    · have r2 := and_tb.mp (hq' i r)
      exact and_tb.mpr ⟨(and_tb.mp r2.1).1, r2.2⟩
    · exact ((an_tb hsk).mp r).1
  have h1 := (enM_iff ho hs).mp he _ hqs
  have h2 : Wt S (andn (s &&& kdB S 0) (q' ||| andn (s &&& kdB S 0) P)) ≤ Wt S (andn (s &&& usB S (gF S w g1) &&& kdB S 0) q') := Wt_le fun i hi hx => by
    obtain ⟨a1, a2⟩ := (an_tb hsk).mp hx
    obtain ⟨a3, a4⟩ := and_tb.mp a1
    have b1 : q'.testBit i = false := by
      cases hz : q'.testBit i with
      | false => rfl
      | true => rw [or_tb.mpr (Or.inl hz)] at a2; cases a2
    have b2 : P.testBit i = true := by
      cases hz : P.testBit i with
      | true => rfl
      | false => rw [or_tb.mpr (Or.inr ((an_tb hsk).mpr ⟨a1, hz⟩))] at a2; cases a2
    have b3 := kdB_tb.mp a4
    by_cases hl : sL S i = 0
    · exact Or.inr hl
    · refine Or.inl ((an_tb (and_lt (n := 12) hsu)).mpr ⟨and_tb.mpr ⟨and_tb.mpr ⟨a3, us_tb.mpr ⟨b3.1, ?_, ((hPtb i).mp b2).2⟩⟩, a4⟩, b1⟩)
      rw [kd_left b3.2]
      omega
  have h3 : Wt S (orU (gM S w g2 12) (q' ||| andn (s &&& kdB S 0) P) (sN S) &&& (s &&& kdB S 1)) ≤ Wt S (orU (gM S w g2 12) q' (sN S) &&& (s &&& usB S (gF S w g1) &&& kdB S 1)) := Wt_le fun i hi hx => by
    obtain ⟨a1, a2⟩ := and_tb.mp hx
    obtain ⟨a3, a4⟩ := and_tb.mp a2
    obtain ⟨-, j, c1, c2⟩ := (NM_tb ho (fun i hi => (and_tb.mp (hqs i hi)).2)).mp a1
    have c3 := (kdB_tb.mp (and_tb.mp (hqs j c1)).2).1
    have c4 : q'.testBit j = true := by
      rcases or_tb.mp c1 with r | r
      · exact r
      · exfalso
        have r2 := ((an_tb hsk).mp r).2
        have r3 : gF S w g1 j ≠ 0 := by
          intro hz
          have h9 := (gF_tb (g := g1) (S := S) (w := w) (j := j) (i := i) (by omega)).mpr ⟨hi, Or.inl c2⟩
          rw [hz] at h9
          simp at h9
        rw [(hPtb j).mpr ⟨by omega, r3⟩] at r2
        cases r2
    have b3 := kdB_tb.mp a4
    by_cases hl : sL S i = 0
    · exact Or.inr hl
    · refine Or.inl (and_tb.mpr ⟨(NM_tb ho hq1).mpr ⟨hi, j, c4, c2⟩, and_tb.mpr ⟨and_tb.mpr ⟨a3, us_tb.mpr ⟨b3.1, ?_, ?_⟩⟩, a4⟩⟩)
      · rw [kd_left b3.2]
        omega
      · intro hz
        have h9 := (gF_tb (g := g1) (S := S) (w := w) (j := i) (i := j) hi).mpr ⟨by omega, Or.inr c2⟩
        rw [hz] at h9
        simp at h9
  omega
/-- the best of the parts of W that do -/
def bst (E : Nat → Bool) (W f : Nat) : Prop := (f = 0 ∧ ∀ s, sb s W → s ≠ 0 → E s = false) ∨ (E f = true ∧ sb f W ∧ f ≠ 0 ∧ ∀ s, sb s W → s ≠ 0 → E s = true → pc f < pc s ∨ (pc f = pc s ∧ f ≤ s))
theorem bst_u {E : Nat → Bool} {W f f' : Nat} (h : bst E W f) (h' : bst E W f') : f = f' := by
  rcases h with ⟨h1, h2⟩ | ⟨h1, h2, h3, h4⟩ <;> rcases h' with ⟨k1, k2⟩ | ⟨k1, k2, k3, k4⟩
  · omega
  · rw [h2 f' k2 k3] at k1; cases k1
  · rw [k2 f h2 h3] at h1; cases h1
  · have a := h4 f' k2 k3 k1
    have b := k4 f h2 h3 h1
    omega
theorem bmL_bst {S : St} {g : Nat → Nat} {t u : Nat} {y : Int} (hW : t ||| u < 4096) : ∀ (m s f l : Nat), sb s (t ||| u) → s < m → ((f = 0 ∧ l = 13 ∧ ∀ s', sb s' (t ||| u) → s < s' → decide (y ≤ (dayZ S g s' t u : Int)) = false) ∨ (decide (y ≤ (dayZ S g f t u : Int)) = true ∧ sb f (t ||| u) ∧ s < f ∧ l = pc f ∧ ∀ s', sb s' (t ||| u) → s < s' → decide (y ≤ (dayZ S g s' t u : Int)) = true → pc f < pc s' ∨ (pc f = pc s' ∧ f ≤ s'))) → bst (fun s => decide (y ≤ (dayZ S g s t u : Int))) (t ||| u) (bmL S g t u y m s f l)
  | 0, s, _, _, _, h, _ => absurd h (Nat.not_lt_zero s)
  | m + 1, s, f, l, hs, h, hI => by
    show bst _ _ (if s = 0 then f else bmL S g t u y m ((s - 1) &&& (t ||| u)) (if bmC S g t u y s l then s else f) (if bmC S g t u y s l then pc s else l))
    by_cases h0 : s = 0
    · rw [if_pos h0]
      subst h0
      rcases hI with ⟨a1, -, a2⟩ | ⟨a1, a2, a3, -, a4⟩
      · exact Or.inl ⟨a1, fun s' q1 q2 => a2 s' q1 (by omega)⟩
      · exact Or.inr ⟨a1, a2, by omega, fun s' q1 q2 q3 => a4 s' q1 (by omega) q3⟩
    · rw [if_neg h0]
      have hd : (s - 1) &&& (t ||| u) < s := by
        have := Nat.and_le_left (n := s - 1) (m := t ||| u)
        omega
      have hge : ∀ s', sb s' (t ||| u) → (s - 1) &&& (t ||| u) < s' → s ≤ s' := fun s' q1 q2 => by
        rcases Nat.lt_or_ge s' s with r | r
        · have := pr_all hW hs q1 r
          omega
        · exact r
      refine bmL_bst hW m _ _ _ (and_sb _ _) (by omega) ?_
      by_cases hb : bmC S g t u y s l = true
      · rw [if_pos hb, if_pos hb]
        unfold bmC at hb
        rw [Bool.and_eq_true, decide_eq_true_eq] at hb
        refine Or.inr ⟨hb.2, hs, hd, rfl, fun s' q1 q2 q3 => ?_⟩
        rcases Nat.eq_or_lt_of_le (hge s' q1 q2) with r | r
        · subst r; exact Or.inr ⟨rfl, Nat.le_refl _⟩
        · rcases hI with ⟨-, -, a2⟩ | ⟨-, -, -, a3, a4⟩
          · rw [a2 s' q1 r] at q3; cases q3
          · have := a4 s' q1 r q3
            omega
      · rw [if_neg hb, if_neg hb]
        rcases hI with ⟨a0, a1, a2⟩ | ⟨a0, a1, a2, a3, a4⟩
        · refine Or.inl ⟨a0, a1, fun s' q1 q2 => ?_⟩
          rcases Nat.eq_or_lt_of_le (hge s' q1 q2) with r | r
          · subst r
            cases hx : decide (y ≤ (dayZ S g s t u : Int)) with
            | false => rfl
            | true =>
              exfalso
              apply hb
              unfold bmC
              rw [hx, Bool.and_true, decide_eq_true_eq]
              have := pc_le s
              omega
          · exact a2 s' q1 r
        · refine Or.inr ⟨a0, a1, by omega, a3, fun s' q1 q2 q3 => ?_⟩
          rcases Nat.eq_or_lt_of_le (hge s' q1 q2) with r | r
          · subst r
            left
            rcases Nat.lt_or_ge (pc f) (pc s) with z | z
            · exact z
            · exfalso
              apply hb
              unfold bmC
              rw [q3, Bool.and_true, decide_eq_true_eq]
              omega
          · exact a4 s' q1 r q3
theorem bagM_bst {S : St} (ho : Ok S) {g : Nat → Nat} {y : Int} : bst (fun s => enM S g s y) (kdB S 0 ||| kdB S 1) (bagM S g y) := by
  have hW : kdB S 0 ||| kdB S 1 < 4096 := or_lt (n := 12) (kdB_lt ho 0) (kdB_lt ho 1)
  exact bmL_bst hW 4096 _ 0 13 (sb_rf _) hW (Or.inl ⟨rfl, rfl, fun s' q1 q2 => by
    have := sb_le q1
    omega⟩)
theorem bgS_inv {S : St} {g : Nat → Nat} {u t b : Nat} {y : Int} (hu : u < 4096) {E : Nat → Bool} (hE : ∀ s, sb s u → lstZ S g (s &&& t) (s &&& b) y = E s) (hEu : E u = true) : ∀ i, i ≤ 2 ^ pc u → E (bgS S g u t b y i).1 = true ∧ sb (bgS S g u t b y i).1 u ∧ (bgS S g u t b y i).2 = pc (bgS S g u t b y i).1 ∧ ((bgS S g u t b y i).1 = u ∨ ∃ j, j < i ∧ (bgS S g u t b y i).1 = sq u j) ∧ ∀ j, j < i → E (sq u j) = true → pc (bgS S g u t b y i).1 < pc (sq u j) ∨ (pc (bgS S g u t b y i).1 = pc (sq u j) ∧ (bgS S g u t b y i).1 ≤ sq u j)
  | 0, _ => ⟨hEu, sb_rf u, rfl, Or.inl rfl, fun j hj => absurd hj (Nat.not_lt_zero j)⟩
  | i + 1, hi => by
    obtain ⟨a1, a2, a3, a4, a5⟩ := bgS_inv hu hE hEu i (by omega)
    have hs : sb (sq u i) u := sq_sb hu hi
    have e : bgS S g u t b y (i + 1) = if decide (pc (sq u i) < (bgS S g u t b y i).2) && lstZ S g (sq u i &&& t) (sq u i &&& b) y then (sq u i, pc (sq u i)) else bgS S g u t b y i := rfl
    rw [hE _ hs] at e
    by_cases hc : (decide (pc (sq u i) < (bgS S g u t b y i).2) && E (sq u i)) = true
    · rw [if_pos hc] at e
      rw [e]
      rw [Bool.and_eq_true, decide_eq_true_eq] at hc
      refine ⟨hc.2, hs, rfl, Or.inr ⟨i, Nat.lt_succ_self i, rfl⟩, fun j hj hq => ?_⟩
      show pc (sq u i) < pc (sq u j) ∨ (pc (sq u i) = pc (sq u j) ∧ sq u i ≤ sq u j)
      rcases Nat.lt_succ_iff_lt_or_eq.mp hj with r | r
      · have := a5 j r hq
        omega
      · subst r; exact Or.inr ⟨rfl, Nat.le_refl _⟩
    · rw [if_neg hc] at e
      rw [e]
      refine ⟨a1, a2, a3, a4.imp id (fun ⟨j, q1, q2⟩ => ⟨j, by omega, q2⟩), fun j hj hq => ?_⟩
      rcases Nat.lt_succ_iff_lt_or_eq.mp hj with r | r
      · exact a5 j r hq
      · subst r
        have h2 : pc (bgS S g u t b y j).1 ≤ pc (sq u j) := by
          rcases Nat.lt_or_ge (pc (sq u j)) (pc (bgS S g u t b y j).1) with z | z
          · exfalso
            apply hc
            rw [hq, Bool.and_true, decide_eq_true_eq, a3]
            exact z
          · exact z
        rcases Nat.eq_or_lt_of_le h2 with z | z
        · refine Or.inr ⟨z, ?_⟩
          rcases a4 with q | ⟨k, q1, q2⟩
          · rw [q] at z
            rw [q, pc_same hu hs (by omega)]
            exact Nat.le_refl _
          · rw [q2]
            exact Nat.le_of_lt (sq_mono hu q1 (by omega))
        · exact Or.inl z
theorem bagZ_bst {S : St} (ho : Ok S) {w : Int} {g1 g2 : Nat → Nat} {y : Int} (hy : 1 ≤ y) : bst (fun s => enM S (gM S w g2 12) s y) (kdB S 0 ||| kdB S 1) (bagZ S (gF S w g1) y) := by
  have hW : kdB S 0 ||| kdB S 1 < 4096 := or_lt (n := 12) (kdB_lt ho 0) (kdB_lt ho 1)
  have hu : usB S (gF S w g1) < 4096 := usB_lt ho _
  have hlt : ∀ {s}, sb s (kdB S 0 ||| kdB S 1) → s < 4096 := fun h => Nat.lt_of_le_of_lt (sb_le h) hW
  have huW : sb (usB S (gF S w g1)) (kdB S 0 ||| kdB S 1) := fun i hi => by
    obtain ⟨a1, a2, a3⟩ := us_tb.mp hi
    have hn := ho.1
    have h1 : ∃ j, (gF S w g1 i).testBit j = true := by
      rcases Nat.eq_zero_or_pos (gF S w g1 i) with r | r
      · exact absurd r a3
      · exact Nat.exists_testBit_of_ne_zero a3
    obtain ⟨j, hj⟩ := h1
    rcases ((gF_tb (by omega)).mp hj).2 with r | r
    · exact or_tb.mpr (Or.inl (kdB_tb.mpr ⟨a1, (prt_kd r).1⟩))
    · exact or_tb.mpr (Or.inr (kdB_tb.mpr ⟨a1, (prt_kd r).2⟩))
  have hE : ∀ s, sb s (usB S (gF S w g1)) → lstZ S (gF S w g1) (s &&& (usB S (gF S w g1) &&& kdB S 0)) (s &&& (usB S (gF S w g1) &&& kdB S 1)) y = enM S (gM S w g2 12) s y := fun s hs => by
    rw [← Nat.and_assoc, ← Nat.and_assoc, sb_and hs]
    exact en_eq ho (Nat.lt_of_le_of_lt (sb_le hs) hu)
  have hEu : lstZ S (gF S w g1) (usB S (gF S w g1) &&& kdB S 0) (usB S (gF S w g1) &&& kdB S 1) y = enM S (gM S w g2 12) (usB S (gF S w g1)) y := en_eq ho hu
  unfold bagZ
  rw [hEu]
  cases hu1 : enM S (gM S w g2 12) (usB S (gF S w g1)) y with
  | false =>
    refine Or.inl ⟨rfl, fun s hs _ => ?_⟩
    cases hx : enM S (gM S w g2 12) s y with
    | false => exact hx
    | true =>
      have h1 := enM_mono ho hu (and_sb s _) (enM_use (g1 := g1) ho (hlt hs) hx)
      rw [hu1] at h1
      cases h1
  | true =>
    obtain ⟨a1, a2, a3, a4, a5⟩ := bgS_inv hu hE hu1 (2 ^ pc (usB S (gF S w g1))) (Nat.le_refl _)
    rw [if_pos rfl]
    generalize (bgS S (gF S w g1) (usB S (gF S w g1)) (usB S (gF S w g1) &&& kdB S 0) (usB S (gF S w g1) &&& kdB S 1) y (2 ^ pc (usB S (gF S w g1)))).1 = f at a1 a2 a4 a5
    refine Or.inr ⟨a1, sb_tr a2 huW, fun h0 => ?_, fun s hs _ he => ?_⟩
    · rw [h0, enM_0 ho hy] at a1; cases a1
    · have h1 := enM_use (g1 := g1) ho (hlt hs) he
      obtain ⟨j, hj, hq⟩ := sq_onto hu (and_sb s (usB S (gF S w g1)))
      have h2 := a5 j hj (by rw [hq]; exact h1)
      rw [hq] at h2
      have h3 : sb (s &&& usB S (gF S w g1)) s := fun i hi => (and_tb.mp hi).1
      have h4 := pc_mono h3
      have h5 := sb_le h3
      omega
theorem bag_eq {S : St} (ho : Ok S) {w : Int} {g1 g2 : Nat → Nat} {y : Int} (hy : 1 ≤ y) : bagZ S (gF S w g1) y = bagM S (gM S w g2 12) y := bst_u (bagZ_bst ho hy) (bagM_bst ho)
