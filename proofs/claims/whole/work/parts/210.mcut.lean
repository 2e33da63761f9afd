/-! a bag is enough: the class's cuts and the reference's say the same -/
theorem sm_mono {f g : Nat → Nat} : ∀ {n : Nat}, (∀ i, i < n → f i ≤ g i) → sm f n ≤ sm g n
  | 0, _ => Nat.le_refl _
  | n + 1, h => by
    have h1 := sm_mono (n := n) (fun i hi => h i (Nat.lt_succ_of_lt hi))
    have h2 := h n (Nat.lt_succ_self n)
    show sm f n + f n ≤ sm g n + g n
    omega
def Wt (S : St) (x : Nat) : Nat := sm (lfI S x) 12
theorem Wt_mono {S : St} {x y : Nat} (h : sb x y) : Wt S x ≤ Wt S y := sm_mono fun i _ => by
  unfold lfI
  cases hx : x.testBit i with
  | false => exact Nat.zero_le _
  | true => rw [h i hx]; exact Nat.le_refl _
theorem sm_ext {f : Nat → Nat} {n : Nat} (h : ∀ i, n ≤ i → f i = 0) : ∀ m, n ≤ m → sm f n = sm f m
  | 0, hm => by rw [show n = 0 by omega]
  | m + 1, hm => by
    rcases Nat.lt_or_ge m n with q | q
    · rw [show n = m + 1 by omega]
    · rw [sm_ext h m q]
      show sm f m = sm f m + f m
      rw [h m q]
      rfl
theorem Wt_n {S : St} (ho : Ok S) {x : Nat} (h : ∀ i, x.testBit i = true → i < sN S) : sm (lfI S x) (sN S) = Wt S x := sm_ext (fun i hi => by
  unfold lfI
  cases hx : x.testBit i with
  | false => rfl
  | true => exact absurd (h i hx) (by omega)) 12 ho.1
theorem kdB_tb {S : St} {q : Int} {i : Nat} : (kdB S q).testBit i = true ↔ i < sN S ∧ kdZ S (i : Int) q = true := by
  unfold kdB tkP
  rw [bits_tb, Bool.and_eq_true, decide_eq_true_eq]
theorem prt_kd {S : St} {t b w : Int} (h : prtZ S t b w = true) : kdZ S t 0 = true ∧ kdZ S b 1 = true := by
  simp only [prtZ, Bool.and_eq_true] at h
  exact h.1.1
theorem kd_two {S : St} {x k l : Int} (h1 : kdZ S x k = true) (h2 : kdZ S x l = true) : k = l := by
  simp only [kdZ, Bool.and_eq_true, decide_eq_true_eq] at h1 h2
  exact h1.2.symm.trans h2.2
theorem kd_lt {S : St} {i : Nat} {k : Int} (h : kdZ S (i : Int) k = true) : i < sN S := by
  simp only [kdZ, Bool.and_eq_true, hasZ_nat, hasT, decide_eq_true_eq] at h
  exact h.1.1
theorem gF_tb {S : St} {w : Int} {g : Nat → Nat} {j i : Nat} (hj : j < 12) : (gF S w g j).testBit i = true ↔ i < 12 ∧ (prtZ S j i w = true ∨ prtZ S i j w = true) := by
  unfold gF
  rw [if_pos hj, bits_tb, Bool.and_eq_true, decide_eq_true_eq, Bool.or_eq_true]
theorem gM_tb {S : St} {w : Int} {g : Nat → Nat} {j i : Nat} (hj : j < 12) : (gM S w g 12 j).testBit i = true ↔ i < 12 ∧ prtZ S j i w = true := by
  unfold gM pmP
  rw [if_pos hj, bits_tb, Bool.and_eq_true, decide_eq_true_eq]
theorem NC_top {S : St} (ho : Ok S) {w : Int} {g : Nat → Nat} {q i : Nat} (hq : sb q (kdB S 0)) : (orU (gF S w g) q 12).testBit i = true ↔ i < 12 ∧ ∃ j, q.testBit j = true ∧ prtZ S j i w = true := by
  have hn := ho.1
  rw [orU_tb, exB_true]
  constructor
  · rintro ⟨j, h1, h2⟩
    rw [Bool.and_eq_true, gF_tb h1] at h2
    refine ⟨h2.2.1, j, h2.1, ?_⟩
    rcases h2.2.2 with h | h
    · exact h
    · exact absurd (kd_two (kdB_tb.mp (hq j h2.1)).2 (prt_kd h).2) (by decide)
  · rintro ⟨hi, j, h1, h2⟩
    have h3 := (kdB_tb.mp (hq j h1)).1
    refine ⟨j, by omega, ?_⟩
    rw [Bool.and_eq_true, gF_tb (by omega)]
    exact ⟨h1, hi, Or.inl h2⟩
theorem NC_bot {S : St} (ho : Ok S) {w : Int} {g : Nat → Nat} {q i : Nat} (hq : sb q (kdB S 1)) : (orU (gF S w g) q 12).testBit i = true ↔ i < 12 ∧ ∃ j, q.testBit j = true ∧ prtZ S i j w = true := by
  have hn := ho.1
  rw [orU_tb, exB_true]
  constructor
  · rintro ⟨j, h1, h2⟩
    rw [Bool.and_eq_true, gF_tb h1] at h2
    refine ⟨h2.2.1, j, h2.1, ?_⟩
    rcases h2.2.2 with h | h
    · exact absurd (kd_two (kdB_tb.mp (hq j h2.1)).2 (prt_kd h).1) (by decide)
    · exact h
  · rintro ⟨hi, j, h1, h2⟩
    have h3 := (kdB_tb.mp (hq j h1)).1
    refine ⟨j, by omega, ?_⟩
    rw [Bool.and_eq_true, gF_tb (by omega)]
    exact ⟨h1, hi, Or.inr h2⟩
theorem NM_tb {S : St} (ho : Ok S) {w : Int} {g : Nat → Nat} {q i : Nat} (hq : sb q (kdB S 0)) : (orU (gM S w g 12) q (sN S)).testBit i = true ↔ i < 12 ∧ ∃ j, q.testBit j = true ∧ prtZ S j i w = true := by
  have hn := ho.1
  rw [orU_tb, exB_true]
  constructor
  · rintro ⟨j, h1, h2⟩
    rw [Bool.and_eq_true, gM_tb (by omega)] at h2
    exact ⟨h2.2.1, j, h2.1, h2.2.2⟩
  · rintro ⟨hi, j, h1, h2⟩
    have h3 := (kdB_tb.mp (hq j h1)).1
    refine ⟨j, h3, ?_⟩
    rw [Bool.and_eq_true, gM_tb (by omega)]
    exact ⟨h1, hi, h2⟩
theorem lt_of_kd {S : St} (ho : Ok S) {q : Int} {x : Nat} (h : sb x (kdB S q)) : x < 4096 := Nat.lt_of_le_of_lt (sb_le h) (kdB_lt ho q)
theorem tb_lt12 {x i : Nat} (hx : x < 4096) (h : x.testBit i = true) : i < 12 := by
  rcases Nat.lt_or_ge i 12 with q | q
  · exact q
  · rw [tb_lt (n := 12) hx q] at h
    cases h
theorem an_tb {a b i : Nat} (ha : a < 4096) : (andn a b).testBit i = true ↔ a.testBit i = true ∧ b.testBit i = false := by
  rw [andn_tb (by omega), Bool.and_eq_true, Bool.not_eq_true']
/-- the reference's cost in whole sums -/
theorem it_W {S : St} (ho : Ok S) {g : Nat → Nat} {t u q : Nat} (ht : sb t (kdB S 0)) (hu : sb u (kdB S 1)) : itZ S g t u q = Wt S (andn t q) + Wt S (orU g q (sN S) &&& u) := by
  unfold itZ
  rw [Wt_n ho (fun i hi => (kdB_tb.mp (ht i ((an_tb (lt_of_kd ho ht)).mp hi).1)).1), Wt_n ho (fun i hi => (kdB_tb.mp (hu i (and_sb _ _ i hi))).1)]
theorem dyL_iff {S : St} {g : Nat → Nat} {tp bt : Nat} {y : Int} (htp : tp < 4096) : ∀ (m s dc : Nat), sb s tp → s < m → (y ≤ (dyL S g tp bt m s dc : Int) ↔ y ≤ (dc : Int) ∧ ∀ q, sb q tp → 0 < q → q ≤ s → y ≤ (itZ S g tp bt q : Int))
  | 0, s, dc, _, h => absurd h (Nat.not_lt_zero _)
  | m + 1, s, dc, hs, h => by
    show y ≤ ((if s = 0 then dc else dyL S g tp bt m ((s - 1) &&& tp) (if itZ S g tp bt s < dc then itZ S g tp bt s else dc) : Nat) : Int) ↔ _
    by_cases h0 : s = 0
    · rw [if_pos h0]
      exact ⟨fun h1 => ⟨h1, fun q _ h2 h3 => absurd h2 (by omega)⟩, fun h1 => h1.1⟩
    · rw [if_neg h0]
      have h2 : (s - 1) &&& tp < m := dec_lt h (by omega)
      have h3 : (s - 1) &&& tp ≤ s - 1 := Nat.and_le_left
      rw [dyL_iff htp m _ _ (and_sb _ _) h2]
      constructor
      · rintro ⟨h4, h5⟩
        have h6 : y ≤ (dc : Int) ∧ y ≤ (itZ S g tp bt s : Int) := by split at h4 <;> omega
        refine ⟨h6.1, fun q q1 q2 q3 => ?_⟩
        rcases Nat.lt_or_ge q s with r | r
        · exact h5 q q1 q2 (pr_all htp hs q1 r)
        · rw [show q = s by omega]; exact h6.2
      · rintro ⟨h4, h5⟩
        have h6 := h5 s hs (by omega) (Nat.le_refl _)
        exact ⟨by split <;> omega, fun q q1 q2 q3 => h5 q q1 q2 (by omega)⟩
theorem day_iff {S : St} (ho : Ok S) {g : Nat → Nat} {x t u : Nat} {y : Int} (hx : x < 4096) (ht : sb (x &&& t) (kdB S 0)) (hu : sb (x &&& u) (kdB S 1)) : y ≤ (dayZ S g x t u : Int) ↔ ∀ q, sb q (x &&& t) → y ≤ (itZ S g (x &&& t) (x &&& u) q : Int) := by
  have h1 : x &&& t < 4096 := and_lt (n := 12) hx
  unfold dayZ
  rw [dyL_iff h1 4096 _ _ (sb_rf _) h1, Wt_n ho (fun i hi => (kdB_tb.mp (ht i hi)).1)]
  have e0 : itZ S g (x &&& t) (x &&& u) 0 = Wt S (x &&& t) := by
    rw [it_W ho ht hu]
    have e1 : orU g 0 (sN S) &&& (x &&& u) = 0 := by
      apply Nat.eq_of_testBit_eq
      intro i
      rw [Nat.testBit_and, orU_tb]
      rw [show exB (fun j => (0 : Nat).testBit j && (g j).testBit i) (sN S) = false from by
        cases hq : exB (fun j => (0 : Nat).testBit j && (g j).testBit i) (sN S) with
        | false => rfl
        | true => obtain ⟨j, -, h9⟩ := exB_true.mp hq; simp at h9]
      simp
    have e2 : andn (x &&& t) 0 = x &&& t := by
      apply Nat.eq_of_testBit_eq
      intro i
      rw [andn_tb (by omega)]
      simp
    rw [e1, e2]
    have e3 : Wt S 0 = 0 := by
      have h9 : ∀ n, sm (lfI S 0) n = 0 := by
        intro n
        induction n with
        | zero => rfl
        | succ n ih => show sm (lfI S 0) n + lfI S 0 n = 0; rw [ih]; simp [lfI]
      exact h9 12
    rw [e3, Nat.add_zero]
  constructor
  · rintro ⟨h2, h3⟩ q hq
    rcases Nat.eq_zero_or_pos q with r | r
    · rw [r, e0]; exact h2
    · exact h3 q hq r (sb_le hq)
  · intro h2
    exact ⟨by rw [← e0]; exact h2 0 (sb_0 _), fun q hq _ _ => h2 q hq⟩
theorem lst_iff {S : St} {g : Nat → Nat} {t u : Nat} {y : Int} (ht : t < 4096) (hu : u < 4096) : lstZ S g t u y = true ↔ ∀ q, sb q (few t u) → y ≤ (cst S g (few t u) (many t u) q : Int) := by
  have hf : few t u < 4096 := few_lt ht hu
  unfold lstZ
  rw [Bool.not_eq_true']
  constructor
  · intro h q hq
    obtain ⟨i, h1, h2⟩ := sq_onto hf hq
    have h3 : lsP S g (few t u) (many t u) y i = false := by
      cases hp : lsP S g (few t u) (many t u) y i with
      | false => rfl
      | true => rw [exB_hit h1 hp] at h; cases h
    have h4 := of_decide_eq_false h3
    rw [h2] at h4
    omega
  · intro h
    cases hp : exB (lsP S g (few t u) (many t u) y) (2 ^ pc (few t u)) with
    | false => rfl
    | true =>
      exfalso
      obtain ⟨i, h1, h2⟩ := exB_true.mp hp
      have h3 := of_decide_eq_true h2
      have h4 := h (sq (few t u) i) (sq_sb hf h1)
      omega
/-- the same answer -/
theorem en_iff {S : St} (ho : Ok S) {w : Int} {g1 g2 : Nat → Nat} {t u : Nat} {y : Int} (ht : sb t (kdB S 0)) (hu : sb u (kdB S 1)) : lstZ S (gF S w g1) t u y = true ↔ ∀ q, sb q t → y ≤ (itZ S (gM S w g2 12) t u q : Int) := by
  have ht4 := lt_of_kd ho ht
  have hu4 := lt_of_kd ho hu
  have hn := ho.1
  rw [lst_iff ht4 hu4]
  unfold few many
  by_cases hpc : pc t < pc u
  · rw [if_pos hpc, if_pos hpc]
    have key : ∀ q, sb q t → cst S (gF S w g1) t u q = itZ S (gM S w g2 12) t u q := by
      intro q hq
      rw [it_W ho ht hu]
      show Wt S (andn t q) + Wt S (u &&& orU (gF S w g1) q 12) = _
      congr 2
      apply Nat.eq_of_testBit_eq
      intro i
      rw [Bool.eq_iff_iff, Nat.testBit_and, Nat.testBit_and, Bool.and_eq_true, Bool.and_eq_true, NC_top ho (sb_tr hq ht), NM_tb ho (sb_tr hq ht)]
      exact And.comm
    exact ⟨fun h q hq => by rw [← key q hq]; exact h q hq, fun h q hq => by rw [key q hq]; exact h q hq⟩
  · rw [if_neg hpc, if_neg hpc]
    constructor
    · intro h q hq
      have hq0 := sb_tr hq ht
      have h1 := h (andn u (orU (gF S w g1) q 12)) (fun i hi => ((an_tb hu4).mp hi).1)
      refine Int.le_trans h1 ?_
      rw [it_W ho ht hu]
      show ((Wt S (andn u (andn u (orU (gF S w g1) q 12))) + Wt S (t &&& orU (gF S w g1) (andn u (orU (gF S w g1) q 12)) 12) : Nat) : Int) ≤ _
      have a1 : Wt S (andn u (andn u (orU (gF S w g1) q 12))) ≤ Wt S (orU (gM S w g2 12) q (sN S) &&& u) := Wt_mono fun i hi => by
        obtain ⟨h2, h3⟩ := (an_tb hu4).mp hi
        rw [Nat.testBit_and, Bool.and_eq_true]
        refine ⟨?_, h2⟩
        rw [NM_tb ho hq0, ← NC_top (g := g1) ho hq0]
        cases hx : (orU (gF S w g1) q 12).testBit i with
        | true => rfl
        | false =>
          rw [(an_tb hu4).mpr ⟨h2, hx⟩] at h3
          cases h3
      have a2 : Wt S (t &&& orU (gF S w g1) (andn u (orU (gF S w g1) q 12)) 12) ≤ Wt S (andn t q) := Wt_mono fun i hi => by
        rw [Nat.testBit_and, Bool.and_eq_true, NC_bot ho (fun j hj => hu j ((an_tb hu4).mp hj).1)] at hi
        obtain ⟨h2, h3, j, h4, h5⟩ := hi
        obtain ⟨h6, h7⟩ := (an_tb hu4).mp h4
        refine (an_tb ht4).mpr ⟨h2, ?_⟩
        cases hx : q.testBit i with
        | false => rfl
        | true =>
          have h8 := (NC_top (w := w) (g := g1) ho hq0 (i := j)).mpr ⟨tb_lt12 hu4 h6, i, hx, h5⟩
          rw [h8] at h7
          cases h7
      omega
    · intro h q hq
      have hq0 := sb_tr hq hu
      have h1 := h (andn t (orU (gF S w g1) q 12)) (fun i hi => ((an_tb ht4).mp hi).1)
      refine Int.le_trans h1 ?_
      rw [it_W ho ht hu]
      show _ ≤ ((Wt S (andn u q) + Wt S (t &&& orU (gF S w g1) q 12) : Nat) : Int)
      have a1 : Wt S (andn t (andn t (orU (gF S w g1) q 12))) ≤ Wt S (t &&& orU (gF S w g1) q 12) := Wt_mono fun i hi => by
        obtain ⟨h2, h3⟩ := (an_tb ht4).mp hi
        rw [Nat.testBit_and, Bool.and_eq_true]
        refine ⟨h2, ?_⟩
        cases hx : (orU (gF S w g1) q 12).testBit i with
        | true => rfl
        | false =>
          rw [(an_tb ht4).mpr ⟨h2, hx⟩] at h3
          cases h3
      have a2 : Wt S (orU (gM S w g2 12) (andn t (orU (gF S w g1) q 12)) (sN S) &&& u) ≤ Wt S (andn u q) := Wt_mono fun i hi => by
        rw [Nat.testBit_and, Bool.and_eq_true, NM_tb ho (fun j hj => ht j ((an_tb ht4).mp hj).1)] at hi
        obtain ⟨⟨h3, j, h4, h5⟩, h2⟩ := hi
        obtain ⟨h6, h7⟩ := (an_tb ht4).mp h4
        refine (an_tb hu4).mpr ⟨h2, ?_⟩
        cases hx : q.testBit i with
        | false => rfl
        | true =>
          have h8 := (NC_bot (w := w) (g := g1) ho hq0 (i := j)).mpr ⟨tb_lt12 ht4 h6, i, hx, h5⟩
          rw [h8] at h7
          cases h7
      omega
theorem en_eq {S : St} (ho : Ok S) {w : Int} {g1 g2 : Nat → Nat} {u : Nat} {y : Int} (hu : u < 4096) : enZ S (gF S w g1) u y = enM S (gM S w g2 12) u y := by
  have h0 : sb (u &&& kdB S 0) (kdB S 0) := and_sb _ _
  have h1 : sb (u &&& kdB S 1) (kdB S 1) := and_sb _ _
  rw [Bool.eq_iff_iff]
  unfold enZ enM
  rw [en_iff (g2 := g2) ho h0 h1, decide_eq_true_eq, day_iff ho hu h0 h1]
