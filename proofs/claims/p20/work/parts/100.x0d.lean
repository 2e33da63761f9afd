theorem or_pow (x : Nat) {k : Nat} (hk : k < 31) : iZ x ||| (iZ 1 <<< (iZ (k : Int) &&& 31)) = iZ (x ||| 2 ^ k : Nat) := by
  have h1 : (2 : Nat) ^ k ≤ 2 ^ 31 := Nat.pow_le_pow_right (by decide) (by omega)
  rw [show (iZ 1 : Int32) = iZ ((1 : Nat) : Int) from rfl, z_shl (by omega) (by omega), z_or, Nat.one_mul]
/-- the partners so far: the pairs before the top T, and those of T before the bottom B -/
def prs (S : St) (w : Int) (T B t b : Nat) : Bool := prtZ S t b w && decide (t < T ∨ (t = T ∧ b < B))
def gP (S : St) (w : Int) (g : Nat → Nat) (T B : Nat) : Nat → Nat := fun j => if j < 12 then bits (fun i => prs S w T B j i || prs S w T B i j) 12 else g j
def gF (S : St) (w : Int) (g : Nat → Nat) : Nat → Nat := fun j => if j < 12 then bits (fun i => prtZ S j i w || prtZ S i j w) 12 else g j
def gZ (g : Nat → Nat) (k : Nat) : Nat → Nat := fun j => if j < k then 0 else g j
theorem prtZ_lt {S : St} {t b : Nat} {w : Int} (h : prtZ S t b w = true) : t < sN S ∧ b < sN S ∧ t ≠ b := by
  simp [prtZ, kdZ, hasZ, hasT] at h
  refine ⟨h.1.1.1.1.1, h.1.1.2.1.1, fun e => ?_⟩
  subst e
  have h1 := h.1.1.1.2
  have h2 := h.1.1.2.2
  omega
theorem gZ_0 (g : Nat → Nat) : gZ g 0 = g := by funext j; simp [gZ]
theorem gZ_s (g : Nat → Nat) (k : Nat) : fu (gZ g k) k 0 = gZ g (k + 1) := by
  funext j
  unfold fu gZ
  by_cases h : j = k
  · subst h; simp
  · have e : j < k + 1 ↔ j < k := by omega
    simp [h, e]
theorem bits_zero {p : Nat → Bool} : ∀ {n : Nat}, (∀ i, i < n → p i = false) → bits p n = 0
  | 0, _ => rfl
  | n + 1, h => by rw [bits_f (h n (Nat.lt_succ_self n)), bits_zero (fun i hi => h i (Nat.lt_succ_of_lt hi))]
theorem gP_0 (S : St) (w : Int) (g : Nat → Nat) : gZ g 12 = gP S w g 0 0 := by
  funext j
  unfold gZ gP
  by_cases h : j < 12
  · rw [if_pos h, if_pos h, bits_zero]
    intro i _
    simp [prs]
  · rw [if_neg h, if_neg h]
theorem prs_s {S : St} {w : Int} {T B t b : Nat} : prs S w T (B + 1) t b = (prs S w T B t b || (prtZ S t b w && decide (t = T ∧ b = B))) := by
  unfold prs
  cases prtZ S t b w with
  | false => rfl
  | true =>
    simp only [Bool.true_and]
    rw [Bool.eq_iff_iff]
    simp only [Bool.or_eq_true, decide_eq_true_eq]
    omega
theorem gP_f {S : St} {w : Int} {g : Nat → Nat} {T B : Nat} (h : prtZ S T B w = false) : gP S w g T (B + 1) = gP S w g T B := by
  have e : ∀ t b, prs S w T (B + 1) t b = prs S w T B t b := by
    intro t b
    rw [prs_s]
    by_cases q : t = T ∧ b = B
    · rw [q.1, q.2, h]; simp
    · simp [q]
  funext j
  unfold gP
  simp only [e]
theorem bits_or1 {p q : Nat → Bool} {n B : Nat} (hB : B < n) (h : ∀ i, i < n → q i = (p i || decide (i = B))) : bits p n ||| 2 ^ B = bits q n := by
  apply Nat.eq_of_testBit_eq
  intro i
  rw [Nat.testBit_or, bits_tb, bits_tb, Nat.testBit_two_pow]
  by_cases hi : i < n
  · rw [h i hi]
    simp [hi, eq_comm]
  · have h2 : ¬ B = i := by omega
    simp [hi, h2]
theorem gP_t {S : St} {w : Int} {g : Nat → Nat} {T B : Nat} (hT : T < 12) (hB : B < 12) (h : prtZ S T B w = true) : fu (fu (gP S w g T B) T (gP S w g T B T ||| 2 ^ B)) B (fu (gP S w g T B) T (gP S w g T B T ||| 2 ^ B) B ||| 2 ^ T) = gP S w g T (B + 1) := by
  have hne := (prtZ_lt h).2.2
  have hno : prtZ S B T w = false := by
    cases q : prtZ S B T w with
    | false => rfl
    | true =>
      simp [prtZ, kdZ] at h q
      have h1 := h.1.1.1.2
      have h2 := q.1.1.2.2
      omega
  funext j
  by_cases hj : j = B
  · subst hj
    have hne' : ¬ j = T := fun e => hne e.symm
    unfold fu
    rw [if_pos rfl, if_neg hne']
    unfold gP
    rw [if_pos hB, if_pos hB]
    refine bits_or1 hT fun i _ => ?_
    rw [prs_s, prs_s]
    by_cases q : i = T
    · subst q
      simp [h, hne']
    · simp [q, hne']
  · by_cases hj2 : j = T
    · subst hj2
      unfold fu
      rw [if_neg hne, if_pos rfl]
      unfold gP
      rw [if_pos hT, if_pos hT]
      refine bits_or1 hB fun i _ => ?_
      rw [prs_s, prs_s]
      by_cases q : i = B
      · subst q
        simp [h]
      · simp [q, hne]
    · unfold fu
      rw [if_neg hj, if_neg hj2]
      unfold gP
      by_cases h12 : j < 12
      · rw [if_pos h12, if_pos h12]
        refine bits_cong fun i _ => ?_
        rw [prs_s, prs_s]
        simp [hj, hj2]
      · rw [if_neg h12, if_neg h12]
theorem gP_n {S : St} {w : Int} {g : Nat → Nat} {T : Nat} : gP S w g T (sN S) = gP S w g (T + 1) 0 := by
  have e : ∀ t b, prs S w T (sN S) t b = prs S w (T + 1) 0 t b := by
    intro t b
    unfold prs
    cases h : prtZ S t b w with
    | false => rfl
    | true =>
      have h2 := (prtZ_lt h).2.1
      simp only [Bool.true_and]
      rw [Bool.eq_iff_iff]
      simp only [decide_eq_true_eq]
      omega
  funext j
  unfold gP
  simp only [e]
theorem gP_end {S : St} {w : Int} {g : Nat → Nat} : gP S w g (sN S) 0 = gF S w g := by
  have e : ∀ t b, prs S w (sN S) 0 t b = prtZ S t b w := by
    intro t b
    unfold prs
    cases h : prtZ S t b w with
    | false => rfl
    | true =>
      have h2 := (prtZ_lt h).1
      simp [h2]
  funext j
  unfold gP gF
  simp only [e]
theorem gF_lt {S : St} {w : Int} {g : Nat → Nat} (hg : ∀ j, g j < 4096) (j : Nat) : gF S w g j < 4096 := by
  unfold gF
  split
  · exact bits_lt _ 12
  · exact hg j
theorem hin_X0_findPartners : ∀ w ∈ wsX00, w ∈ wsX0_findPartners := by decide +kernel
theorem f_X0_findPartners_31 : Cond.fieldLink RX0 31 (TX0 11).1 (TX0 11).2.1 (TX0 11).2.2.1 ∈ wsX0_findPartners := by decide +kernel
theorem f_X0_findPartners_52 : Cond.fieldLink RX0 52 (TX0 6).1 (TX0 6).2.1 (TX0 6).2.2.1 ∈ wsX0_findPartners := by decide +kernel
set_option maxRecDepth 100000 in
set_option maxHeartbeats 4000000 in
theorem lp_X0_findPartners_33 {a : Nat → Nat} {c : Nat → ClassId} {S : St} {g : Nat → Nat} (ho : Ok S) (w : Int) (rw : -2147483648 ≤ w ∧ w < 2147483648) (T : Nat) (hT : T < sN S) (kk : V RX0 cX0_findPartners 4 (none) wsX0_findPartners (rmD 5) vX0 (tyk c) (qV (tyk c) (wkc a c S (gF S w g)) 0 0) 0 0 (wkc a c S (gP S w g T (sN S))) 81 [(0, .ref (a 0)), (1, .int (iZ w)), (2, .int (iZ T))] []) : ∀ (m k : Nat), k ≤ sN S → sN S + 1 ≤ k + m → V RX0 cX0_findPartners 4 (none) wsX0_findPartners (rmD 5) vX0 (tyk c) (qV (tyk c) (wkc a c S (gF S w g)) 0 0) 0 0 (wkc a c S (gP S w g T k)) 33 [(0, .ref (a 0)), (1, .int (iZ w)), (2, .int (iZ T)), (3, .int (iZ k))] [] := by
  intro m
  induction m with
  | zero => intro k  h1 h2 ; exact absurd h2 (by omega)
  | succ m ih =>
    intro k  h1 h2 
    have hn := ho.1
    have rw' := rw
    refine V_iload_n (q := 34) dX0_findPartners_33 3 rfl rfl ?_
    refine V_aload_n (q := 35) dX0_findPartners_34 0 rfl rfl ?_
    refine V_get (q := 38) dX0_findPartners_35 hin_X0_findPartners 0 rfl rfl 6 (by decide) f_X0_findPartners_52 rfl rfl ?_
    refine V_icmp_ge (q := 41) (tgt := 81) dX0_findPartners_38 (by omega) (by omega) (by decide) (fun c38 => ?_) (fun c38 => ?_)
    · skip
      refine V_loc (lv' := [(0, _), (1, _), (2, _)]) [0, 1, 2] rfl ?_
      obtain rfl : k = sN S := by omega
      exact kk
    · skip
      refine V_aload_n (q := 42) dX0_findPartners_41 0 rfl rfl ?_
      refine V_iload_n (q := 43) dX0_findPartners_42 2 rfl rfl ?_
      refine V_iload_n (q := 44) dX0_findPartners_43 3 rfl rfl ?_
      refine V_iload_n (q := 45) dX0_findPartners_44 1 rfl rfl ?_
      refine V_callIv (q := 48) dX0_findPartners_45 (c_X0_arePartners ho T k w (by omega) (by omega) rw') yv_X0_arePartners rfl gX0_findPartners_X0_arePartners rfl 0 rfl rfl rfl rfl (Nat.le_of_ble_eq_true rfl) (by decide) ?_
      refine V_if_eqB (q := 51) (tgt := 75) dX0_findPartners_48 (by decide) (fun c48 => ?_) (fun c48 => ?_)
      · skip
        rw [← gP_f (g := g) c48]
        refine V_iinc (q := 78) (lv' := [(0, _), (1, _), (2, _), (3, _)]) dX0_findPartners_75 3 rfl (rfl) (by decide) rfl rfl ?_
        refine V_goto (tgt := 33) dX0_findPartners_78 (by decide) ?_
        exact ih (k + 1) (by omega) (by omega)
      · skip
        refine V_aload_n (q := 52) dX0_findPartners_51 0 rfl rfl ?_
        refine V_get (q := 55) dX0_findPartners_52 hin_X0_findPartners 0 rfl rfl 11 (by decide) f_X0_findPartners_31 rfl rfl ?_
        refine V_iload_n (q := 56) dX0_findPartners_55 2 rfl rfl ?_
        refine V_dup2 (q := 57) dX0_findPartners_56 rfl rfl rfl ?_
        refine V_iald (q := 58) dX0_findPartners_57 8 7 rfl rfl (T) (rfl) (by omega) (by decide) (rfl) rfl ?_
        refine V_iconst (q := 59) dX0_findPartners_58 rfl ?_
        refine V_iload_n (q := 60) dX0_findPartners_59 3 rfl rfl ?_
        refine V_ishl (q := 61) dX0_findPartners_60 rfl ?_
        refine V_ior (q := 62) dX0_findPartners_61 rfl ?_
        refine V_top (or_pow _ (by omega)) ?_
        refine V_iast (q := 63) (ws' := wkc a c S (fu (gP S w g T k) T (gP S w g T k T ||| 2 ^ k))) dX0_findPartners_62 8 7 rfl rfl (T) (rfl) (by omega) (by decide) (by rw [iF_upd _ rfl, wk8]) rfl ?_
        refine V_aload_n (q := 64) dX0_findPartners_63 0 rfl rfl ?_
        refine V_get (q := 67) dX0_findPartners_64 hin_X0_findPartners 0 rfl rfl 11 (by decide) f_X0_findPartners_31 rfl rfl ?_
        refine V_iload_n (q := 68) dX0_findPartners_67 3 rfl rfl ?_
        refine V_dup2 (q := 69) dX0_findPartners_68 rfl rfl rfl ?_
        refine V_iald (q := 70) dX0_findPartners_69 8 7 rfl rfl (k) (rfl) (by omega) (by decide) (rfl) rfl ?_
        refine V_iconst (q := 71) dX0_findPartners_70 rfl ?_
        refine V_iload_n (q := 72) dX0_findPartners_71 2 rfl rfl ?_
        refine V_ishl (q := 73) dX0_findPartners_72 rfl ?_
        refine V_ior (q := 74) dX0_findPartners_73 rfl ?_
        refine V_top (or_pow _ (by omega)) ?_
        refine V_iast (q := 75) (ws' := wkc a c S (gP S w g T (k + 1))) dX0_findPartners_74 8 7 rfl rfl (k) (rfl) (by omega) (by decide) (by rw [iF_upd _ rfl, wk8, gP_t (by omega) (by omega) c48]) rfl ?_
        refine V_iinc (q := 78) (lv' := [(0, _), (1, _), (2, _), (3, _)]) dX0_findPartners_75 3 rfl (rfl) (by decide) rfl rfl ?_
        refine V_goto (tgt := 33) dX0_findPartners_78 (by decide) ?_
        exact ih (k + 1) (by omega) (by omega)
set_option maxRecDepth 100000 in
set_option maxHeartbeats 4000000 in
theorem lp_X0_findPartners_23 {a : Nat → Nat} {c : Nat → ClassId} {S : St} {g : Nat → Nat} (ho : Ok S) (w : Int) (rw : -2147483648 ≤ w ∧ w < 2147483648) : ∀ (m k : Nat), k ≤ sN S → sN S + 1 ≤ k + m → V RX0 cX0_findPartners 4 (none) wsX0_findPartners (rmD 5) vX0 (tyk c) (qV (tyk c) (wkc a c S (gF S w g)) 0 0) 0 0 (wkc a c S (gP S w g k 0)) 23 [(0, .ref (a 0)), (1, .int (iZ w)), (2, .int (iZ k))] [] := by
  intro m
  induction m with
  | zero => intro k  h1 h2 ; exact absurd h2 (by omega)
  | succ m ih =>
    intro k  h1 h2 
    have hn := ho.1
    have rw' := rw
    refine V_iload_n (q := 24) dX0_findPartners_23 2 rfl rfl ?_
    refine V_aload_n (q := 25) dX0_findPartners_24 0 rfl rfl ?_
    refine V_get (q := 28) dX0_findPartners_25 hin_X0_findPartners 0 rfl rfl 6 (by decide) f_X0_findPartners_52 rfl rfl ?_
    refine V_icmp_ge (q := 31) (tgt := 87) dX0_findPartners_28 (by omega) (by omega) (by decide) (fun c28 => ?_) (fun c28 => ?_)
    · skip
      exact V_vret dX0_findPartners_87 rfl (by rw [show k = sN S by omega, gP_end])
    · skip
      refine V_iconst (q := 32) dX0_findPartners_31 rfl ?_
      refine V_istore_n (q := 33) (lv' := [(0, _), (1, _), (2, _), (3, _)]) dX0_findPartners_32 (by decide) rfl rfl ?_
      refine lp_X0_findPartners_33 (g := g) ho w rw' k (by omega) ?_ (sN S + 1) 0 (by omega) (by omega)
      rw [gP_n]
      refine V_iinc (q := 84) (lv' := [(0, _), (1, _), (2, _)]) dX0_findPartners_81 2 rfl (rfl) (by decide) rfl rfl ?_
      refine V_goto (tgt := 23) dX0_findPartners_84 (by decide) ?_
      exact ih (k + 1) (by omega) (by omega)
set_option maxRecDepth 100000 in
set_option maxHeartbeats 4000000 in
theorem lp_X0_findPartners_2 {a : Nat → Nat} {c : Nat → ClassId} {S : St} {g : Nat → Nat} (ho : Ok S) (w : Int) (rw : -2147483648 ≤ w ∧ w < 2147483648) : ∀ (m k : Nat), k ≤ 12 → 12 + 1 ≤ k + m → V RX0 cX0_findPartners 4 (none) wsX0_findPartners (rmD 5) vX0 (tyk c) (qV (tyk c) (wkc a c S (gF S w g)) 0 0) 0 0 (wkc a c S (gZ g k)) 2 [(0, .ref (a 0)), (1, .int (iZ w)), (2, .int (iZ k))] [] := by
  intro m
  induction m with
  | zero => intro k  h1 h2 ; exact absurd h2 (by omega)
  | succ m ih =>
    intro k  h1 h2 
    have rw' := rw
    refine V_iload_n (q := 3) dX0_findPartners_2 2 rfl rfl ?_
    refine V_bipush (q := 5) dX0_findPartners_3 (by decide) rfl ?_
    refine V_icmp_ge (q := 8) (tgt := 21) dX0_findPartners_5 (by omega) (by omega) (by decide) (fun c5 => ?_) (fun c5 => ?_)
    · skip
      obtain rfl : k = 12 := by omega
      rw [gP_0 S w g]
      refine V_loc (lv' := [(0, _), (1, _)]) [0, 1] rfl ?_
      refine V_iconst (q := 22) dX0_findPartners_21 rfl ?_
      refine V_istore_n (q := 23) (lv' := [(0, _), (1, _), (2, _)]) dX0_findPartners_22 (by decide) rfl rfl ?_
      exact lp_X0_findPartners_23 ho w rw' (sN S + 1) 0 (by omega) (by omega)
    · skip
      refine V_aload_n (q := 9) dX0_findPartners_8 0 rfl rfl ?_
      refine V_get (q := 12) dX0_findPartners_9 hin_X0_findPartners 0 rfl rfl 11 (by decide) f_X0_findPartners_31 rfl rfl ?_
      refine V_iload_n (q := 13) dX0_findPartners_12 2 rfl rfl ?_
      refine V_iconst (q := 14) dX0_findPartners_13 rfl ?_
      refine V_iast (q := 15) (ws' := wkc a c S (gZ g (k + 1))) dX0_findPartners_14 8 7 rfl rfl (k) (rfl) (by omega) (by decide) (by rw [show (iZ 0 : Int32) = iZ ((0 : Nat) : Int) from rfl, iF_upd 0 rfl, wk8, gZ_s]) rfl ?_
      refine V_iinc (q := 18) (lv' := [(0, _), (1, _), (2, _)]) dX0_findPartners_15 2 rfl (rfl) (by decide) rfl rfl ?_
      refine V_goto (tgt := 2) dX0_findPartners_18 (by decide) ?_
      exact ih (k + 1) (by omega) (by omega)
theorem yv_X0_findPartners : YV yX0_findPartners wsX0_findPartners 1 := ⟨_, _, _, _, rfl, by decide +kernel, by decide⟩
set_option maxRecDepth 100000 in
set_option maxHeartbeats 4000000 in
theorem c_X0_findPartners {a : Nat → Nat} {c : Nat → ClassId} {S : St} {g : Nat → Nat} (ho : Ok S) (w : Int) (rw : -2147483648 ≤ w ∧ w < 2147483648) : CtV yX0_findPartners wsX0_findPartners (rmD 5) (tyk c) [.ref (a 0), .int (iZ w)] (wkc a c S g) (wkc a c S (gF S w g)) := by
  refine CtV_of (own := RX0) (by decide) rfl rfl (Nat.le_of_ble_eq_true rfl) ?_
  refine V_lvq (lv' := [(0, _), (1, _)]) rfl ?_
  refine V_iconst (q := 1) dX0_findPartners_0 rfl ?_
  refine V_istore_n (q := 2) (lv' := [(0, _), (1, _), (2, _)]) dX0_findPartners_1 (by decide) rfl rfl ?_
  refine V_ws (ws' := wkc a c S (gZ g 0)) (by rw [gZ_0]) ?_
  exact lp_X0_findPartners_2 ho w rw 13 0 (by omega) (by omega)
/-- the parts of a set as numbers, upwards -/
def sq (w : Nat) : Nat → Nat
  | 0 => 0
  | i + 1 => nxp (sq w i) w
theorem sq_lt {w : Nat} (h : w < 4096) : ∀ i, sq w i < 4096
  | 0 => Nat.zero_lt_succ _
  | i + 1 => by
    show nxp (sq w i) w < 4096
    unfold nxp
    exact Nat.lt_of_le_of_lt Nat.and_le_right h
def cst (S : St) (g : Nat → Nat) (few many x : Nat) : Nat := sm (lfI S (andn few x)) 12 + sm (lfI S (many &&& orU g x 12)) 12
def lsP (S : St) (g : Nat → Nat) (few many : Nat) (days : Int) : Nat → Bool := fun i => decide ((cst S g few many (sq few i) : Int) < days)
theorem lsP_f {S : St} {g : Nat → Nat} {few many i : Nat} {days : Int} (h : ¬ ((cst S g few many (sq few i) : Nat) : Int) < days) : lsP S g few many days i = false := decide_eq_false h
theorem lsP_t {S : St} {g : Nat → Nat} {few many i : Nat} {days : Int} (h : ((cst S g few many (sq few i) : Nat) : Int) < days) : lsP S g few many days i = true := decide_eq_true h
def few (t b : Nat) : Nat := if pc t < pc b then t else b
def many (t b : Nat) : Nat := if pc t < pc b then b else t
def lstZ (S : St) (g : Nat → Nat) (t b : Nat) (days : Int) : Bool := !(exB (lsP S g (few t b) (many t b) days) (2 ^ pc (few t b)))
theorem lfI_le {S : St} (ho : Ok S) (x : Nat) : sm (lfI S x) 12 ≤ 108 := by
  refine sm_le (c := 9) fun i _ => ?_
  have h1 := ho.2.2.2.2.2.2.2.1 i
  have h2 := ho.2.2.2.2.2.1 i
  unfold lfI
  split <;> omega
theorem few_lt {t b n : Nat} (ht : t < n) (hb : b < n) : few t b < n := by unfold few; split <;> assumption
theorem many_lt {t b n : Nat} (ht : t < n) (hb : b < n) : many t b < n := by unfold many; split <;> assumption
set_option maxRecDepth 100000 in
set_option maxHeartbeats 4000000 in
theorem lp_X0_lasts {a : Nat → Nat} {c : Nat → ClassId} {S : St} {g : Nat → Nat} (ho : Ok S) (f n : Nat) (days : Int) (hf : f < 4096) (hn : n < 4096) (rdays : -2147483648 ≤ days ∧ days < 2147483648) : ∀ (m k : Nat), k ≤ 2 ^ pc f → 2 ^ pc f + 1 ≤ k + m → (exB (lsP S g f n days) k = false) → V RX0 cX0_lasts 9 (some .boolean) wsX0_lasts (rmD 1) vX0 (tyk c) (qI (tyk c) (wkc a c S g) (iZ (bZ (!(exB (lsP S g f n days) (2 ^ pc f))))) 0 0) 0 0 (wkc a c S g) 54 [(0, .ref (a 0)), (3, .int (iZ days)), (5, .int (iZ f)), (6, .int (iZ n)), (7, .int (iZ (sq f k : Nat))), (8, .int (iZ (2 ^ pc f - k : Nat)))] [] := by
  intro m
  induction m with
  | zero => intro k  h1 h2 i0; exact absurd h2 (by omega)
  | succ m ih =>
    intro k  h1 h2 i0
    have h4 : 2 ^ pc f ≤ 4096 := Nat.pow_le_pow_right (n := 2) (by decide) (pc_le f)
    have y1 := lfI_le ho (andn f (sq f k))
    have y2 := lfI_le ho (n &&& orU g (sq f k) 12)
    refine V_iload (q := 56) dX0_lasts_54 5 rfl rfl ?_
    refine V_if_le (q := 59) (tgt := 105) dX0_lasts_56 (by omega) (by decide) (fun c56 => ?_) (fun c56 => ?_)
    · skip
      refine V_iconst (q := 106) dX0_lasts_105 rfl ?_
      exact V_zret dX0_lasts_106 rfl (bZ_t (by rw [show 2 ^ pc f = k by omega, i0]; rfl)) (rfl)
    · skip
      refine V_aload_n (q := 60) dX0_lasts_59 0 rfl rfl ?_
      refine V_iload (q := 62) dX0_lasts_60 2 rfl rfl ?_
      refine V_iload (q := 64) dX0_lasts_62 4 rfl rfl ?_
      refine V_iconst (q := 65) dX0_lasts_64 rfl ?_
      refine V_ixor (q := 66) dX0_lasts_65 rfl ?_
      refine V_iand (q := 67) dX0_lasts_66 rfl ?_
      refine V_top (z_andn _ _) ?_
      refine V_callIv (q := 70) dX0_lasts_67 (c_X0_wearsLeftIn (andn f (sq f k)) (andn_lt (n := 12) hf)) yv_X0_wearsLeftIn rfl gX0_lasts_X0_wearsLeftIn rfl 0 rfl rfl rfl rfl (Nat.le_of_ble_eq_true rfl) (by decide) ?_
      refine V_aload_n (q := 71) dX0_lasts_70 0 rfl rfl ?_
      refine V_iload (q := 73) dX0_lasts_71 3 rfl rfl ?_
      refine V_aload_n (q := 74) dX0_lasts_73 0 rfl rfl ?_
      refine V_iload (q := 76) dX0_lasts_74 4 rfl rfl ?_
      refine V_callIv (q := 79) dX0_lasts_76 (c_X0_partnersOf (sq f k) (sq_lt hf k)) yv_X0_partnersOf rfl gX0_lasts_X0_partnersOf rfl 0 rfl rfl rfl rfl (Nat.le_of_ble_eq_true rfl) (by decide) ?_
      refine V_iand (q := 80) dX0_lasts_79 rfl ?_
      refine V_top (z_and _ _) ?_
      refine V_callIv (q := 83) dX0_lasts_80 (c_X0_wearsLeftIn (n &&& orU g (sq f k) 12) (and_lt (n := 12) hn)) yv_X0_wearsLeftIn rfl gX0_lasts_X0_wearsLeftIn rfl 0 rfl rfl rfl rfl (Nat.le_of_ble_eq_true rfl) (by decide) ?_
      refine V_iadd (q := 84) dX0_lasts_83 rfl ?_
      refine V_iload_n (q := 85) dX0_lasts_84 1 rfl rfl ?_
      refine V_icmp_ge (q := 88) (tgt := 90) dX0_lasts_85 (by omega) (rdays) (by decide) (fun c85 => ?_) (fun c85 => ?_)
      · skip
        have e9 : exB (lsP S g f n days) (k + 1) = false := exB_s i0 (lsP_f (by unfold cst; omega))
        refine V_iload (q := 92) dX0_lasts_90 4 rfl rfl ?_
        refine V_iload (q := 94) dX0_lasts_92 2 rfl rfl ?_
        refine V_callIs (q := 97) dX0_lasts_94 (c_X0_nextPart (sq f k) f (by omega)) yv_X0_nextPart rfl gX0_lasts_X0_nextPart rfl (Nat.le_of_ble_eq_true rfl) (by decide) ?_
        refine V_istore (q := 99) (lv' := [(0, _), (3, _), (5, _), (6, _), (7, _), (8, _)]) dX0_lasts_97 (by decide) rfl rfl ?_
        refine V_iinc (q := 102) (y := ((2 ^ pc f - (k + 1) : Nat) : Int)) (lv' := [(0, _), (3, _), (5, _), (6, _), (7, _), (8, _)]) dX0_lasts_99 5 rfl (by omega) (by decide) rfl rfl ?_
        refine V_goto (tgt := 54) dX0_lasts_102 (by decide) ?_
        exact ih (k + 1) (by omega) (by omega) e9
      · skip
        have e8 : exB (lsP S g f n days) (2 ^ pc f) = true := exB_hit (i := k) (by omega) (lsP_t (by unfold cst; omega))
        refine V_iconst (q := 89) dX0_lasts_88 rfl ?_
        exact V_zret dX0_lasts_89 rfl (bZ_f (by rw [e8]; rfl)) (rfl)
theorem yv_X0_lasts : YV yX0_lasts wsX0_lasts 3 := ⟨_, _, _, _, rfl, by decide +kernel, by decide⟩
set_option maxRecDepth 100000 in
set_option maxHeartbeats 4000000 in
theorem c_X0_lasts {a : Nat → Nat} {c : Nat → ClassId} {S : St} {g : Nat → Nat} (ho : Ok S) (t b : Nat) (days : Int) (ht : t < 4096) (hb : b < 4096) (rdays : -2147483648 ≤ days ∧ days < 2147483648) : CtI yX0_lasts wsX0_lasts (rmD 1) (tyk c) [.ref (a 0), .int (iZ t), .int (iZ b), .int (iZ days)] (wkc a c S g) (iZ (bZ (lstZ S g t b days))) (wkc a c S g) := by
  refine CtI_of (own := RX0) (by decide) rfl rfl (Nat.le_of_ble_eq_true rfl) ?_
  refine V_lvq (lv' := [(0, _), (1, _), (2, _), (3, _)]) rfl ?_
  refine V_cut (M := 16) (iZ (bZ (decide (pc t < pc b)))) ?_ (fun k16 => ?_)
  · -- from the merge
    refine V_istore (q := 18) (lv' := [(0, _), (1, _), (2, _), (3, _), (4, _)]) dX0_lasts_16 (by decide) rfl rfl ?_
    refine V_cut (M := 28) (iZ (few t b : Nat)) ?_ (fun k28 => ?_)
    · -- from the merge
      refine V_istore (q := 30) (lv' := [(0, _), (1, _), (2, _), (3, _), (4, _), (5, _)]) dX0_lasts_28 (by decide) rfl rfl ?_
      refine V_cut (M := 40) (iZ (many t b : Nat)) ?_ (fun k40 => ?_)
      · -- from the merge
        refine V_istore (q := 42) (lv' := [(0, _), (1, _), (2, _), (3, _), (4, _), (5, _), (6, _)]) dX0_lasts_40 (by decide) rfl rfl ?_
        refine V_iconst (q := 43) dX0_lasts_42 rfl ?_
        refine V_istore (q := 45) (lv' := [(0, _), (1, _), (2, _), (3, _), (4, _), (5, _), (6, _), (7, _)]) dX0_lasts_43 (by decide) rfl rfl ?_
        refine V_iconst (q := 46) dX0_lasts_45 rfl ?_
        refine V_iload (q := 48) dX0_lasts_46 5 rfl rfl ?_
        refine V_callIs (q := 51) dX0_lasts_48 (c_J6_bitCount_0f7a4 (few t b) (few_lt ht hb)) yv_J6_bitCount_0f7a4 rfl gX0_lasts_J6_bitCount_0f7a4 rfl (Nat.le_of_ble_eq_true rfl) (by decide) ?_
        refine V_ishl (q := 52) dX0_lasts_51 rfl ?_
        refine V_top (y := iZ (2 ^ pc (few t b) - 0 : Nat)) (by have h4 : 2 ^ pc (few t b) ≤ 4096 := Nat.pow_le_pow_right (n := 2) (by decide) (pc_le _); rw [show (iZ 1 : Int32) = iZ ((1 : Nat) : Int) from rfl, z_shl (by have := pc_le (few t b); omega) (by omega), Nat.one_mul]; rfl) ?_
        refine V_istore (q := 54) (lv' := [(0, _), (1, _), (2, _), (3, _), (4, _), (5, _), (6, _), (7, _), (8, _)]) dX0_lasts_52 (by decide) rfl rfl ?_
        refine V_loc (lv' := [(0, _), (3, _), (5, _), (6, _), (7, _), (8, _)]) [0, 3, 5, 6, 7, 8] rfl ?_
        exact lp_X0_lasts ho (few t b) (many t b) days (few_lt ht hb) (many_lt ht hb) rdays (2 ^ pc (few t b) + 1) 0 (Nat.zero_le _) (by rw [Nat.zero_add]; exact Nat.le_refl _) rfl
      · -- the ways to it
        refine V_iload (q := 32) dX0_lasts_30 4 rfl rfl ?_
        refine V_if_eqB (q := 35) (tgt := 39) dX0_lasts_32 (by decide) (fun c32 => ?_) (fun c32 => ?_)
        · skip
          refine V_iload_n (q := 40) dX0_lasts_39 1 rfl rfl ?_
          exact k40 _ (by simp only [decide_eq_true_eq, decide_eq_false_iff_not] at c32; simp [many, c32])
        · skip
          refine V_iload_n (q := 36) dX0_lasts_35 2 rfl rfl ?_
          refine V_goto (tgt := 40) dX0_lasts_36 (by decide) ?_
          exact k40 _ (by simp only [decide_eq_true_eq, decide_eq_false_iff_not] at c32; simp [many, c32])
    · -- the ways to it
      refine V_iload (q := 20) dX0_lasts_18 4 rfl rfl ?_
      refine V_if_eqB (q := 23) (tgt := 27) dX0_lasts_20 (by decide) (fun c20 => ?_) (fun c20 => ?_)
      · skip
        refine V_iload_n (q := 28) dX0_lasts_27 2 rfl rfl ?_
        exact k28 _ (by simp only [decide_eq_true_eq, decide_eq_false_iff_not] at c20; simp [few, c20])
      · skip
        refine V_iload_n (q := 24) dX0_lasts_23 1 rfl rfl ?_
        refine V_goto (tgt := 28) dX0_lasts_24 (by decide) ?_
        exact k28 _ (by simp only [decide_eq_true_eq, decide_eq_false_iff_not] at c20; simp [few, c20])
  · -- the ways to it
    refine V_iload_n (q := 1) dX0_lasts_0 1 rfl rfl ?_
    refine V_callIs (q := 4) dX0_lasts_1 (c_J6_bitCount_0f7a4 t ht) yv_J6_bitCount_0f7a4 rfl gX0_lasts_J6_bitCount_0f7a4 rfl (Nat.le_of_ble_eq_true rfl) (by decide) ?_
    refine V_iload_n (q := 5) dX0_lasts_4 2 rfl rfl ?_
    refine V_callIs (q := 8) dX0_lasts_5 (c_J6_bitCount_0f7a4 b hb) yv_J6_bitCount_0f7a4 rfl gX0_lasts_J6_bitCount_0f7a4 rfl (Nat.le_of_ble_eq_true rfl) (by decide) ?_
    refine V_icmp_ge (q := 11) (tgt := 15) dX0_lasts_8 (by have q1 := pc_le t; omega) (by have q1 := pc_le b; omega) (by decide) (fun c8 => ?_) (fun c8 => ?_)
    · skip
      refine V_iconst (q := 16) dX0_lasts_15 rfl ?_
      exact k16 _ (by first | exact bZ_t (by simp; omega) | exact bZ_f (by simp; omega))
    · skip
      refine V_iconst (q := 12) dX0_lasts_11 rfl ?_
      refine V_goto (tgt := 16) dX0_lasts_12 (by decide) ?_
      exact k16 _ (by first | exact bZ_t (by simp; omega) | exact bZ_f (by simp; omega))
