theorem lftZ_le {S : St} (ho : Ok S) (x : Int) : lftZ S x ≤ 9 := by
  have h1 := ho.2.2.2.2.2.2.2.1 x.toNat
  have h2 := ho.2.2.2.2.2.1 x.toNat
  unfold lftZ
  split <;> omega
theorem wrmZ_le {S : St} (ho : Ok S) (x : Int) : wrmZ S x ≤ 10 := by
  have h1 := ho.2.2.2.2.1 x.toNat
  unfold wrmZ
  split <;> omega
theorem lftZ_pos {S : St} {x : Int} (h : 0 < (lftZ S x : Int)) : hasZ S x = true ∧ lftZ S x = sL S x.toNat := by
  unfold lftZ at h ⊢
  by_cases h2 : hasZ S x = true
  · exact ⟨h2, by rw [if_pos h2]⟩
  · rw [if_neg h2] at h
    exact absurd h (by decide)
/-- worn once; made clean -/
def wo (S : St) (x : Int) : St := if 0 < lftZ S x then uL S (fu (sL S) x.toNat (sL S x.toNat - 1)) else S
def mc (S : St) (x : Int) : St := if hasZ S x then uL S (fu (sL S) x.toNat (sM S x.toNat)) else S
theorem iF_upd {f : Nat → Nat} {j : Nat} {z : Int} (v : Nat) (h : z = (v : Int)) : upd (iF f) j (iZ z) = iF (fu f j v) := by
  subst h
  funext k
  unfold upd fu iF
  by_cases hk : k = j <;> simp [hk]
theorem zF_upd {f : Nat → Bool} {j : Nat} {b : Bool} : upd (zF f) j (iZ (bZ b)) = zF (fu f j b) := by
  funext k
  unfold upd fu zF
  by_cases hk : k = j <;> simp [hk]
theorem l_shl : ∀ k, k < 64 → Int64.ofNat 1 <<< ((nI k).toInt64 &&& 63) = lN (2 ^ k) := by decide +kernel
theorem lg_cmp0 (x y : Int64) : lg_cmp x y = 0 ↔ x = y := by
  unfold lg_cmp
  rcases Int.lt_trichotomy x.toInt y.toInt with h | h | h
  · have h1 : x < y := Int64.lt_iff_toInt_lt.mpr h
    have h2 : ¬ y < x := fun q => by have := Int64.lt_iff_toInt_lt.mp q; omega
    have h3 : ¬ x = y := fun q => by subst q; omega
    simp [h1, h2, h3]
  · have h1 : x = y := Int64.toInt_inj.mp h
    subst h1
    have h2 : ¬ x < x := fun q => by have := Int64.lt_iff_toInt_lt.mp q; omega
    simp [h2]
  · have h1 : y < x := Int64.lt_iff_toInt_lt.mpr h
    have h3 : ¬ x = y := fun q => by subst q; omega
    simp [h1, h3]
theorem nat_and_pow (x i : Nat) : x &&& 2 ^ i = if x.testBit i then 2 ^ i else 0 := by
  apply Nat.eq_of_testBit_eq
  intro j
  rw [Nat.testBit_and, Nat.testBit_two_pow]
  by_cases h : i = j
  · subst h
    cases hx : x.testBit i <;> simp
  · cases hx : x.testBit i <;> simp [h, Nat.testBit_two_pow]
theorem lN_and (a b : Nat) : lN a &&& lN b = lN (a &&& b) := by
  apply Int64.toBitVec.inj
  show (BitVec.ofNat 64 a) &&& (BitVec.ofNat 64 b) = BitVec.ofNat 64 (a &&& b)
  exact (BitVec.ofNat_and ..).symm
theorem lN_or (a b : Nat) : lN a ||| lN b = lN (a ||| b) := by
  apply Int64.toBitVec.inj
  show (BitVec.ofNat 64 a) ||| (BitVec.ofNat 64 b) = BitVec.ofNat 64 (a ||| b)
  exact (BitVec.ofNat_or ..).symm
theorem lN_ne0 : ∀ i, i < 64 → lN (2 ^ i) ≠ 0 := by decide +kernel
theorem cl_bit (S : St) {i : Nat} (hi : i < 64) : clL S &&& lN (2 ^ i) = 0 ↔ sX S i = false := by
  unfold clL
  rw [lN_and, nat_and_pow, bits_tb]
  have h := lN_ne0 i hi
  cases hx : sX S i <;> simp [hi, h]
  rfl
theorem hin_X0_wearsLeftOf : ∀ w ∈ wsX00, w ∈ wsX0_wearsLeftOf := by decide +kernel
theorem f_X0_wearsLeftOf_25 : Cond.fieldLink RX0 25 (TX0 5).1 (TX0 5).2.1 (TX0 5).2.2.1 ∈ wsX0_wearsLeftOf := by decide +kernel
theorem yv_X0_wearsLeftOf : YV yX0_wearsLeftOf wsX0_wearsLeftOf 1 := ⟨_, _, _, _, rfl, by decide +kernel, by decide⟩
set_option maxRecDepth 100000 in
set_option maxHeartbeats 4000000 in
theorem c_X0_wearsLeftOf {a : Nat → Nat} {c : Nat → ClassId} {S : St} {g : Nat → Nat} (ho : Ok S) (x : Int) (rx : -2147483648 ≤ x ∧ x < 2147483648) : CtI yX0_wearsLeftOf wsX0_wearsLeftOf (rmD 2) (tyk c) [.ref (a 0), .int (iZ x)] (wkc a c S g) (iZ (lftZ S x)) (wkc a c S g) := by
  refine CtI_of (own := RX0) (by decide) rfl rfl (Nat.le_of_ble_eq_true rfl) ?_
  refine V_lvq (lv' := [(0, _), (1, _)]) rfl ?_
  refine V_aload_n (q := 1) dX0_wearsLeftOf_0 0 rfl rfl ?_
  refine V_iload_n (q := 2) dX0_wearsLeftOf_1 1 rfl rfl ?_
  refine V_callIv (q := 5) dX0_wearsLeftOf_2 (c_X0_isThing ho x rx) yv_X0_isThing rfl gX0_wearsLeftOf_X0_isThing rfl 0 rfl rfl rfl rfl (Nat.le_of_ble_eq_true rfl) (by decide) ?_
  refine V_if_eqB (q := 8) (tgt := 17) dX0_wearsLeftOf_5 (by decide) (fun c5 => ?_) (fun c5 => ?_)
  · skip
    refine V_iconst (q := 18) dX0_wearsLeftOf_17 rfl ?_
    exact V_iret dX0_wearsLeftOf_18 rfl (by simp [lftZ, *]) (rfl)
  · skip
    obtain ⟨x0, x1, x2, x3, x4⟩ := hasZ_lt ho c5
    refine V_aload_n (q := 9) dX0_wearsLeftOf_8 0 rfl rfl ?_
    refine V_get (q := 12) dX0_wearsLeftOf_9 hin_X0_wearsLeftOf 0 rfl rfl 5 (by decide) f_X0_wearsLeftOf_25 rfl rfl ?_
    refine V_iload_n (q := 13) dX0_wearsLeftOf_12 1 rfl rfl ?_
    refine V_iald (q := 14) dX0_wearsLeftOf_13 6 5 rfl rfl (x.toNat) (x2.symm) (x4) (by decide) (rfl) rfl ?_
    refine V_goto (tgt := 18) dX0_wearsLeftOf_14 (by decide) ?_
    exact V_iret dX0_wearsLeftOf_18 rfl (by simp [lftZ, *]) (rfl)
theorem hin_X0_warmthOf : ∀ w ∈ wsX00, w ∈ wsX0_warmthOf := by decide +kernel
theorem f_X0_warmthOf_16 : Cond.fieldLink RX0 16 (TX0 2).1 (TX0 2).2.1 (TX0 2).2.2.1 ∈ wsX0_warmthOf := by decide +kernel
theorem yv_X0_warmthOf : YV yX0_warmthOf wsX0_warmthOf 1 := ⟨_, _, _, _, rfl, by decide +kernel, by decide⟩
set_option maxRecDepth 100000 in
set_option maxHeartbeats 4000000 in
theorem c_X0_warmthOf {a : Nat → Nat} {c : Nat → ClassId} {S : St} {g : Nat → Nat} (ho : Ok S) (x : Int) (rx : -2147483648 ≤ x ∧ x < 2147483648) : CtI yX0_warmthOf wsX0_warmthOf (rmD 2) (tyk c) [.ref (a 0), .int (iZ x)] (wkc a c S g) (iZ (wrmZ S x)) (wkc a c S g) := by
  refine CtI_of (own := RX0) (by decide) rfl rfl (Nat.le_of_ble_eq_true rfl) ?_
  refine V_lvq (lv' := [(0, _), (1, _)]) rfl ?_
  refine V_aload_n (q := 1) dX0_warmthOf_0 0 rfl rfl ?_
  refine V_iload_n (q := 2) dX0_warmthOf_1 1 rfl rfl ?_
  refine V_callIv (q := 5) dX0_warmthOf_2 (c_X0_isThing ho x rx) yv_X0_isThing rfl gX0_warmthOf_X0_isThing rfl 0 rfl rfl rfl rfl (Nat.le_of_ble_eq_true rfl) (by decide) ?_
  refine V_if_eqB (q := 8) (tgt := 17) dX0_warmthOf_5 (by decide) (fun c5 => ?_) (fun c5 => ?_)
  · skip
    refine V_iconst (q := 18) dX0_warmthOf_17 rfl ?_
    exact V_iret dX0_warmthOf_18 rfl (by simp [wrmZ, *]) (rfl)
  · skip
    obtain ⟨x0, x1, x2, x3, x4⟩ := hasZ_lt ho c5
    refine V_aload_n (q := 9) dX0_warmthOf_8 0 rfl rfl ?_
    refine V_get (q := 12) dX0_warmthOf_9 hin_X0_warmthOf 0 rfl rfl 2 (by decide) f_X0_warmthOf_16 rfl rfl ?_
    refine V_iload_n (q := 13) dX0_warmthOf_12 1 rfl rfl ?_
    refine V_iald (q := 14) dX0_warmthOf_13 3 2 rfl rfl (x.toNat) (x2.symm) (x4) (by decide) (rfl) rfl ?_
    refine V_goto (tgt := 18) dX0_warmthOf_14 (by decide) ?_
    exact V_iret dX0_warmthOf_18 rfl (by simp [wrmZ, *]) (rfl)
theorem hin_X0_isCleanOfKind : ∀ w ∈ wsX00, w ∈ wsX0_isCleanOfKind := by decide +kernel
theorem f_X0_isCleanOfKind_9 : Cond.fieldLink RX0 9 (TX0 0).1 (TX0 0).2.1 (TX0 0).2.2.1 ∈ wsX0_isCleanOfKind := by decide +kernel
theorem f_X0_isCleanOfKind_25 : Cond.fieldLink RX0 25 (TX0 5).1 (TX0 5).2.1 (TX0 5).2.2.1 ∈ wsX0_isCleanOfKind := by decide +kernel
theorem yv_X0_isCleanOfKind : YV yX0_isCleanOfKind wsX0_isCleanOfKind 2 := ⟨_, _, _, _, rfl, by decide +kernel, by decide⟩
set_option maxRecDepth 100000 in
set_option maxHeartbeats 4000000 in
theorem c_X0_isCleanOfKind {a : Nat → Nat} {c : Nat → ClassId} {S : St} {g : Nat → Nat} (ho : Ok S) (x k : Int) (rx : -2147483648 ≤ x ∧ x < 2147483648) (rk : -2147483648 ≤ k ∧ k < 2147483648) : CtI yX0_isCleanOfKind wsX0_isCleanOfKind (rmD 3) (tyk c) [.ref (a 0), .int (iZ x), .int (iZ k)] (wkc a c S g) (iZ (bZ (clnZ S x k))) (wkc a c S g) := by
  refine CtI_of (own := RX0) (by decide) rfl rfl (Nat.le_of_ble_eq_true rfl) ?_
  refine V_lvq (lv' := [(0, _), (1, _), (2, _)]) rfl ?_
  refine V_aload_n (q := 1) dX0_isCleanOfKind_0 0 rfl rfl ?_
  refine V_iload_n (q := 2) dX0_isCleanOfKind_1 1 rfl rfl ?_
  refine V_callIv (q := 5) dX0_isCleanOfKind_2 (c_X0_isThing ho x rx) yv_X0_isThing rfl gX0_isCleanOfKind_X0_isThing rfl 0 rfl rfl rfl rfl (Nat.le_of_ble_eq_true rfl) (by decide) ?_
  refine V_if_eqB (q := 8) (tgt := 31) dX0_isCleanOfKind_5 (by decide) (fun c5 => ?_) (fun c5 => ?_)
  · skip
    have c6 : kdZ S x k = false := by simp [kdZ, c5]
    refine V_iconst (q := 32) dX0_isCleanOfKind_31 rfl ?_
    exact V_zret dX0_isCleanOfKind_32 rfl (by first | exact bZ_t (by first | (clear x2; simp [clnZ, *]; done) | (simp only [clnZ, c6, Bool.true_and, decide_eq_true_eq, decide_eq_false_iff_not]; omega) | simp [clnZ, c6]) | exact bZ_f (by first | (clear x2; simp [clnZ, *]; done) | (simp only [clnZ, c6, Bool.true_and, decide_eq_true_eq, decide_eq_false_iff_not]; omega) | simp [clnZ, c6])) (rfl)
  · skip
    obtain ⟨x0, x1, x2, x3, x4⟩ := hasZ_lt ho c5
    have y0 := ho.2.2.1 x.toNat
    refine V_aload_n (q := 9) dX0_isCleanOfKind_8 0 rfl rfl ?_
    refine V_get (q := 12) dX0_isCleanOfKind_9 hin_X0_isCleanOfKind 0 rfl rfl 0 (by decide) f_X0_isCleanOfKind_9 rfl rfl ?_
    refine V_iload_n (q := 13) dX0_isCleanOfKind_12 1 rfl rfl ?_
    refine V_iald (q := 14) dX0_isCleanOfKind_13 1 0 rfl rfl (x.toNat) (x2.symm) (x4) (by decide) (rfl) rfl ?_
    refine V_iload_n (q := 15) dX0_isCleanOfKind_14 2 rfl rfl ?_
    refine V_icmp_ne (q := 18) (tgt := 31) dX0_isCleanOfKind_15 (by omega) (by omega) (by decide) (fun c15 => ?_) (fun c15 => ?_)
    · skip
      have c6 : kdZ S x k = false := by simp only [kdZ, c5, Bool.true_and, decide_eq_false_iff_not]; exact c15
      refine V_iconst (q := 32) dX0_isCleanOfKind_31 rfl ?_
      exact V_zret dX0_isCleanOfKind_32 rfl (by first | exact bZ_t (by first | (clear x2; simp [clnZ, *]; done) | (simp only [clnZ, c6, Bool.true_and, decide_eq_true_eq, decide_eq_false_iff_not]; omega) | simp [clnZ, c6]) | exact bZ_f (by first | (clear x2; simp [clnZ, *]; done) | (simp only [clnZ, c6, Bool.true_and, decide_eq_true_eq, decide_eq_false_iff_not]; omega) | simp [clnZ, c6])) (rfl)
    · skip
      have c6 : kdZ S x k = true := by simp only [kdZ, c5, Bool.true_and, decide_eq_true_eq]; exact c15
      refine V_aload_n (q := 19) dX0_isCleanOfKind_18 0 rfl rfl ?_
      refine V_get (q := 22) dX0_isCleanOfKind_19 hin_X0_isCleanOfKind 0 rfl rfl 5 (by decide) f_X0_isCleanOfKind_25 rfl rfl ?_
      refine V_iload_n (q := 23) dX0_isCleanOfKind_22 1 rfl rfl ?_
      refine V_iald (q := 24) dX0_isCleanOfKind_23 6 5 rfl rfl (x.toNat) (x2.symm) (x4) (by decide) (rfl) rfl ?_
      refine V_if_le (q := 27) (tgt := 31) dX0_isCleanOfKind_24 (by have h8 := ho.2.2.2.2.2.2.2.1 x.toNat; have h9 := ho.2.2.2.2.2.1 x.toNat; omega) (by decide) (fun c24 => ?_) (fun c24 => ?_)
      · skip
        refine V_iconst (q := 32) dX0_isCleanOfKind_31 rfl ?_
        exact V_zret dX0_isCleanOfKind_32 rfl (by first | exact bZ_t (by first | (clear x2; simp [clnZ, *]; done) | (simp only [clnZ, c6, Bool.true_and, decide_eq_true_eq, decide_eq_false_iff_not]; omega) | simp [clnZ, c6]) | exact bZ_f (by first | (clear x2; simp [clnZ, *]; done) | (simp only [clnZ, c6, Bool.true_and, decide_eq_true_eq, decide_eq_false_iff_not]; omega) | simp [clnZ, c6])) (rfl)
      · skip
        refine V_iconst (q := 28) dX0_isCleanOfKind_27 rfl ?_
        refine V_goto (tgt := 32) dX0_isCleanOfKind_28 (by decide) ?_
        exact V_zret dX0_isCleanOfKind_32 rfl (by first | exact bZ_t (by first | (clear x2; simp [clnZ, *]; done) | (simp only [clnZ, c6, Bool.true_and, decide_eq_true_eq, decide_eq_false_iff_not]; omega) | simp [clnZ, c6]) | exact bZ_f (by first | (clear x2; simp [clnZ, *]; done) | (simp only [clnZ, c6, Bool.true_and, decide_eq_true_eq, decide_eq_false_iff_not]; omega) | simp [clnZ, c6])) (rfl)
theorem hin_X0_wearOnce : ∀ w ∈ wsX00, w ∈ wsX0_wearOnce := by decide +kernel
theorem f_X0_wearOnce_25 : Cond.fieldLink RX0 25 (TX0 5).1 (TX0 5).2.1 (TX0 5).2.2.1 ∈ wsX0_wearOnce := by decide +kernel
theorem yv_X0_wearOnce : YV yX0_wearOnce wsX0_wearOnce 1 := ⟨_, _, _, _, rfl, by decide +kernel, by decide⟩
set_option maxRecDepth 100000 in
set_option maxHeartbeats 4000000 in
theorem c_X0_wearOnce {a : Nat → Nat} {c : Nat → ClassId} {S : St} {g : Nat → Nat} (ho : Ok S) (x : Int) (rx : -2147483648 ≤ x ∧ x < 2147483648) : CtV yX0_wearOnce wsX0_wearOnce (rmD 3) (tyk c) [.ref (a 0), .int (iZ x)] (wkc a c S g) (wkc a c (wo S x) g) := by
  refine CtV_of (own := RX0) (by decide) rfl rfl (Nat.le_of_ble_eq_true rfl) ?_
  refine V_lvq (lv' := [(0, _), (1, _)]) rfl ?_
  refine V_aload_n (q := 1) dX0_wearOnce_0 0 rfl rfl ?_
  refine V_iload_n (q := 2) dX0_wearOnce_1 1 rfl rfl ?_
  refine V_callIv (q := 5) dX0_wearOnce_2 (c_X0_wearsLeftOf ho x rx) yv_X0_wearsLeftOf rfl gX0_wearOnce_X0_wearsLeftOf rfl 0 rfl rfl rfl rfl (Nat.le_of_ble_eq_true rfl) (by decide) ?_
  refine V_if_le (q := 8) (tgt := 18) dX0_wearOnce_5 (by have h8 := lftZ_le ho x; omega) (by decide) (fun c5 => ?_) (fun c5 => ?_)
  · skip
    exact V_vret dX0_wearOnce_18 rfl (by first | rfl | (rw [show wo S x = S from if_neg (by omega)]))
  · skip
    obtain ⟨hx, hl⟩ := lftZ_pos c5
    obtain ⟨x0, x1, x2, x3, x4⟩ := hasZ_lt ho hx
    have e0 : wkc a c (wo S x) g = wkc a c (uL S (fu (sL S) x.toNat (sL S x.toNat - 1))) g := by rw [show wo S x = uL S (fu (sL S) x.toNat (sL S x.toNat - 1)) from if_pos (by omega)]
    rw [e0]
    refine V_aload_n (q := 9) dX0_wearOnce_8 0 rfl rfl ?_
    refine V_get (q := 12) dX0_wearOnce_9 hin_X0_wearOnce 0 rfl rfl 5 (by decide) f_X0_wearOnce_25 rfl rfl ?_
    refine V_iload_n (q := 13) dX0_wearOnce_12 1 rfl rfl ?_
    refine V_dup2 (q := 14) dX0_wearOnce_13 rfl rfl rfl ?_
    refine V_iald (q := 15) dX0_wearOnce_14 6 5 rfl rfl (x.toNat) (x2.symm) (x4) (by decide) (rfl) rfl ?_
    refine V_iconst (q := 16) dX0_wearOnce_15 rfl ?_
    refine V_isub (q := 17) dX0_wearOnce_16 rfl ?_
    refine V_iast (q := 18) (ws' := wkc a c (uL S (fu (sL S) x.toNat (sL S x.toNat - 1))) g) dX0_wearOnce_17 6 5 rfl rfl (x.toNat) (x2.symm) (x4) (by decide) (by rw [iF_upd (sL S x.toNat - 1) (by omega)]; rfl) rfl ?_
    exact V_vret dX0_wearOnce_18 rfl (by first | rfl | (rw [show wo S x = S from if_neg (by omega)]))
theorem hin_X0_makeClean : ∀ w ∈ wsX00, w ∈ wsX0_makeClean := by decide +kernel
theorem f_X0_makeClean_19 : Cond.fieldLink RX0 19 (TX0 3).1 (TX0 3).2.1 (TX0 3).2.2.1 ∈ wsX0_makeClean := by decide +kernel
theorem f_X0_makeClean_25 : Cond.fieldLink RX0 25 (TX0 5).1 (TX0 5).2.1 (TX0 5).2.2.1 ∈ wsX0_makeClean := by decide +kernel
theorem yv_X0_makeClean : YV yX0_makeClean wsX0_makeClean 1 := ⟨_, _, _, _, rfl, by decide +kernel, by decide⟩
set_option maxRecDepth 100000 in
set_option maxHeartbeats 4000000 in
theorem c_X0_makeClean {a : Nat → Nat} {c : Nat → ClassId} {S : St} {g : Nat → Nat} (ho : Ok S) (x : Int) (rx : -2147483648 ≤ x ∧ x < 2147483648) : CtV yX0_makeClean wsX0_makeClean (rmD 2) (tyk c) [.ref (a 0), .int (iZ x)] (wkc a c S g) (wkc a c (mc S x) g) := by
  refine CtV_of (own := RX0) (by decide) rfl rfl (Nat.le_of_ble_eq_true rfl) ?_
  refine V_lvq (lv' := [(0, _), (1, _)]) rfl ?_
  refine V_aload_n (q := 1) dX0_makeClean_0 0 rfl rfl ?_
  refine V_iload_n (q := 2) dX0_makeClean_1 1 rfl rfl ?_
  refine V_callIv (q := 5) dX0_makeClean_2 (c_X0_isThing ho x rx) yv_X0_isThing rfl gX0_makeClean_X0_isThing rfl 0 rfl rfl rfl rfl (Nat.le_of_ble_eq_true rfl) (by decide) ?_
  refine V_if_eqB (q := 8) (tgt := 20) dX0_makeClean_5 (by decide) (fun c5 => ?_) (fun c5 => ?_)
  · skip
    exact V_vret dX0_makeClean_20 rfl (by first | rfl | (rw [show mc S x = S from if_neg (by rw [c5]; decide)]))
  · skip
    obtain ⟨x0, x1, x2, x3, x4⟩ := hasZ_lt ho c5
    have e0 : wkc a c (mc S x) g = wkc a c (uL S (fu (sL S) x.toNat (sM S x.toNat))) g := by rw [show mc S x = uL S (fu (sL S) x.toNat (sM S x.toNat)) from if_pos c5]
    rw [e0]
    refine V_aload_n (q := 9) dX0_makeClean_8 0 rfl rfl ?_
    refine V_get (q := 12) dX0_makeClean_9 hin_X0_makeClean 0 rfl rfl 5 (by decide) f_X0_makeClean_25 rfl rfl ?_
    refine V_iload_n (q := 13) dX0_makeClean_12 1 rfl rfl ?_
    refine V_aload_n (q := 14) dX0_makeClean_13 0 rfl rfl ?_
    refine V_get (q := 17) dX0_makeClean_14 hin_X0_makeClean 0 rfl rfl 3 (by decide) f_X0_makeClean_19 rfl rfl ?_
    refine V_iload_n (q := 18) dX0_makeClean_17 1 rfl rfl ?_
    refine V_iald (q := 19) dX0_makeClean_18 4 3 rfl rfl (x.toNat) (x2.symm) (x4) (by decide) (rfl) rfl ?_
    refine V_iast (q := 20) (ws' := wkc a c (uL S (fu (sL S) x.toNat (sM S x.toNat))) g) dX0_makeClean_19 6 5 rfl rfl (x.toNat) (x2.symm) (x4) (by decide) (by rw [iF_upd (sM S x.toNat) rfl]; rfl) rfl ?_
    exact V_vret dX0_makeClean_20 rfl (by first | rfl | (rw [show mc S x = S from if_neg (by rw [c5]; decide)]))
theorem yv_X0_clashBit : YV yX0_clashBit wsX0_clashBit 2 := ⟨_, _, _, _, rfl, by decide +kernel, by decide⟩
set_option maxRecDepth 100000 in
set_option maxHeartbeats 4000000 in
theorem c_X0_clashBit {tys : List (ClassId × FieldType)} {w : va_W} (x y : Nat) (hx : x ≤ 7) (hy : y ≤ 7) : CtL yX0_clashBit wsX0_clashBit (rmD 0) tys [.int (iZ x), .int (iZ y)] (w) (lN (2 ^ (8 * x + y))) (w) := by
  refine CtL_of (own := RX0) (by decide) rfl rfl (Nat.le_of_ble_eq_true rfl) ?_
  refine V_lvq (lv' := [(0, _), (1, _)]) rfl ?_
  refine V_lconst (q := 1) dX0_clashBit_0 rfl rfl ?_
  refine V_bipush (q := 3) dX0_clashBit_1 (by decide) rfl ?_
  refine V_iload_n (q := 4) dX0_clashBit_3 0 rfl rfl ?_
  refine V_imul (q := 5) dX0_clashBit_4 rfl ?_
  refine V_iload_n (q := 6) dX0_clashBit_5 1 rfl rfl ?_
  refine V_iadd (q := 7) dX0_clashBit_6 rfl ?_
  refine V_lshl (q := 8) dX0_clashBit_7 rfl ?_
  exact V_lret dX0_clashBit_8 rfl (by rw [show ((8 : Int) * (x : Int) + (y : Int)) = ((8 * x + y : Nat) : Int) by omega, iZ_nI]; exact l_shl _ (by omega)) rfl
theorem hin_X0_coloursClash : ∀ w ∈ wsX00, w ∈ wsX0_coloursClash := by decide +kernel
theorem f_X0_coloursClash_88 : Cond.fieldLink RX0 88 (TX0 9).1 (TX0 9).2.1 (TX0 9).2.2.1 ∈ wsX0_coloursClash := by decide +kernel
theorem yv_X0_coloursClash : YV yX0_coloursClash wsX0_coloursClash 2 := ⟨_, _, _, _, rfl, by decide +kernel, by decide⟩
set_option maxRecDepth 100000 in
set_option maxHeartbeats 4000000 in
theorem c_X0_coloursClash {a : Nat → Nat} {c : Nat → ClassId} {S : St} {g : Nat → Nat} (x y : Nat) (hx : x ≤ 7) (hy : y ≤ 7) : CtI yX0_coloursClash wsX0_coloursClash (rmD 1) (tyk c) [.ref (a 0), .int (iZ x), .int (iZ y)] (wkc a c S g) (iZ (bZ (sX S (8 * x + y)))) (wkc a c S g) := by
  refine CtI_of (own := RX0) (by decide) rfl rfl (Nat.le_of_ble_eq_true rfl) ?_
  refine V_lvq (lv' := [(0, _), (1, _), (2, _)]) rfl ?_
  refine V_aload_n (q := 1) dX0_coloursClash_0 0 rfl rfl ?_
  refine V_get (q := 4) dX0_coloursClash_1 hin_X0_coloursClash 0 rfl rfl 9 (by decide) f_X0_coloursClash_88 rfl rfl ?_
  refine V_iload_n (q := 5) dX0_coloursClash_4 1 rfl rfl ?_
  refine V_iload_n (q := 6) dX0_coloursClash_5 2 rfl rfl ?_
  refine V_callLs (q := 9) dX0_coloursClash_6 (c_X0_clashBit x y hx hy) yv_X0_clashBit rfl gX0_coloursClash_X0_clashBit rfl (Nat.le_of_ble_eq_true rfl) (by decide) ?_
  refine V_land (q := 10) dX0_coloursClash_9 rfl ?_
  refine V_lconst (q := 11) dX0_coloursClash_10 rfl rfl ?_
  refine V_lcmp (q := 12) dX0_coloursClash_11 rfl ?_
  refine V_if_eqR (q := 15) (tgt := 19) dX0_coloursClash_12 (by decide) (fun c12 => ?_) (fun c12 => ?_)
  · skip
    have c13 := (cl_bit S (i := 8 * x + y) (by omega)).mp ((lg_cmp0 _ _).mp c12)
    refine V_iconst (q := 20) dX0_coloursClash_19 rfl ?_
    exact V_zret dX0_coloursClash_20 rfl (by first | exact bZ_t (by exact c13) | exact bZ_f (by exact c13)) (rfl)
  · skip
    have c13 : sX S (8 * x + y) = true := by cases h9 : sX S (8 * x + y) <;> first | rfl | exact absurd ((lg_cmp0 _ _).mpr ((cl_bit S (i := 8 * x + y) (by omega)).mpr h9)) c12
    refine V_iconst (q := 16) dX0_coloursClash_15 rfl ?_
    refine V_goto (tgt := 20) dX0_coloursClash_16 (by decide) ?_
    exact V_zret dX0_coloursClash_20 rfl (by first | exact bZ_t (by exact c13) | exact bZ_f (by exact c13)) (rfl)
theorem hin_X0_doClash : ∀ w ∈ wsX00, w ∈ wsX0_doClash := by decide +kernel
theorem f_X0_doClash_13 : Cond.fieldLink RX0 13 (TX0 1).1 (TX0 1).2.1 (TX0 1).2.2.1 ∈ wsX0_doClash := by decide +kernel
theorem yv_X0_doClash : YV yX0_doClash wsX0_doClash 2 := ⟨_, _, _, _, rfl, by decide +kernel, by decide⟩
set_option maxRecDepth 100000 in
set_option maxHeartbeats 4000000 in
theorem c_X0_doClash {a : Nat → Nat} {c : Nat → ClassId} {S : St} {g : Nat → Nat} (ho : Ok S) (x y : Int) (rx : -2147483648 ≤ x ∧ x < 2147483648) (ry : -2147483648 ≤ y ∧ y < 2147483648) : CtI yX0_doClash wsX0_doClash (rmD 2) (tyk c) [.ref (a 0), .int (iZ x), .int (iZ y)] (wkc a c S g) (iZ (bZ (dcZ S x y))) (wkc a c S g) := by
  refine CtI_of (own := RX0) (by decide) rfl rfl (Nat.le_of_ble_eq_true rfl) ?_
  refine V_lvq (lv' := [(0, _), (1, _), (2, _)]) rfl ?_
  refine V_aload_n (q := 1) dX0_doClash_0 0 rfl rfl ?_
  refine V_iload_n (q := 2) dX0_doClash_1 1 rfl rfl ?_
  refine V_callIv (q := 5) dX0_doClash_2 (c_X0_isThing ho x rx) yv_X0_isThing rfl gX0_doClash_X0_isThing rfl 0 rfl rfl rfl rfl (Nat.le_of_ble_eq_true rfl) (by decide) ?_
  refine V_if_eqB (q := 8) (tgt := 39) dX0_doClash_5 (by decide) (fun c5 => ?_) (fun c5 => ?_)
  · skip
    refine V_iconst (q := 40) dX0_doClash_39 rfl ?_
    exact V_zret dX0_doClash_40 rfl (by first | exact bZ_t (by simp [dcZ, *]) | exact bZ_f (by simp [dcZ, *])) (rfl)
  · skip
    refine V_aload_n (q := 9) dX0_doClash_8 0 rfl rfl ?_
    refine V_iload_n (q := 10) dX0_doClash_9 2 rfl rfl ?_
    refine V_callIv (q := 13) dX0_doClash_10 (c_X0_isThing ho y ry) yv_X0_isThing rfl gX0_doClash_X0_isThing rfl 0 rfl rfl rfl rfl (Nat.le_of_ble_eq_true rfl) (by decide) ?_
    refine V_if_eqB (q := 16) (tgt := 39) dX0_doClash_13 (by decide) (fun c13 => ?_) (fun c13 => ?_)
    · skip
      refine V_iconst (q := 40) dX0_doClash_39 rfl ?_
      exact V_zret dX0_doClash_40 rfl (by first | exact bZ_t (by simp [dcZ, *]) | exact bZ_f (by simp [dcZ, *])) (rfl)
    · skip
      obtain ⟨x0, x1, x2, x3, x4⟩ := hasZ_lt ho c5
      obtain ⟨y0, y1, y2, y3, y4⟩ := hasZ_lt ho c13
      have h7 := ho.2.2.2.1
      refine V_aload_n (q := 17) dX0_doClash_16 0 rfl rfl ?_
      refine V_aload_n (q := 18) dX0_doClash_17 0 rfl rfl ?_
      refine V_get (q := 21) dX0_doClash_18 hin_X0_doClash 0 rfl rfl 1 (by decide) f_X0_doClash_13 rfl rfl ?_
      refine V_iload_n (q := 22) dX0_doClash_21 1 rfl rfl ?_
      refine V_iald (q := 23) dX0_doClash_22 2 1 rfl rfl (x.toNat) (x2.symm) (x4) (by decide) (rfl) rfl ?_
      refine V_aload_n (q := 24) dX0_doClash_23 0 rfl rfl ?_
      refine V_get (q := 27) dX0_doClash_24 hin_X0_doClash 0 rfl rfl 1 (by decide) f_X0_doClash_13 rfl rfl ?_
      refine V_iload_n (q := 28) dX0_doClash_27 2 rfl rfl ?_
      refine V_iald (q := 29) dX0_doClash_28 2 1 rfl rfl (y.toNat) (y2.symm) (y4) (by decide) (rfl) rfl ?_
      refine V_callIv (q := 32) dX0_doClash_29 (c_X0_coloursClash (sC S x.toNat) (sC S y.toNat) (h7 _) (h7 _)) yv_X0_coloursClash rfl gX0_doClash_X0_coloursClash rfl 0 rfl rfl rfl rfl (Nat.le_of_ble_eq_true rfl) (by decide) ?_
      refine V_if_eqB (q := 35) (tgt := 39) dX0_doClash_32 (by decide) (fun c32 => ?_) (fun c32 => ?_)
      · skip
        refine V_iconst (q := 40) dX0_doClash_39 rfl ?_
        exact V_zret dX0_doClash_40 rfl (by first | exact bZ_t (by simp [dcZ, *]) | exact bZ_f (by simp [dcZ, *])) (rfl)
      · skip
        refine V_iconst (q := 36) dX0_doClash_35 rfl ?_
        refine V_goto (tgt := 40) dX0_doClash_36 (by decide) ?_
        exact V_zret dX0_doClash_40 rfl (by first | exact bZ_t (by simp [dcZ, *]) | exact bZ_f (by simp [dcZ, *])) (rfl)
theorem yv_X0_fitsOver : YV yX0_fitsOver wsX0_fitsOver 3 := ⟨_, _, _, _, rfl, by decide +kernel, by decide⟩
set_option maxRecDepth 100000 in
set_option maxHeartbeats 4000000 in
theorem c_X0_fitsOver {a : Nat → Nat} {c : Nat → ClassId} {S : St} {g : Nat → Nat} (ho : Ok S) (d t b : Int) (rd : -2147483648 ≤ d ∧ d < 2147483648) (rt : -2147483648 ≤ t ∧ t < 2147483648) (rb : -2147483648 ≤ b ∧ b < 2147483648) : CtI yX0_fitsOver wsX0_fitsOver (rmD 4) (tyk c) [.ref (a 0), .int (iZ d), .int (iZ t), .int (iZ b)] (wkc a c S g) (iZ (bZ (fovZ S d t b))) (wkc a c S g) := by
  refine CtI_of (own := RX0) (by decide) rfl rfl (Nat.le_of_ble_eq_true rfl) ?_
  refine V_lvq (lv' := [(0, _), (1, _), (2, _), (3, _)]) rfl ?_
  refine V_aload_n (q := 1) dX0_fitsOver_0 0 rfl rfl ?_
  refine V_iload_n (q := 2) dX0_fitsOver_1 1 rfl rfl ?_
  refine V_iconst (q := 3) dX0_fitsOver_2 rfl ?_
  refine V_callIv (q := 6) dX0_fitsOver_3 (c_X0_isCleanOfKind ho d 2 rd (by decide)) yv_X0_isCleanOfKind rfl gX0_fitsOver_X0_isCleanOfKind rfl 0 rfl rfl rfl rfl (Nat.le_of_ble_eq_true rfl) (by decide) ?_
  refine V_if_eqB (q := 9) (tgt := 31) dX0_fitsOver_6 (by decide) (fun c6 => ?_) (fun c6 => ?_)
  · skip
    refine V_iconst (q := 32) dX0_fitsOver_31 rfl ?_
    exact V_zret dX0_fitsOver_32 rfl (by first | exact bZ_t (by simp [fovZ, *]) | exact bZ_f (by simp [fovZ, *])) (rfl)
  · skip
    refine V_aload_n (q := 10) dX0_fitsOver_9 0 rfl rfl ?_
    refine V_iload_n (q := 11) dX0_fitsOver_10 1 rfl rfl ?_
    refine V_iload_n (q := 12) dX0_fitsOver_11 2 rfl rfl ?_
    refine V_callIv (q := 15) dX0_fitsOver_12 (c_X0_doClash ho d t rd rt) yv_X0_doClash rfl gX0_fitsOver_X0_doClash rfl 0 rfl rfl rfl rfl (Nat.le_of_ble_eq_true rfl) (by decide) ?_
    refine V_if_neB (q := 18) (tgt := 31) dX0_fitsOver_15 (by decide) (fun c15 => ?_) (fun c15 => ?_)
    · skip
      refine V_iconst (q := 32) dX0_fitsOver_31 rfl ?_
      exact V_zret dX0_fitsOver_32 rfl (by first | exact bZ_t (by simp [fovZ, *]) | exact bZ_f (by simp [fovZ, *])) (rfl)
    · skip
      refine V_aload_n (q := 19) dX0_fitsOver_18 0 rfl rfl ?_
      refine V_iload_n (q := 20) dX0_fitsOver_19 1 rfl rfl ?_
      refine V_iload_n (q := 21) dX0_fitsOver_20 3 rfl rfl ?_
      refine V_callIv (q := 24) dX0_fitsOver_21 (c_X0_doClash ho d b rd rb) yv_X0_doClash rfl gX0_fitsOver_X0_doClash rfl 0 rfl rfl rfl rfl (Nat.le_of_ble_eq_true rfl) (by decide) ?_
      refine V_if_neB (q := 27) (tgt := 31) dX0_fitsOver_24 (by decide) (fun c24 => ?_) (fun c24 => ?_)
      · skip
        refine V_iconst (q := 32) dX0_fitsOver_31 rfl ?_
        exact V_zret dX0_fitsOver_32 rfl (by first | exact bZ_t (by simp [fovZ, *]) | exact bZ_f (by simp [fovZ, *])) (rfl)
      · skip
        refine V_iconst (q := 28) dX0_fitsOver_27 rfl ?_
        refine V_goto (tgt := 32) dX0_fitsOver_28 (by decide) ?_
        exact V_zret dX0_fitsOver_32 rfl (by first | exact bZ_t (by simp [fovZ, *]) | exact bZ_f (by simp [fovZ, *])) (rfl)
theorem yv_X0_canBeWorn : YV yX0_canBeWorn wsX0_canBeWorn 3 := ⟨_, _, _, _, rfl, by decide +kernel, by decide⟩
set_option maxRecDepth 100000 in
set_option maxHeartbeats 4000000 in
theorem c_X0_canBeWorn {a : Nat → Nat} {c : Nat → ClassId} {S : St} {g : Nat → Nat} (ho : Ok S) (t b d : Int) (rt : -2147483648 ≤ t ∧ t < 2147483648) (rb : -2147483648 ≤ b ∧ b < 2147483648) (rd : -2147483648 ≤ d ∧ d < 2147483648) : CtI yX0_canBeWorn wsX0_canBeWorn (rmD 5) (tyk c) [.ref (a 0), .int (iZ t), .int (iZ b), .int (iZ d)] (wkc a c S g) (iZ (bZ (canZ S t b d))) (wkc a c S g) := by
  refine CtI_of (own := RX0) (by decide) rfl rfl (Nat.le_of_ble_eq_true rfl) ?_
  refine V_lvq (lv' := [(0, _), (1, _), (2, _), (3, _)]) rfl ?_
  refine V_aload_n (q := 1) dX0_canBeWorn_0 0 rfl rfl ?_
  refine V_iload_n (q := 2) dX0_canBeWorn_1 1 rfl rfl ?_
  refine V_iconst (q := 3) dX0_canBeWorn_2 rfl ?_
  refine V_callIv (q := 6) dX0_canBeWorn_3 (c_X0_isCleanOfKind ho t 0 rt (by decide)) yv_X0_isCleanOfKind rfl gX0_canBeWorn_X0_isCleanOfKind rfl 0 rfl rfl rfl rfl (Nat.le_of_ble_eq_true rfl) (by decide) ?_
  refine V_if_eqB (q := 9) (tgt := 46) dX0_canBeWorn_6 (by decide) (fun c6 => ?_) (fun c6 => ?_)
  · skip
    refine V_iconst (q := 47) dX0_canBeWorn_46 rfl ?_
    exact V_zret dX0_canBeWorn_47 rfl (by first | exact bZ_t (by simp [canZ, *]) | exact bZ_f (by simp [canZ, *])) (rfl)
  · skip
    refine V_aload_n (q := 10) dX0_canBeWorn_9 0 rfl rfl ?_
    refine V_iload_n (q := 11) dX0_canBeWorn_10 2 rfl rfl ?_
    refine V_iconst (q := 12) dX0_canBeWorn_11 rfl ?_
    refine V_callIv (q := 15) dX0_canBeWorn_12 (c_X0_isCleanOfKind ho b 1 rb (by decide)) yv_X0_isCleanOfKind rfl gX0_canBeWorn_X0_isCleanOfKind rfl 0 rfl rfl rfl rfl (Nat.le_of_ble_eq_true rfl) (by decide) ?_
    refine V_if_eqB (q := 18) (tgt := 46) dX0_canBeWorn_15 (by decide) (fun c15 => ?_) (fun c15 => ?_)
    · skip
      refine V_iconst (q := 47) dX0_canBeWorn_46 rfl ?_
      exact V_zret dX0_canBeWorn_47 rfl (by first | exact bZ_t (by simp [canZ, *]) | exact bZ_f (by simp [canZ, *])) (rfl)
    · skip
      refine V_aload_n (q := 19) dX0_canBeWorn_18 0 rfl rfl ?_
      refine V_iload_n (q := 20) dX0_canBeWorn_19 1 rfl rfl ?_
      refine V_iload_n (q := 21) dX0_canBeWorn_20 2 rfl rfl ?_
      refine V_callIv (q := 24) dX0_canBeWorn_21 (c_X0_doClash ho t b rt rb) yv_X0_doClash rfl gX0_canBeWorn_X0_doClash rfl 0 rfl rfl rfl rfl (Nat.le_of_ble_eq_true rfl) (by decide) ?_
      refine V_if_neB (q := 27) (tgt := 46) dX0_canBeWorn_24 (by decide) (fun c24 => ?_) (fun c24 => ?_)
      · skip
        refine V_iconst (q := 47) dX0_canBeWorn_46 rfl ?_
        exact V_zret dX0_canBeWorn_47 rfl (by first | exact bZ_t (by simp [canZ, *]) | exact bZ_f (by simp [canZ, *])) (rfl)
      · skip
        refine V_iload_n (q := 28) dX0_canBeWorn_27 3 rfl rfl ?_
        refine V_iconst (q := 29) dX0_canBeWorn_28 rfl ?_
        refine V_icmp_eq (q := 32) (tgt := 42) dX0_canBeWorn_29 (by omega) (by omega) (by decide) (fun c29 => ?_) (fun c29 => ?_)
        · skip
          refine V_iconst (q := 43) dX0_canBeWorn_42 rfl ?_
          refine V_goto (tgt := 47) dX0_canBeWorn_43 (by decide) ?_
          exact V_zret dX0_canBeWorn_47 rfl (by first | exact bZ_t (by simp [canZ, *]) | exact bZ_f (by simp [canZ, *])) (rfl)
        · skip
          refine V_aload_n (q := 33) dX0_canBeWorn_32 0 rfl rfl ?_
          refine V_iload_n (q := 34) dX0_canBeWorn_33 3 rfl rfl ?_
          refine V_iload_n (q := 35) dX0_canBeWorn_34 1 rfl rfl ?_
          refine V_iload_n (q := 36) dX0_canBeWorn_35 2 rfl rfl ?_
          refine V_callIv (q := 39) dX0_canBeWorn_36 (c_X0_fitsOver ho d t b rd rt rb) yv_X0_fitsOver rfl gX0_canBeWorn_X0_fitsOver rfl 0 rfl rfl rfl rfl (Nat.le_of_ble_eq_true rfl) (by decide) ?_
          refine V_if_eqB (q := 42) (tgt := 46) dX0_canBeWorn_39 (by decide) (fun c39 => ?_) (fun c39 => ?_)
          · skip
            refine V_iconst (q := 47) dX0_canBeWorn_46 rfl ?_
            exact V_zret dX0_canBeWorn_47 rfl (by first | exact bZ_t (by simp [canZ, *]) | exact bZ_f (by simp [canZ, *])) (rfl)
          · skip
            refine V_iconst (q := 43) dX0_canBeWorn_42 rfl ?_
            refine V_goto (tgt := 47) dX0_canBeWorn_43 (by decide) ?_
            exact V_zret dX0_canBeWorn_47 rfl (by first | exact bZ_t (by simp [canZ, *]) | exact bZ_f (by simp [canZ, *])) (rfl)
theorem yv_X0_outfitWarmth : YV yX0_outfitWarmth wsX0_outfitWarmth 3 := ⟨_, _, _, _, rfl, by decide +kernel, by decide⟩
set_option maxRecDepth 100000 in
set_option maxHeartbeats 4000000 in
theorem c_X0_outfitWarmth {a : Nat → Nat} {c : Nat → ClassId} {S : St} {g : Nat → Nat} (ho : Ok S) (t b d : Int) (rt : -2147483648 ≤ t ∧ t < 2147483648) (rb : -2147483648 ≤ b ∧ b < 2147483648) (rd : -2147483648 ≤ d ∧ d < 2147483648) : CtI yX0_outfitWarmth wsX0_outfitWarmth (rmD 3) (tyk c) [.ref (a 0), .int (iZ t), .int (iZ b), .int (iZ d)] (wkc a c S g) (iZ (owZ S t b d)) (wkc a c S g) := by
  refine CtI_of (own := RX0) (by decide) rfl rfl (Nat.le_of_ble_eq_true rfl) ?_
  refine V_lvq (lv' := [(0, _), (1, _), (2, _), (3, _)]) rfl ?_
  refine V_aload_n (q := 1) dX0_outfitWarmth_0 0 rfl rfl ?_
  refine V_iload_n (q := 2) dX0_outfitWarmth_1 1 rfl rfl ?_
  refine V_callIv (q := 5) dX0_outfitWarmth_2 (c_X0_warmthOf ho t rt) yv_X0_warmthOf rfl gX0_outfitWarmth_X0_warmthOf rfl 0 rfl rfl rfl rfl (Nat.le_of_ble_eq_true rfl) (by decide) ?_
  refine V_aload_n (q := 6) dX0_outfitWarmth_5 0 rfl rfl ?_
  refine V_iload_n (q := 7) dX0_outfitWarmth_6 2 rfl rfl ?_
  refine V_callIv (q := 10) dX0_outfitWarmth_7 (c_X0_warmthOf ho b rb) yv_X0_warmthOf rfl gX0_outfitWarmth_X0_warmthOf rfl 0 rfl rfl rfl rfl (Nat.le_of_ble_eq_true rfl) (by decide) ?_
  refine V_iadd (q := 11) dX0_outfitWarmth_10 rfl ?_
  refine V_aload_n (q := 12) dX0_outfitWarmth_11 0 rfl rfl ?_
  refine V_iload_n (q := 13) dX0_outfitWarmth_12 3 rfl rfl ?_
  refine V_callIv (q := 16) dX0_outfitWarmth_13 (c_X0_warmthOf ho d rd) yv_X0_warmthOf rfl gX0_outfitWarmth_X0_warmthOf rfl 0 rfl rfl rfl rfl (Nat.le_of_ble_eq_true rfl) (by decide) ?_
  refine V_iadd (q := 17) dX0_outfitWarmth_16 rfl ?_
  exact V_iret dX0_outfitWarmth_17 rfl (by first | rfl | (congr 1; unfold owZ; omega)) (rfl)
theorem owZ_le {S : St} (ho : Ok S) (t b d : Int) : owZ S t b d ≤ 30 := by
  have h1 := wrmZ_le ho t
  have h2 := wrmZ_le ho b
  have h3 := wrmZ_le ho d
  unfold owZ
  omega
theorem yv_X0_isWarmOutfit : YV yX0_isWarmOutfit wsX0_isWarmOutfit 4 := ⟨_, _, _, _, rfl, by decide +kernel, by decide⟩
set_option maxRecDepth 100000 in
set_option maxHeartbeats 4000000 in
theorem c_X0_isWarmOutfit {a : Nat → Nat} {c : Nat → ClassId} {S : St} {g : Nat → Nat} (ho : Ok S) (t b d w : Int) (rt : -2147483648 ≤ t ∧ t < 2147483648) (rb : -2147483648 ≤ b ∧ b < 2147483648) (rd : -2147483648 ≤ d ∧ d < 2147483648) (rw : -2147483648 ≤ w ∧ w < 2147483648) : CtI yX0_isWarmOutfit wsX0_isWarmOutfit (rmD 6) (tyk c) [.ref (a 0), .int (iZ t), .int (iZ b), .int (iZ d), .int (iZ w)] (wkc a c S g) (iZ (bZ (warmZ S t b d w))) (wkc a c S g) := by
  refine CtI_of (own := RX0) (by decide) rfl rfl (Nat.le_of_ble_eq_true rfl) ?_
  refine V_lvq (lv' := [(0, _), (1, _), (2, _), (3, _), (4, _)]) rfl ?_
  refine V_aload_n (q := 1) dX0_isWarmOutfit_0 0 rfl rfl ?_
  refine V_iload_n (q := 2) dX0_isWarmOutfit_1 1 rfl rfl ?_
  refine V_iload_n (q := 3) dX0_isWarmOutfit_2 2 rfl rfl ?_
  refine V_iload_n (q := 4) dX0_isWarmOutfit_3 3 rfl rfl ?_
  refine V_callIv (q := 7) dX0_isWarmOutfit_4 (c_X0_outfitWarmth ho t b d rt rb rd) yv_X0_outfitWarmth rfl gX0_isWarmOutfit_X0_outfitWarmth rfl 0 rfl rfl rfl rfl (Nat.le_of_ble_eq_true rfl) (by decide) ?_
  refine V_iload (q := 9) dX0_isWarmOutfit_7 4 rfl rfl ?_
  refine V_icmp_lt (q := 12) (tgt := 26) dX0_isWarmOutfit_9 (by have h8 := owZ_le ho t b d; omega) (by have h8 := owZ_le ho t b d; omega) (by decide) (fun c9 => ?_) (fun c9 => ?_)
  · skip
    refine V_iconst (q := 27) dX0_isWarmOutfit_26 rfl ?_
    exact V_zret dX0_isWarmOutfit_27 rfl (by first | exact bZ_t (by first | (simp [warmZ, *]; done) | (simp [warmZ]; omega)) | exact bZ_f (by first | (simp [warmZ, *]; done) | (simp [warmZ]; omega))) (rfl)
  · skip
    refine V_aload_n (q := 13) dX0_isWarmOutfit_12 0 rfl rfl ?_
    refine V_iload_n (q := 14) dX0_isWarmOutfit_13 1 rfl rfl ?_
    refine V_iload_n (q := 15) dX0_isWarmOutfit_14 2 rfl rfl ?_
    refine V_iload_n (q := 16) dX0_isWarmOutfit_15 3 rfl rfl ?_
    refine V_callIv (q := 19) dX0_isWarmOutfit_16 (c_X0_canBeWorn ho t b d rt rb rd) yv_X0_canBeWorn rfl gX0_isWarmOutfit_X0_canBeWorn rfl 0 rfl rfl rfl rfl (Nat.le_of_ble_eq_true rfl) (by decide) ?_
    refine V_if_eqB (q := 22) (tgt := 26) dX0_isWarmOutfit_19 (by decide) (fun c19 => ?_) (fun c19 => ?_)
    · skip
      refine V_iconst (q := 27) dX0_isWarmOutfit_26 rfl ?_
      exact V_zret dX0_isWarmOutfit_27 rfl (by first | exact bZ_t (by first | (simp [warmZ, *]; done) | (simp [warmZ]; omega)) | exact bZ_f (by first | (simp [warmZ, *]; done) | (simp [warmZ]; omega))) (rfl)
    · skip
      refine V_iconst (q := 23) dX0_isWarmOutfit_22 rfl ?_
      refine V_goto (tgt := 27) dX0_isWarmOutfit_23 (by decide) ?_
      exact V_zret dX0_isWarmOutfit_27 rfl (by first | exact bZ_t (by first | (simp [warmZ, *]; done) | (simp [warmZ]; omega)) | exact bZ_f (by first | (simp [warmZ, *]; done) | (simp [warmZ]; omega))) (rfl)
