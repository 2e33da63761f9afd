/-! the reference: what its methods answer, in the same words -/
theorem mkTh {b : Nat → Nat} {d : Nat → ClassId} {S : St} {g : Nat → Nat} {th : Nat} (w : Nat) : (mkc b d S g th).set 0 (b 0, .inr (1, ([.int (iZ (sT S)), .int (iZ (sN S)), .ref (b 1), .ref (b 2), .ref (b 3), .ref (b 4), .ref (b 5), .ref (b 6), .ref (b 7), .ref (b 8), .ref (b 9), .ref (b 10), .int (iZ th)] : List Value).set 12 (.int (iZ w)))) = mkc b d S g w := rfl
theorem mkT {b : Nat → Nat} {d : Nat → ClassId} {S : St} {g : Nat → Nat} {th : Nat} (w : Nat) : (mkc b d S g th).set 0 (b 0, .inr (1, ([.int (iZ (sT S)), .int (iZ (sN S)), .ref (b 1), .ref (b 2), .ref (b 3), .ref (b 4), .ref (b 5), .ref (b 6), .ref (b 7), .ref (b 8), .ref (b 9), .ref (b 10), .int (iZ th)] : List Value).set 0 (.int (iZ w)))) = mkc b d (uT S w) g th := rfl
theorem mkN {b : Nat → Nat} {d : Nat → ClassId} {S : St} {g : Nat → Nat} {th : Nat} (w : Nat) : (mkc b d S g th).set 0 (b 0, .inr (1, ([.int (iZ (sT S)), .int (iZ (sN S)), .ref (b 1), .ref (b 2), .ref (b 3), .ref (b 4), .ref (b 5), .ref (b 6), .ref (b 7), .ref (b 8), .ref (b 9), .ref (b 10), .int (iZ th)] : List Value).set 1 (.int (iZ w)))) = mkc b d (uN S w) g th := rfl
theorem wr_0 {S : St} {t u e : Int} (h : wrZ S t u e = 0) : hasZ S t = true ∧ hasZ S u = true ∧ (e = -1 ∨ hasZ S e = true) ∧ kdZ S t 0 = true ∧ kdZ S u 1 = true ∧ (e = -1 ∨ kdZ S e 2 = true) := by
  unfold wrZ at h
  split at h
  · next h1 =>
    split at h
    · next h2 =>
      simp only [Bool.and_eq_true, Bool.or_eq_true, decide_eq_true_eq] at h1 h2
      exact ⟨h1.1.1, h1.1.2, h1.2, h2.1.1, h2.1.2, h2.2⟩
    · exact absurd h (by decide)
  · exact absurd h (by decide)
theorem has_m1 (S : St) : hasZ S (-1) = false := by simp [hasZ]
/-- the clashes of two things, without asking whether they are there -/
def dx (S : St) (x y : Int) : Bool := sX S (8 * sC S x.toNat + sC S y.toNat)
theorem dx_sym {S : St} (ho : Ok S) (x y : Int) : dx S x y = dx S y x := ho.2.2.2.2.2.2.2.2.2.1 _ _ (ho.2.2.2.1 _) (ho.2.2.2.1 _)
theorem can_wr {S : St} (ho : Ok S) {t u e : Int} (h : wrZ S t u e = 0) : canZ S t u e = ((decide (0 < sL S t.toNat) && decide (0 < sL S u.toNat) && !(dx S t u)) && (decide (e = -1) || (decide (0 < sL S e.toNat) && !(dx S t e) && !(dx S u e)))) := by
  obtain ⟨h1, h2, h3, h4, h5, h6⟩ := wr_0 h
  unfold canZ fovZ clnZ dcZ
  rw [h4, h5, h1, h2]
  have e1 : sX S (8 * sC S t.toNat + sC S u.toNat) = dx S t u := rfl
  have e2 : sX S (8 * sC S e.toNat + sC S t.toNat) = dx S t e := dx_sym ho e t
  have e3 : sX S (8 * sC S e.toNat + sC S u.toNat) = dx S u e := dx_sym ho e u
  rw [e1, e2, e3]
  rcases h6 with h6 | h6
  · subst h6; simp
  · have h7 : hasZ S e = true := by simp only [kdZ, Bool.and_eq_true] at h6; exact h6.1
    rw [h6, h7]
    simp
theorem can_in {S : St} {t u e : Int} (h : canZ S t u e = true) : wrZ S t u e = 0 := by
  simp only [canZ, fovZ, clnZ, Bool.and_eq_true, Bool.or_eq_true, decide_eq_true_eq] at h
  obtain ⟨⟨⟨⟨h1, -⟩, h2, -⟩, -⟩, h3⟩ := h
  have k1 : hasZ S t = true := by simp only [kdZ, Bool.and_eq_true] at h1; exact h1.1
  have k2 : hasZ S u = true := by simp only [kdZ, Bool.and_eq_true] at h2; exact h2.1
  unfold wrZ
  rcases h3 with h3 | h3
  · subst h3; simp [h1, h2, k1, k2]
  · have k3 : kdZ S e 2 = true := h3.1.1.1
    have k4 : hasZ S e = true := by simp only [kdZ, Bool.and_eq_true] at k3; exact k3.1
    simp [h1, h2, k1, k2, k3, k4]
theorem ow_wr {S : St} {t u e : Int} (h1 : hasZ S t = true) (h2 : hasZ S u = true) : owZ S t u e = sW S t.toNat + sW S u.toNat + wrmZ S e := by
  unfold owZ
  rw [show wrmZ S t = sW S t.toNat from if_pos h1, show wrmZ S u = sW S u.toNat from if_pos h2]
theorem fr_day {T e : Nat} : decide (T < fr e) = (decide (0 < e) && decide ((T : Int) - ((e : Int) - 1) < 7)) := by
  rw [Bool.eq_iff_iff]
  simp only [Bool.and_eq_true, decide_eq_true_eq]
  unfold fr
  split <;> omega
theorem here_eq {S : St} (ho : Ok S) : cnt (fun j => !(sG S j)) (sN S) = cnt (hasT S) 12 := by
  have key : ∀ m, sN S + m = 12 → cnt (hasT S) (sN S + m) = cnt (fun j => !(sG S j)) (sN S) := by
    intro m hm
    clear hm
    induction m with
    | zero =>
      refine cnt_cong fun i hi => ?_
      have hi' : i < sN S := hi
      simp [hasT, hi']
    | succ m ih =>
      rw [show sN S + (m + 1) = (sN S + m) + 1 from rfl, cnt_f (by unfold hasT; rw [decide_eq_false (by omega)]; rfl), ih]
  have h1 := ho.1
  have h2 := key (12 - sN S) (by omega)
  rw [show sN S + (12 - sN S) = 12 by omega] at h2
  exact h2.symm
theorem hin_X1_thrown : ∀ w ∈ wsX10, w ∈ wsX1_thrown := by decide +kernel
theorem f_X1_thrown_41 : Cond.fieldLink RX1 41 (TX1 12).1 (TX1 12).2.1 (TX1 12).2.2.1 ∈ wsX1_thrown := by decide +kernel
theorem yv_X1_thrown : YV yX1_thrown wsX1_thrown 0 := ⟨_, _, _, _, rfl, by decide +kernel, by decide⟩
set_option maxRecDepth 100000 in
set_option maxHeartbeats 4000000 in
theorem c_X1_thrown {b : Nat → Nat} {d : Nat → ClassId} {S : St} {g : Nat → Nat} {th : Nat}  : CtI yX1_thrown wsX1_thrown (rmD 0) (tym d) [.ref (b 0)] (mkc b d S g th) (iZ th) (mkc b d S g th) := by
  refine CtI_of (own := RX1) (by decide) rfl rfl (Nat.le_of_ble_eq_true rfl) ?_
  refine V_lvq (lv' := [(0, _)]) rfl ?_
  refine V_aload_n (q := 1) dX1_thrown_0 0 rfl rfl ?_
  refine V_get (q := 4) dX1_thrown_1 hin_X1_thrown 0 rfl rfl 12 (by decide) f_X1_thrown_41 rfl rfl ?_
  exact V_iret dX1_thrown_4 rfl (rfl) (rfl)
theorem hin_X1_goes : ∀ w ∈ wsX10, w ∈ wsX1_goes := by decide +kernel
theorem f_X1_goes_41 : Cond.fieldLink RX1 41 (TX1 12).1 (TX1 12).2.1 (TX1 12).2.2.1 ∈ wsX1_goes := by decide +kernel
theorem yv_X1_goes : YV yX1_goes wsX1_goes 1 := ⟨_, _, _, _, rfl, by decide +kernel, by decide⟩
set_option maxRecDepth 100000 in
set_option maxHeartbeats 4000000 in
theorem c_X1_goes {b : Nat → Nat} {d : Nat → ClassId} {S : St} {g : Nat → Nat} {th : Nat} (w : Nat) (hw : w < 4) : CtI yX1_goes wsX1_goes (rmD 0) (tym d) [.ref (b 0), .int (iZ w)] (mkc b d S g th) (iZ (bZ (decide (w = 0)))) (mkc b d S g w) := by
  refine CtI_of (own := RX1) (by decide) rfl rfl (Nat.le_of_ble_eq_true rfl) ?_
  refine V_lvq (lv' := [(0, _), (1, _)]) rfl ?_
  refine V_aload_n (q := 1) dX1_goes_0 0 rfl rfl ?_
  refine V_iload_n (q := 2) dX1_goes_1 1 rfl rfl ?_
  refine V_put (q := 5) (ty := .int) (ws' := mkc b d S g w) dX1_goes_2 hin_X1_goes tyX1 tyX1_ok nmX1 0 rfl rfl 12 (by decide) f_X1_goes_41 rfl (by decide +kernel) rfl rfl (Nat.le_of_ble_eq_true rfl) (mkTh w) rfl ?_
  refine V_iload_n (q := 6) dX1_goes_5 1 rfl rfl ?_
  refine V_if_ne (q := 9) (tgt := 13) dX1_goes_6 (by omega) (by decide) (fun c6 => ?_) (fun c6 => ?_)
  · skip
    refine V_iconst (q := 14) dX1_goes_13 rfl ?_
    exact V_zret dX1_goes_14 rfl (by first | exact bZ_t (by simp; omega) | exact bZ_f (by simp; omega)) (rfl)
  · skip
    refine V_iconst (q := 10) dX1_goes_9 rfl ?_
    refine V_goto (tgt := 14) dX1_goes_10 (by decide) ?_
    exact V_zret dX1_goes_14 rfl (by first | exact bZ_t (by simp; omega) | exact bZ_f (by simp; omega)) (rfl)
theorem yv_X1_isIn : YV yX1_isIn wsX1_isIn 3 := ⟨_, _, _, _, rfl, by decide +kernel, by decide⟩
set_option maxRecDepth 100000 in
set_option maxHeartbeats 4000000 in
theorem c_X1_isIn {tys : List (ClassId × FieldType)} {w : va_W} (x lo hi : Int) (rx : -2147483648 ≤ x ∧ x < 2147483648) (rlo : -2147483648 ≤ lo ∧ lo < 2147483648) (rhi : -2147483648 ≤ hi ∧ hi < 2147483648) : CtI yX1_isIn wsX1_isIn (rmD 0) tys [.int (iZ x), .int (iZ lo), .int (iZ hi)] (w) (iZ (bZ (decide (lo ≤ x) && decide (x ≤ hi)))) (w) := by
  refine CtI_of (own := RX1) (by decide) rfl rfl (Nat.le_of_ble_eq_true rfl) ?_
  refine V_lvq (lv' := [(0, _), (1, _), (2, _)]) rfl ?_
  refine V_iload_n (q := 1) dX1_isIn_0 0 rfl rfl ?_
  refine V_iload_n (q := 2) dX1_isIn_1 1 rfl rfl ?_
  refine V_icmp_lt (q := 5) (tgt := 14) dX1_isIn_2 (by omega) (by omega) (by decide) (fun c2 => ?_) (fun c2 => ?_)
  · skip
    refine V_iconst (q := 15) dX1_isIn_14 rfl ?_
    exact V_zret dX1_isIn_15 rfl (by first | exact bZ_t (by simp; omega) | exact bZ_f (by simp; omega)) (rfl)
  · skip
    refine V_iload_n (q := 6) dX1_isIn_5 0 rfl rfl ?_
    refine V_iload_n (q := 7) dX1_isIn_6 2 rfl rfl ?_
    refine V_icmp_gt (q := 10) (tgt := 14) dX1_isIn_7 (by omega) (by omega) (by decide) (fun c7 => ?_) (fun c7 => ?_)
    · skip
      refine V_iconst (q := 15) dX1_isIn_14 rfl ?_
      exact V_zret dX1_isIn_15 rfl (by first | exact bZ_t (by simp; omega) | exact bZ_f (by simp; omega)) (rfl)
    · skip
      refine V_iconst (q := 11) dX1_isIn_10 rfl ?_
      refine V_goto (tgt := 15) dX1_isIn_11 (by decide) ?_
      exact V_zret dX1_isIn_15 rfl (by first | exact bZ_t (by simp; omega) | exact bZ_f (by simp; omega)) (rfl)
theorem yv_X1_isColour : YV yX1_isColour wsX1_isColour 1 := ⟨_, _, _, _, rfl, by decide +kernel, by decide⟩
set_option maxRecDepth 100000 in
set_option maxHeartbeats 4000000 in
theorem c_X1_isColour {tys : List (ClassId × FieldType)} {w : va_W} (x : Int) (rx : -2147483648 ≤ x ∧ x < 2147483648) : CtI yX1_isColour wsX1_isColour (rmD 1) tys [.int (iZ x)] (w) (iZ (bZ (decide (0 ≤ x) && decide (x ≤ 7)))) (w) := by
  refine CtI_of (own := RX1) (by decide) rfl rfl (Nat.le_of_ble_eq_true rfl) ?_
  refine V_lvq (lv' := [(0, _)]) rfl ?_
  refine V_iload_n (q := 1) dX1_isColour_0 0 rfl rfl ?_
  refine V_iconst (q := 2) dX1_isColour_1 rfl ?_
  refine V_bipush (q := 4) dX1_isColour_2 (by decide) rfl ?_
  refine V_callIs (q := 7) dX1_isColour_4 (c_X1_isIn x 0 7 rx (by decide) (by decide)) yv_X1_isIn rfl gX1_isColour_X1_isIn rfl (Nat.le_of_ble_eq_true rfl) (by decide) ?_
  exact V_zret dX1_isColour_7 rfl (rfl) (rfl)
theorem yv_X1_isCare : YV yX1_isCare wsX1_isCare 1 := ⟨_, _, _, _, rfl, by decide +kernel, by decide⟩
set_option maxRecDepth 100000 in
set_option maxHeartbeats 4000000 in
theorem c_X1_isCare {tys : List (ClassId × FieldType)} {w : va_W} (x : Int) (rx : -2147483648 ≤ x ∧ x < 2147483648) : CtI yX1_isCare wsX1_isCare (rmD 1) tys [.int (iZ x)] (w) (iZ (bZ (decide (0 ≤ x) && decide (x ≤ 2)))) (w) := by
  refine CtI_of (own := RX1) (by decide) rfl rfl (Nat.le_of_ble_eq_true rfl) ?_
  refine V_lvq (lv' := [(0, _)]) rfl ?_
  refine V_iload_n (q := 1) dX1_isCare_0 0 rfl rfl ?_
  refine V_iconst (q := 2) dX1_isCare_1 rfl ?_
  refine V_iconst (q := 3) dX1_isCare_2 rfl ?_
  refine V_callIs (q := 6) dX1_isCare_3 (c_X1_isIn x 0 2 rx (by decide) (by decide)) yv_X1_isIn rfl gX1_isCare_X1_isIn rfl (Nat.le_of_ble_eq_true rfl) (by decide) ?_
  exact V_zret dX1_isCare_6 rfl (rfl) (rfl)
theorem yv_X1_arePeople : YV yX1_arePeople wsX1_arePeople 1 := ⟨_, _, _, _, rfl, by decide +kernel, by decide⟩
set_option maxRecDepth 100000 in
set_option maxHeartbeats 4000000 in
theorem c_X1_arePeople {tys : List (ClassId × FieldType)} {w : va_W} (x : Int) (rx : -2147483648 ≤ x ∧ x < 2147483648) : CtI yX1_arePeople wsX1_arePeople (rmD 1) tys [.int (iZ x)] (w) (iZ (bZ (decide (0 ≤ x) && decide (x ≤ 255)))) (w) := by
  refine CtI_of (own := RX1) (by decide) rfl rfl (Nat.le_of_ble_eq_true rfl) ?_
  refine V_lvq (lv' := [(0, _)]) rfl ?_
  refine V_iload_n (q := 1) dX1_arePeople_0 0 rfl rfl ?_
  refine V_iconst (q := 2) dX1_arePeople_1 rfl ?_
  refine V_sipush (q := 5) dX1_arePeople_2 (by decide) rfl ?_
  refine V_callIs (q := 8) dX1_arePeople_5 (c_X1_isIn x 0 255 rx (by decide) (by decide)) yv_X1_isIn rfl gX1_arePeople_X1_isIn rfl (Nat.le_of_ble_eq_true rfl) (by decide) ?_
  exact V_zret dX1_arePeople_8 rfl (rfl) (rfl)
theorem hin_X1_isThing : ∀ w ∈ wsX10, w ∈ wsX1_isThing := by decide +kernel
theorem f_X1_isThing_7 : Cond.fieldLink RX1 7 (TX1 2).1 (TX1 2).2.1 (TX1 2).2.2.1 ∈ wsX1_isThing := by decide +kernel
theorem f_X1_isThing_45 : Cond.fieldLink RX1 45 (TX1 1).1 (TX1 1).2.1 (TX1 1).2.2.1 ∈ wsX1_isThing := by decide +kernel
theorem yv_X1_isThing : YV yX1_isThing wsX1_isThing 1 := ⟨_, _, _, _, rfl, by decide +kernel, by decide⟩
set_option maxRecDepth 100000 in
set_option maxHeartbeats 4000000 in
theorem c_X1_isThing {b : Nat → Nat} {d : Nat → ClassId} {S : St} {g : Nat → Nat} {th : Nat} (ho : Ok S) (x : Int) (rx : -2147483648 ≤ x ∧ x < 2147483648) : CtI yX1_isThing wsX1_isThing (rmD 1) (tym d) [.ref (b 0), .int (iZ x)] (mkc b d S g th) (iZ (bZ (hasZ S x))) (mkc b d S g th) := by
  refine CtI_of (own := RX1) (by decide) rfl rfl (Nat.le_of_ble_eq_true rfl) ?_
  refine V_lvq (lv' := [(0, _), (1, _)]) rfl ?_
  have hn := ho.1
  refine V_iload_n (q := 1) dX1_isThing_0 1 rfl rfl ?_
  refine V_iconst (q := 2) dX1_isThing_1 rfl ?_
  refine V_aload_n (q := 3) dX1_isThing_2 0 rfl rfl ?_
  refine V_get (q := 6) dX1_isThing_3 hin_X1_isThing 0 rfl rfl 1 (by decide) f_X1_isThing_45 rfl rfl ?_
  refine V_iconst (q := 7) dX1_isThing_6 rfl ?_
  refine V_isub (q := 8) dX1_isThing_7 rfl ?_
  refine V_callIs (q := 11) dX1_isThing_8 (c_X1_isIn x 0 ((sN S : Int) - 1) rx (by decide) (by omega)) yv_X1_isIn rfl gX1_isThing_X1_isIn rfl (Nat.le_of_ble_eq_true rfl) (by decide) ?_
  refine V_if_eqB (q := 14) (tgt := 27) dX1_isThing_11 (by decide) (fun c11 => ?_) (fun c11 => ?_)
  · skip
    refine V_iconst (q := 28) dX1_isThing_27 rfl ?_
    exact V_zret dX1_isThing_28 rfl (by first | exact bZ_t (by first | (simp at c11; simp [hasZ, hasT]; omega) | (have e1 : x.toNat < sN S := (by omega); simp [hasZ, hasT, c20, b1.1, e1])) | exact bZ_f (by first | (simp at c11; simp [hasZ, hasT]; omega) | (have e1 : x.toNat < sN S := (by omega); simp [hasZ, hasT, c20, b1.1, e1]))) (rfl)
  · skip
    have b1 : 0 ≤ x ∧ x ≤ (sN S : Int) - 1 := by simpa using c11
    refine V_aload_n (q := 15) dX1_isThing_14 0 rfl rfl ?_
    refine V_get (q := 18) dX1_isThing_15 hin_X1_isThing 0 rfl rfl 2 (by decide) f_X1_isThing_7 rfl rfl ?_
    refine V_iload_n (q := 19) dX1_isThing_18 1 rfl rfl ?_
    refine V_zald (q := 20) dX1_isThing_19 1 0 rfl rfl (x.toNat) (by omega) (by omega) (by decide) (rfl) rfl ?_
    refine V_if_neB (q := 23) (tgt := 27) dX1_isThing_20 (by decide) (fun c20 => ?_) (fun c20 => ?_)
    · skip
      refine V_iconst (q := 28) dX1_isThing_27 rfl ?_
      exact V_zret dX1_isThing_28 rfl (by first | exact bZ_t (by first | (simp at c11; simp [hasZ, hasT]; omega) | (have e1 : x.toNat < sN S := (by omega); simp [hasZ, hasT, c20, b1.1, e1])) | exact bZ_f (by first | (simp at c11; simp [hasZ, hasT]; omega) | (have e1 : x.toNat < sN S := (by omega); simp [hasZ, hasT, c20, b1.1, e1]))) (rfl)
    · skip
      refine V_iconst (q := 24) dX1_isThing_23 rfl ?_
      refine V_goto (tgt := 28) dX1_isThing_24 (by decide) ?_
      exact V_zret dX1_isThing_28 rfl (by first | exact bZ_t (by first | (simp at c11; simp [hasZ, hasT]; omega) | (have e1 : x.toNat < sN S := (by omega); simp [hasZ, hasT, c20, b1.1, e1])) | exact bZ_f (by first | (simp at c11; simp [hasZ, hasT]; omega) | (have e1 : x.toNat < sN S := (by omega); simp [hasZ, hasT, c20, b1.1, e1]))) (rfl)
theorem hin_X1_here : ∀ w ∈ wsX10, w ∈ wsX1_here := by decide +kernel
theorem f_X1_here_7 : Cond.fieldLink RX1 7 (TX1 2).1 (TX1 2).2.1 (TX1 2).2.2.1 ∈ wsX1_here := by decide +kernel
theorem f_X1_here_45 : Cond.fieldLink RX1 45 (TX1 1).1 (TX1 1).2.1 (TX1 1).2.2.1 ∈ wsX1_here := by decide +kernel
set_option maxRecDepth 100000 in
set_option maxHeartbeats 4000000 in
theorem lp_X1_here {b : Nat → Nat} {d : Nat → ClassId} {S : St} {g : Nat → Nat} {th : Nat} (ho : Ok S)  : ∀ (m k : Nat), k ≤ sN S → sN S + 1 ≤ k + m → V RX1 cX1_here 3 (some .int) wsX1_here (rmD 1) vX0 (tym d) (qI (tym d) (mkc b d S g th) (iZ (cnt (fun j => !(sG S j)) (sN S) : Nat)) 0 0) 0 0 (mkc b d S g th) 4 [(0, .ref (b 0)), (1, .int (iZ (cnt (fun j => !(sG S j)) k : Nat))), (2, .int (iZ k))] [] := by
  intro m
  induction m with
  | zero => intro k  h1 h2 ; exact absurd h2 (by omega)
  | succ m ih =>
    intro k  h1 h2 
    have hn := ho.1
    refine V_iload_n (q := 5) dX1_here_4 2 rfl rfl ?_
    refine V_aload_n (q := 6) dX1_here_5 0 rfl rfl ?_
    refine V_get (q := 9) dX1_here_6 hin_X1_here 0 rfl rfl 1 (by decide) f_X1_here_45 rfl rfl ?_
    refine V_icmp_ge (q := 12) (tgt := 35) dX1_here_9 (by omega) (by omega) (by decide) (fun c9 => ?_) (fun c9 => ?_)
    · skip
      refine V_iload_n (q := 36) dX1_here_35 1 rfl rfl ?_
      exact V_iret dX1_here_36 rfl (by rw [show k = sN S by omega]) (rfl)
    · skip
      refine V_iload_n (q := 13) dX1_here_12 1 rfl rfl ?_
      refine V_cut (M := 27) (iZ (bZ (!(sG S k)))) ?_ (fun k27 => ?_)
      · -- from the merge
        refine V_iadd (q := 28) dX1_here_27 rfl ?_
        refine V_top (y := iZ (cnt (fun j => !(sG S j)) (k + 1) : Nat)) (by cases hq : sG S k <;> simp [cnt, hq, bZ]) ?_
        refine V_istore_n (q := 29) (lv' := [(0, _), (1, _), (2, _)]) dX1_here_28 (by decide) rfl rfl ?_
        refine V_iinc (q := 32) (lv' := [(0, _), (1, _), (2, _)]) dX1_here_29 2 rfl (rfl) (by decide) rfl rfl ?_
        refine V_goto (tgt := 4) dX1_here_32 (by decide) ?_
        exact ih (k + 1) (by omega) (by omega)
      · -- the ways to it
        refine V_aload_n (q := 14) dX1_here_13 0 rfl rfl ?_
        refine V_get (q := 17) dX1_here_14 hin_X1_here 0 rfl rfl 2 (by decide) f_X1_here_7 rfl rfl ?_
        refine V_iload_n (q := 18) dX1_here_17 2 rfl rfl ?_
        refine V_zald (q := 19) dX1_here_18 1 0 rfl rfl (k) (rfl) (by omega) (by decide) (rfl) rfl ?_
        refine V_if_eqB (q := 22) (tgt := 26) dX1_here_19 (by decide) (fun c19 => ?_) (fun c19 => ?_)
        · skip
          refine V_iconst (q := 27) dX1_here_26 rfl ?_
          exact k27 _ (by rw [c19]; rfl)
        · skip
          refine V_iconst (q := 23) dX1_here_22 rfl ?_
          refine V_goto (tgt := 27) dX1_here_23 (by decide) ?_
          exact k27 _ (by rw [c19]; rfl)
theorem yv_X1_here : YV yX1_here wsX1_here 0 := ⟨_, _, _, _, rfl, by decide +kernel, by decide⟩
set_option maxRecDepth 100000 in
set_option maxHeartbeats 4000000 in
theorem c_X1_here {b : Nat → Nat} {d : Nat → ClassId} {S : St} {g : Nat → Nat} {th : Nat} (ho : Ok S)  : CtI yX1_here wsX1_here (rmD 1) (tym d) [.ref (b 0)] (mkc b d S g th) (iZ (cnt (hasT S) 12 : Nat)) (mkc b d S g th) := by
  refine CtI_of (own := RX1) (by decide) rfl rfl (Nat.le_of_ble_eq_true rfl) ?_
  refine V_lvq (lv' := [(0, _)]) rfl ?_
  refine V_iconst (q := 1) dX1_here_0 rfl ?_
  refine V_istore_n (q := 2) (lv' := [(0, _), (1, _)]) dX1_here_1 (by decide) rfl rfl ?_
  refine V_iconst (q := 3) dX1_here_2 rfl ?_
  refine V_istore_n (q := 4) (lv' := [(0, _), (1, _), (2, _)]) dX1_here_3 (by decide) rfl rfl ?_
  rw [← here_eq ho]
  exact lp_X1_here ho (sN S + 1) 0 (by omega) (by omega)
theorem hin_X1_doClash : ∀ w ∈ wsX10, w ∈ wsX1_doClash := by decide +kernel
theorem f_X1_doClash_17 : Cond.fieldLink RX1 17 (TX1 4).1 (TX1 4).2.1 (TX1 4).2.2.1 ∈ wsX1_doClash := by decide +kernel
theorem f_X1_doClash_32 : Cond.fieldLink RX1 32 (TX1 9).1 (TX1 9).2.1 (TX1 9).2.2.1 ∈ wsX1_doClash := by decide +kernel
theorem yv_X1_doClash : YV yX1_doClash wsX1_doClash 2 := ⟨_, _, _, _, rfl, by decide +kernel, by decide⟩
set_option maxRecDepth 100000 in
set_option maxHeartbeats 4000000 in
theorem c_X1_doClash {b : Nat → Nat} {d : Nat → ClassId} {S : St} {g : Nat → Nat} {th : Nat} (ho : Ok S) (x y : Int) (hx : 0 ≤ x ∧ x < 12) (hy : 0 ≤ y ∧ y < 12) : CtI yX1_doClash wsX1_doClash (rmD 1) (tym d) [.ref (b 0), .int (iZ x), .int (iZ y)] (mkc b d S g th) (iZ (bZ (dx S x y))) (mkc b d S g th) := by
  refine CtI_of (own := RX1) (by decide) rfl rfl (Nat.le_of_ble_eq_true rfl) ?_
  refine V_lvq (lv' := [(0, _), (1, _), (2, _)]) rfl ?_
  have h7 := ho.2.2.2.1 x.toNat
  have h8 := ho.2.2.2.1 y.toNat
  refine V_aload_n (q := 1) dX1_doClash_0 0 rfl rfl ?_
  refine V_get (q := 4) dX1_doClash_1 hin_X1_doClash 0 rfl rfl 9 (by decide) f_X1_doClash_32 rfl rfl ?_
  refine V_bipush (q := 6) dX1_doClash_4 (by decide) rfl ?_
  refine V_aload_n (q := 7) dX1_doClash_6 0 rfl rfl ?_
  refine V_get (q := 10) dX1_doClash_7 hin_X1_doClash 0 rfl rfl 4 (by decide) f_X1_doClash_17 rfl rfl ?_
  refine V_iload_n (q := 11) dX1_doClash_10 1 rfl rfl ?_
  refine V_iald (q := 12) dX1_doClash_11 3 2 rfl rfl (x.toNat) (by omega) (by omega) (by decide) (rfl) rfl ?_
  refine V_imul (q := 13) dX1_doClash_12 rfl ?_
  refine V_aload_n (q := 14) dX1_doClash_13 0 rfl rfl ?_
  refine V_get (q := 17) dX1_doClash_14 hin_X1_doClash 0 rfl rfl 4 (by decide) f_X1_doClash_17 rfl rfl ?_
  refine V_iload_n (q := 18) dX1_doClash_17 2 rfl rfl ?_
  refine V_iald (q := 19) dX1_doClash_18 3 2 rfl rfl (y.toNat) (by omega) (by omega) (by decide) (rfl) rfl ?_
  refine V_iadd (q := 20) dX1_doClash_19 rfl ?_
  refine V_zald (q := 21) dX1_doClash_20 8 7 rfl rfl (8 * sC S x.toNat + sC S y.toNat) (by omega) (by omega) (by decide) (rfl) rfl ?_
  exact V_zret dX1_doClash_21 rfl (rfl) (rfl)
theorem hin_X1_wrong : ∀ w ∈ wsX10, w ∈ wsX1_wrong := by decide +kernel
theorem f_X1_wrong_13 : Cond.fieldLink RX1 13 (TX1 3).1 (TX1 3).2.1 (TX1 3).2.2.1 ∈ wsX1_wrong := by decide +kernel
theorem yv_X1_wrong : YV yX1_wrong wsX1_wrong 3 := ⟨_, _, _, _, rfl, by decide +kernel, by decide⟩
set_option maxRecDepth 100000 in
set_option maxHeartbeats 4000000 in
theorem c_X1_wrong {b : Nat → Nat} {d : Nat → ClassId} {S : St} {g : Nat → Nat} {th : Nat} (ho : Ok S) (t u e : Int) (rt : -2147483648 ≤ t ∧ t < 2147483648) (ru : -2147483648 ≤ u ∧ u < 2147483648) (re : -2147483648 ≤ e ∧ e < 2147483648) : CtI yX1_wrong wsX1_wrong (rmD 2) (tym d) [.ref (b 0), .int (iZ t), .int (iZ u), .int (iZ e)] (mkc b d S g th) (iZ (wrZ S t u e)) (mkc b d S g th) := by
  refine CtI_of (own := RX1) (by decide) rfl rfl (Nat.le_of_ble_eq_true rfl) ?_
  refine V_lvq (lv' := [(0, _), (1, _), (2, _), (3, _)]) rfl ?_
  refine V_cut (M := 34) (iZ (bZ (hasZ S t && hasZ S u && (decide (e = -1) || hasZ S e)))) ?_ (fun k34 => ?_)
  · -- from the merge
    refine V_istore (q := 36) (lv' := [(0, _), (1, _), (2, _), (3, _), (4, _)]) dX1_wrong_34 (by decide) rfl rfl ?_
    refine V_iload (q := 38) dX1_wrong_36 4 rfl rfl ?_
    refine V_if_neB (q := 41) (tgt := 45) dX1_wrong_38 (by decide) (fun c38 => ?_) (fun c38 => ?_)
    · skip
      have h9 : (hasZ S t = true ∧ hasZ S u = true) ∧ (e = -1 ∨ hasZ S e = true) := by simpa using c38
      obtain ⟨⟨ht, hu⟩, he⟩ := h9
      obtain ⟨t0, t1, t2, t3, t4⟩ := hasZ_lt ho ht
      obtain ⟨u0, u1, u2, u3, u4⟩ := hasZ_lt ho hu
      have k1 := ho.2.2.1 t.toNat
      have k2 := ho.2.2.1 u.toNat
      have k3 := ho.2.2.1 e.toNat
      refine V_aload_n (q := 46) dX1_wrong_45 0 rfl rfl ?_
      refine V_get (q := 49) dX1_wrong_46 hin_X1_wrong 0 rfl rfl 3 (by decide) f_X1_wrong_13 rfl rfl ?_
      refine V_iload_n (q := 50) dX1_wrong_49 1 rfl rfl ?_
      refine V_iald (q := 51) dX1_wrong_50 2 1 rfl rfl (t.toNat) (t2.symm) (t4) (by decide) (rfl) rfl ?_
      refine V_if_ne (q := 54) (tgt := 79) dX1_wrong_51 (by omega) (by decide) (fun c51 => ?_) (fun c51 => ?_)
      · skip
        refine V_iconst (q := 80) dX1_wrong_79 rfl ?_
        refine V_goto (tgt := 84) dX1_wrong_80 (by decide) ?_
        exact V_iret dX1_wrong_84 rfl (by congr 1; unfold wrZ kdZ; first | (rw [if_neg (by rw [c38]; decide)]; rfl) | (rw [if_pos c38, ht, hu]; first | (rw [if_pos (by first | (simp only [Bool.true_and, Bool.and_eq_true, Bool.or_eq_true, decide_eq_true_eq, he2, true_and]; omega) | (simp only [Bool.true_and, Bool.and_eq_true, Bool.or_eq_true, decide_eq_true_eq]; omega))]; rfl) | (rw [if_neg (by first | (simp only [Bool.true_and, Bool.and_eq_true, Bool.or_eq_true, decide_eq_true_eq, he2, true_and]; omega) | (simp only [Bool.true_and, Bool.and_eq_true, Bool.or_eq_true, decide_eq_true_eq]; omega))]; rfl))) (rfl)
      · skip
        refine V_aload_n (q := 55) dX1_wrong_54 0 rfl rfl ?_
        refine V_get (q := 58) dX1_wrong_55 hin_X1_wrong 0 rfl rfl 3 (by decide) f_X1_wrong_13 rfl rfl ?_
        refine V_iload_n (q := 59) dX1_wrong_58 2 rfl rfl ?_
        refine V_iald (q := 60) dX1_wrong_59 2 1 rfl rfl (u.toNat) (u2.symm) (u4) (by decide) (rfl) rfl ?_
        refine V_iconst (q := 61) dX1_wrong_60 rfl ?_
        refine V_icmp_ne (q := 64) (tgt := 79) dX1_wrong_61 (by omega) (by omega) (by decide) (fun c61 => ?_) (fun c61 => ?_)
        · skip
          refine V_iconst (q := 80) dX1_wrong_79 rfl ?_
          refine V_goto (tgt := 84) dX1_wrong_80 (by decide) ?_
          exact V_iret dX1_wrong_84 rfl (by congr 1; unfold wrZ kdZ; first | (rw [if_neg (by rw [c38]; decide)]; rfl) | (rw [if_pos c38, ht, hu]; first | (rw [if_pos (by first | (simp only [Bool.true_and, Bool.and_eq_true, Bool.or_eq_true, decide_eq_true_eq, he2, true_and]; omega) | (simp only [Bool.true_and, Bool.and_eq_true, Bool.or_eq_true, decide_eq_true_eq]; omega))]; rfl) | (rw [if_neg (by first | (simp only [Bool.true_and, Bool.and_eq_true, Bool.or_eq_true, decide_eq_true_eq, he2, true_and]; omega) | (simp only [Bool.true_and, Bool.and_eq_true, Bool.or_eq_true, decide_eq_true_eq]; omega))]; rfl))) (rfl)
        · skip
          refine V_iload_n (q := 65) dX1_wrong_64 3 rfl rfl ?_
          refine V_iconst (q := 66) dX1_wrong_65 rfl ?_
          refine V_icmp_eq (q := 69) (tgt := 83) dX1_wrong_66 (by omega) (by omega) (by decide) (fun c66 => ?_) (fun c66 => ?_)
          · skip
            refine V_iconst (q := 84) dX1_wrong_83 rfl ?_
            exact V_iret dX1_wrong_84 rfl (by congr 1; unfold wrZ kdZ; first | (rw [if_neg (by rw [c38]; decide)]; rfl) | (rw [if_pos c38, ht, hu]; first | (rw [if_pos (by first | (simp only [Bool.true_and, Bool.and_eq_true, Bool.or_eq_true, decide_eq_true_eq, he2, true_and]; omega) | (simp only [Bool.true_and, Bool.and_eq_true, Bool.or_eq_true, decide_eq_true_eq]; omega))]; rfl) | (rw [if_neg (by first | (simp only [Bool.true_and, Bool.and_eq_true, Bool.or_eq_true, decide_eq_true_eq, he2, true_and]; omega) | (simp only [Bool.true_and, Bool.and_eq_true, Bool.or_eq_true, decide_eq_true_eq]; omega))]; rfl))) (rfl)
          · skip
            have he2 : hasZ S e = true := he.resolve_left (by omega)
            obtain ⟨e0, e1, e2, e3, e4⟩ := hasZ_lt ho he2
            refine V_aload_n (q := 70) dX1_wrong_69 0 rfl rfl ?_
            refine V_get (q := 73) dX1_wrong_70 hin_X1_wrong 0 rfl rfl 3 (by decide) f_X1_wrong_13 rfl rfl ?_
            refine V_iload_n (q := 74) dX1_wrong_73 3 rfl rfl ?_
            refine V_iald (q := 75) dX1_wrong_74 2 1 rfl rfl (e.toNat) (e2.symm) (e4) (by decide) (rfl) rfl ?_
            refine V_iconst (q := 76) dX1_wrong_75 rfl ?_
            refine V_icmp_eq (q := 79) (tgt := 83) dX1_wrong_76 (by omega) (by omega) (by decide) (fun c76 => ?_) (fun c76 => ?_)
            · skip
              refine V_iconst (q := 84) dX1_wrong_83 rfl ?_
              exact V_iret dX1_wrong_84 rfl (by congr 1; unfold wrZ kdZ; first | (rw [if_neg (by rw [c38]; decide)]; rfl) | (rw [if_pos c38, ht, hu]; first | (rw [if_pos (by first | (simp only [Bool.true_and, Bool.and_eq_true, Bool.or_eq_true, decide_eq_true_eq, he2, true_and]; omega) | (simp only [Bool.true_and, Bool.and_eq_true, Bool.or_eq_true, decide_eq_true_eq]; omega))]; rfl) | (rw [if_neg (by first | (simp only [Bool.true_and, Bool.and_eq_true, Bool.or_eq_true, decide_eq_true_eq, he2, true_and]; omega) | (simp only [Bool.true_and, Bool.and_eq_true, Bool.or_eq_true, decide_eq_true_eq]; omega))]; rfl))) (rfl)
            · skip
              refine V_iconst (q := 80) dX1_wrong_79 rfl ?_
              refine V_goto (tgt := 84) dX1_wrong_80 (by decide) ?_
              exact V_iret dX1_wrong_84 rfl (by congr 1; unfold wrZ kdZ; first | (rw [if_neg (by rw [c38]; decide)]; rfl) | (rw [if_pos c38, ht, hu]; first | (rw [if_pos (by first | (simp only [Bool.true_and, Bool.and_eq_true, Bool.or_eq_true, decide_eq_true_eq, he2, true_and]; omega) | (simp only [Bool.true_and, Bool.and_eq_true, Bool.or_eq_true, decide_eq_true_eq]; omega))]; rfl) | (rw [if_neg (by first | (simp only [Bool.true_and, Bool.and_eq_true, Bool.or_eq_true, decide_eq_true_eq, he2, true_and]; omega) | (simp only [Bool.true_and, Bool.and_eq_true, Bool.or_eq_true, decide_eq_true_eq]; omega))]; rfl))) (rfl)
    · skip
      refine V_iconst (q := 42) dX1_wrong_41 rfl ?_
      refine V_goto (tgt := 84) dX1_wrong_42 (by decide) ?_
      exact V_iret dX1_wrong_84 rfl (by congr 1; unfold wrZ kdZ; first | (rw [if_neg (by rw [c38]; decide)]; rfl) | (rw [if_pos c38, ht, hu]; first | (rw [if_pos (by first | (simp only [Bool.true_and, Bool.and_eq_true, Bool.or_eq_true, decide_eq_true_eq, he2, true_and]; omega) | (simp only [Bool.true_and, Bool.and_eq_true, Bool.or_eq_true, decide_eq_true_eq]; omega))]; rfl) | (rw [if_neg (by first | (simp only [Bool.true_and, Bool.and_eq_true, Bool.or_eq_true, decide_eq_true_eq, he2, true_and]; omega) | (simp only [Bool.true_and, Bool.and_eq_true, Bool.or_eq_true, decide_eq_true_eq]; omega))]; rfl))) (rfl)
  · -- the ways to it
    refine V_aload_n (q := 1) dX1_wrong_0 0 rfl rfl ?_
    refine V_iload_n (q := 2) dX1_wrong_1 1 rfl rfl ?_
    refine V_callIv (q := 5) dX1_wrong_2 (c_X1_isThing ho t rt) yv_X1_isThing rfl gX1_wrong_X1_isThing rfl 0 rfl rfl rfl rfl (Nat.le_of_ble_eq_true rfl) (by decide) ?_
    refine V_if_eqB (q := 8) (tgt := 33) dX1_wrong_5 (by decide) (fun c5 => ?_) (fun c5 => ?_)
    · skip
      refine V_iconst (q := 34) dX1_wrong_33 rfl ?_
      exact k34 _ (by first | exact bZ_t (by simp [*]) | exact bZ_f (by simp [*]))
    · skip
      refine V_aload_n (q := 9) dX1_wrong_8 0 rfl rfl ?_
      refine V_iload_n (q := 10) dX1_wrong_9 2 rfl rfl ?_
      refine V_callIv (q := 13) dX1_wrong_10 (c_X1_isThing ho u ru) yv_X1_isThing rfl gX1_wrong_X1_isThing rfl 0 rfl rfl rfl rfl (Nat.le_of_ble_eq_true rfl) (by decide) ?_
      refine V_if_eqB (q := 16) (tgt := 33) dX1_wrong_13 (by decide) (fun c13 => ?_) (fun c13 => ?_)
      · skip
        refine V_iconst (q := 34) dX1_wrong_33 rfl ?_
        exact k34 _ (by first | exact bZ_t (by simp [*]) | exact bZ_f (by simp [*]))
      · skip
        refine V_iload_n (q := 17) dX1_wrong_16 3 rfl rfl ?_
        refine V_iconst (q := 18) dX1_wrong_17 rfl ?_
        refine V_icmp_eq (q := 21) (tgt := 29) dX1_wrong_18 (by omega) (by omega) (by decide) (fun c18 => ?_) (fun c18 => ?_)
        · skip
          refine V_iconst (q := 30) dX1_wrong_29 rfl ?_
          refine V_goto (tgt := 34) dX1_wrong_30 (by decide) ?_
          exact k34 _ (by first | exact bZ_t (by simp [*]) | exact bZ_f (by simp [*]))
        · skip
          refine V_aload_n (q := 22) dX1_wrong_21 0 rfl rfl ?_
          refine V_iload_n (q := 23) dX1_wrong_22 3 rfl rfl ?_
          refine V_callIv (q := 26) dX1_wrong_23 (c_X1_isThing ho e re) yv_X1_isThing rfl gX1_wrong_X1_isThing rfl 0 rfl rfl rfl rfl (Nat.le_of_ble_eq_true rfl) (by decide) ?_
          refine V_if_eqB (q := 29) (tgt := 33) dX1_wrong_26 (by decide) (fun c26 => ?_) (fun c26 => ?_)
          · skip
            refine V_iconst (q := 34) dX1_wrong_33 rfl ?_
            exact k34 _ (by first | exact bZ_t (by simp [*]) | exact bZ_f (by simp [*]))
          · skip
            refine V_iconst (q := 30) dX1_wrong_29 rfl ?_
            refine V_goto (tgt := 34) dX1_wrong_30 (by decide) ?_
            exact k34 _ (by first | exact bZ_t (by simp [*]) | exact bZ_f (by simp [*]))
theorem hin_X1_fits : ∀ w ∈ wsX10, w ∈ wsX1_fits := by decide +kernel
theorem f_X1_fits_29 : Cond.fieldLink RX1 29 (TX1 8).1 (TX1 8).2.1 (TX1 8).2.2.1 ∈ wsX1_fits := by decide +kernel
theorem yv_X1_fits : YV yX1_fits wsX1_fits 3 := ⟨_, _, _, _, rfl, by decide +kernel, by decide⟩
set_option maxRecDepth 100000 in
set_option maxHeartbeats 4000000 in
theorem c_X1_fits {b : Nat → Nat} {d : Nat → ClassId} {S : St} {g : Nat → Nat} {th : Nat} (ho : Ok S) (t u e : Int) (rt : -2147483648 ≤ t ∧ t < 2147483648) (ru : -2147483648 ≤ u ∧ u < 2147483648) (re : -2147483648 ≤ e ∧ e < 2147483648) (hw : wrZ S t u e = 0) : CtI yX1_fits wsX1_fits (rmD 2) (tym d) [.ref (b 0), .int (iZ t), .int (iZ u), .int (iZ e)] (mkc b d S g th) (iZ (bZ (canZ S t u e))) (mkc b d S g th) := by
  refine CtI_of (own := RX1) (by decide) rfl rfl (Nat.le_of_ble_eq_true rfl) ?_
  refine V_lvq (lv' := [(0, _), (1, _), (2, _), (3, _)]) rfl ?_
  obtain ⟨ht, hu, he, -, -, -⟩ := wr_0 hw
  obtain ⟨t0, t1, t2, t3, t4⟩ := hasZ_lt ho ht
  obtain ⟨u0, u1, u2, u3, u4⟩ := hasZ_lt ho hu
  rw [can_wr ho hw]
  refine V_cut (M := 32) (iZ (bZ (decide (0 < sL S t.toNat) && decide (0 < sL S u.toNat) && !(dx S t u)))) ?_ (fun k32 => ?_)
  · -- from the merge
    refine V_istore (q := 34) (lv' := [(0, _), (1, _), (2, _), (3, _), (4, _)]) dX1_fits_32 (by decide) rfl rfl ?_
    refine V_iload (q := 36) dX1_fits_34 4 rfl rfl ?_
    refine V_if_eqB (q := 39) (tgt := 75) dX1_fits_36 (by decide) (fun c36 => ?_) (fun c36 => ?_)
    · skip
      refine V_iconst (q := 76) dX1_fits_75 rfl ?_
      exact V_zret dX1_fits_76 rfl (by first | exact bZ_t (by (try clear e2); (try clear t2); (try clear u2); simp only [c36]; simp [*]) | exact bZ_f (by (try clear e2); (try clear t2); (try clear u2); simp only [c36]; simp [*])) (rfl)
    · skip
      refine V_iload_n (q := 40) dX1_fits_39 3 rfl rfl ?_
      refine V_iconst (q := 41) dX1_fits_40 rfl ?_
      refine V_icmp_eq (q := 44) (tgt := 71) dX1_fits_41 (by omega) (by omega) (by decide) (fun c41 => ?_) (fun c41 => ?_)
      · skip
        refine V_iconst (q := 72) dX1_fits_71 rfl ?_
        refine V_goto (tgt := 76) dX1_fits_72 (by decide) ?_
        exact V_zret dX1_fits_76 rfl (by first | exact bZ_t (by (try clear e2); (try clear t2); (try clear u2); simp only [c36]; simp [*]) | exact bZ_f (by (try clear e2); (try clear t2); (try clear u2); simp only [c36]; simp [*])) (rfl)
      · skip
        have he2 : hasZ S e = true := he.resolve_left (by omega)
        obtain ⟨e0, e1, e2, e3, e4⟩ := hasZ_lt ho he2
        refine V_aload_n (q := 45) dX1_fits_44 0 rfl rfl ?_
        refine V_get (q := 48) dX1_fits_45 hin_X1_fits 0 rfl rfl 8 (by decide) f_X1_fits_29 rfl rfl ?_
        refine V_iload_n (q := 49) dX1_fits_48 3 rfl rfl ?_
        refine V_iald (q := 50) dX1_fits_49 7 6 rfl rfl (e.toNat) (e2.symm) (e4) (by decide) (rfl) rfl ?_
        refine V_if_le (q := 53) (tgt := 75) dX1_fits_50 (by have y1 := ho.2.2.2.2.2.2.2.1 e.toNat; have y2 := ho.2.2.2.2.2.1 e.toNat; omega) (by decide) (fun c50 => ?_) (fun c50 => ?_)
        · skip
          have d50 : ¬ 0 < sL S e.toNat := by omega
          refine V_iconst (q := 76) dX1_fits_75 rfl ?_
          exact V_zret dX1_fits_76 rfl (by first | exact bZ_t (by (try clear e2); (try clear t2); (try clear u2); simp only [c36]; simp [*]) | exact bZ_f (by (try clear e2); (try clear t2); (try clear u2); simp only [c36]; simp [*])) (rfl)
        · skip
          have d50 : 0 < sL S e.toNat := by omega
          refine V_aload_n (q := 54) dX1_fits_53 0 rfl rfl ?_
          refine V_iload_n (q := 55) dX1_fits_54 1 rfl rfl ?_
          refine V_iload_n (q := 56) dX1_fits_55 3 rfl rfl ?_
          refine V_callIv (q := 59) dX1_fits_56 (c_X1_doClash ho t e ⟨t0, t1⟩ ⟨e0, e1⟩) yv_X1_doClash rfl gX1_fits_X1_doClash rfl 0 rfl rfl rfl rfl (Nat.le_of_ble_eq_true rfl) (by decide) ?_
          refine V_if_neB (q := 62) (tgt := 75) dX1_fits_59 (by decide) (fun c59 => ?_) (fun c59 => ?_)
          · skip
            refine V_iconst (q := 76) dX1_fits_75 rfl ?_
            exact V_zret dX1_fits_76 rfl (by first | exact bZ_t (by (try clear e2); (try clear t2); (try clear u2); simp only [c36]; simp [*]) | exact bZ_f (by (try clear e2); (try clear t2); (try clear u2); simp only [c36]; simp [*])) (rfl)
          · skip
            refine V_aload_n (q := 63) dX1_fits_62 0 rfl rfl ?_
            refine V_iload_n (q := 64) dX1_fits_63 2 rfl rfl ?_
            refine V_iload_n (q := 65) dX1_fits_64 3 rfl rfl ?_
            refine V_callIv (q := 68) dX1_fits_65 (c_X1_doClash ho u e ⟨u0, u1⟩ ⟨e0, e1⟩) yv_X1_doClash rfl gX1_fits_X1_doClash rfl 0 rfl rfl rfl rfl (Nat.le_of_ble_eq_true rfl) (by decide) ?_
            refine V_if_neB (q := 71) (tgt := 75) dX1_fits_68 (by decide) (fun c68 => ?_) (fun c68 => ?_)
            · skip
              refine V_iconst (q := 76) dX1_fits_75 rfl ?_
              exact V_zret dX1_fits_76 rfl (by first | exact bZ_t (by (try clear e2); (try clear t2); (try clear u2); simp only [c36]; simp [*]) | exact bZ_f (by (try clear e2); (try clear t2); (try clear u2); simp only [c36]; simp [*])) (rfl)
            · skip
              refine V_iconst (q := 72) dX1_fits_71 rfl ?_
              refine V_goto (tgt := 76) dX1_fits_72 (by decide) ?_
              exact V_zret dX1_fits_76 rfl (by first | exact bZ_t (by (try clear e2); (try clear t2); (try clear u2); simp only [c36]; simp [*]) | exact bZ_f (by (try clear e2); (try clear t2); (try clear u2); simp only [c36]; simp [*])) (rfl)
  · -- the ways to it
    refine V_aload_n (q := 1) dX1_fits_0 0 rfl rfl ?_
    refine V_get (q := 4) dX1_fits_1 hin_X1_fits 0 rfl rfl 8 (by decide) f_X1_fits_29 rfl rfl ?_
    refine V_iload_n (q := 5) dX1_fits_4 1 rfl rfl ?_
    refine V_iald (q := 6) dX1_fits_5 7 6 rfl rfl (t.toNat) (t2.symm) (t4) (by decide) (rfl) rfl ?_
    refine V_if_le (q := 9) (tgt := 31) dX1_fits_6 (by have y1 := ho.2.2.2.2.2.2.2.1 t.toNat; have y2 := ho.2.2.2.2.2.1 t.toNat; omega) (by decide) (fun c6 => ?_) (fun c6 => ?_)
    · skip
      have d6 : ¬ 0 < sL S t.toNat := by omega
      refine V_iconst (q := 32) dX1_fits_31 rfl ?_
      exact k32 _ (by first | exact bZ_t (by simp [*]) | exact bZ_f (by simp [*]))
    · skip
      have d6 : 0 < sL S t.toNat := by omega
      refine V_aload_n (q := 10) dX1_fits_9 0 rfl rfl ?_
      refine V_get (q := 13) dX1_fits_10 hin_X1_fits 0 rfl rfl 8 (by decide) f_X1_fits_29 rfl rfl ?_
      refine V_iload_n (q := 14) dX1_fits_13 2 rfl rfl ?_
      refine V_iald (q := 15) dX1_fits_14 7 6 rfl rfl (u.toNat) (u2.symm) (u4) (by decide) (rfl) rfl ?_
      refine V_if_le (q := 18) (tgt := 31) dX1_fits_15 (by have y1 := ho.2.2.2.2.2.2.2.1 u.toNat; have y2 := ho.2.2.2.2.2.1 u.toNat; omega) (by decide) (fun c15 => ?_) (fun c15 => ?_)
      · skip
        have d15 : ¬ 0 < sL S u.toNat := by omega
        refine V_iconst (q := 32) dX1_fits_31 rfl ?_
        exact k32 _ (by first | exact bZ_t (by simp [*]) | exact bZ_f (by simp [*]))
      · skip
        have d15 : 0 < sL S u.toNat := by omega
        refine V_aload_n (q := 19) dX1_fits_18 0 rfl rfl ?_
        refine V_iload_n (q := 20) dX1_fits_19 1 rfl rfl ?_
        refine V_iload_n (q := 21) dX1_fits_20 2 rfl rfl ?_
        refine V_callIv (q := 24) dX1_fits_21 (c_X1_doClash ho t u ⟨t0, t1⟩ ⟨u0, u1⟩) yv_X1_doClash rfl gX1_fits_X1_doClash rfl 0 rfl rfl rfl rfl (Nat.le_of_ble_eq_true rfl) (by decide) ?_
        refine V_if_neB (q := 27) (tgt := 31) dX1_fits_24 (by decide) (fun c24 => ?_) (fun c24 => ?_)
        · skip
          refine V_iconst (q := 32) dX1_fits_31 rfl ?_
          exact k32 _ (by first | exact bZ_t (by simp [*]) | exact bZ_f (by simp [*]))
        · skip
          refine V_iconst (q := 28) dX1_fits_27 rfl ?_
          refine V_goto (tgt := 32) dX1_fits_28 (by decide) ?_
          exact k32 _ (by first | exact bZ_t (by simp [*]) | exact bZ_f (by simp [*]))
theorem hin_X1_warmthOf : ∀ w ∈ wsX10, w ∈ wsX1_warmthOf := by decide +kernel
theorem f_X1_warmthOf_20 : Cond.fieldLink RX1 20 (TX1 5).1 (TX1 5).2.1 (TX1 5).2.2.1 ∈ wsX1_warmthOf := by decide +kernel
theorem yv_X1_warmthOf : YV yX1_warmthOf wsX1_warmthOf 3 := ⟨_, _, _, _, rfl, by decide +kernel, by decide⟩
set_option maxRecDepth 100000 in
set_option maxHeartbeats 4000000 in
theorem c_X1_warmthOf {b : Nat → Nat} {d : Nat → ClassId} {S : St} {g : Nat → Nat} {th : Nat} (ho : Ok S) (t u e : Int) (rt : -2147483648 ≤ t ∧ t < 2147483648) (ru : -2147483648 ≤ u ∧ u < 2147483648) (re : -2147483648 ≤ e ∧ e < 2147483648) (hw : wrZ S t u e = 0) : CtI yX1_warmthOf wsX1_warmthOf (rmD 2) (tym d) [.ref (b 0), .int (iZ t), .int (iZ u), .int (iZ e)] (mkc b d S g th) (iZ (owZ S t u e)) (mkc b d S g th) := by
  refine CtI_of (own := RX1) (by decide) rfl rfl (Nat.le_of_ble_eq_true rfl) ?_
  refine V_lvq (lv' := [(0, _), (1, _), (2, _), (3, _)]) rfl ?_
  obtain ⟨ht, hu, he, -, -, -⟩ := wr_0 hw
  obtain ⟨t0, t1, t2, t3, t4⟩ := hasZ_lt ho ht
  obtain ⟨u0, u1, u2, u3, u4⟩ := hasZ_lt ho hu
  rw [ow_wr ht hu]
  refine V_aload_n (q := 1) dX1_warmthOf_0 0 rfl rfl ?_
  refine V_get (q := 4) dX1_warmthOf_1 hin_X1_warmthOf 0 rfl rfl 5 (by decide) f_X1_warmthOf_20 rfl rfl ?_
  refine V_iload_n (q := 5) dX1_warmthOf_4 1 rfl rfl ?_
  refine V_iald (q := 6) dX1_warmthOf_5 4 3 rfl rfl (t.toNat) (t2.symm) (t4) (by decide) (rfl) rfl ?_
  refine V_aload_n (q := 7) dX1_warmthOf_6 0 rfl rfl ?_
  refine V_get (q := 10) dX1_warmthOf_7 hin_X1_warmthOf 0 rfl rfl 5 (by decide) f_X1_warmthOf_20 rfl rfl ?_
  refine V_iload_n (q := 11) dX1_warmthOf_10 2 rfl rfl ?_
  refine V_iald (q := 12) dX1_warmthOf_11 4 3 rfl rfl (u.toNat) (u2.symm) (u4) (by decide) (rfl) rfl ?_
  refine V_iadd (q := 13) dX1_warmthOf_12 rfl ?_
  refine V_cut (M := 28) (iZ (wrmZ S e)) ?_ (fun k28 => ?_)
  · -- from the merge
    refine V_iadd (q := 29) dX1_warmthOf_28 rfl ?_
    exact V_iret dX1_warmthOf_29 rfl (by congr 1) (rfl)
  · -- the ways to it
    refine V_iload_n (q := 14) dX1_warmthOf_13 3 rfl rfl ?_
    refine V_iconst (q := 15) dX1_warmthOf_14 rfl ?_
    refine V_icmp_ne (q := 18) (tgt := 22) dX1_warmthOf_15 (by omega) (by omega) (by decide) (fun c15 => ?_) (fun c15 => ?_)
    · skip
      have he2 : hasZ S e = true := he.resolve_left (by omega)
      obtain ⟨e0, e1, e2, e3, e4⟩ := hasZ_lt ho he2
      refine V_aload_n (q := 23) dX1_warmthOf_22 0 rfl rfl ?_
      refine V_get (q := 26) dX1_warmthOf_23 hin_X1_warmthOf 0 rfl rfl 5 (by decide) f_X1_warmthOf_20 rfl rfl ?_
      refine V_iload_n (q := 27) dX1_warmthOf_26 3 rfl rfl ?_
      refine V_iald (q := 28) dX1_warmthOf_27 4 3 rfl rfl (e.toNat) (e2.symm) (e4) (by decide) (rfl) rfl ?_
      exact k28 _ (by first | (rw [c15]; unfold wrmZ; rw [has_m1]; rfl) | (rw [show wrmZ S e = sW S e.toNat from if_pos he2]))
    · skip
      refine V_iconst (q := 19) dX1_warmthOf_18 rfl ?_
      refine V_goto (tgt := 28) dX1_warmthOf_19 (by decide) ?_
      exact k28 _ (by first | (rw [c15]; unfold wrmZ; rw [has_m1]; rfl) | (rw [show wrmZ S e = sW S e.toNat from if_pos he2]))
theorem hin_X1_isSoon : ∀ w ∈ wsX10, w ∈ wsX1_isSoon := by decide +kernel
theorem f_X1_isSoon_35 : Cond.fieldLink RX1 35 (TX1 10).1 (TX1 10).2.1 (TX1 10).2.2.1 ∈ wsX1_isSoon := by decide +kernel
theorem f_X1_isSoon_73 : Cond.fieldLink RX1 73 (TX1 0).1 (TX1 0).2.1 (TX1 0).2.2.1 ∈ wsX1_isSoon := by decide +kernel
set_option maxRecDepth 100000 in
set_option maxHeartbeats 4000000 in
theorem lp_X1_isSoon {b : Nat → Nat} {d : Nat → ClassId} {S : St} {g : Nat → Nat} {th : Nat} (ho : Ok S) (t u : Int) (p : Nat) (rt : -2147483648 ≤ t ∧ t < 2147483648) (ru : -2147483648 ≤ u ∧ u < 2147483648) (hp : p < 256) (ht : hasZ S t = true) (hu : hasZ S u = true) : ∀ (m k : Nat), k ≤ 8 → 8 + 1 ≤ k + m → V RX1 cX1_isSoon 7 (some .boolean) wsX1_isSoon (rmD 1) vX0 (tym d) (qI (tym d) (mkc b d S g th) (iZ (bZ (exB (snP S t u p) 8))) 0 0) 0 0 (mkc b d S g th) 6 [(0, .ref (b 0)), (1, .int (iZ t)), (2, .int (iZ u)), (3, .int (iZ p)), (4, .int (iZ (bZ (exB (snP S t u p) k)))), (5, .int (iZ k))] [] := by
  intro m
  induction m with
  | zero => intro k  h1 h2 ; exact absurd h2 (by omega)
  | succ m ih =>
    intro k  h1 h2 
    obtain ⟨t0, t1, t2, t3, t4⟩ := hasZ_lt ho ht
    obtain ⟨u0, u1, u2, u3, u4⟩ := hasZ_lt ho hu
    refine V_iload (q := 8) dX1_isSoon_6 5 rfl rfl ?_
    refine V_bipush (q := 10) dX1_isSoon_8 (by decide) rfl ?_
    refine V_icmp_ge (q := 13) (tgt := 79) dX1_isSoon_10 (by omega) (by omega) (by decide) (fun c10 => ?_) (fun c10 => ?_)
    · skip
      refine V_iload (q := 81) dX1_isSoon_79 4 rfl rfl ?_
      exact V_zret dX1_isSoon_81 rfl (by rw [show k = 8 by omega]) (rfl)
    · skip
      refine V_aload_n (q := 14) dX1_isSoon_13 0 rfl rfl ?_
      refine V_get (q := 17) dX1_isSoon_14 hin_X1_isSoon 0 rfl rfl 10 (by decide) f_X1_isSoon_35 rfl rfl ?_
      refine V_bipush (q := 19) dX1_isSoon_17 (by decide) rfl ?_
      refine V_bipush (q := 21) dX1_isSoon_19 (by decide) rfl ?_
      refine V_iload_n (q := 22) dX1_isSoon_21 1 rfl rfl ?_
      refine V_imul (q := 23) dX1_isSoon_22 rfl ?_
      refine V_iload_n (q := 24) dX1_isSoon_23 2 rfl rfl ?_
      refine V_iadd (q := 25) dX1_isSoon_24 rfl ?_
      refine V_imul (q := 26) dX1_isSoon_25 rfl ?_
      refine V_iload (q := 28) dX1_isSoon_26 5 rfl rfl ?_
      refine V_iadd (q := 29) dX1_isSoon_28 rfl ?_
      refine V_iald (q := 30) dX1_isSoon_29 9 8 rfl rfl (8 * (12 * t.toNat + u.toNat) + k) (by omega) (by omega) (by decide) (rfl) rfl ?_
      refine V_istore (q := 32) (lv' := [(0, _), (1, _), (2, _), (3, _), (4, _), (5, _), (6, _)]) dX1_isSoon_30 (by decide) rfl rfl ?_
      have ey : exB (snP S t u p) (k + 1) = (exB (snP S t u p) k || (p.testBit k && (decide (0 < sE S (8 * (12 * t.toNat + u.toNat) + k)) && decide ((sT S : Int) - ((sE S (8 * (12 * t.toNat + u.toNat) + k) : Int) - 1) < 7)))) := by rw [← fr_day]; rfl
      have y1 := ho.2.1
      have y2 := ho.2.2.2.2.2.2.2.2.1 (8 * (12 * t.toNat + u.toNat) + k)
      refine V_cut (M := 71) (iZ (bZ (exB (snP S t u p) (k + 1)))) ?_ (fun k71 => ?_)
      · -- from the merge
        refine V_istore (q := 73) (lv' := [(0, _), (1, _), (2, _), (3, _), (4, _), (5, _), (6, _)]) dX1_isSoon_71 (by decide) rfl rfl ?_
        refine V_loc (lv' := [(0, _), (1, _), (2, _), (3, _), (4, _), (5, _)]) [0, 1, 2, 3, 4, 5] rfl ?_
        refine V_iinc (q := 76) (lv' := [(0, _), (1, _), (2, _), (3, _), (4, _), (5, _)]) dX1_isSoon_73 5 rfl (rfl) (by decide) rfl rfl ?_
        refine V_goto (tgt := 6) dX1_isSoon_76 (by decide) ?_
        exact ih (k + 1) (by omega) (by omega)
      · -- the ways to it
        refine V_iload (q := 34) dX1_isSoon_32 4 rfl rfl ?_
        refine V_if_neB (q := 37) (tgt := 66) dX1_isSoon_34 (by decide) (fun c34 => ?_) (fun c34 => ?_)
        · skip
          refine V_iconst (q := 67) dX1_isSoon_66 rfl ?_
          refine V_goto (tgt := 71) dX1_isSoon_67 (by decide) ?_
          exact k71 _ (by first | exact bZ_t (by rw [ey]; simp [*]) | exact bZ_f (by rw [ey]; simp [*]))
        · skip
          refine V_iload_n (q := 38) dX1_isSoon_37 3 rfl rfl ?_
          refine V_iload (q := 40) dX1_isSoon_38 5 rfl rfl ?_
          refine V_ishr (q := 41) dX1_isSoon_40 rfl ?_
          refine V_iconst (q := 42) dX1_isSoon_41 rfl ?_
          refine V_iand (q := 43) dX1_isSoon_42 rfl ?_
          refine V_top (z_tb (by omega) (by omega)) ?_
          refine V_iconst (q := 44) dX1_isSoon_43 rfl ?_
          refine V_icmp_ne (q := 47) (tgt := 70) dX1_isSoon_44 (bZ_in _) (by decide) (by decide) (fun c44 => ?_) (fun c44 => ?_)
          · skip
            have d44 : p.testBit k = false := by cases hq : p.testBit k <;> simp [hq, bZ] at c44 ⊢
            refine V_iconst (q := 71) dX1_isSoon_70 rfl ?_
            exact k71 _ (by first | exact bZ_t (by rw [ey]; simp [*]) | exact bZ_f (by rw [ey]; simp [*]))
          · skip
            have d44 : p.testBit k = true := by cases hq : p.testBit k <;> simp [hq, bZ] at c44 ⊢
            refine V_iload (q := 49) dX1_isSoon_47 6 rfl rfl ?_
            refine V_if_le (q := 52) (tgt := 70) dX1_isSoon_49 (by omega) (by decide) (fun c49 => ?_) (fun c49 => ?_)
            · skip
              have d49 : ¬ 0 < sE S (8 * (12 * t.toNat + u.toNat) + k) := by omega
              refine V_iconst (q := 71) dX1_isSoon_70 rfl ?_
              exact k71 _ (by first | exact bZ_t (by rw [ey]; simp [*]) | exact bZ_f (by rw [ey]; simp [*]))
            · skip
              have d49 : 0 < sE S (8 * (12 * t.toNat + u.toNat) + k) := by omega
              refine V_aload_n (q := 53) dX1_isSoon_52 0 rfl rfl ?_
              refine V_get (q := 56) dX1_isSoon_53 hin_X1_isSoon 0 rfl rfl 0 (by decide) f_X1_isSoon_73 rfl rfl ?_
              refine V_iload (q := 58) dX1_isSoon_56 6 rfl rfl ?_
              refine V_iconst (q := 59) dX1_isSoon_58 rfl ?_
              refine V_isub (q := 60) dX1_isSoon_59 rfl ?_
              refine V_isub (q := 61) dX1_isSoon_60 rfl ?_
              refine V_bipush (q := 63) dX1_isSoon_61 (by decide) rfl ?_
              refine V_icmp_ge (q := 66) (tgt := 70) dX1_isSoon_63 (by omega) (by omega) (by decide) (fun c63 => ?_) (fun c63 => ?_)
              · skip
                have d63 : ¬ ((sT S : Int) - ((sE S (8 * (12 * t.toNat + u.toNat) + k) : Int) - 1) < 7) := by omega
                refine V_iconst (q := 71) dX1_isSoon_70 rfl ?_
                exact k71 _ (by first | exact bZ_t (by rw [ey]; simp [*]) | exact bZ_f (by rw [ey]; simp [*]))
              · skip
                refine V_iconst (q := 67) dX1_isSoon_66 rfl ?_
                refine V_goto (tgt := 71) dX1_isSoon_67 (by decide) ?_
                exact k71 _ (by first | exact bZ_t (by rw [ey]; simp [*]) | exact bZ_f (by rw [ey]; simp [*]))
theorem yv_X1_isSoon : YV yX1_isSoon wsX1_isSoon 3 := ⟨_, _, _, _, rfl, by decide +kernel, by decide⟩
set_option maxRecDepth 100000 in
set_option maxHeartbeats 4000000 in
theorem c_X1_isSoon {b : Nat → Nat} {d : Nat → ClassId} {S : St} {g : Nat → Nat} {th : Nat} (ho : Ok S) (t u : Int) (p : Nat) (rt : -2147483648 ≤ t ∧ t < 2147483648) (ru : -2147483648 ≤ u ∧ u < 2147483648) (hp : p < 256) (ht : hasZ S t = true) (hu : hasZ S u = true) : CtI yX1_isSoon wsX1_isSoon (rmD 1) (tym d) [.ref (b 0), .int (iZ t), .int (iZ u), .int (iZ p)] (mkc b d S g th) (iZ (bZ (seenZ S t u p))) (mkc b d S g th) := by
  refine CtI_of (own := RX1) (by decide) rfl rfl (Nat.le_of_ble_eq_true rfl) ?_
  refine V_lvq (lv' := [(0, _), (1, _), (2, _), (3, _)]) rfl ?_
  refine V_iconst (q := 1) dX1_isSoon_0 rfl ?_
  refine V_istore (q := 3) (lv' := [(0, _), (1, _), (2, _), (3, _), (4, _)]) dX1_isSoon_1 (by decide) rfl rfl ?_
  refine V_iconst (q := 4) dX1_isSoon_3 rfl ?_
  refine V_istore (q := 6) (lv' := [(0, _), (1, _), (2, _), (3, _), (4, _), (5, _)]) dX1_isSoon_4 (by decide) rfl rfl ?_
  rw [show seenZ S t u p = exB (snP S t u p) 8 by simp [seenZ, *]]
  exact lp_X1_isSoon ho t u p rt ru hp ht hu 9 0 (by omega) (by omega)
