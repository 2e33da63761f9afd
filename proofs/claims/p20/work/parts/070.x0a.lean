/-! the class: what its small methods answer, in terms of the state -/
def hasZ (S : St) (x : Int) : Bool := decide (0 ≤ x) && hasT S x.toNat
def kdZ (S : St) (x k : Int) : Bool := hasZ S x && decide ((sK S x.toNat : Int) = k)
def clnZ (S : St) (x k : Int) : Bool := kdZ S x k && decide (0 < sL S x.toNat)
def dcZ (S : St) (x y : Int) : Bool := hasZ S x && hasZ S y && sX S (8 * sC S x.toNat + sC S y.toNat)
def fovZ (S : St) (c t b : Int) : Bool := clnZ S c 2 && !dcZ S c t && !dcZ S c b
def canZ (S : St) (t b c : Int) : Bool := clnZ S t 0 && clnZ S b 1 && !dcZ S t b && (decide (c = -1) || fovZ S c t b)
def lftZ (S : St) (x : Int) : Nat := if hasZ S x then sL S x.toNat else 0
def wrmZ (S : St) (x : Int) : Nat := if hasZ S x then sW S x.toNat else 0
def owZ (S : St) (t b c : Int) : Nat := wrmZ S t + wrmZ S b + wrmZ S c
def warmZ (S : St) (t b c w : Int) : Bool := decide (w ≤ (owZ S t b c : Int)) && canZ S t b c
theorem hasZ_lt {S : St} (ho : Ok S) {x : Int} (h : hasZ S x = true) : 0 ≤ x ∧ x < 12 ∧ (x.toNat : Int) = x ∧ x.toNat < sN S ∧ x.toNat < 12 := by
  have h1 := ho.1
  simp [hasZ, hasT] at h
  omega
theorem hasZ_no {S : St} (ho : Ok S) {x : Int} (h : (decide (0 ≤ x) && decide (x ≤ 11)) = false) : hasZ S x = false := by
  have h1 := ho.1
  simp at h
  simp [hasZ, hasT]
  omega
theorem hasZ_in {S : St} {x : Int} (h : (decide (0 ≤ x) && decide (x ≤ 11)) = true) : (0 ≤ x ∧ x ≤ 11) ∧ hasZ S x = hasT S x.toNat := by
  simp at h
  exact ⟨h, by simp [hasZ, h.1]⟩
theorem ow_tbZ (S : St) {x : Int} (h : (decide (0 ≤ x) && decide (x ≤ 11)) = true) : (ow S >>> (iZ x &&& 31)) &&& iZ 1 = iZ (bZ (hasT S x.toNat)) := by
  simp at h
  have e : x = (x.toNat : Int) := by omega
  have h2 := ow_tb S (k := x.toNat) (by omega)
  rw [← e] at h2
  exact h2
theorem yv_X0_isWithin : YV yX0_isWithin wsX0_isWithin 3 := ⟨_, _, _, _, rfl, by decide +kernel, by decide⟩
set_option maxRecDepth 100000 in
set_option maxHeartbeats 4000000 in
theorem c_X0_isWithin {tys : List (ClassId × FieldType)} {w : va_W} (x lo hi : Int) (rx : -2147483648 ≤ x ∧ x < 2147483648) (rlo : -2147483648 ≤ lo ∧ lo < 2147483648) (rhi : -2147483648 ≤ hi ∧ hi < 2147483648) : CtI yX0_isWithin wsX0_isWithin (rmD 0) tys [.int (iZ x), .int (iZ lo), .int (iZ hi)] (w) (iZ (bZ (decide (lo ≤ x) && decide (x ≤ hi)))) (w) := by
  refine CtI_of (own := RX0) (by decide) rfl rfl (Nat.le_of_ble_eq_true rfl) ?_
  refine V_lvq (lv' := [(0, _), (1, _), (2, _)]) rfl ?_
  refine V_iload_n (q := 1) dX0_isWithin_0 0 rfl rfl ?_
  refine V_iload_n (q := 2) dX0_isWithin_1 1 rfl rfl ?_
  refine V_icmp_lt (q := 5) (tgt := 14) dX0_isWithin_2 (by omega) (by omega) (by decide) (fun c2 => ?_) (fun c2 => ?_)
  · skip
    refine V_iconst (q := 15) dX0_isWithin_14 rfl ?_
    exact V_zret dX0_isWithin_15 rfl (by first | exact bZ_t (by simp; omega) | exact bZ_f (by simp; omega)) (rfl)
  · skip
    refine V_iload_n (q := 6) dX0_isWithin_5 0 rfl rfl ?_
    refine V_iload_n (q := 7) dX0_isWithin_6 2 rfl rfl ?_
    refine V_icmp_gt (q := 10) (tgt := 14) dX0_isWithin_7 (by omega) (by omega) (by decide) (fun c7 => ?_) (fun c7 => ?_)
    · skip
      refine V_iconst (q := 15) dX0_isWithin_14 rfl ?_
      exact V_zret dX0_isWithin_15 rfl (by first | exact bZ_t (by simp; omega) | exact bZ_f (by simp; omega)) (rfl)
    · skip
      refine V_iconst (q := 11) dX0_isWithin_10 rfl ?_
      refine V_goto (tgt := 15) dX0_isWithin_11 (by decide) ?_
      exact V_zret dX0_isWithin_15 rfl (by first | exact bZ_t (by simp; omega) | exact bZ_f (by simp; omega)) (rfl)
theorem yv_X0_isColour : YV yX0_isColour wsX0_isColour 1 := ⟨_, _, _, _, rfl, by decide +kernel, by decide⟩
set_option maxRecDepth 100000 in
set_option maxHeartbeats 4000000 in
theorem c_X0_isColour {tys : List (ClassId × FieldType)} {w : va_W} (x : Int) (rx : -2147483648 ≤ x ∧ x < 2147483648) : CtI yX0_isColour wsX0_isColour (rmD 1) tys [.int (iZ x)] (w) (iZ (bZ (decide (0 ≤ x) && decide (x ≤ 7)))) (w) := by
  refine CtI_of (own := RX0) (by decide) rfl rfl (Nat.le_of_ble_eq_true rfl) ?_
  refine V_lvq (lv' := [(0, _)]) rfl ?_
  refine V_iload_n (q := 1) dX0_isColour_0 0 rfl rfl ?_
  refine V_iconst (q := 2) dX0_isColour_1 rfl ?_
  refine V_bipush (q := 4) dX0_isColour_2 (by decide) rfl ?_
  refine V_callIs (q := 7) dX0_isColour_4 (c_X0_isWithin x 0 7 rx (by decide) (by decide)) yv_X0_isWithin rfl gX0_isColour_X0_isWithin rfl (Nat.le_of_ble_eq_true rfl) (by decide) ?_
  exact V_zret dX0_isColour_7 rfl (rfl) (rfl)
theorem yv_X0_isCare : YV yX0_isCare wsX0_isCare 1 := ⟨_, _, _, _, rfl, by decide +kernel, by decide⟩
set_option maxRecDepth 100000 in
set_option maxHeartbeats 4000000 in
theorem c_X0_isCare {tys : List (ClassId × FieldType)} {w : va_W} (x : Int) (rx : -2147483648 ≤ x ∧ x < 2147483648) : CtI yX0_isCare wsX0_isCare (rmD 1) tys [.int (iZ x)] (w) (iZ (bZ (decide (0 ≤ x) && decide (x ≤ 2)))) (w) := by
  refine CtI_of (own := RX0) (by decide) rfl rfl (Nat.le_of_ble_eq_true rfl) ?_
  refine V_lvq (lv' := [(0, _)]) rfl ?_
  refine V_iload_n (q := 1) dX0_isCare_0 0 rfl rfl ?_
  refine V_iconst (q := 2) dX0_isCare_1 rfl ?_
  refine V_iconst (q := 3) dX0_isCare_2 rfl ?_
  refine V_callIs (q := 6) dX0_isCare_3 (c_X0_isWithin x 0 2 rx (by decide) (by decide)) yv_X0_isWithin rfl gX0_isCare_X0_isWithin rfl (Nat.le_of_ble_eq_true rfl) (by decide) ?_
  exact V_zret dX0_isCare_6 rfl (rfl) (rfl)
theorem yv_X0_arePeople : YV yX0_arePeople wsX0_arePeople 1 := ⟨_, _, _, _, rfl, by decide +kernel, by decide⟩
set_option maxRecDepth 100000 in
set_option maxHeartbeats 4000000 in
theorem c_X0_arePeople {tys : List (ClassId × FieldType)} {w : va_W} (x : Int) (rx : -2147483648 ≤ x ∧ x < 2147483648) : CtI yX0_arePeople wsX0_arePeople (rmD 1) tys [.int (iZ x)] (w) (iZ (bZ (decide (0 ≤ x) && decide (x ≤ 255)))) (w) := by
  refine CtI_of (own := RX0) (by decide) rfl rfl (Nat.le_of_ble_eq_true rfl) ?_
  refine V_lvq (lv' := [(0, _)]) rfl ?_
  refine V_iload_n (q := 1) dX0_arePeople_0 0 rfl rfl ?_
  refine V_iconst (q := 2) dX0_arePeople_1 rfl ?_
  refine V_sipush (q := 5) dX0_arePeople_2 (by decide) rfl ?_
  refine V_callIs (q := 8) dX0_arePeople_5 (c_X0_isWithin x 0 255 rx (by decide) (by decide)) yv_X0_isWithin rfl gX0_arePeople_X0_isWithin rfl (Nat.le_of_ble_eq_true rfl) (by decide) ?_
  exact V_zret dX0_arePeople_8 rfl (rfl) (rfl)
theorem yv_X0_isOutfitWarmth : YV yX0_isOutfitWarmth wsX0_isOutfitWarmth 1 := ⟨_, _, _, _, rfl, by decide +kernel, by decide⟩
set_option maxRecDepth 100000 in
set_option maxHeartbeats 4000000 in
theorem c_X0_isOutfitWarmth {tys : List (ClassId × FieldType)} {w : va_W} (x : Int) (rx : -2147483648 ≤ x ∧ x < 2147483648) : CtI yX0_isOutfitWarmth wsX0_isOutfitWarmth (rmD 1) tys [.int (iZ x)] (w) (iZ (bZ (decide (0 ≤ x) && decide (x ≤ 30)))) (w) := by
  refine CtI_of (own := RX0) (by decide) rfl rfl (Nat.le_of_ble_eq_true rfl) ?_
  refine V_lvq (lv' := [(0, _)]) rfl ?_
  refine V_iload_n (q := 1) dX0_isOutfitWarmth_0 0 rfl rfl ?_
  refine V_iconst (q := 2) dX0_isOutfitWarmth_1 rfl ?_
  refine V_bipush (q := 4) dX0_isOutfitWarmth_2 (by decide) rfl ?_
  refine V_callIs (q := 7) dX0_isOutfitWarmth_4 (c_X0_isWithin x 0 30 rx (by decide) (by decide)) yv_X0_isWithin rfl gX0_isOutfitWarmth_X0_isWithin rfl (Nat.le_of_ble_eq_true rfl) (by decide) ?_
  exact V_zret dX0_isOutfitWarmth_7 rfl (rfl) (rfl)
theorem yv_X0_isBagQuestion : YV yX0_isBagQuestion wsX0_isBagQuestion 2 := ⟨_, _, _, _, rfl, by decide +kernel, by decide⟩
set_option maxRecDepth 100000 in
set_option maxHeartbeats 4000000 in
theorem c_X0_isBagQuestion {tys : List (ClassId × FieldType)} {w : va_W} (x y : Int) (rx : -2147483648 ≤ x ∧ x < 2147483648) (ry : -2147483648 ≤ y ∧ y < 2147483648) : CtI yX0_isBagQuestion wsX0_isBagQuestion (rmD 1) tys [.int (iZ x), .int (iZ y)] (w) (iZ (bZ ((decide (1 ≤ x) && decide (x ≤ 20)) && (decide (0 ≤ y) && decide (y ≤ 20))))) (w) := by
  refine CtI_of (own := RX0) (by decide) rfl rfl (Nat.le_of_ble_eq_true rfl) ?_
  refine V_lvq (lv' := [(0, _), (1, _)]) rfl ?_
  refine V_iload_n (q := 1) dX0_isBagQuestion_0 0 rfl rfl ?_
  refine V_iconst (q := 2) dX0_isBagQuestion_1 rfl ?_
  refine V_bipush (q := 4) dX0_isBagQuestion_2 (by decide) rfl ?_
  refine V_callIs (q := 7) dX0_isBagQuestion_4 (c_X0_isWithin x 1 20 rx (by decide) (by decide)) yv_X0_isWithin rfl gX0_isBagQuestion_X0_isWithin rfl (Nat.le_of_ble_eq_true rfl) (by decide) ?_
  refine V_if_eqB (q := 10) (tgt := 24) dX0_isBagQuestion_7 (by decide) (fun c7 => ?_) (fun c7 => ?_)
  · skip
    refine V_iconst (q := 25) dX0_isBagQuestion_24 rfl ?_
    exact V_zret dX0_isBagQuestion_25 rfl (by first | exact bZ_t (by simp [*]) | exact bZ_f (by simp [*])) (rfl)
  · skip
    refine V_iload_n (q := 11) dX0_isBagQuestion_10 1 rfl rfl ?_
    refine V_iconst (q := 12) dX0_isBagQuestion_11 rfl ?_
    refine V_bipush (q := 14) dX0_isBagQuestion_12 (by decide) rfl ?_
    refine V_callIs (q := 17) dX0_isBagQuestion_14 (c_X0_isWithin y 0 20 ry (by decide) (by decide)) yv_X0_isWithin rfl gX0_isBagQuestion_X0_isWithin rfl (Nat.le_of_ble_eq_true rfl) (by decide) ?_
    refine V_if_eqB (q := 20) (tgt := 24) dX0_isBagQuestion_17 (by decide) (fun c17 => ?_) (fun c17 => ?_)
    · skip
      refine V_iconst (q := 25) dX0_isBagQuestion_24 rfl ?_
      exact V_zret dX0_isBagQuestion_25 rfl (by first | exact bZ_t (by simp [*]) | exact bZ_f (by simp [*])) (rfl)
    · skip
      refine V_iconst (q := 21) dX0_isBagQuestion_20 rfl ?_
      refine V_goto (tgt := 25) dX0_isBagQuestion_21 (by decide) ?_
      exact V_zret dX0_isBagQuestion_25 rfl (by first | exact bZ_t (by simp [*]) | exact bZ_f (by simp [*])) (rfl)
theorem hin_X0_isThing : ∀ w ∈ wsX00, w ∈ wsX0_isThing := by decide +kernel
theorem f_X0_isThing_61 : Cond.fieldLink RX0 61 (TX0 7).1 (TX0 7).2.1 (TX0 7).2.2.1 ∈ wsX0_isThing := by decide +kernel
theorem yv_X0_isThing : YV yX0_isThing wsX0_isThing 1 := ⟨_, _, _, _, rfl, by decide +kernel, by decide⟩
set_option maxRecDepth 100000 in
set_option maxHeartbeats 4000000 in
theorem c_X0_isThing {a : Nat → Nat} {c : Nat → ClassId} {S : St} {g : Nat → Nat} (ho : Ok S) (x : Int) (rx : -2147483648 ≤ x ∧ x < 2147483648) : CtI yX0_isThing wsX0_isThing (rmD 1) (tyk c) [.ref (a 0), .int (iZ x)] (wkc a c S g) (iZ (bZ (hasZ S x))) (wkc a c S g) := by
  refine CtI_of (own := RX0) (by decide) rfl rfl (Nat.le_of_ble_eq_true rfl) ?_
  refine V_lvq (lv' := [(0, _), (1, _)]) rfl ?_
  refine V_iload_n (q := 1) dX0_isThing_0 1 rfl rfl ?_
  refine V_if_lt (q := 4) (tgt := 25) dX0_isThing_1 (by omega) (by decide) (fun c1 => ?_) (fun c1 => ?_)
  · skip
    refine V_iconst (q := 26) dX0_isThing_25 rfl ?_
    exact V_zret dX0_isThing_26 rfl (by first | exact bZ_t (by first | (rw [(hasZ_in c3).2]; assumption) | exact hasZ_no ho (by simp; omega)) | exact bZ_f (by first | (rw [(hasZ_in c3).2]; assumption) | exact hasZ_no ho (by simp; omega))) (rfl)
  · skip
    refine V_iload_n (q := 5) dX0_isThing_4 1 rfl rfl ?_
    refine V_bipush (q := 7) dX0_isThing_5 (by decide) rfl ?_
    refine V_icmp_ge (q := 10) (tgt := 25) dX0_isThing_7 (by omega) (by omega) (by decide) (fun c7 => ?_) (fun c7 => ?_)
    · skip
      refine V_iconst (q := 26) dX0_isThing_25 rfl ?_
      exact V_zret dX0_isThing_26 rfl (by first | exact bZ_t (by first | (rw [(hasZ_in c3).2]; assumption) | exact hasZ_no ho (by simp; omega)) | exact bZ_f (by first | (rw [(hasZ_in c3).2]; assumption) | exact hasZ_no ho (by simp; omega))) (rfl)
    · skip
      have c3 : (decide (0 ≤ x) && decide (x ≤ 11)) = true := by simp; omega
      refine V_aload_n (q := 11) dX0_isThing_10 0 rfl rfl ?_
      refine V_get (q := 14) dX0_isThing_11 hin_X0_isThing 0 rfl rfl 7 (by decide) f_X0_isThing_61 rfl rfl ?_
      refine V_iload_n (q := 15) dX0_isThing_14 1 rfl rfl ?_
      refine V_ishr (q := 16) dX0_isThing_15 rfl ?_
      refine V_iconst (q := 17) dX0_isThing_16 rfl ?_
      refine V_iand (q := 18) dX0_isThing_17 rfl ?_
      refine V_top (ow_tbZ S c3) ?_
      refine V_if_eqB (q := 21) (tgt := 25) dX0_isThing_18 (by decide) (fun c18 => ?_) (fun c18 => ?_)
      · skip
        refine V_iconst (q := 26) dX0_isThing_25 rfl ?_
        exact V_zret dX0_isThing_26 rfl (by first | exact bZ_t (by first | (rw [(hasZ_in c3).2]; assumption) | exact hasZ_no ho (by simp; omega)) | exact bZ_f (by first | (rw [(hasZ_in c3).2]; assumption) | exact hasZ_no ho (by simp; omega))) (rfl)
      · skip
        refine V_iconst (q := 22) dX0_isThing_21 rfl ?_
        refine V_goto (tgt := 26) dX0_isThing_22 (by decide) ?_
        exact V_zret dX0_isThing_26 rfl (by first | exact bZ_t (by first | (rw [(hasZ_in c3).2]; assumption) | exact hasZ_no ho (by simp; omega)) | exact bZ_f (by first | (rw [(hasZ_in c3).2]; assumption) | exact hasZ_no ho (by simp; omega))) (rfl)
theorem yv_X0_areThings : YV yX0_areThings wsX0_areThings 3 := ⟨_, _, _, _, rfl, by decide +kernel, by decide⟩
set_option maxRecDepth 100000 in
set_option maxHeartbeats 4000000 in
theorem c_X0_areThings {a : Nat → Nat} {c : Nat → ClassId} {S : St} {g : Nat → Nat} (ho : Ok S) (t b d : Int) (rt : -2147483648 ≤ t ∧ t < 2147483648) (rb : -2147483648 ≤ b ∧ b < 2147483648) (rd : -2147483648 ≤ d ∧ d < 2147483648) : CtI yX0_areThings wsX0_areThings (rmD 2) (tyk c) [.ref (a 0), .int (iZ t), .int (iZ b), .int (iZ d)] (wkc a c S g) (iZ (bZ (hasZ S t && hasZ S b && (decide (d = -1) || hasZ S d)))) (wkc a c S g) := by
  refine CtI_of (own := RX0) (by decide) rfl rfl (Nat.le_of_ble_eq_true rfl) ?_
  refine V_lvq (lv' := [(0, _), (1, _), (2, _), (3, _)]) rfl ?_
  refine V_aload_n (q := 1) dX0_areThings_0 0 rfl rfl ?_
  refine V_iload_n (q := 2) dX0_areThings_1 1 rfl rfl ?_
  refine V_callIv (q := 5) dX0_areThings_2 (c_X0_isThing ho t rt) yv_X0_isThing rfl gX0_areThings_X0_isThing rfl 0 rfl rfl rfl rfl (Nat.le_of_ble_eq_true rfl) (by decide) ?_
  refine V_if_eqB (q := 8) (tgt := 33) dX0_areThings_5 (by decide) (fun c5 => ?_) (fun c5 => ?_)
  · skip
    refine V_iconst (q := 34) dX0_areThings_33 rfl ?_
    exact V_zret dX0_areThings_34 rfl (by first | exact bZ_t (by simp [*]) | exact bZ_f (by simp [*])) (rfl)
  · skip
    refine V_aload_n (q := 9) dX0_areThings_8 0 rfl rfl ?_
    refine V_iload_n (q := 10) dX0_areThings_9 2 rfl rfl ?_
    refine V_callIv (q := 13) dX0_areThings_10 (c_X0_isThing ho b rb) yv_X0_isThing rfl gX0_areThings_X0_isThing rfl 0 rfl rfl rfl rfl (Nat.le_of_ble_eq_true rfl) (by decide) ?_
    refine V_if_eqB (q := 16) (tgt := 33) dX0_areThings_13 (by decide) (fun c13 => ?_) (fun c13 => ?_)
    · skip
      refine V_iconst (q := 34) dX0_areThings_33 rfl ?_
      exact V_zret dX0_areThings_34 rfl (by first | exact bZ_t (by simp [*]) | exact bZ_f (by simp [*])) (rfl)
    · skip
      refine V_iload_n (q := 17) dX0_areThings_16 3 rfl rfl ?_
      refine V_iconst (q := 18) dX0_areThings_17 rfl ?_
      refine V_icmp_eq (q := 21) (tgt := 29) dX0_areThings_18 (by omega) (by omega) (by decide) (fun c18 => ?_) (fun c18 => ?_)
      · skip
        refine V_iconst (q := 30) dX0_areThings_29 rfl ?_
        refine V_goto (tgt := 34) dX0_areThings_30 (by decide) ?_
        exact V_zret dX0_areThings_34 rfl (by first | exact bZ_t (by simp [*]) | exact bZ_f (by simp [*])) (rfl)
      · skip
        refine V_aload_n (q := 22) dX0_areThings_21 0 rfl rfl ?_
        refine V_iload_n (q := 23) dX0_areThings_22 3 rfl rfl ?_
        refine V_callIv (q := 26) dX0_areThings_23 (c_X0_isThing ho d rd) yv_X0_isThing rfl gX0_areThings_X0_isThing rfl 0 rfl rfl rfl rfl (Nat.le_of_ble_eq_true rfl) (by decide) ?_
        refine V_if_eqB (q := 29) (tgt := 33) dX0_areThings_26 (by decide) (fun c26 => ?_) (fun c26 => ?_)
        · skip
          refine V_iconst (q := 34) dX0_areThings_33 rfl ?_
          exact V_zret dX0_areThings_34 rfl (by first | exact bZ_t (by simp [*]) | exact bZ_f (by simp [*])) (rfl)
        · skip
          refine V_iconst (q := 30) dX0_areThings_29 rfl ?_
          refine V_goto (tgt := 34) dX0_areThings_30 (by decide) ?_
          exact V_zret dX0_areThings_34 rfl (by first | exact bZ_t (by simp [*]) | exact bZ_f (by simp [*])) (rfl)
theorem hin_X0_isOfKind : ∀ w ∈ wsX00, w ∈ wsX0_isOfKind := by decide +kernel
theorem f_X0_isOfKind_9 : Cond.fieldLink RX0 9 (TX0 0).1 (TX0 0).2.1 (TX0 0).2.2.1 ∈ wsX0_isOfKind := by decide +kernel
theorem yv_X0_isOfKind : YV yX0_isOfKind wsX0_isOfKind 2 := ⟨_, _, _, _, rfl, by decide +kernel, by decide⟩
set_option maxRecDepth 100000 in
set_option maxHeartbeats 4000000 in
theorem c_X0_isOfKind {a : Nat → Nat} {c : Nat → ClassId} {S : St} {g : Nat → Nat} (ho : Ok S) (x k : Int) (rx : -2147483648 ≤ x ∧ x < 2147483648) (rk : -2147483648 ≤ k ∧ k < 2147483648) : CtI yX0_isOfKind wsX0_isOfKind (rmD 2) (tyk c) [.ref (a 0), .int (iZ x), .int (iZ k)] (wkc a c S g) (iZ (bZ (kdZ S x k))) (wkc a c S g) := by
  refine CtI_of (own := RX0) (by decide) rfl rfl (Nat.le_of_ble_eq_true rfl) ?_
  refine V_lvq (lv' := [(0, _), (1, _), (2, _)]) rfl ?_
  refine V_aload_n (q := 1) dX0_isOfKind_0 0 rfl rfl ?_
  refine V_iload_n (q := 2) dX0_isOfKind_1 1 rfl rfl ?_
  refine V_callIv (q := 5) dX0_isOfKind_2 (c_X0_isThing ho x rx) yv_X0_isThing rfl gX0_isOfKind_X0_isThing rfl 0 rfl rfl rfl rfl (Nat.le_of_ble_eq_true rfl) (by decide) ?_
  refine V_if_eqB (q := 8) (tgt := 22) dX0_isOfKind_5 (by decide) (fun c5 => ?_) (fun c5 => ?_)
  · skip
    refine V_iconst (q := 23) dX0_isOfKind_22 rfl ?_
    exact V_zret dX0_isOfKind_23 rfl (by first | exact bZ_t (by simp [kdZ, *]) | exact bZ_f (by simp [kdZ, *])) (rfl)
  · skip
    obtain ⟨x0, x1, x2, x3, x4⟩ := hasZ_lt ho c5
    have y0 := ho.2.2.1 x.toNat
    refine V_aload_n (q := 9) dX0_isOfKind_8 0 rfl rfl ?_
    refine V_get (q := 12) dX0_isOfKind_9 hin_X0_isOfKind 0 rfl rfl 0 (by decide) f_X0_isOfKind_9 rfl rfl ?_
    refine V_iload_n (q := 13) dX0_isOfKind_12 1 rfl rfl ?_
    refine V_iald (q := 14) dX0_isOfKind_13 1 0 rfl rfl (x.toNat) (x2.symm) (x4) (by decide) (rfl) rfl ?_
    refine V_iload_n (q := 15) dX0_isOfKind_14 2 rfl rfl ?_
    refine V_icmp_ne (q := 18) (tgt := 22) dX0_isOfKind_15 (by omega) (by omega) (by decide) (fun c15 => ?_) (fun c15 => ?_)
    · skip
      refine V_iconst (q := 23) dX0_isOfKind_22 rfl ?_
      exact V_zret dX0_isOfKind_23 rfl (by first | exact bZ_t (by simp [kdZ, *]) | exact bZ_f (by simp [kdZ, *])) (rfl)
    · skip
      refine V_iconst (q := 19) dX0_isOfKind_18 rfl ?_
      refine V_goto (tgt := 23) dX0_isOfKind_19 (by decide) ?_
      exact V_zret dX0_isOfKind_23 rfl (by first | exact bZ_t (by simp [kdZ, *]) | exact bZ_f (by simp [kdZ, *])) (rfl)
theorem yv_X0_areOfTheirKinds : YV yX0_areOfTheirKinds wsX0_areOfTheirKinds 3 := ⟨_, _, _, _, rfl, by decide +kernel, by decide⟩
set_option maxRecDepth 100000 in
set_option maxHeartbeats 4000000 in
theorem c_X0_areOfTheirKinds {a : Nat → Nat} {c : Nat → ClassId} {S : St} {g : Nat → Nat} (ho : Ok S) (t b d : Int) (rt : -2147483648 ≤ t ∧ t < 2147483648) (rb : -2147483648 ≤ b ∧ b < 2147483648) (rd : -2147483648 ≤ d ∧ d < 2147483648) : CtI yX0_areOfTheirKinds wsX0_areOfTheirKinds (rmD 3) (tyk c) [.ref (a 0), .int (iZ t), .int (iZ b), .int (iZ d)] (wkc a c S g) (iZ (bZ (kdZ S t 0 && kdZ S b 1 && (decide (d = -1) || kdZ S d 2)))) (wkc a c S g) := by
  refine CtI_of (own := RX0) (by decide) rfl rfl (Nat.le_of_ble_eq_true rfl) ?_
  refine V_lvq (lv' := [(0, _), (1, _), (2, _), (3, _)]) rfl ?_
  refine V_aload_n (q := 1) dX0_areOfTheirKinds_0 0 rfl rfl ?_
  refine V_iload_n (q := 2) dX0_areOfTheirKinds_1 1 rfl rfl ?_
  refine V_iconst (q := 3) dX0_areOfTheirKinds_2 rfl ?_
  refine V_callIv (q := 6) dX0_areOfTheirKinds_3 (c_X0_isOfKind ho t 0 rt (by decide)) yv_X0_isOfKind rfl gX0_areOfTheirKinds_X0_isOfKind rfl 0 rfl rfl rfl rfl (Nat.le_of_ble_eq_true rfl) (by decide) ?_
  refine V_if_eqB (q := 9) (tgt := 36) dX0_areOfTheirKinds_6 (by decide) (fun c6 => ?_) (fun c6 => ?_)
  · skip
    refine V_iconst (q := 37) dX0_areOfTheirKinds_36 rfl ?_
    exact V_zret dX0_areOfTheirKinds_37 rfl (by first | exact bZ_t (by simp [*]) | exact bZ_f (by simp [*])) (rfl)
  · skip
    refine V_aload_n (q := 10) dX0_areOfTheirKinds_9 0 rfl rfl ?_
    refine V_iload_n (q := 11) dX0_areOfTheirKinds_10 2 rfl rfl ?_
    refine V_iconst (q := 12) dX0_areOfTheirKinds_11 rfl ?_
    refine V_callIv (q := 15) dX0_areOfTheirKinds_12 (c_X0_isOfKind ho b 1 rb (by decide)) yv_X0_isOfKind rfl gX0_areOfTheirKinds_X0_isOfKind rfl 0 rfl rfl rfl rfl (Nat.le_of_ble_eq_true rfl) (by decide) ?_
    refine V_if_eqB (q := 18) (tgt := 36) dX0_areOfTheirKinds_15 (by decide) (fun c15 => ?_) (fun c15 => ?_)
    · skip
      refine V_iconst (q := 37) dX0_areOfTheirKinds_36 rfl ?_
      exact V_zret dX0_areOfTheirKinds_37 rfl (by first | exact bZ_t (by simp [*]) | exact bZ_f (by simp [*])) (rfl)
    · skip
      refine V_iload_n (q := 19) dX0_areOfTheirKinds_18 3 rfl rfl ?_
      refine V_iconst (q := 20) dX0_areOfTheirKinds_19 rfl ?_
      refine V_icmp_eq (q := 23) (tgt := 32) dX0_areOfTheirKinds_20 (by omega) (by omega) (by decide) (fun c20 => ?_) (fun c20 => ?_)
      · skip
        refine V_iconst (q := 33) dX0_areOfTheirKinds_32 rfl ?_
        refine V_goto (tgt := 37) dX0_areOfTheirKinds_33 (by decide) ?_
        exact V_zret dX0_areOfTheirKinds_37 rfl (by first | exact bZ_t (by simp [*]) | exact bZ_f (by simp [*])) (rfl)
      · skip
        refine V_aload_n (q := 24) dX0_areOfTheirKinds_23 0 rfl rfl ?_
        refine V_iload_n (q := 25) dX0_areOfTheirKinds_24 3 rfl rfl ?_
        refine V_iconst (q := 26) dX0_areOfTheirKinds_25 rfl ?_
        refine V_callIv (q := 29) dX0_areOfTheirKinds_26 (c_X0_isOfKind ho d 2 rd (by decide)) yv_X0_isOfKind rfl gX0_areOfTheirKinds_X0_isOfKind rfl 0 rfl rfl rfl rfl (Nat.le_of_ble_eq_true rfl) (by decide) ?_
        refine V_if_eqB (q := 32) (tgt := 36) dX0_areOfTheirKinds_29 (by decide) (fun c29 => ?_) (fun c29 => ?_)
        · skip
          refine V_iconst (q := 37) dX0_areOfTheirKinds_36 rfl ?_
          exact V_zret dX0_areOfTheirKinds_37 rfl (by first | exact bZ_t (by simp [*]) | exact bZ_f (by simp [*])) (rfl)
        · skip
          refine V_iconst (q := 33) dX0_areOfTheirKinds_32 rfl ?_
          refine V_goto (tgt := 37) dX0_areOfTheirKinds_33 (by decide) ?_
          exact V_zret dX0_areOfTheirKinds_37 rfl (by first | exact bZ_t (by simp [*]) | exact bZ_f (by simp [*])) (rfl)
