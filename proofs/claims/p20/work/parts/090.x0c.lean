theorem fr_le {S : St} (ho : Ok S) (i : Nat) : fr (sE S i) ≤ 10007 := by
  have h1 := ho.2.1
  have h2 := ho.2.2.2.2.2.2.2.2.1 i
  unfold fr
  split <;> omega
theorem hasZ_nat {S : St} (k : Nat) : hasZ S (k : Int) = hasT S k := by simp [hasZ]
theorem bZ_inj {u v : Bool} : bZ u = bZ v ↔ u = v := by cases u <;> cases v <;> decide
theorem or_bit {p : Nat → Bool} {k : Nat} (hk : k < 31) (h : p k = true) : iZ (bits p k : Nat) ||| (iZ 1 <<< (iZ (k : Int) &&& 31)) = iZ (bits p (k + 1) : Nat) := by
  have h1 : (2 : Nat) ^ k ≤ 2 ^ 31 := Nat.pow_le_pow_right (by decide) (by omega)
  rw [show (iZ 1 : Int32) = iZ ((1 : Nat) : Int) from rfl, z_shl (by omega) (by omega), z_or, bits_t h, Nat.one_mul]
/-- the answers of loops -/
def coP (S : St) (t b w : Int) : Nat → Bool := fun k => warmZ S t b ((k : Int) - 1) w
def coZ (S : St) (t b w : Int) : Nat := if canZ S t b (-1) then cnt (coP S t b w) (sN S + 1) else 0
def cbP (S : St) (tc : Nat) : Nat → Bool := fun j => clnZ S (j : Int) 1 && !sX S (8 * tc + sC S j)
def snP (S : St) (t b : Int) (p : Nat) : Nat → Bool := fun q => p.testBit q && decide (sT S < fr (sE S (8 * (12 * t.toNat + b.toNat) + q)))
def seenZ (S : St) (t b : Int) (p : Nat) : Bool := hasZ S t && hasZ S b && exB (snP S t b p) 8
def shE (S : St) (t b : Int) (p k : Nat) : Nat → Nat := fun i => if 8 * (12 * t.toNat + b.toNat) ≤ i ∧ i < 8 * (12 * t.toNat + b.toNat) + k ∧ p.testBit (i - 8 * (12 * t.toNat + b.toNat)) = true then sT S + 1 else sE S i
def shw (S : St) (t b : Int) (p : Nat) : St := if hasZ S t && hasZ S b then uE S (shE S t b p 8) else S
def washZ (S : St) (x r : Int) (dk : Bool) : Bool := hasZ S x && decide ((sR S x.toNat : Int) = r) && (decide (4 ≤ sC S x.toNat) == dk)
def nxP (S : St) (r : Int) (dk : Bool) (z : Int) (k : Nat) : Bool := washZ S (k : Int) r dk && decide (sL S k < sM S k) && (decide (z = -1) || decide (sL S k < lftZ S z))
def nxt (S : St) (r : Int) (dk : Bool) : Nat → Int
  | 0 => -1
  | k + 1 => if nxP S r dk (nxt S r dk k) k then (k : Int) else nxt S r dk k
theorem nxt_t {S : St} {r : Int} {dk : Bool} {k : Nat} (h : nxP S r dk (nxt S r dk k) k = true) : nxt S r dk (k + 1) = k := by
  show (if nxP S r dk (nxt S r dk k) k then (k : Int) else nxt S r dk k) = _
  rw [if_pos h]
theorem nxt_f {S : St} {r : Int} {dk : Bool} {k : Nat} (h : nxP S r dk (nxt S r dk k) k = false) : nxt S r dk (k + 1) = nxt S r dk k := by
  show (if nxP S r dk (nxt S r dk k) k then (k : Int) else nxt S r dk k) = _
  rw [if_neg (by rw [h]; decide)]
theorem nxt_in (S : St) (r : Int) (dk : Bool) : ∀ k, -1 ≤ nxt S r dk k ∧ nxt S r dk k < k
  | 0 => ⟨Int.le_refl _, by show (-1 : Int) < 0; decide⟩
  | k + 1 => by
    have h := nxt_in S r dk k
    show -1 ≤ (if nxP S r dk (nxt S r dk k) k then (k : Int) else nxt S r dk k) ∧ (if nxP S r dk (nxt S r dk k) k then (k : Int) else nxt S r dk k) < _
    split <;> omega
def tkP (S : St) (k : Int) : Nat → Bool := fun j => kdZ S (j : Int) k
def usP (S : St) (g : Nat → Nat) : Nat → Bool := fun j => decide (0 < lftZ S (j : Int)) && decide (g j ≠ 0)
def lfI (S : St) (x : Nat) : Nat → Nat := fun j => if x.testBit j then sL S j else 0
def prtZ (S : St) (t b w : Int) : Bool := kdZ S t 0 && kdZ S b 1 && !dcZ S t b && decide (w ≤ (owZ S t b (-1) : Int))
def nxp (p w : Nat) : Nat := (4294967296 + p - w) &&& w
theorem z_nxp (p w : Nat) (h : w ≤ 4294967296 + p) : iZ ((p : Int) - (w : Int)) &&& iZ w = iZ (nxp p w : Nat) := by
  have e : iZ ((p : Int) - (w : Int)) = iZ ((4294967296 + p - w : Nat) : Int) := by
    rw [show ((4294967296 + p - w : Nat) : Int) = ((p : Int) - (w : Int)) + 4294967296 by omega, ← iZ_add, show iZ 4294967296 = 0 from by decide, Int32.add_zero]
  rw [e, z_and]
  rfl
theorem bc_all : (List.range 4096).all (fun x => decide ((let y := iZ ((x : Nat) : Int); let y1 := y - ((y.toUInt32 >>> ((iZ 1).toUInt32 &&& Int32.toUInt32 31)).toInt32 &&& 1431655765); let y2 := (y1 &&& 858993459) + ((y1.toUInt32 >>> ((iZ 2).toUInt32 &&& Int32.toUInt32 31)).toInt32 &&& 858993459); let y3 := (y2 + (y2.toUInt32 >>> ((iZ 4).toUInt32 &&& Int32.toUInt32 31)).toInt32) &&& 252645135; let y4 := y3 + (y3.toUInt32 >>> ((iZ 8).toUInt32 &&& Int32.toUInt32 31)).toInt32; let y5 := y4 + (y4.toUInt32 >>> ((iZ 16).toUInt32 &&& Int32.toUInt32 31)).toInt32; y5 &&& iZ 63) = iZ (pc x : Nat))) = true := by decide +kernel
theorem yv_J6_bitCount_0f7a4 : YV yJ6_bitCount_0f7a4 wsJ6_bitCount_0f7a4 1 := ⟨_, _, _, _, rfl, by decide +kernel, by decide⟩
set_option maxRecDepth 100000 in
set_option maxHeartbeats 4000000 in
theorem c_J6_bitCount_0f7a4 {tys : List (ClassId × FieldType)} {w : va_W} (x : Nat) (hx : x < 4096) : CtI yJ6_bitCount_0f7a4 wsJ6_bitCount_0f7a4 (rmD 0) tys [.int (iZ x)] (w) (iZ (pc x : Nat)) (w) := by
  refine CtI_of (own := RJ6) (by decide) rfl rfl (Nat.le_of_ble_eq_true rfl) ?_
  refine V_lvq (lv' := [(0, _)]) rfl ?_
  refine V_iload_n (q := 1) dJ6_bitCount_0f7a4_0 0 rfl rfl ?_
  refine V_iload_n (q := 2) dJ6_bitCount_0f7a4_1 0 rfl rfl ?_
  refine V_iconst (q := 3) dJ6_bitCount_0f7a4_2 rfl ?_
  refine V_iushr (q := 4) dJ6_bitCount_0f7a4_3 rfl ?_
  refine V_ldcw (q := 7) (v := 1431655765) dJ6_bitCount_0f7a4_4 (by decide +kernel) rfl ?_
  refine V_iand (q := 8) dJ6_bitCount_0f7a4_7 rfl ?_
  refine V_isubR (q := 9) dJ6_bitCount_0f7a4_8 rfl ?_
  refine V_istore_n (q := 10) (lv' := [(0, _)]) dJ6_bitCount_0f7a4_9 (by decide) rfl rfl ?_
  refine V_iload_n (q := 11) dJ6_bitCount_0f7a4_10 0 rfl rfl ?_
  refine V_ldcw (q := 14) (v := 858993459) dJ6_bitCount_0f7a4_11 (by decide +kernel) rfl ?_
  refine V_iand (q := 15) dJ6_bitCount_0f7a4_14 rfl ?_
  refine V_iload_n (q := 16) dJ6_bitCount_0f7a4_15 0 rfl rfl ?_
  refine V_iconst (q := 17) dJ6_bitCount_0f7a4_16 rfl ?_
  refine V_iushr (q := 18) dJ6_bitCount_0f7a4_17 rfl ?_
  refine V_ldcw (q := 21) (v := 858993459) dJ6_bitCount_0f7a4_18 (by decide +kernel) rfl ?_
  refine V_iand (q := 22) dJ6_bitCount_0f7a4_21 rfl ?_
  refine V_iaddR (q := 23) dJ6_bitCount_0f7a4_22 rfl ?_
  refine V_istore_n (q := 24) (lv' := [(0, _)]) dJ6_bitCount_0f7a4_23 (by decide) rfl rfl ?_
  refine V_iload_n (q := 25) dJ6_bitCount_0f7a4_24 0 rfl rfl ?_
  refine V_iload_n (q := 26) dJ6_bitCount_0f7a4_25 0 rfl rfl ?_
  refine V_iconst (q := 27) dJ6_bitCount_0f7a4_26 rfl ?_
  refine V_iushr (q := 28) dJ6_bitCount_0f7a4_27 rfl ?_
  refine V_iaddR (q := 29) dJ6_bitCount_0f7a4_28 rfl ?_
  refine V_ldcw (q := 32) (v := 252645135) dJ6_bitCount_0f7a4_29 (by decide +kernel) rfl ?_
  refine V_iand (q := 33) dJ6_bitCount_0f7a4_32 rfl ?_
  refine V_istore_n (q := 34) (lv' := [(0, _)]) dJ6_bitCount_0f7a4_33 (by decide) rfl rfl ?_
  refine V_iload_n (q := 35) dJ6_bitCount_0f7a4_34 0 rfl rfl ?_
  refine V_iload_n (q := 36) dJ6_bitCount_0f7a4_35 0 rfl rfl ?_
  refine V_bipush (q := 38) dJ6_bitCount_0f7a4_36 (by decide) rfl ?_
  refine V_iushr (q := 39) dJ6_bitCount_0f7a4_38 rfl ?_
  refine V_iaddR (q := 40) dJ6_bitCount_0f7a4_39 rfl ?_
  refine V_istore_n (q := 41) (lv' := [(0, _)]) dJ6_bitCount_0f7a4_40 (by decide) rfl rfl ?_
  refine V_iload_n (q := 42) dJ6_bitCount_0f7a4_41 0 rfl rfl ?_
  refine V_iload_n (q := 43) dJ6_bitCount_0f7a4_42 0 rfl rfl ?_
  refine V_bipush (q := 45) dJ6_bitCount_0f7a4_43 (by decide) rfl ?_
  refine V_iushr (q := 46) dJ6_bitCount_0f7a4_45 rfl ?_
  refine V_iaddR (q := 47) dJ6_bitCount_0f7a4_46 rfl ?_
  refine V_istore_n (q := 48) (lv' := [(0, _)]) dJ6_bitCount_0f7a4_47 (by decide) rfl rfl ?_
  refine V_iload_n (q := 49) dJ6_bitCount_0f7a4_48 0 rfl rfl ?_
  refine V_bipush (q := 51) dJ6_bitCount_0f7a4_49 (by decide) rfl ?_
  refine V_iand (q := 52) dJ6_bitCount_0f7a4_51 rfl ?_
  exact V_iret dJ6_bitCount_0f7a4_52 rfl (of_decide_eq_true (List.all_eq_true.mp bc_all x (List.mem_range.mpr hx))) (rfl)
theorem hin_X0_countOutfitsOf : ∀ w ∈ wsX00, w ∈ wsX0_countOutfitsOf := by decide +kernel
theorem f_X0_countOutfitsOf_52 : Cond.fieldLink RX0 52 (TX0 6).1 (TX0 6).2.1 (TX0 6).2.2.1 ∈ wsX0_countOutfitsOf := by decide +kernel
set_option maxRecDepth 100000 in
set_option maxHeartbeats 4000000 in
theorem lp_X0_countOutfitsOf {a : Nat → Nat} {c : Nat → ClassId} {S : St} {g : Nat → Nat} (ho : Ok S) (t b w : Int) (rt : -2147483648 ≤ t ∧ t < 2147483648) (rb : -2147483648 ≤ b ∧ b < 2147483648) (rw : -2147483648 ≤ w ∧ w < 2147483648) : ∀ (m k : Nat), k ≤ sN S + 1 → sN S + 1 + 1 ≤ k + m → V RX0 cX0_countOutfitsOf 6 (some .int) wsX0_countOutfitsOf (rmD 7) vX0 (tyk c) (qI (tyk c) (wkc a c S g) (iZ (cnt (coP S t b w) (sN S + 1) : Nat)) 0 0) 0 0 (wkc a c S g) 18 [(0, .ref (a 0)), (1, .int (iZ t)), (2, .int (iZ b)), (3, .int (iZ w)), (4, .int (iZ (cnt (coP S t b w) k : Nat))), (5, .int (iZ ((k : Int) - 1)))] [] := by
  intro m
  induction m with
  | zero => intro k  h1 h2 ; exact absurd h2 (by omega)
  | succ m ih =>
    intro k  h1 h2 
    have hn := ho.1
    have rw' := rw
    refine V_iload (q := 20) dX0_countOutfitsOf_18 5 rfl rfl ?_
    refine V_aload_n (q := 21) dX0_countOutfitsOf_20 0 rfl rfl ?_
    refine V_get (q := 24) dX0_countOutfitsOf_21 hin_X0_countOutfitsOf 0 rfl rfl 6 (by decide) f_X0_countOutfitsOf_52 rfl rfl ?_
    refine V_icmp_ge (q := 27) (tgt := 48) dX0_countOutfitsOf_24 (by omega) (by omega) (by decide) (fun c24 => ?_) (fun c24 => ?_)
    · skip
      refine V_iload (q := 50) dX0_countOutfitsOf_48 4 rfl rfl ?_
      exact V_iret dX0_countOutfitsOf_50 rfl (by rw [show k = sN S + 1 by omega]) (rfl)
    · skip
      refine V_aload_n (q := 28) dX0_countOutfitsOf_27 0 rfl rfl ?_
      refine V_iload_n (q := 29) dX0_countOutfitsOf_28 1 rfl rfl ?_
      refine V_iload_n (q := 30) dX0_countOutfitsOf_29 2 rfl rfl ?_
      refine V_iload (q := 32) dX0_countOutfitsOf_30 5 rfl rfl ?_
      refine V_iload_n (q := 33) dX0_countOutfitsOf_32 3 rfl rfl ?_
      refine V_callIv (q := 36) dX0_countOutfitsOf_33 (c_X0_isWarmOutfit ho t b ((k : Int) - 1) w rt rb (by omega) rw') yv_X0_isWarmOutfit rfl gX0_countOutfitsOf_X0_isWarmOutfit rfl 0 rfl rfl rfl rfl (Nat.le_of_ble_eq_true rfl) (by decide) ?_
      refine V_if_eqB (q := 39) (tgt := 42) dX0_countOutfitsOf_36 (by decide) (fun c36 => ?_) (fun c36 => ?_)
      · skip
        rw [← cnt_f (p := coP S t b w) (n := k) c36]
        refine V_iinc (q := 45) (y := (((k + 1 : Nat) : Int) - 1)) (lv' := [(0, _), (1, _), (2, _), (3, _), (4, _), (5, _)]) dX0_countOutfitsOf_42 5 rfl (by omega) (by decide) rfl rfl ?_
        refine V_goto (tgt := 18) dX0_countOutfitsOf_45 (by decide) ?_
        exact ih (k + 1) (by omega) (by omega)
      · skip
        refine V_iinc (q := 42) (y := (cnt (coP S t b w) (k + 1) : Nat)) (lv' := [(0, _), (1, _), (2, _), (3, _), (4, _), (5, _)]) dX0_countOutfitsOf_39 4 rfl (by rw [cnt_t (p := coP S t b w) (n := k) c36]; rfl) (by decide) rfl rfl ?_
        refine V_iinc (q := 45) (y := (((k + 1 : Nat) : Int) - 1)) (lv' := [(0, _), (1, _), (2, _), (3, _), (4, _), (5, _)]) dX0_countOutfitsOf_42 5 rfl (by omega) (by decide) rfl rfl ?_
        refine V_goto (tgt := 18) dX0_countOutfitsOf_45 (by decide) ?_
        exact ih (k + 1) (by omega) (by omega)
theorem yv_X0_countOutfitsOf : YV yX0_countOutfitsOf wsX0_countOutfitsOf 3 := ⟨_, _, _, _, rfl, by decide +kernel, by decide⟩
set_option maxRecDepth 100000 in
set_option maxHeartbeats 4000000 in
theorem c_X0_countOutfitsOf {a : Nat → Nat} {c : Nat → ClassId} {S : St} {g : Nat → Nat} (ho : Ok S) (t b w : Int) (rt : -2147483648 ≤ t ∧ t < 2147483648) (rb : -2147483648 ≤ b ∧ b < 2147483648) (rw : -2147483648 ≤ w ∧ w < 2147483648) : CtI yX0_countOutfitsOf wsX0_countOutfitsOf (rmD 7) (tyk c) [.ref (a 0), .int (iZ t), .int (iZ b), .int (iZ w)] (wkc a c S g) (iZ (coZ S t b w : Nat)) (wkc a c S g) := by
  refine CtI_of (own := RX0) (by decide) rfl rfl (Nat.le_of_ble_eq_true rfl) ?_
  refine V_lvq (lv' := [(0, _), (1, _), (2, _), (3, _)]) rfl ?_
  refine V_aload_n (q := 1) dX0_countOutfitsOf_0 0 rfl rfl ?_
  refine V_iload_n (q := 2) dX0_countOutfitsOf_1 1 rfl rfl ?_
  refine V_iload_n (q := 3) dX0_countOutfitsOf_2 2 rfl rfl ?_
  refine V_iconst (q := 4) dX0_countOutfitsOf_3 rfl ?_
  refine V_callIv (q := 7) dX0_countOutfitsOf_4 (c_X0_canBeWorn ho t b (-1) rt rb (by decide)) yv_X0_canBeWorn rfl gX0_countOutfitsOf_X0_canBeWorn rfl 0 rfl rfl rfl rfl (Nat.le_of_ble_eq_true rfl) (by decide) ?_
  refine V_if_neB (q := 10) (tgt := 12) dX0_countOutfitsOf_7 (by decide) (fun c7 => ?_) (fun c7 => ?_)
  · skip
    rw [show coZ S t b w = cnt (coP S t b w) (sN S + 1) from if_pos c7]
    refine V_iconst (q := 13) dX0_countOutfitsOf_12 rfl ?_
    refine V_istore (q := 15) (lv' := [(0, _), (1, _), (2, _), (3, _), (4, _)]) dX0_countOutfitsOf_13 (by decide) rfl rfl ?_
    refine V_iconst (q := 16) dX0_countOutfitsOf_15 rfl ?_
    refine V_istore (q := 18) (lv' := [(0, _), (1, _), (2, _), (3, _), (4, _), (5, _)]) dX0_countOutfitsOf_16 (by decide) rfl rfl ?_
    exact lp_X0_countOutfitsOf ho t b w rt rb rw (sN S + 2) 0 (by omega) (by omega)
  · skip
    rw [show coZ S t b w = 0 from if_neg (by rw [c7]; decide)]
    refine V_iconst (q := 11) dX0_countOutfitsOf_10 rfl ?_
    exact V_iret dX0_countOutfitsOf_11 rfl (rfl) (rfl)
theorem hin_X0_countBottomsFor : ∀ w ∈ wsX00, w ∈ wsX0_countBottomsFor := by decide +kernel
theorem f_X0_countBottomsFor_13 : Cond.fieldLink RX0 13 (TX0 1).1 (TX0 1).2.1 (TX0 1).2.2.1 ∈ wsX0_countBottomsFor := by decide +kernel
theorem f_X0_countBottomsFor_52 : Cond.fieldLink RX0 52 (TX0 6).1 (TX0 6).2.1 (TX0 6).2.2.1 ∈ wsX0_countBottomsFor := by decide +kernel
set_option maxRecDepth 100000 in
set_option maxHeartbeats 4000000 in
theorem lp_X0_countBottomsFor {a : Nat → Nat} {c : Nat → ClassId} {S : St} {g : Nat → Nat} (ho : Ok S) (tc : Nat) (htc : tc ≤ 7) : ∀ (m k : Nat), k ≤ sN S → sN S + 1 ≤ k + m → V RX0 cX0_countBottomsFor 4 (some .int) wsX0_countBottomsFor (rmD 4) vX0 (tyk c) (qI (tyk c) (wkc a c S g) (iZ (cnt (cbP S tc) (sN S) : Nat)) 0 0) 0 0 (wkc a c S g) 4 [(0, .ref (a 0)), (1, .int (iZ tc)), (2, .int (iZ (cnt (cbP S tc) k : Nat))), (3, .int (iZ k))] [] := by
  intro m
  induction m with
  | zero => intro k  h1 h2 ; exact absurd h2 (by omega)
  | succ m ih =>
    intro k  h1 h2 
    have hn := ho.1
    refine V_iload_n (q := 5) dX0_countBottomsFor_4 3 rfl rfl ?_
    refine V_aload_n (q := 6) dX0_countBottomsFor_5 0 rfl rfl ?_
    refine V_get (q := 9) dX0_countBottomsFor_6 hin_X0_countBottomsFor 0 rfl rfl 6 (by decide) f_X0_countBottomsFor_52 rfl rfl ?_
    refine V_icmp_ge (q := 12) (tgt := 44) dX0_countBottomsFor_9 (by omega) (by omega) (by decide) (fun c9 => ?_) (fun c9 => ?_)
    · skip
      refine V_iload_n (q := 45) dX0_countBottomsFor_44 2 rfl rfl ?_
      exact V_iret dX0_countBottomsFor_45 rfl (by rw [show k = sN S by omega]) (rfl)
    · skip
      refine V_aload_n (q := 13) dX0_countBottomsFor_12 0 rfl rfl ?_
      refine V_iload_n (q := 14) dX0_countBottomsFor_13 3 rfl rfl ?_
      refine V_iconst (q := 15) dX0_countBottomsFor_14 rfl ?_
      refine V_callIv (q := 18) dX0_countBottomsFor_15 (c_X0_isCleanOfKind ho k 1 (by omega) (by decide)) yv_X0_isCleanOfKind rfl gX0_countBottomsFor_X0_isCleanOfKind rfl 0 rfl rfl rfl rfl (Nat.le_of_ble_eq_true rfl) (by decide) ?_
      refine V_if_eqB (q := 21) (tgt := 38) dX0_countBottomsFor_18 (by decide) (fun c18 => ?_) (fun c18 => ?_)
      · skip
        rw [← cnt_f (p := cbP S tc) (n := k) (by simp [cbP, c18])]
        refine V_iinc (q := 41) (lv' := [(0, _), (1, _), (2, _), (3, _)]) dX0_countBottomsFor_38 3 rfl (rfl) (by decide) rfl rfl ?_
        refine V_goto (tgt := 4) dX0_countBottomsFor_41 (by decide) ?_
        exact ih (k + 1) (by omega) (by omega)
      · skip
        refine V_aload_n (q := 22) dX0_countBottomsFor_21 0 rfl rfl ?_
        refine V_iload_n (q := 23) dX0_countBottomsFor_22 1 rfl rfl ?_
        refine V_aload_n (q := 24) dX0_countBottomsFor_23 0 rfl rfl ?_
        refine V_get (q := 27) dX0_countBottomsFor_24 hin_X0_countBottomsFor 0 rfl rfl 1 (by decide) f_X0_countBottomsFor_13 rfl rfl ?_
        refine V_iload_n (q := 28) dX0_countBottomsFor_27 3 rfl rfl ?_
        refine V_iald (q := 29) dX0_countBottomsFor_28 2 1 rfl rfl (k) (rfl) (by omega) (by decide) (rfl) rfl ?_
        refine V_callIv (q := 32) dX0_countBottomsFor_29 (c_X0_coloursClash tc (sC S k) htc (ho.2.2.2.1 k)) yv_X0_coloursClash rfl gX0_countBottomsFor_X0_coloursClash rfl 0 rfl rfl rfl rfl (Nat.le_of_ble_eq_true rfl) (by decide) ?_
        refine V_if_neB (q := 35) (tgt := 38) dX0_countBottomsFor_32 (by decide) (fun c32 => ?_) (fun c32 => ?_)
        · skip
          rw [← cnt_f (p := cbP S tc) (n := k) (by simp [cbP, c18, c32])]
          refine V_iinc (q := 41) (lv' := [(0, _), (1, _), (2, _), (3, _)]) dX0_countBottomsFor_38 3 rfl (rfl) (by decide) rfl rfl ?_
          refine V_goto (tgt := 4) dX0_countBottomsFor_41 (by decide) ?_
          exact ih (k + 1) (by omega) (by omega)
        · skip
          refine V_iinc (q := 38) (y := (cnt (cbP S tc) (k + 1) : Nat)) (lv' := [(0, _), (1, _), (2, _), (3, _)]) dX0_countBottomsFor_35 2 rfl (by rw [cnt_t (p := cbP S tc) (n := k) (by simp [cbP, c18, c32])]; rfl) (by decide) rfl rfl ?_
          refine V_iinc (q := 41) (lv' := [(0, _), (1, _), (2, _), (3, _)]) dX0_countBottomsFor_38 3 rfl (rfl) (by decide) rfl rfl ?_
          refine V_goto (tgt := 4) dX0_countBottomsFor_41 (by decide) ?_
          exact ih (k + 1) (by omega) (by omega)
theorem yv_X0_countBottomsFor : YV yX0_countBottomsFor wsX0_countBottomsFor 1 := ⟨_, _, _, _, rfl, by decide +kernel, by decide⟩
set_option maxRecDepth 100000 in
set_option maxHeartbeats 4000000 in
theorem c_X0_countBottomsFor {a : Nat → Nat} {c : Nat → ClassId} {S : St} {g : Nat → Nat} (ho : Ok S) (tc : Nat) (htc : tc ≤ 7) : CtI yX0_countBottomsFor wsX0_countBottomsFor (rmD 4) (tyk c) [.ref (a 0), .int (iZ tc)] (wkc a c S g) (iZ (cnt (cbP S tc) (sN S) : Nat)) (wkc a c S g) := by
  refine CtI_of (own := RX0) (by decide) rfl rfl (Nat.le_of_ble_eq_true rfl) ?_
  refine V_lvq (lv' := [(0, _), (1, _)]) rfl ?_
  refine V_iconst (q := 1) dX0_countBottomsFor_0 rfl ?_
  refine V_istore_n (q := 2) (lv' := [(0, _), (1, _), (2, _)]) dX0_countBottomsFor_1 (by decide) rfl rfl ?_
  refine V_iconst (q := 3) dX0_countBottomsFor_2 rfl ?_
  refine V_istore_n (q := 4) (lv' := [(0, _), (1, _), (2, _), (3, _)]) dX0_countBottomsFor_3 (by decide) rfl rfl ?_
  exact lp_X0_countBottomsFor ho tc htc (sN S + 1) 0 (by omega) (by omega)
theorem yv_X0_firstSeat : YV yX0_firstSeat wsX0_firstSeat 2 := ⟨_, _, _, _, rfl, by decide +kernel, by decide⟩
set_option maxRecDepth 100000 in
set_option maxHeartbeats 4000000 in
theorem c_X0_firstSeat {tys : List (ClassId × FieldType)} {w : va_W} (t b : Int) : CtI yX0_firstSeat wsX0_firstSeat (rmD 0) tys [.int (iZ t), .int (iZ b)] (w) (iZ ((t * 12 + b) * 8)) (w) := by
  refine CtI_of (own := RX0) (by decide) rfl rfl (Nat.le_of_ble_eq_true rfl) ?_
  refine V_lvq (lv' := [(0, _), (1, _)]) rfl ?_
  refine V_iload_n (q := 1) dX0_firstSeat_0 0 rfl rfl ?_
  refine V_bipush (q := 3) dX0_firstSeat_1 (by decide) rfl ?_
  refine V_imul (q := 4) dX0_firstSeat_3 rfl ?_
  refine V_iload_n (q := 5) dX0_firstSeat_4 1 rfl rfl ?_
  refine V_iadd (q := 6) dX0_firstSeat_5 rfl ?_
  refine V_bipush (q := 8) dX0_firstSeat_6 (by decide) rfl ?_
  refine V_imul (q := 9) dX0_firstSeat_8 rfl ?_
  exact V_iret dX0_firstSeat_9 rfl (rfl) (rfl)
theorem hin_X0_wasSeenLately : ∀ w ∈ wsX00, w ∈ wsX0_wasSeenLately := by decide +kernel
theorem f_X0_wasSeenLately_28 : Cond.fieldLink RX0 28 (TX0 10).1 (TX0 10).2.1 (TX0 10).2.2.1 ∈ wsX0_wasSeenLately := by decide +kernel
theorem f_X0_wasSeenLately_162 : Cond.fieldLink RX0 162 (TX0 8).1 (TX0 8).2.1 (TX0 8).2.2.1 ∈ wsX0_wasSeenLately := by decide +kernel
set_option maxRecDepth 100000 in
set_option maxHeartbeats 4000000 in
theorem lp_X0_wasSeenLately {a : Nat → Nat} {c : Nat → ClassId} {S : St} {g : Nat → Nat} (ho : Ok S) (t b : Int) (p : Nat) (rt : -2147483648 ≤ t ∧ t < 2147483648) (rb : -2147483648 ≤ b ∧ b < 2147483648) (hp : p < 256) (ht : hasZ S t = true) (hb : hasZ S b = true) : ∀ (m k : Nat), k ≤ 8 → 8 + 1 ≤ k + m → (exB (snP S t b p) k = false) → V RX0 cX0_wasSeenLately 6 (some .boolean) wsX0_wasSeenLately (rmD 2) vX0 (tyk c) (qI (tyk c) (wkc a c S g) (iZ (bZ (exB (snP S t b p) 8))) 0 0) 0 0 (wkc a c S g) 28 [(0, .ref (a 0)), (1, .int (iZ t)), (2, .int (iZ b)), (3, .int (iZ p)), (4, .int (iZ ((t * 12 + b) * 8))), (5, .int (iZ k))] [] := by
  intro m
  induction m with
  | zero => intro k  h1 h2 i0; exact absurd h2 (by omega)
  | succ m ih =>
    intro k  h1 h2 i0
    obtain ⟨t0, t1, t2, t3, t4⟩ := hasZ_lt ho ht
    obtain ⟨b0, b1, b2, b3, b4⟩ := hasZ_lt ho hb
    refine V_iload (q := 30) dX0_wasSeenLately_28 5 rfl rfl ?_
    refine V_bipush (q := 32) dX0_wasSeenLately_30 (by decide) rfl ?_
    refine V_icmp_ge (q := 35) (tgt := 69) dX0_wasSeenLately_32 (by omega) (by omega) (by decide) (fun c32 => ?_) (fun c32 => ?_)
    · skip
      refine V_iconst (q := 70) dX0_wasSeenLately_69 rfl ?_
      exact V_zret dX0_wasSeenLately_70 rfl (by have hk : k = 8 := (by omega); subst hk; exact bZ_f i0) (rfl)
    · skip
      refine V_iload_n (q := 36) dX0_wasSeenLately_35 3 rfl rfl ?_
      refine V_iload (q := 38) dX0_wasSeenLately_36 5 rfl rfl ?_
      refine V_ishr (q := 39) dX0_wasSeenLately_38 rfl ?_
      refine V_iconst (q := 40) dX0_wasSeenLately_39 rfl ?_
      refine V_iand (q := 41) dX0_wasSeenLately_40 rfl ?_
      refine V_top (z_tb (by omega) (by omega)) ?_
      refine V_if_eqB (q := 44) (tgt := 63) dX0_wasSeenLately_41 (by decide) (fun c41 => ?_) (fun c41 => ?_)
      · skip
        have e9 : exB (snP S t b p) (k + 1) = false := exB_s i0 (by simp [snP, c41])
        refine V_iinc (q := 66) (lv' := [(0, _), (1, _), (2, _), (3, _), (4, _), (5, _)]) dX0_wasSeenLately_63 5 rfl (rfl) (by decide) rfl rfl ?_
        refine V_goto (tgt := 28) dX0_wasSeenLately_66 (by decide) ?_
        exact ih (k + 1) (by omega) (by omega) e9
      · skip
        refine V_aload_n (q := 45) dX0_wasSeenLately_44 0 rfl rfl ?_
        refine V_get (q := 48) dX0_wasSeenLately_45 hin_X0_wasSeenLately 0 rfl rfl 8 (by decide) f_X0_wasSeenLately_162 rfl rfl ?_
        refine V_aload_n (q := 49) dX0_wasSeenLately_48 0 rfl rfl ?_
        refine V_get (q := 52) dX0_wasSeenLately_49 hin_X0_wasSeenLately 0 rfl rfl 10 (by decide) f_X0_wasSeenLately_28 rfl rfl ?_
        refine V_iload (q := 54) dX0_wasSeenLately_52 4 rfl rfl ?_
        refine V_iload (q := 56) dX0_wasSeenLately_54 5 rfl rfl ?_
        refine V_iadd (q := 57) dX0_wasSeenLately_56 rfl ?_
        refine V_iald (q := 58) (v := (iZ (fr (sE S (8 * (12 * t.toNat + b.toNat) + k)) : Nat))) dX0_wasSeenLately_57 7 6 rfl rfl (8 * (12 * t.toNat + b.toNat) + k) (by omega) (by omega) (by decide) (rfl) rfl ?_
        refine V_icmp_ge (q := 61) (tgt := 63) dX0_wasSeenLately_58 (by have h8 := ho.2.1; omega) (by have h8 := fr_le ho (8 * (12 * t.toNat + b.toNat) + k); omega) (by decide) (fun c58 => ?_) (fun c58 => ?_)
        · skip
          have e9 : exB (snP S t b p) (k + 1) = false := exB_s i0 (by simp only [snP, c41, Bool.true_and, decide_eq_false_iff_not]; omega)
          refine V_iinc (q := 66) (lv' := [(0, _), (1, _), (2, _), (3, _), (4, _), (5, _)]) dX0_wasSeenLately_63 5 rfl (rfl) (by decide) rfl rfl ?_
          refine V_goto (tgt := 28) dX0_wasSeenLately_66 (by decide) ?_
          exact ih (k + 1) (by omega) (by omega) e9
        · skip
          have e8 : exB (snP S t b p) 8 = true := exB_hit (i := k) (by omega) (by simp only [snP, c41, Bool.true_and, decide_eq_true_eq]; omega)
          refine V_iconst (q := 62) dX0_wasSeenLately_61 rfl ?_
          exact V_zret dX0_wasSeenLately_62 rfl (bZ_t e8) (rfl)
theorem yv_X0_wasSeenLately : YV yX0_wasSeenLately wsX0_wasSeenLately 3 := ⟨_, _, _, _, rfl, by decide +kernel, by decide⟩
set_option maxRecDepth 100000 in
set_option maxHeartbeats 4000000 in
theorem c_X0_wasSeenLately {a : Nat → Nat} {c : Nat → ClassId} {S : St} {g : Nat → Nat} (ho : Ok S) (t b : Int) (p : Nat) (rt : -2147483648 ≤ t ∧ t < 2147483648) (rb : -2147483648 ≤ b ∧ b < 2147483648) (hp : p < 256) : CtI yX0_wasSeenLately wsX0_wasSeenLately (rmD 2) (tyk c) [.ref (a 0), .int (iZ t), .int (iZ b), .int (iZ p)] (wkc a c S g) (iZ (bZ (seenZ S t b p))) (wkc a c S g) := by
  refine CtI_of (own := RX0) (by decide) rfl rfl (Nat.le_of_ble_eq_true rfl) ?_
  refine V_lvq (lv' := [(0, _), (1, _), (2, _), (3, _)]) rfl ?_
  refine V_aload_n (q := 1) dX0_wasSeenLately_0 0 rfl rfl ?_
  refine V_iload_n (q := 2) dX0_wasSeenLately_1 1 rfl rfl ?_
  refine V_callIv (q := 5) dX0_wasSeenLately_2 (c_X0_isThing ho t rt) yv_X0_isThing rfl gX0_wasSeenLately_X0_isThing rfl 0 rfl rfl rfl rfl (Nat.le_of_ble_eq_true rfl) (by decide) ?_
  refine V_if_eqB (q := 8) (tgt := 16) dX0_wasSeenLately_5 (by decide) (fun c5 => ?_) (fun c5 => ?_)
  · skip
    refine V_iconst (q := 17) dX0_wasSeenLately_16 rfl ?_
    exact V_zret dX0_wasSeenLately_17 rfl (bZ_f (by simp [seenZ, *])) (rfl)
  · skip
    refine V_aload_n (q := 9) dX0_wasSeenLately_8 0 rfl rfl ?_
    refine V_iload_n (q := 10) dX0_wasSeenLately_9 2 rfl rfl ?_
    refine V_callIv (q := 13) dX0_wasSeenLately_10 (c_X0_isThing ho b rb) yv_X0_isThing rfl gX0_wasSeenLately_X0_isThing rfl 0 rfl rfl rfl rfl (Nat.le_of_ble_eq_true rfl) (by decide) ?_
    refine V_if_neB (q := 16) (tgt := 18) dX0_wasSeenLately_13 (by decide) (fun c13 => ?_) (fun c13 => ?_)
    · skip
      rw [show seenZ S t b p = exB (snP S t b p) 8 by simp [seenZ, *]]
      refine V_iload_n (q := 19) dX0_wasSeenLately_18 1 rfl rfl ?_
      refine V_iload_n (q := 20) dX0_wasSeenLately_19 2 rfl rfl ?_
      refine V_callIs (q := 23) dX0_wasSeenLately_20 (c_X0_firstSeat t b) yv_X0_firstSeat rfl gX0_wasSeenLately_X0_firstSeat rfl (Nat.le_of_ble_eq_true rfl) (by decide) ?_
      refine V_istore (q := 25) (lv' := [(0, _), (1, _), (2, _), (3, _), (4, _)]) dX0_wasSeenLately_23 (by decide) rfl rfl ?_
      refine V_iconst (q := 26) dX0_wasSeenLately_25 rfl ?_
      refine V_istore (q := 28) (lv' := [(0, _), (1, _), (2, _), (3, _), (4, _), (5, _)]) dX0_wasSeenLately_26 (by decide) rfl rfl ?_
      exact lp_X0_wasSeenLately ho t b p rt rb hp c5 c13 9 0 (by omega) (by omega) rfl
    · skip
      refine V_iconst (q := 17) dX0_wasSeenLately_16 rfl ?_
      exact V_zret dX0_wasSeenLately_17 rfl (bZ_f (by simp [seenZ, *])) (rfl)
theorem shE_f {S : St} {t b : Int} {p k : Nat} (h : p.testBit k = false) : shE S t b p (k + 1) = shE S t b p k := by
  funext i
  unfold shE
  by_cases hi : i = 8 * (12 * t.toNat + b.toNat) + k
  · subst hi
    have e : 8 * (12 * t.toNat + b.toNat) + k - 8 * (12 * t.toNat + b.toNat) = k := by omega
    rw [e, h]; simp
  · have e : (i < 8 * (12 * t.toNat + b.toNat) + (k + 1)) ↔ (i < 8 * (12 * t.toNat + b.toNat) + k) := by omega
    simp only [e]
theorem shE_t {S : St} {t b : Int} {p k : Nat} (h : p.testBit k = true) : fu (shE S t b p k) (8 * (12 * t.toNat + b.toNat) + k) (sT S + 1) = shE S t b p (k + 1) := by
  funext i
  unfold fu shE
  by_cases hi : i = 8 * (12 * t.toNat + b.toNat) + k
  · subst hi
    have e : 8 * (12 * t.toNat + b.toNat) + k - 8 * (12 * t.toNat + b.toNat) = k := by omega
    rw [e, h, if_pos rfl, if_pos ⟨by omega, by omega, rfl⟩]
  · have e : (i < 8 * (12 * t.toNat + b.toNat) + (k + 1)) ↔ (i < 8 * (12 * t.toNat + b.toNat) + k) := by omega
    simp only [e, if_neg hi]
theorem fr_fu (f : Nat → Nat) (j e : Nat) : fu (fun i => fr (f i)) j (fr e) = fun i => fr (fu f j e i) := by
  funext i
  unfold fu
  by_cases h : i = j <;> simp [h]
theorem hin_X0_showTo : ∀ w ∈ wsX00, w ∈ wsX0_showTo := by decide +kernel
theorem f_X0_showTo_28 : Cond.fieldLink RX0 28 (TX0 10).1 (TX0 10).2.1 (TX0 10).2.2.1 ∈ wsX0_showTo := by decide +kernel
theorem f_X0_showTo_162 : Cond.fieldLink RX0 162 (TX0 8).1 (TX0 8).2.1 (TX0 8).2.2.1 ∈ wsX0_showTo := by decide +kernel
set_option maxRecDepth 100000 in
set_option maxHeartbeats 4000000 in
theorem lp_X0_showTo {a : Nat → Nat} {c : Nat → ClassId} {S : St} {g : Nat → Nat} (ho : Ok S) (t b : Int) (p : Nat) (rt : -2147483648 ≤ t ∧ t < 2147483648) (rb : -2147483648 ≤ b ∧ b < 2147483648) (hp : p < 256) (ht : hasZ S t = true) (hb : hasZ S b = true) : ∀ (m k : Nat), k ≤ 8 → 8 + 1 ≤ k + m → V RX0 cX0_showTo 6 (none) wsX0_showTo (rmD 2) vX0 (tyk c) (qV (tyk c) (wkc a c (uE S (shE S t b p 8)) g) 0 0) 0 0 (wkc a c (uE S (shE S t b p k)) g) 27 [(0, .ref (a 0)), (1, .int (iZ t)), (2, .int (iZ b)), (3, .int (iZ p)), (4, .int (iZ ((t * 12 + b) * 8))), (5, .int (iZ k))] [] := by
  intro m
  induction m with
  | zero => intro k  h1 h2 ; exact absurd h2 (by omega)
  | succ m ih =>
    intro k  h1 h2 
    obtain ⟨t0, t1, t2, t3, t4⟩ := hasZ_lt ho ht
    obtain ⟨b0, b1, b2, b3, b4⟩ := hasZ_lt ho hb
    refine V_iload (q := 29) dX0_showTo_27 5 rfl rfl ?_
    refine V_bipush (q := 31) dX0_showTo_29 (by decide) rfl ?_
    refine V_icmp_ge (q := 34) (tgt := 66) dX0_showTo_31 (by omega) (by omega) (by decide) (fun c31 => ?_) (fun c31 => ?_)
    · skip
      exact V_vret dX0_showTo_66 rfl (by rw [show k = 8 by omega])
    · skip
      refine V_iload_n (q := 35) dX0_showTo_34 3 rfl rfl ?_
      refine V_iload (q := 37) dX0_showTo_35 5 rfl rfl ?_
      refine V_ishr (q := 38) dX0_showTo_37 rfl ?_
      refine V_iconst (q := 39) dX0_showTo_38 rfl ?_
      refine V_iand (q := 40) dX0_showTo_39 rfl ?_
      refine V_top (z_tb (by omega) (by omega)) ?_
      refine V_if_eqB (q := 43) (tgt := 60) dX0_showTo_40 (by decide) (fun c40 => ?_) (fun c40 => ?_)
      · skip
        rw [← shE_f (S := S) (t := t) (b := b) c40]
        refine V_iinc (q := 63) (lv' := [(0, _), (1, _), (2, _), (3, _), (4, _), (5, _)]) dX0_showTo_60 5 rfl (rfl) (by decide) rfl rfl ?_
        refine V_goto (tgt := 27) dX0_showTo_63 (by decide) ?_
        exact ih (k + 1) (by omega) (by omega)
      · skip
        refine V_aload_n (q := 44) dX0_showTo_43 0 rfl rfl ?_
        refine V_get (q := 47) dX0_showTo_44 hin_X0_showTo 0 rfl rfl 10 (by decide) f_X0_showTo_28 rfl rfl ?_
        refine V_iload (q := 49) dX0_showTo_47 4 rfl rfl ?_
        refine V_iload (q := 51) dX0_showTo_49 5 rfl rfl ?_
        refine V_iadd (q := 52) dX0_showTo_51 rfl ?_
        refine V_aload_n (q := 53) dX0_showTo_52 0 rfl rfl ?_
        refine V_get (q := 56) dX0_showTo_53 hin_X0_showTo 0 rfl rfl 8 (by decide) f_X0_showTo_162 rfl rfl ?_
        refine V_bipush (q := 58) dX0_showTo_56 (by decide) rfl ?_
        refine V_iadd (q := 59) dX0_showTo_58 rfl ?_
        refine V_iast (q := 60) (ws' := wkc a c (uE S (shE S t b p (k + 1))) g) dX0_showTo_59 7 6 rfl rfl (8 * (12 * t.toNat + b.toNat) + k) (by omega) (by omega) (by decide) (by rw [iF_upd (fr (sT S + 1)) (by show ((sT S : Int) + 7) = _; unfold fr; rw [if_neg (by omega)]; omega), fr_fu, wk7, uE_uE, sE_uE, shE_t c40]) rfl ?_
        refine V_iinc (q := 63) (lv' := [(0, _), (1, _), (2, _), (3, _), (4, _), (5, _)]) dX0_showTo_60 5 rfl (rfl) (by decide) rfl rfl ?_
        refine V_goto (tgt := 27) dX0_showTo_63 (by decide) ?_
        exact ih (k + 1) (by omega) (by omega)
theorem yv_X0_showTo : YV yX0_showTo wsX0_showTo 3 := ⟨_, _, _, _, rfl, by decide +kernel, by decide⟩
set_option maxRecDepth 100000 in
set_option maxHeartbeats 4000000 in
theorem c_X0_showTo {a : Nat → Nat} {c : Nat → ClassId} {S : St} {g : Nat → Nat} (ho : Ok S) (t b : Int) (p : Nat) (rt : -2147483648 ≤ t ∧ t < 2147483648) (rb : -2147483648 ≤ b ∧ b < 2147483648) (hp : p < 256) : CtV yX0_showTo wsX0_showTo (rmD 2) (tyk c) [.ref (a 0), .int (iZ t), .int (iZ b), .int (iZ p)] (wkc a c S g) (wkc a c (shw S t b p) g) := by
  refine CtV_of (own := RX0) (by decide) rfl rfl (Nat.le_of_ble_eq_true rfl) ?_
  refine V_lvq (lv' := [(0, _), (1, _), (2, _), (3, _)]) rfl ?_
  refine V_aload_n (q := 1) dX0_showTo_0 0 rfl rfl ?_
  refine V_iload_n (q := 2) dX0_showTo_1 1 rfl rfl ?_
  refine V_callIv (q := 5) dX0_showTo_2 (c_X0_isThing ho t rt) yv_X0_isThing rfl gX0_showTo_X0_isThing rfl 0 rfl rfl rfl rfl (Nat.le_of_ble_eq_true rfl) (by decide) ?_
  refine V_if_eqB (q := 8) (tgt := 16) dX0_showTo_5 (by decide) (fun c5 => ?_) (fun c5 => ?_)
  · skip
    exact V_vret dX0_showTo_16 rfl (by simp [shw, *])
  · skip
    refine V_aload_n (q := 9) dX0_showTo_8 0 rfl rfl ?_
    refine V_iload_n (q := 10) dX0_showTo_9 2 rfl rfl ?_
    refine V_callIv (q := 13) dX0_showTo_10 (c_X0_isThing ho b rb) yv_X0_isThing rfl gX0_showTo_X0_isThing rfl 0 rfl rfl rfl rfl (Nat.le_of_ble_eq_true rfl) (by decide) ?_
    refine V_if_neB (q := 16) (tgt := 17) dX0_showTo_13 (by decide) (fun c13 => ?_) (fun c13 => ?_)
    · skip
      rw [show shw S t b p = uE S (shE S t b p 8) by simp [shw, *]]
      refine V_iload_n (q := 18) dX0_showTo_17 1 rfl rfl ?_
      refine V_iload_n (q := 19) dX0_showTo_18 2 rfl rfl ?_
      refine V_callIs (q := 22) dX0_showTo_19 (c_X0_firstSeat t b) yv_X0_firstSeat rfl gX0_showTo_X0_firstSeat rfl (Nat.le_of_ble_eq_true rfl) (by decide) ?_
      refine V_istore (q := 24) (lv' := [(0, _), (1, _), (2, _), (3, _), (4, _)]) dX0_showTo_22 (by decide) rfl rfl ?_
      refine V_iconst (q := 25) dX0_showTo_24 rfl ?_
      refine V_istore (q := 27) (lv' := [(0, _), (1, _), (2, _), (3, _), (4, _), (5, _)]) dX0_showTo_25 (by decide) rfl rfl ?_
      refine V_ws (ws' := wkc a c (uE S (shE S t b p 0)) g) (by rw [show shE S t b p 0 = sE S by funext i; unfold shE; rw [if_neg (by omega)]]; rfl) ?_
      exact lp_X0_showTo ho t b p rt rb hp c5 c13 9 0 (by omega) (by omega)
    · skip
      exact V_vret dX0_showTo_16 rfl (by simp [shw, *])
theorem hin_X0_isWashedWith : ∀ w ∈ wsX00, w ∈ wsX0_isWashedWith := by decide +kernel
theorem f_X0_isWashedWith_13 : Cond.fieldLink RX0 13 (TX0 1).1 (TX0 1).2.1 (TX0 1).2.2.1 ∈ wsX0_isWashedWith := by decide +kernel
theorem f_X0_isWashedWith_22 : Cond.fieldLink RX0 22 (TX0 4).1 (TX0 4).2.1 (TX0 4).2.2.1 ∈ wsX0_isWashedWith := by decide +kernel
theorem yv_X0_isWashedWith : YV yX0_isWashedWith wsX0_isWashedWith 3 := ⟨_, _, _, _, rfl, by decide +kernel, by decide⟩
set_option maxRecDepth 100000 in
set_option maxHeartbeats 4000000 in
theorem c_X0_isWashedWith {a : Nat → Nat} {c : Nat → ClassId} {S : St} {g : Nat → Nat} (ho : Ok S) (x r : Int) (dk : Bool) (rx : -2147483648 ≤ x ∧ x < 2147483648) (rr : -2147483648 ≤ r ∧ r < 2147483648) : CtI yX0_isWashedWith wsX0_isWashedWith (rmD 2) (tyk c) [.ref (a 0), .int (iZ x), .int (iZ r), .int (iZ (bZ dk))] (wkc a c S g) (iZ (bZ (washZ S x r dk))) (wkc a c S g) := by
  refine CtI_of (own := RX0) (by decide) rfl rfl (Nat.le_of_ble_eq_true rfl) ?_
  refine V_lvq (lv' := [(0, _), (1, _), (2, _), (3, _)]) rfl ?_
  refine V_aload_n (q := 1) dX0_isWashedWith_0 0 rfl rfl ?_
  refine V_iload_n (q := 2) dX0_isWashedWith_1 1 rfl rfl ?_
  refine V_callIv (q := 5) dX0_isWashedWith_2 (c_X0_isThing ho x rx) yv_X0_isThing rfl gX0_isWashedWith_X0_isThing rfl 0 rfl rfl rfl rfl (Nat.le_of_ble_eq_true rfl) (by decide) ?_
  refine V_if_eqB (q := 8) (tgt := 41) dX0_isWashedWith_5 (by decide) (fun c5 => ?_) (fun c5 => ?_)
  · skip
    refine V_iconst (q := 42) dX0_isWashedWith_41 rfl ?_
    exact V_zret dX0_isWashedWith_42 rfl (by first | exact bZ_t (by first | (simp [washZ, c5, c15, c35]; done) | (simp only [washZ, c5]; simp [c15, beq_eq_false_iff_ne.mpr c35]; done) | (simp [washZ, *]; done) | (simp [washZ, c5, c15])) | exact bZ_f (by first | (simp [washZ, c5, c15, c35]; done) | (simp only [washZ, c5]; simp [c15, beq_eq_false_iff_ne.mpr c35]; done) | (simp [washZ, *]; done) | (simp [washZ, c5, c15]))) (rfl)
  · skip
    obtain ⟨x0, x1, x2, x3, x4⟩ := hasZ_lt ho c5
    have h6 := ho.2.2.2.2.2.2.1 x.toNat
    have h7 := ho.2.2.2.1 x.toNat
    refine V_aload_n (q := 9) dX0_isWashedWith_8 0 rfl rfl ?_
    refine V_get (q := 12) dX0_isWashedWith_9 hin_X0_isWashedWith 0 rfl rfl 4 (by decide) f_X0_isWashedWith_22 rfl rfl ?_
    refine V_iload_n (q := 13) dX0_isWashedWith_12 1 rfl rfl ?_
    refine V_iald (q := 14) dX0_isWashedWith_13 5 4 rfl rfl (x.toNat) (x2.symm) (x4) (by decide) (rfl) rfl ?_
    refine V_iload_n (q := 15) dX0_isWashedWith_14 2 rfl rfl ?_
    refine V_icmp_ne (q := 18) (tgt := 41) dX0_isWashedWith_15 (by omega) (by omega) (by decide) (fun c15 => ?_) (fun c15 => ?_)
    · skip
      refine V_iconst (q := 42) dX0_isWashedWith_41 rfl ?_
      exact V_zret dX0_isWashedWith_42 rfl (by first | exact bZ_t (by first | (simp [washZ, c5, c15, c35]; done) | (simp only [washZ, c5]; simp [c15, beq_eq_false_iff_ne.mpr c35]; done) | (simp [washZ, *]; done) | (simp [washZ, c5, c15])) | exact bZ_f (by first | (simp [washZ, c5, c15, c35]; done) | (simp only [washZ, c5]; simp [c15, beq_eq_false_iff_ne.mpr c35]; done) | (simp [washZ, *]; done) | (simp [washZ, c5, c15]))) (rfl)
    · skip
      refine V_cut (M := 33) (iZ (bZ (decide (4 ≤ sC S x.toNat)))) ?_ (fun k33 => ?_)
      · -- from the merge
        refine V_iload_n (q := 34) dX0_isWashedWith_33 3 rfl rfl ?_
        refine V_icmp_ne (q := 37) (tgt := 41) dX0_isWashedWith_34 (bZ_in _) (bZ_in _) (by decide) (fun c34 => ?_) (fun c34 => ?_)
        · skip
          have c35 : ¬ (decide (4 ≤ sC S x.toNat)) = dk := fun q => c34 (bZ_inj.mpr q)
          refine V_iconst (q := 42) dX0_isWashedWith_41 rfl ?_
          exact V_zret dX0_isWashedWith_42 rfl (by first | exact bZ_t (by first | (simp [washZ, c5, c15, c35]; done) | (simp only [washZ, c5]; simp [c15, beq_eq_false_iff_ne.mpr c35]; done) | (simp [washZ, *]; done) | (simp [washZ, c5, c15])) | exact bZ_f (by first | (simp [washZ, c5, c15, c35]; done) | (simp only [washZ, c5]; simp [c15, beq_eq_false_iff_ne.mpr c35]; done) | (simp [washZ, *]; done) | (simp [washZ, c5, c15]))) (rfl)
        · skip
          have c35 := bZ_inj.mp c34
          refine V_iconst (q := 38) dX0_isWashedWith_37 rfl ?_
          refine V_goto (tgt := 42) dX0_isWashedWith_38 (by decide) ?_
          exact V_zret dX0_isWashedWith_42 rfl (by first | exact bZ_t (by first | (simp [washZ, c5, c15, c35]; done) | (simp only [washZ, c5]; simp [c15, beq_eq_false_iff_ne.mpr c35]; done) | (simp [washZ, *]; done) | (simp [washZ, c5, c15])) | exact bZ_f (by first | (simp [washZ, c5, c15, c35]; done) | (simp only [washZ, c5]; simp [c15, beq_eq_false_iff_ne.mpr c35]; done) | (simp [washZ, *]; done) | (simp [washZ, c5, c15]))) (rfl)
      · -- the ways to it
        refine V_aload_n (q := 19) dX0_isWashedWith_18 0 rfl rfl ?_
        refine V_get (q := 22) dX0_isWashedWith_19 hin_X0_isWashedWith 0 rfl rfl 1 (by decide) f_X0_isWashedWith_13 rfl rfl ?_
        refine V_iload_n (q := 23) dX0_isWashedWith_22 1 rfl rfl ?_
        refine V_iald (q := 24) dX0_isWashedWith_23 2 1 rfl rfl (x.toNat) (x2.symm) (x4) (by decide) (rfl) rfl ?_
        refine V_iconst (q := 25) dX0_isWashedWith_24 rfl ?_
        refine V_icmp_lt (q := 28) (tgt := 32) dX0_isWashedWith_25 (by omega) (by omega) (by decide) (fun c25 => ?_) (fun c25 => ?_)
        · skip
          refine V_iconst (q := 33) dX0_isWashedWith_32 rfl ?_
          exact k33 _ (by first | exact bZ_t (by simp; omega) | exact bZ_f (by simp; omega))
        · skip
          refine V_iconst (q := 29) dX0_isWashedWith_28 rfl ?_
          refine V_goto (tgt := 33) dX0_isWashedWith_29 (by decide) ?_
          exact k33 _ (by first | exact bZ_t (by simp; omega) | exact bZ_f (by simp; omega))
theorem hin_X0_nextToWash : ∀ w ∈ wsX00, w ∈ wsX0_nextToWash := by decide +kernel
theorem f_X0_nextToWash_19 : Cond.fieldLink RX0 19 (TX0 3).1 (TX0 3).2.1 (TX0 3).2.2.1 ∈ wsX0_nextToWash := by decide +kernel
theorem f_X0_nextToWash_25 : Cond.fieldLink RX0 25 (TX0 5).1 (TX0 5).2.1 (TX0 5).2.2.1 ∈ wsX0_nextToWash := by decide +kernel
theorem f_X0_nextToWash_52 : Cond.fieldLink RX0 52 (TX0 6).1 (TX0 6).2.1 (TX0 6).2.2.1 ∈ wsX0_nextToWash := by decide +kernel
set_option maxRecDepth 100000 in
set_option maxHeartbeats 4000000 in
theorem lp_X0_nextToWash {a : Nat → Nat} {c : Nat → ClassId} {S : St} {g : Nat → Nat} (ho : Ok S) (r : Int) (dk : Bool) (rr : -2147483648 ≤ r ∧ r < 2147483648) : ∀ (m k : Nat), k ≤ sN S → sN S + 1 ≤ k + m → V RX0 cX0_nextToWash 5 (some .int) wsX0_nextToWash (rmD 3) vX0 (tyk c) (qI (tyk c) (wkc a c S g) (iZ (nxt S r dk (sN S))) 0 0) 0 0 (wkc a c S g) 5 [(0, .ref (a 0)), (1, .int (iZ r)), (2, .int (iZ (bZ dk))), (3, .int (iZ (nxt S r dk k))), (4, .int (iZ k))] [] := by
  intro m
  induction m with
  | zero => intro k  h1 h2 ; exact absurd h2 (by omega)
  | succ m ih =>
    intro k  h1 h2 
    have hn := ho.1
    have h9 := nxt_in S r dk k
    have y1 := ho.2.2.2.2.2.2.2.1 k
    have y2 := ho.2.2.2.2.2.1 k
    refine V_iload (q := 7) dX0_nextToWash_5 4 rfl rfl ?_
    refine V_aload_n (q := 8) dX0_nextToWash_7 0 rfl rfl ?_
    refine V_get (q := 11) dX0_nextToWash_8 hin_X0_nextToWash 0 rfl rfl 6 (by decide) f_X0_nextToWash_52 rfl rfl ?_
    refine V_icmp_ge (q := 14) (tgt := 71) dX0_nextToWash_11 (by omega) (by omega) (by decide) (fun c11 => ?_) (fun c11 => ?_)
    · skip
      refine V_iload_n (q := 72) dX0_nextToWash_71 3 rfl rfl ?_
      exact V_iret dX0_nextToWash_72 rfl (by rw [show k = sN S by omega]) (rfl)
    · skip
      refine V_aload_n (q := 15) dX0_nextToWash_14 0 rfl rfl ?_
      refine V_iload (q := 17) dX0_nextToWash_15 4 rfl rfl ?_
      refine V_iload_n (q := 18) dX0_nextToWash_17 1 rfl rfl ?_
      refine V_iload_n (q := 19) dX0_nextToWash_18 2 rfl rfl ?_
      refine V_callIv (q := 22) dX0_nextToWash_19 (c_X0_isWashedWith ho k r dk (by omega) rr) yv_X0_isWashedWith rfl gX0_nextToWash_X0_isWashedWith rfl 0 rfl rfl rfl rfl (Nat.le_of_ble_eq_true rfl) (by decide) ?_
      refine V_if_eqB (q := 25) (tgt := 65) dX0_nextToWash_22 (by decide) (fun c22 => ?_) (fun c22 => ?_)
      · skip
        rw [← nxt_f (S := S) (r := r) (dk := dk) (k := k) (by simp [nxP, c22])]
        refine V_iinc (q := 68) (lv' := [(0, _), (1, _), (2, _), (3, _), (4, _)]) dX0_nextToWash_65 4 rfl (rfl) (by decide) rfl rfl ?_
        refine V_goto (tgt := 5) dX0_nextToWash_68 (by decide) ?_
        exact ih (k + 1) (by omega) (by omega)
      · skip
        refine V_aload_n (q := 26) dX0_nextToWash_25 0 rfl rfl ?_
        refine V_get (q := 29) dX0_nextToWash_26 hin_X0_nextToWash 0 rfl rfl 5 (by decide) f_X0_nextToWash_25 rfl rfl ?_
        refine V_iload (q := 31) dX0_nextToWash_29 4 rfl rfl ?_
        refine V_iald (q := 32) dX0_nextToWash_31 6 5 rfl rfl (k) (rfl) (by omega) (by decide) (rfl) rfl ?_
        refine V_aload_n (q := 33) dX0_nextToWash_32 0 rfl rfl ?_
        refine V_get (q := 36) dX0_nextToWash_33 hin_X0_nextToWash 0 rfl rfl 3 (by decide) f_X0_nextToWash_19 rfl rfl ?_
        refine V_iload (q := 38) dX0_nextToWash_36 4 rfl rfl ?_
        refine V_iald (q := 39) dX0_nextToWash_38 4 3 rfl rfl (k) (rfl) (by omega) (by decide) (rfl) rfl ?_
        refine V_icmp_ge (q := 42) (tgt := 65) dX0_nextToWash_39 (by omega) (by omega) (by decide) (fun c39 => ?_) (fun c39 => ?_)
        · skip
          rw [← nxt_f (S := S) (r := r) (dk := dk) (k := k) (by simp only [nxP, Bool.and_eq_false_iff, decide_eq_false_iff_not]; exact Or.inl (Or.inr (by omega)))]
          refine V_iinc (q := 68) (lv' := [(0, _), (1, _), (2, _), (3, _), (4, _)]) dX0_nextToWash_65 4 rfl (rfl) (by decide) rfl rfl ?_
          refine V_goto (tgt := 5) dX0_nextToWash_68 (by decide) ?_
          exact ih (k + 1) (by omega) (by omega)
        · skip
          refine V_iload_n (q := 43) dX0_nextToWash_42 3 rfl rfl ?_
          refine V_iconst (q := 44) dX0_nextToWash_43 rfl ?_
          refine V_icmp_eq (q := 47) (tgt := 62) dX0_nextToWash_44 (by omega) (by omega) (by decide) (fun c44 => ?_) (fun c44 => ?_)
          · skip
            refine V_iload (q := 64) dX0_nextToWash_62 4 rfl rfl ?_
            refine V_top (y := iZ (nxt S r dk (k + 1))) (by rw [nxt_t (S := S) (r := r) (dk := dk) (k := k) (by simp only [nxP, c22, Bool.true_and, Bool.and_eq_true, Bool.or_eq_true, decide_eq_true_eq]; omega)]) ?_
            refine V_istore_n (q := 65) (lv' := [(0, _), (1, _), (2, _), (3, _), (4, _)]) dX0_nextToWash_64 (by decide) rfl rfl ?_
            refine V_iinc (q := 68) (lv' := [(0, _), (1, _), (2, _), (3, _), (4, _)]) dX0_nextToWash_65 4 rfl (rfl) (by decide) rfl rfl ?_
            refine V_goto (tgt := 5) dX0_nextToWash_68 (by decide) ?_
            exact ih (k + 1) (by omega) (by omega)
          · skip
            refine V_aload_n (q := 48) dX0_nextToWash_47 0 rfl rfl ?_
            refine V_get (q := 51) dX0_nextToWash_48 hin_X0_nextToWash 0 rfl rfl 5 (by decide) f_X0_nextToWash_25 rfl rfl ?_
            refine V_iload (q := 53) dX0_nextToWash_51 4 rfl rfl ?_
            refine V_iald (q := 54) dX0_nextToWash_53 6 5 rfl rfl (k) (rfl) (by omega) (by decide) (rfl) rfl ?_
            refine V_aload_n (q := 55) dX0_nextToWash_54 0 rfl rfl ?_
            refine V_iload_n (q := 56) dX0_nextToWash_55 3 rfl rfl ?_
            refine V_callIv (q := 59) dX0_nextToWash_56 (c_X0_wearsLeftOf ho (nxt S r dk k) (by omega)) yv_X0_wearsLeftOf rfl gX0_nextToWash_X0_wearsLeftOf rfl 0 rfl rfl rfl rfl (Nat.le_of_ble_eq_true rfl) (by decide) ?_
            refine V_icmp_ge (q := 62) (tgt := 65) dX0_nextToWash_59 (by omega) (by have h8 := lftZ_le ho (nxt S r dk k); omega) (by decide) (fun c59 => ?_) (fun c59 => ?_)
            · skip
              rw [← nxt_f (S := S) (r := r) (dk := dk) (k := k) (by simp only [nxP, Bool.and_eq_false_iff, Bool.or_eq_false_iff, decide_eq_false_iff_not]; exact Or.inr ⟨by omega, by omega⟩)]
              refine V_iinc (q := 68) (lv' := [(0, _), (1, _), (2, _), (3, _), (4, _)]) dX0_nextToWash_65 4 rfl (rfl) (by decide) rfl rfl ?_
              refine V_goto (tgt := 5) dX0_nextToWash_68 (by decide) ?_
              exact ih (k + 1) (by omega) (by omega)
            · skip
              refine V_iload (q := 64) dX0_nextToWash_62 4 rfl rfl ?_
              refine V_top (y := iZ (nxt S r dk (k + 1))) (by rw [nxt_t (S := S) (r := r) (dk := dk) (k := k) (by simp only [nxP, c22, Bool.true_and, Bool.and_eq_true, Bool.or_eq_true, decide_eq_true_eq]; omega)]) ?_
              refine V_istore_n (q := 65) (lv' := [(0, _), (1, _), (2, _), (3, _), (4, _)]) dX0_nextToWash_64 (by decide) rfl rfl ?_
              refine V_iinc (q := 68) (lv' := [(0, _), (1, _), (2, _), (3, _), (4, _)]) dX0_nextToWash_65 4 rfl (rfl) (by decide) rfl rfl ?_
              refine V_goto (tgt := 5) dX0_nextToWash_68 (by decide) ?_
              exact ih (k + 1) (by omega) (by omega)
theorem yv_X0_nextToWash : YV yX0_nextToWash wsX0_nextToWash 2 := ⟨_, _, _, _, rfl, by decide +kernel, by decide⟩
set_option maxRecDepth 100000 in
set_option maxHeartbeats 4000000 in
theorem c_X0_nextToWash {a : Nat → Nat} {c : Nat → ClassId} {S : St} {g : Nat → Nat} (ho : Ok S) (r : Int) (dk : Bool) (rr : -2147483648 ≤ r ∧ r < 2147483648) : CtI yX0_nextToWash wsX0_nextToWash (rmD 3) (tyk c) [.ref (a 0), .int (iZ r), .int (iZ (bZ dk))] (wkc a c S g) (iZ (nxt S r dk (sN S))) (wkc a c S g) := by
  refine CtI_of (own := RX0) (by decide) rfl rfl (Nat.le_of_ble_eq_true rfl) ?_
  refine V_lvq (lv' := [(0, _), (1, _), (2, _)]) rfl ?_
  refine V_iconst (q := 1) dX0_nextToWash_0 rfl ?_
  refine V_istore_n (q := 2) (lv' := [(0, _), (1, _), (2, _), (3, _)]) dX0_nextToWash_1 (by decide) rfl rfl ?_
  refine V_iconst (q := 3) dX0_nextToWash_2 rfl ?_
  refine V_istore (q := 5) (lv' := [(0, _), (1, _), (2, _), (3, _), (4, _)]) dX0_nextToWash_3 (by decide) rfl rfl ?_
  exact lp_X0_nextToWash ho r dk rr (sN S + 1) 0 (by omega) (by omega)
theorem hin_X0_thingsOfKind : ∀ w ∈ wsX00, w ∈ wsX0_thingsOfKind := by decide +kernel
theorem f_X0_thingsOfKind_52 : Cond.fieldLink RX0 52 (TX0 6).1 (TX0 6).2.1 (TX0 6).2.2.1 ∈ wsX0_thingsOfKind := by decide +kernel
set_option maxRecDepth 100000 in
set_option maxHeartbeats 4000000 in
theorem lp_X0_thingsOfKind {a : Nat → Nat} {c : Nat → ClassId} {S : St} {g : Nat → Nat} (ho : Ok S) (q : Int) (rq : -2147483648 ≤ q ∧ q < 2147483648) : ∀ (m k : Nat), k ≤ sN S → sN S + 1 ≤ k + m → V RX0 cX0_thingsOfKind 4 (some .int) wsX0_thingsOfKind (rmD 3) vX0 (tyk c) (qI (tyk c) (wkc a c S g) (iZ (bits (tkP S q) (sN S) : Nat)) 0 0) 0 0 (wkc a c S g) 4 [(0, .ref (a 0)), (1, .int (iZ q)), (2, .int (iZ (bits (tkP S q) k : Nat))), (3, .int (iZ k))] [] := by
  intro m
  induction m with
  | zero => intro k  h1 h2 ; exact absurd h2 (by omega)
  | succ m ih =>
    intro k  h1 h2 
    have hn := ho.1
    refine V_iload_n (q := 5) dX0_thingsOfKind_4 3 rfl rfl ?_
    refine V_aload_n (q := 6) dX0_thingsOfKind_5 0 rfl rfl ?_
    refine V_get (q := 9) dX0_thingsOfKind_6 hin_X0_thingsOfKind 0 rfl rfl 6 (by decide) f_X0_thingsOfKind_52 rfl rfl ?_
    refine V_icmp_ge (q := 12) (tgt := 33) dX0_thingsOfKind_9 (by omega) (by omega) (by decide) (fun c9 => ?_) (fun c9 => ?_)
    · skip
      refine V_iload_n (q := 34) dX0_thingsOfKind_33 2 rfl rfl ?_
      exact V_iret dX0_thingsOfKind_34 rfl (by rw [show k = sN S by omega]) (rfl)
    · skip
      refine V_aload_n (q := 13) dX0_thingsOfKind_12 0 rfl rfl ?_
      refine V_iload_n (q := 14) dX0_thingsOfKind_13 3 rfl rfl ?_
      refine V_iload_n (q := 15) dX0_thingsOfKind_14 1 rfl rfl ?_
      refine V_callIv (q := 18) dX0_thingsOfKind_15 (c_X0_isOfKind ho k q (by omega) rq) yv_X0_isOfKind rfl gX0_thingsOfKind_X0_isOfKind rfl 0 rfl rfl rfl rfl (Nat.le_of_ble_eq_true rfl) (by decide) ?_
      refine V_if_eqB (q := 21) (tgt := 27) dX0_thingsOfKind_18 (by decide) (fun c18 => ?_) (fun c18 => ?_)
      · skip
        rw [← bits_f (p := tkP S q) (n := k) c18]
        refine V_iinc (q := 30) (lv' := [(0, _), (1, _), (2, _), (3, _)]) dX0_thingsOfKind_27 3 rfl (rfl) (by decide) rfl rfl ?_
        refine V_goto (tgt := 4) dX0_thingsOfKind_30 (by decide) ?_
        exact ih (k + 1) (by omega) (by omega)
      · skip
        refine V_iload_n (q := 22) dX0_thingsOfKind_21 2 rfl rfl ?_
        refine V_iconst (q := 23) dX0_thingsOfKind_22 rfl ?_
        refine V_iload_n (q := 24) dX0_thingsOfKind_23 3 rfl rfl ?_
        refine V_ishl (q := 25) dX0_thingsOfKind_24 rfl ?_
        refine V_ior (q := 26) dX0_thingsOfKind_25 rfl ?_
        refine V_top (or_bit (p := tkP S q) (by omega) c18) ?_
        refine V_istore_n (q := 27) (lv' := [(0, _), (1, _), (2, _), (3, _)]) dX0_thingsOfKind_26 (by decide) rfl rfl ?_
        refine V_iinc (q := 30) (lv' := [(0, _), (1, _), (2, _), (3, _)]) dX0_thingsOfKind_27 3 rfl (rfl) (by decide) rfl rfl ?_
        refine V_goto (tgt := 4) dX0_thingsOfKind_30 (by decide) ?_
        exact ih (k + 1) (by omega) (by omega)
theorem yv_X0_thingsOfKind : YV yX0_thingsOfKind wsX0_thingsOfKind 1 := ⟨_, _, _, _, rfl, by decide +kernel, by decide⟩
set_option maxRecDepth 100000 in
set_option maxHeartbeats 4000000 in
theorem c_X0_thingsOfKind {a : Nat → Nat} {c : Nat → ClassId} {S : St} {g : Nat → Nat} (ho : Ok S) (q : Int) (rq : -2147483648 ≤ q ∧ q < 2147483648) : CtI yX0_thingsOfKind wsX0_thingsOfKind (rmD 3) (tyk c) [.ref (a 0), .int (iZ q)] (wkc a c S g) (iZ (bits (tkP S q) (sN S) : Nat)) (wkc a c S g) := by
  refine CtI_of (own := RX0) (by decide) rfl rfl (Nat.le_of_ble_eq_true rfl) ?_
  refine V_lvq (lv' := [(0, _), (1, _)]) rfl ?_
  refine V_iconst (q := 1) dX0_thingsOfKind_0 rfl ?_
  refine V_istore_n (q := 2) (lv' := [(0, _), (1, _), (2, _)]) dX0_thingsOfKind_1 (by decide) rfl rfl ?_
  refine V_iconst (q := 3) dX0_thingsOfKind_2 rfl ?_
  refine V_istore_n (q := 4) (lv' := [(0, _), (1, _), (2, _), (3, _)]) dX0_thingsOfKind_3 (by decide) rfl rfl ?_
  exact lp_X0_thingsOfKind ho q rq (sN S + 1) 0 (by omega) (by omega)
theorem yv_X0_arePartners : YV yX0_arePartners wsX0_arePartners 3 := ⟨_, _, _, _, rfl, by decide +kernel, by decide⟩
set_option maxRecDepth 100000 in
set_option maxHeartbeats 4000000 in
theorem c_X0_arePartners {a : Nat → Nat} {c : Nat → ClassId} {S : St} {g : Nat → Nat} (ho : Ok S) (t b w : Int) (rt : -2147483648 ≤ t ∧ t < 2147483648) (rb : -2147483648 ≤ b ∧ b < 2147483648) (rw : -2147483648 ≤ w ∧ w < 2147483648) : CtI yX0_arePartners wsX0_arePartners (rmD 4) (tyk c) [.ref (a 0), .int (iZ t), .int (iZ b), .int (iZ w)] (wkc a c S g) (iZ (bZ (prtZ S t b w))) (wkc a c S g) := by
  refine CtI_of (own := RX0) (by decide) rfl rfl (Nat.le_of_ble_eq_true rfl) ?_
  refine V_lvq (lv' := [(0, _), (1, _), (2, _), (3, _)]) rfl ?_
  refine V_aload_n (q := 1) dX0_arePartners_0 0 rfl rfl ?_
  refine V_iload_n (q := 2) dX0_arePartners_1 1 rfl rfl ?_
  refine V_iload_n (q := 3) dX0_arePartners_2 2 rfl rfl ?_
  refine V_iconst (q := 4) dX0_arePartners_3 rfl ?_
  refine V_callIv (q := 7) dX0_arePartners_4 (c_X0_areOfTheirKinds ho t b (-1) rt rb (by decide)) yv_X0_areOfTheirKinds rfl gX0_arePartners_X0_areOfTheirKinds rfl 0 rfl rfl rfl rfl (Nat.le_of_ble_eq_true rfl) (by decide) ?_
  rw [show (kdZ S t 0 && kdZ S b 1 && (decide ((-1 : Int) = -1) || kdZ S (-1) 2)) = (kdZ S t 0 && kdZ S b 1) by simp]
  refine V_if_eqB (q := 10) (tgt := 34) dX0_arePartners_7 (by decide) (fun c7 => ?_) (fun c7 => ?_)
  · skip
    refine V_iconst (q := 35) dX0_arePartners_34 rfl ?_
    exact V_zret dX0_arePartners_35 rfl (by first | exact bZ_t (by first | (simp only [prtZ, c7, c16]; simp; omega) | (simp only [prtZ, c7]; simp; done) | (simp only [prtZ, c7, c16]; simp; done) | (simp [prtZ, *]; done) | (simp [prtZ, *]; omega)) | exact bZ_f (by first | (simp only [prtZ, c7, c16]; simp; omega) | (simp only [prtZ, c7]; simp; done) | (simp only [prtZ, c7, c16]; simp; done) | (simp [prtZ, *]; done) | (simp [prtZ, *]; omega))) (rfl)
  · skip
    refine V_aload_n (q := 11) dX0_arePartners_10 0 rfl rfl ?_
    refine V_iload_n (q := 12) dX0_arePartners_11 1 rfl rfl ?_
    refine V_iload_n (q := 13) dX0_arePartners_12 2 rfl rfl ?_
    refine V_callIv (q := 16) dX0_arePartners_13 (c_X0_doClash ho t b rt rb) yv_X0_doClash rfl gX0_arePartners_X0_doClash rfl 0 rfl rfl rfl rfl (Nat.le_of_ble_eq_true rfl) (by decide) ?_
    refine V_if_neB (q := 19) (tgt := 34) dX0_arePartners_16 (by decide) (fun c16 => ?_) (fun c16 => ?_)
    · skip
      refine V_iconst (q := 35) dX0_arePartners_34 rfl ?_
      exact V_zret dX0_arePartners_35 rfl (by first | exact bZ_t (by first | (simp only [prtZ, c7, c16]; simp; omega) | (simp only [prtZ, c7]; simp; done) | (simp only [prtZ, c7, c16]; simp; done) | (simp [prtZ, *]; done) | (simp [prtZ, *]; omega)) | exact bZ_f (by first | (simp only [prtZ, c7, c16]; simp; omega) | (simp only [prtZ, c7]; simp; done) | (simp only [prtZ, c7, c16]; simp; done) | (simp [prtZ, *]; done) | (simp [prtZ, *]; omega))) (rfl)
    · skip
      refine V_aload_n (q := 20) dX0_arePartners_19 0 rfl rfl ?_
      refine V_iload_n (q := 21) dX0_arePartners_20 1 rfl rfl ?_
      refine V_iload_n (q := 22) dX0_arePartners_21 2 rfl rfl ?_
      refine V_iconst (q := 23) dX0_arePartners_22 rfl ?_
      refine V_callIv (q := 26) dX0_arePartners_23 (c_X0_outfitWarmth ho t b (-1) rt rb (by decide)) yv_X0_outfitWarmth rfl gX0_arePartners_X0_outfitWarmth rfl 0 rfl rfl rfl rfl (Nat.le_of_ble_eq_true rfl) (by decide) ?_
      refine V_iload_n (q := 27) dX0_arePartners_26 3 rfl rfl ?_
      refine V_icmp_lt (q := 30) (tgt := 34) dX0_arePartners_27 (by have h8 := owZ_le ho t b (-1); omega) (by have h8 := owZ_le ho t b (-1); omega) (by decide) (fun c27 => ?_) (fun c27 => ?_)
      · skip
        refine V_iconst (q := 35) dX0_arePartners_34 rfl ?_
        exact V_zret dX0_arePartners_35 rfl (by first | exact bZ_t (by first | (simp only [prtZ, c7, c16]; simp; omega) | (simp only [prtZ, c7]; simp; done) | (simp only [prtZ, c7, c16]; simp; done) | (simp [prtZ, *]; done) | (simp [prtZ, *]; omega)) | exact bZ_f (by first | (simp only [prtZ, c7, c16]; simp; omega) | (simp only [prtZ, c7]; simp; done) | (simp only [prtZ, c7, c16]; simp; done) | (simp [prtZ, *]; done) | (simp [prtZ, *]; omega))) (rfl)
      · skip
        refine V_iconst (q := 31) dX0_arePartners_30 rfl ?_
        refine V_goto (tgt := 35) dX0_arePartners_31 (by decide) ?_
        exact V_zret dX0_arePartners_35 rfl (by first | exact bZ_t (by first | (simp only [prtZ, c7, c16]; simp; omega) | (simp only [prtZ, c7]; simp; done) | (simp only [prtZ, c7, c16]; simp; done) | (simp [prtZ, *]; done) | (simp [prtZ, *]; omega)) | exact bZ_f (by first | (simp only [prtZ, c7, c16]; simp; omega) | (simp only [prtZ, c7]; simp; done) | (simp only [prtZ, c7, c16]; simp; done) | (simp [prtZ, *]; done) | (simp [prtZ, *]; omega))) (rfl)
theorem hin_X0_usefulThings : ∀ w ∈ wsX00, w ∈ wsX0_usefulThings := by decide +kernel
theorem f_X0_usefulThings_31 : Cond.fieldLink RX0 31 (TX0 11).1 (TX0 11).2.1 (TX0 11).2.2.1 ∈ wsX0_usefulThings := by decide +kernel
theorem f_X0_usefulThings_52 : Cond.fieldLink RX0 52 (TX0 6).1 (TX0 6).2.1 (TX0 6).2.2.1 ∈ wsX0_usefulThings := by decide +kernel
set_option maxRecDepth 100000 in
set_option maxHeartbeats 4000000 in
theorem lp_X0_usefulThings {a : Nat → Nat} {c : Nat → ClassId} {S : St} {g : Nat → Nat} (ho : Ok S) (hg : ∀ j, g j < 4096) : ∀ (m k : Nat), k ≤ sN S → sN S + 1 ≤ k + m → V RX0 cX0_usefulThings 3 (some .int) wsX0_usefulThings (rmD 3) vX0 (tyk c) (qI (tyk c) (wkc a c S g) (iZ (bits (usP S g) (sN S) : Nat)) 0 0) 0 0 (wkc a c S g) 4 [(0, .ref (a 0)), (1, .int (iZ (bits (usP S g) k : Nat))), (2, .int (iZ k))] [] := by
  intro m
  induction m with
  | zero => intro k  h1 h2 ; exact absurd h2 (by omega)
  | succ m ih =>
    intro k  h1 h2 
    have hn := ho.1
    refine V_iload_n (q := 5) dX0_usefulThings_4 2 rfl rfl ?_
    refine V_aload_n (q := 6) dX0_usefulThings_5 0 rfl rfl ?_
    refine V_get (q := 9) dX0_usefulThings_6 hin_X0_usefulThings 0 rfl rfl 6 (by decide) f_X0_usefulThings_52 rfl rfl ?_
    refine V_icmp_ge (q := 12) (tgt := 41) dX0_usefulThings_9 (by omega) (by omega) (by decide) (fun c9 => ?_) (fun c9 => ?_)
    · skip
      refine V_iload_n (q := 42) dX0_usefulThings_41 1 rfl rfl ?_
      exact V_iret dX0_usefulThings_42 rfl (by rw [show k = sN S by omega]) (rfl)
    · skip
      refine V_aload_n (q := 13) dX0_usefulThings_12 0 rfl rfl ?_
      refine V_iload_n (q := 14) dX0_usefulThings_13 2 rfl rfl ?_
      refine V_callIv (q := 17) dX0_usefulThings_14 (c_X0_wearsLeftOf ho k (by omega)) yv_X0_wearsLeftOf rfl gX0_usefulThings_X0_wearsLeftOf rfl 0 rfl rfl rfl rfl (Nat.le_of_ble_eq_true rfl) (by decide) ?_
      refine V_if_le (q := 20) (tgt := 35) dX0_usefulThings_17 (by have h8 := lftZ_le ho k; omega) (by decide) (fun c17 => ?_) (fun c17 => ?_)
      · skip
        rw [← bits_f (p := usP S g) (n := k) (by simp only [usP, Bool.and_eq_false_iff, decide_eq_false_iff_not]; omega)]
        refine V_iinc (q := 38) (lv' := [(0, _), (1, _), (2, _)]) dX0_usefulThings_35 2 rfl (rfl) (by decide) rfl rfl ?_
        refine V_goto (tgt := 4) dX0_usefulThings_38 (by decide) ?_
        exact ih (k + 1) (by omega) (by omega)
      · skip
        refine V_aload_n (q := 21) dX0_usefulThings_20 0 rfl rfl ?_
        refine V_get (q := 24) dX0_usefulThings_21 hin_X0_usefulThings 0 rfl rfl 11 (by decide) f_X0_usefulThings_31 rfl rfl ?_
        refine V_iload_n (q := 25) dX0_usefulThings_24 2 rfl rfl ?_
        refine V_iald (q := 26) dX0_usefulThings_25 8 7 rfl rfl (k) (rfl) (by omega) (by decide) (rfl) rfl ?_
        refine V_if_eq (q := 29) (tgt := 35) dX0_usefulThings_26 (by have h8 := hg k; omega) (by decide) (fun c26 => ?_) (fun c26 => ?_)
        · skip
          rw [← bits_f (p := usP S g) (n := k) (by simp only [usP, Bool.and_eq_false_iff, decide_eq_false_iff_not]; omega)]
          refine V_iinc (q := 38) (lv' := [(0, _), (1, _), (2, _)]) dX0_usefulThings_35 2 rfl (rfl) (by decide) rfl rfl ?_
          refine V_goto (tgt := 4) dX0_usefulThings_38 (by decide) ?_
          exact ih (k + 1) (by omega) (by omega)
        · skip
          refine V_iload_n (q := 30) dX0_usefulThings_29 1 rfl rfl ?_
          refine V_iconst (q := 31) dX0_usefulThings_30 rfl ?_
          refine V_iload_n (q := 32) dX0_usefulThings_31 2 rfl rfl ?_
          refine V_ishl (q := 33) dX0_usefulThings_32 rfl ?_
          refine V_ior (q := 34) dX0_usefulThings_33 rfl ?_
          refine V_top (or_bit (p := usP S g) (by omega) (by simp only [usP, Bool.and_eq_true, decide_eq_true_eq]; omega)) ?_
          refine V_istore_n (q := 35) (lv' := [(0, _), (1, _), (2, _)]) dX0_usefulThings_34 (by decide) rfl rfl ?_
          refine V_iinc (q := 38) (lv' := [(0, _), (1, _), (2, _)]) dX0_usefulThings_35 2 rfl (rfl) (by decide) rfl rfl ?_
          refine V_goto (tgt := 4) dX0_usefulThings_38 (by decide) ?_
          exact ih (k + 1) (by omega) (by omega)
theorem yv_X0_usefulThings : YV yX0_usefulThings wsX0_usefulThings 0 := ⟨_, _, _, _, rfl, by decide +kernel, by decide⟩
set_option maxRecDepth 100000 in
set_option maxHeartbeats 4000000 in
theorem c_X0_usefulThings {a : Nat → Nat} {c : Nat → ClassId} {S : St} {g : Nat → Nat} (ho : Ok S) (hg : ∀ j, g j < 4096) : CtI yX0_usefulThings wsX0_usefulThings (rmD 3) (tyk c) [.ref (a 0)] (wkc a c S g) (iZ (bits (usP S g) (sN S) : Nat)) (wkc a c S g) := by
  refine CtI_of (own := RX0) (by decide) rfl rfl (Nat.le_of_ble_eq_true rfl) ?_
  refine V_lvq (lv' := [(0, _)]) rfl ?_
  refine V_iconst (q := 1) dX0_usefulThings_0 rfl ?_
  refine V_istore_n (q := 2) (lv' := [(0, _), (1, _)]) dX0_usefulThings_1 (by decide) rfl rfl ?_
  refine V_iconst (q := 3) dX0_usefulThings_2 rfl ?_
  refine V_istore_n (q := 4) (lv' := [(0, _), (1, _), (2, _)]) dX0_usefulThings_3 (by decide) rfl rfl ?_
  exact lp_X0_usefulThings ho hg (sN S + 1) 0 (by omega) (by omega)
theorem hin_X0_partnersOf : ∀ w ∈ wsX00, w ∈ wsX0_partnersOf := by decide +kernel
theorem f_X0_partnersOf_31 : Cond.fieldLink RX0 31 (TX0 11).1 (TX0 11).2.1 (TX0 11).2.2.1 ∈ wsX0_partnersOf := by decide +kernel
set_option maxRecDepth 100000 in
set_option maxHeartbeats 4000000 in
theorem lp_X0_partnersOf {a : Nat → Nat} {c : Nat → ClassId} {S : St} {g : Nat → Nat} (x : Nat) (hx : x < 4096) : ∀ (m k : Nat), k ≤ 12 → 12 + 1 ≤ k + m → V RX0 cX0_partnersOf 4 (some .int) wsX0_partnersOf (rmD 0) vX0 (tyk c) (qI (tyk c) (wkc a c S g) (iZ (orU g x 12 : Nat)) 0 0) 0 0 (wkc a c S g) 4 [(0, .ref (a 0)), (1, .int (iZ x)), (2, .int (iZ (orU g x k : Nat))), (3, .int (iZ k))] [] := by
  intro m
  induction m with
  | zero => intro k  h1 h2 ; exact absurd h2 (by omega)
  | succ m ih =>
    intro k  h1 h2 
    refine V_iload_n (q := 5) dX0_partnersOf_4 3 rfl rfl ?_
    refine V_bipush (q := 7) dX0_partnersOf_5 (by decide) rfl ?_
    refine V_icmp_ge (q := 10) (tgt := 33) dX0_partnersOf_7 (by omega) (by omega) (by decide) (fun c7 => ?_) (fun c7 => ?_)
    · skip
      refine V_iload_n (q := 34) dX0_partnersOf_33 2 rfl rfl ?_
      exact V_iret dX0_partnersOf_34 rfl (by rw [show k = 12 by omega]) (rfl)
    · skip
      refine V_iload_n (q := 11) dX0_partnersOf_10 1 rfl rfl ?_
      refine V_iload_n (q := 12) dX0_partnersOf_11 3 rfl rfl ?_
      refine V_ishr (q := 13) dX0_partnersOf_12 rfl ?_
      refine V_iconst (q := 14) dX0_partnersOf_13 rfl ?_
      refine V_iand (q := 15) dX0_partnersOf_14 rfl ?_
      refine V_top (z_tb (by omega) (by omega)) ?_
      refine V_if_eqB (q := 18) (tgt := 27) dX0_partnersOf_15 (by decide) (fun c15 => ?_) (fun c15 => ?_)
      · skip
        rw [← orU_f (g := g) c15]
        refine V_iinc (q := 30) (lv' := [(0, _), (1, _), (2, _), (3, _)]) dX0_partnersOf_27 3 rfl (rfl) (by decide) rfl rfl ?_
        refine V_goto (tgt := 4) dX0_partnersOf_30 (by decide) ?_
        exact ih (k + 1) (by omega) (by omega)
      · skip
        refine V_iload_n (q := 19) dX0_partnersOf_18 2 rfl rfl ?_
        refine V_aload_n (q := 20) dX0_partnersOf_19 0 rfl rfl ?_
        refine V_get (q := 23) dX0_partnersOf_20 hin_X0_partnersOf 0 rfl rfl 11 (by decide) f_X0_partnersOf_31 rfl rfl ?_
        refine V_iload_n (q := 24) dX0_partnersOf_23 3 rfl rfl ?_
        refine V_iald (q := 25) dX0_partnersOf_24 8 7 rfl rfl (k) (rfl) (by omega) (by decide) (rfl) rfl ?_
        refine V_ior (q := 26) dX0_partnersOf_25 rfl ?_
        refine V_top (y := iZ (orU g x (k + 1) : Nat)) (by rw [orU_t (g := g) c15]; exact z_or _ _) ?_
        refine V_istore_n (q := 27) (lv' := [(0, _), (1, _), (2, _), (3, _)]) dX0_partnersOf_26 (by decide) rfl rfl ?_
        refine V_iinc (q := 30) (lv' := [(0, _), (1, _), (2, _), (3, _)]) dX0_partnersOf_27 3 rfl (rfl) (by decide) rfl rfl ?_
        refine V_goto (tgt := 4) dX0_partnersOf_30 (by decide) ?_
        exact ih (k + 1) (by omega) (by omega)
theorem yv_X0_partnersOf : YV yX0_partnersOf wsX0_partnersOf 1 := ⟨_, _, _, _, rfl, by decide +kernel, by decide⟩
set_option maxRecDepth 100000 in
set_option maxHeartbeats 4000000 in
theorem c_X0_partnersOf {a : Nat → Nat} {c : Nat → ClassId} {S : St} {g : Nat → Nat} (x : Nat) (hx : x < 4096) : CtI yX0_partnersOf wsX0_partnersOf (rmD 0) (tyk c) [.ref (a 0), .int (iZ x)] (wkc a c S g) (iZ (orU g x 12 : Nat)) (wkc a c S g) := by
  refine CtI_of (own := RX0) (by decide) rfl rfl (Nat.le_of_ble_eq_true rfl) ?_
  refine V_lvq (lv' := [(0, _), (1, _)]) rfl ?_
  refine V_iconst (q := 1) dX0_partnersOf_0 rfl ?_
  refine V_istore_n (q := 2) (lv' := [(0, _), (1, _), (2, _)]) dX0_partnersOf_1 (by decide) rfl rfl ?_
  refine V_iconst (q := 3) dX0_partnersOf_2 rfl ?_
  refine V_istore_n (q := 4) (lv' := [(0, _), (1, _), (2, _), (3, _)]) dX0_partnersOf_3 (by decide) rfl rfl ?_
  exact lp_X0_partnersOf x hx 13 0 (by omega) (by omega)
theorem hin_X0_wearsLeftIn : ∀ w ∈ wsX00, w ∈ wsX0_wearsLeftIn := by decide +kernel
theorem f_X0_wearsLeftIn_25 : Cond.fieldLink RX0 25 (TX0 5).1 (TX0 5).2.1 (TX0 5).2.2.1 ∈ wsX0_wearsLeftIn := by decide +kernel
set_option maxRecDepth 100000 in
set_option maxHeartbeats 4000000 in
theorem lp_X0_wearsLeftIn {a : Nat → Nat} {c : Nat → ClassId} {S : St} {g : Nat → Nat} (x : Nat) (hx : x < 4096) : ∀ (m k : Nat), k ≤ 12 → 12 + 1 ≤ k + m → V RX0 cX0_wearsLeftIn 4 (some .int) wsX0_wearsLeftIn (rmD 0) vX0 (tyk c) (qI (tyk c) (wkc a c S g) (iZ (sm (lfI S x) 12 : Nat)) 0 0) 0 0 (wkc a c S g) 4 [(0, .ref (a 0)), (1, .int (iZ x)), (2, .int (iZ (sm (lfI S x) k : Nat))), (3, .int (iZ k))] [] := by
  intro m
  induction m with
  | zero => intro k  h1 h2 ; exact absurd h2 (by omega)
  | succ m ih =>
    intro k  h1 h2 
    refine V_iload_n (q := 5) dX0_wearsLeftIn_4 3 rfl rfl ?_
    refine V_bipush (q := 7) dX0_wearsLeftIn_5 (by decide) rfl ?_
    refine V_icmp_ge (q := 10) (tgt := 33) dX0_wearsLeftIn_7 (by omega) (by omega) (by decide) (fun c7 => ?_) (fun c7 => ?_)
    · skip
      refine V_iload_n (q := 34) dX0_wearsLeftIn_33 2 rfl rfl ?_
      exact V_iret dX0_wearsLeftIn_34 rfl (by rw [show k = 12 by omega]) (rfl)
    · skip
      refine V_iload_n (q := 11) dX0_wearsLeftIn_10 1 rfl rfl ?_
      refine V_iload_n (q := 12) dX0_wearsLeftIn_11 3 rfl rfl ?_
      refine V_ishr (q := 13) dX0_wearsLeftIn_12 rfl ?_
      refine V_iconst (q := 14) dX0_wearsLeftIn_13 rfl ?_
      refine V_iand (q := 15) dX0_wearsLeftIn_14 rfl ?_
      refine V_top (z_tb (by omega) (by omega)) ?_
      refine V_if_eqB (q := 18) (tgt := 27) dX0_wearsLeftIn_15 (by decide) (fun c15 => ?_) (fun c15 => ?_)
      · skip
        rw [show sm (lfI S x) k = sm (lfI S x) (k + 1) by simp [sm, lfI, c15]]
        refine V_iinc (q := 30) (lv' := [(0, _), (1, _), (2, _), (3, _)]) dX0_wearsLeftIn_27 3 rfl (rfl) (by decide) rfl rfl ?_
        refine V_goto (tgt := 4) dX0_wearsLeftIn_30 (by decide) ?_
        exact ih (k + 1) (by omega) (by omega)
      · skip
        refine V_iload_n (q := 19) dX0_wearsLeftIn_18 2 rfl rfl ?_
        refine V_aload_n (q := 20) dX0_wearsLeftIn_19 0 rfl rfl ?_
        refine V_get (q := 23) dX0_wearsLeftIn_20 hin_X0_wearsLeftIn 0 rfl rfl 5 (by decide) f_X0_wearsLeftIn_25 rfl rfl ?_
        refine V_iload_n (q := 24) dX0_wearsLeftIn_23 3 rfl rfl ?_
        refine V_iald (q := 25) dX0_wearsLeftIn_24 6 5 rfl rfl (k) (rfl) (by omega) (by decide) (rfl) rfl ?_
        refine V_iadd (q := 26) dX0_wearsLeftIn_25 rfl ?_
        refine V_top (y := iZ (sm (lfI S x) (k + 1) : Nat)) (by simp [sm, lfI, c15]) ?_
        refine V_istore_n (q := 27) (lv' := [(0, _), (1, _), (2, _), (3, _)]) dX0_wearsLeftIn_26 (by decide) rfl rfl ?_
        refine V_iinc (q := 30) (lv' := [(0, _), (1, _), (2, _), (3, _)]) dX0_wearsLeftIn_27 3 rfl (rfl) (by decide) rfl rfl ?_
        refine V_goto (tgt := 4) dX0_wearsLeftIn_30 (by decide) ?_
        exact ih (k + 1) (by omega) (by omega)
theorem yv_X0_wearsLeftIn : YV yX0_wearsLeftIn wsX0_wearsLeftIn 1 := ⟨_, _, _, _, rfl, by decide +kernel, by decide⟩
set_option maxRecDepth 100000 in
set_option maxHeartbeats 4000000 in
theorem c_X0_wearsLeftIn {a : Nat → Nat} {c : Nat → ClassId} {S : St} {g : Nat → Nat} (x : Nat) (hx : x < 4096) : CtI yX0_wearsLeftIn wsX0_wearsLeftIn (rmD 0) (tyk c) [.ref (a 0), .int (iZ x)] (wkc a c S g) (iZ (sm (lfI S x) 12 : Nat)) (wkc a c S g) := by
  refine CtI_of (own := RX0) (by decide) rfl rfl (Nat.le_of_ble_eq_true rfl) ?_
  refine V_lvq (lv' := [(0, _), (1, _)]) rfl ?_
  refine V_iconst (q := 1) dX0_wearsLeftIn_0 rfl ?_
  refine V_istore_n (q := 2) (lv' := [(0, _), (1, _), (2, _)]) dX0_wearsLeftIn_1 (by decide) rfl rfl ?_
  refine V_iconst (q := 3) dX0_wearsLeftIn_2 rfl ?_
  refine V_istore_n (q := 4) (lv' := [(0, _), (1, _), (2, _), (3, _)]) dX0_wearsLeftIn_3 (by decide) rfl rfl ?_
  exact lp_X0_wearsLeftIn x hx 13 0 (by omega) (by omega)
theorem yv_X0_nextPart : YV yX0_nextPart wsX0_nextPart 2 := ⟨_, _, _, _, rfl, by decide +kernel, by decide⟩
set_option maxRecDepth 100000 in
set_option maxHeartbeats 4000000 in
theorem c_X0_nextPart {tys : List (ClassId × FieldType)} {w' : va_W} (x w : Nat) (h : w ≤ 4294967296 + x) : CtI yX0_nextPart wsX0_nextPart (rmD 0) tys [.int (iZ x), .int (iZ w)] (w') (iZ (nxp x w : Nat)) (w') := by
  refine CtI_of (own := RX0) (by decide) rfl rfl (Nat.le_of_ble_eq_true rfl) ?_
  refine V_lvq (lv' := [(0, _), (1, _)]) rfl ?_
  refine V_iload_n (q := 1) dX0_nextPart_0 0 rfl rfl ?_
  refine V_iload_n (q := 2) dX0_nextPart_1 1 rfl rfl ?_
  refine V_isub (q := 3) dX0_nextPart_2 rfl ?_
  refine V_iload_n (q := 4) dX0_nextPart_3 1 rfl rfl ?_
  refine V_iand (q := 5) dX0_nextPart_4 rfl ?_
  exact V_iret dX0_nextPart_5 rfl (z_nxp x w h) (rfl)
