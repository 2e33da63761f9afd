theorem hin_X0_outfitFor : ∀ w ∈ wsX00, w ∈ wsX0_outfitFor := by decide +kernel
theorem f_X0_outfitFor_52 : Cond.fieldLink RX0 52 (TX0 6).1 (TX0 6).2.1 (TX0 6).2.2.1 ∈ wsX0_outfitFor := by decide +kernel
set_option maxRecDepth 100000 in
set_option maxHeartbeats 4000000 in
theorem lp_X0_outfitFor_84 {a : Nat → Nat} {c : Nat → ClassId} {S : St} {g : Nat → Nat} (ho : Ok S) (w : Int) (p : Nat) (rw : -2147483648 ≤ w ∧ w < 2147483648) (hp : p < 256) (T B : Nat) (z : Int × Nat) (hT : T < sN S) (hB : B < sN S) (hz : z.2 ≤ 31) (kk : V RX0 cX0_outfitFor 9 (some .int) wsX0_outfitFor (rmX 8) vXT (tyk c) (qX (tyk c) (wkc a c S g) (wkc a c S g) "" (iZ (ofT S w p (sN S)).1)) 0 0 (wkc a c S g) 154 [(0, .ref (a 0)), (1, .int (iZ w)), (2, .int (iZ p)), (3, .int (iZ (ofK S w T B z (sN S + 1)).1)), (4, .int (iZ (ofK S w T B z (sN S + 1)).2)), (5, .int (iZ T)), (6, .int (iZ B))] []) : ∀ (m k : Nat), k ≤ sN S + 1 → sN S + 1 + 1 ≤ k + m → V RX0 cX0_outfitFor 9 (some .int) wsX0_outfitFor (rmX 8) vXT (tyk c) (qX (tyk c) (wkc a c S g) (wkc a c S g) "" (iZ (ofT S w p (sN S)).1)) 0 0 (wkc a c S g) 84 [(0, .ref (a 0)), (1, .int (iZ w)), (2, .int (iZ p)), (3, .int (iZ (ofK S w T B z k).1)), (4, .int (iZ (ofK S w T B z k).2)), (5, .int (iZ T)), (6, .int (iZ B)), (7, .int (iZ ((k : Int) - 1)))] [] := by
  intro m
  induction m with
  | zero => intro k  h1 h2 ; exact absurd h2 (by omega)
  | succ m ih =>
    intro k  h1 h2 
    have hn := ho.1
    have rw' := rw
    have hz2 := ofK_le (S := S) (w := w) (t := T) (b := B) hz k
    refine V_iload (q := 86) dX0_outfitFor_84 7 rfl rfl ?_
    refine V_aload_n (q := 87) dX0_outfitFor_86 0 rfl rfl ?_
    refine V_get (q := 90) dX0_outfitFor_87 hin_X0_outfitFor 0 rfl rfl 6 (by decide) f_X0_outfitFor_52 rfl rfl ?_
    refine V_icmp_ge (q := 93) (tgt := 154) dX0_outfitFor_90 (by omega) (by omega) (by decide) (fun c90 => ?_) (fun c90 => ?_)
    · skip
      refine V_loc (lv' := [(0, _), (1, _), (2, _), (3, _), (4, _), (5, _), (6, _)]) [0, 1, 2, 3, 4, 5, 6] rfl ?_
      obtain rfl : k = sN S + 1 := by omega
      exact kk
    · skip
      refine V_aload_n (q := 94) dX0_outfitFor_93 0 rfl rfl ?_
      refine V_iload (q := 96) dX0_outfitFor_94 5 rfl rfl ?_
      refine V_iload (q := 98) dX0_outfitFor_96 6 rfl rfl ?_
      refine V_iload (q := 100) dX0_outfitFor_98 7 rfl rfl ?_
      refine V_callIv (q := 103) dX0_outfitFor_100 (c_X0_outfitWarmth ho T B ((k : Int) - 1) (by omega) (by omega) (by omega)) yv_X0_outfitWarmth rfl gX0_outfitFor_X0_outfitWarmth rfl 0 rfl rfl rfl rfl (Nat.le_of_ble_eq_true rfl) (by decide) ?_
      refine V_istore (q := 105) (lv' := [(0, _), (1, _), (2, _), (3, _), (4, _), (5, _), (6, _), (7, _), (8, _)]) dX0_outfitFor_103 (by decide) rfl rfl ?_
      refine V_iload (q := 107) dX0_outfitFor_105 8 rfl rfl ?_
      refine V_iload (q := 109) dX0_outfitFor_107 4 rfl rfl ?_
      refine V_icmp_ge (q := 112) (tgt := 148) dX0_outfitFor_109 (by have h8 := owZ_le ho T B ((k : Int) - 1); omega) (by omega) (by decide) (fun c109 => ?_) (fun c109 => ?_)
      · skip
        have em : ofK S w T B z (k + 1) = ofK S w T B z k := by show of1 S w T B k _ = _; unfold of1; rw [if_neg (by simp only [Bool.and_eq_true, decide_eq_true_eq]; omega)]
        refine V_loc (lv' := [(0, _), (1, _), (2, _), (3, _), (4, _), (5, _), (6, _), (7, _)]) [0, 1, 2, 3, 4, 5, 6, 7] rfl ?_
        refine V_iinc (q := 151) (y := (((k + 1 : Nat) : Int) - 1)) (lv' := [(0, _), (1, _), (2, _), (3, _), (4, _), (5, _), (6, _), (7, _)]) dX0_outfitFor_148 7 rfl (by omega) (by decide) rfl rfl ?_
        refine V_goto (tgt := 84) dX0_outfitFor_151 (by decide) ?_
        have i9 := ih (k + 1) (by omega) (by omega)
        rw [em] at i9
        exact i9
      · skip
        refine V_aload_n (q := 113) dX0_outfitFor_112 0 rfl rfl ?_
        refine V_iload (q := 115) dX0_outfitFor_113 5 rfl rfl ?_
        refine V_iload (q := 117) dX0_outfitFor_115 6 rfl rfl ?_
        refine V_iload (q := 119) dX0_outfitFor_117 7 rfl rfl ?_
        refine V_iload_n (q := 120) dX0_outfitFor_119 1 rfl rfl ?_
        refine V_callIv (q := 123) dX0_outfitFor_120 (c_X0_isWarmOutfit ho T B ((k : Int) - 1) w (by omega) (by omega) (by omega) rw') yv_X0_isWarmOutfit rfl gX0_outfitFor_X0_isWarmOutfit rfl 0 rfl rfl rfl rfl (Nat.le_of_ble_eq_true rfl) (by decide) ?_
        refine V_if_eqB (q := 126) (tgt := 148) dX0_outfitFor_123 (by decide) (fun c123 => ?_) (fun c123 => ?_)
        · skip
          have em : ofK S w T B z (k + 1) = ofK S w T B z k := by show of1 S w T B k _ = _; unfold of1; rw [if_neg (by rw [c123]; simp)]
          refine V_loc (lv' := [(0, _), (1, _), (2, _), (3, _), (4, _), (5, _), (6, _), (7, _)]) [0, 1, 2, 3, 4, 5, 6, 7] rfl ?_
          refine V_iinc (q := 151) (y := (((k + 1 : Nat) : Int) - 1)) (lv' := [(0, _), (1, _), (2, _), (3, _), (4, _), (5, _), (6, _), (7, _)]) dX0_outfitFor_148 7 rfl (by omega) (by decide) rfl rfl ?_
          refine V_goto (tgt := 84) dX0_outfitFor_151 (by decide) ?_
          have i9 := ih (k + 1) (by omega) (by omega)
          rw [em] at i9
          exact i9
        · skip
          have em : ofK S w T B z (k + 1) = (10000 * (T : Int) + 100 * (B : Int) + ((k : Int) - 1) + 1, owZ S T B ((k : Int) - 1)) := by show of1 S w T B k _ = _; unfold of1; rw [if_pos (by rw [c123, decide_eq_true (by omega)]; rfl)]
          refine V_sipush (q := 129) dX0_outfitFor_126 (by decide) rfl ?_
          refine V_iload (q := 131) dX0_outfitFor_129 5 rfl rfl ?_
          refine V_imul (q := 132) dX0_outfitFor_131 rfl ?_
          refine V_bipush (q := 134) dX0_outfitFor_132 (by decide) rfl ?_
          refine V_iload (q := 136) dX0_outfitFor_134 6 rfl rfl ?_
          refine V_imul (q := 137) dX0_outfitFor_136 rfl ?_
          refine V_iadd (q := 138) dX0_outfitFor_137 rfl ?_
          refine V_iload (q := 140) dX0_outfitFor_138 7 rfl rfl ?_
          refine V_iadd (q := 141) dX0_outfitFor_140 rfl ?_
          refine V_iconst (q := 142) dX0_outfitFor_141 rfl ?_
          refine V_iadd (q := 143) dX0_outfitFor_142 rfl ?_
          refine V_istore_n (q := 144) (lv' := [(0, _), (1, _), (2, _), (3, _), (4, _), (5, _), (6, _), (7, _), (8, _)]) dX0_outfitFor_143 (by decide) rfl rfl ?_
          refine V_iload (q := 146) dX0_outfitFor_144 8 rfl rfl ?_
          refine V_istore (q := 148) (lv' := [(0, _), (1, _), (2, _), (3, _), (4, _), (5, _), (6, _), (7, _), (8, _)]) dX0_outfitFor_146 (by decide) rfl rfl ?_
          refine V_loc (lv' := [(0, _), (1, _), (2, _), (3, _), (4, _), (5, _), (6, _), (7, _)]) [0, 1, 2, 3, 4, 5, 6, 7] rfl ?_
          refine V_iinc (q := 151) (y := (((k + 1 : Nat) : Int) - 1)) (lv' := [(0, _), (1, _), (2, _), (3, _), (4, _), (5, _), (6, _), (7, _)]) dX0_outfitFor_148 7 rfl (by omega) (by decide) rfl rfl ?_
          refine V_goto (tgt := 84) dX0_outfitFor_151 (by decide) ?_
          have i9 := ih (k + 1) (by omega) (by omega)
          rw [em] at i9
          exact i9
set_option maxRecDepth 100000 in
set_option maxHeartbeats 4000000 in
theorem lp_X0_outfitFor_45 {a : Nat → Nat} {c : Nat → ClassId} {S : St} {g : Nat → Nat} (ho : Ok S) (w : Int) (p : Nat) (rw : -2147483648 ≤ w ∧ w < 2147483648) (hp : p < 256) (T : Nat) (z : Int × Nat) (hT : T < sN S) (hz : z.2 ≤ 31) (kk : V RX0 cX0_outfitFor 9 (some .int) wsX0_outfitFor (rmX 8) vXT (tyk c) (qX (tyk c) (wkc a c S g) (wkc a c S g) "" (iZ (ofT S w p (sN S)).1)) 0 0 (wkc a c S g) 160 [(0, .ref (a 0)), (1, .int (iZ w)), (2, .int (iZ p)), (3, .int (iZ (ofB S w p T z (sN S)).1)), (4, .int (iZ (ofB S w p T z (sN S)).2)), (5, .int (iZ T))] []) : ∀ (m k : Nat), k ≤ sN S → sN S + 1 ≤ k + m → V RX0 cX0_outfitFor 9 (some .int) wsX0_outfitFor (rmX 8) vXT (tyk c) (qX (tyk c) (wkc a c S g) (wkc a c S g) "" (iZ (ofT S w p (sN S)).1)) 0 0 (wkc a c S g) 45 [(0, .ref (a 0)), (1, .int (iZ w)), (2, .int (iZ p)), (3, .int (iZ (ofB S w p T z k).1)), (4, .int (iZ (ofB S w p T z k).2)), (5, .int (iZ T)), (6, .int (iZ k))] [] := by
  intro m
  induction m with
  | zero => intro k  h1 h2 ; exact absurd h2 (by omega)
  | succ m ih =>
    intro k  h1 h2 
    have hn := ho.1
    have rw' := rw
    have hz2 := ofB_le (S := S) (w := w) (p := p) (t := T) hz k
    refine V_iload (q := 47) dX0_outfitFor_45 6 rfl rfl ?_
    refine V_aload_n (q := 48) dX0_outfitFor_47 0 rfl rfl ?_
    refine V_get (q := 51) dX0_outfitFor_48 hin_X0_outfitFor 0 rfl rfl 6 (by decide) f_X0_outfitFor_52 rfl rfl ?_
    refine V_icmp_ge (q := 54) (tgt := 160) dX0_outfitFor_51 (by omega) (by omega) (by decide) (fun c51 => ?_) (fun c51 => ?_)
    · skip
      refine V_loc (lv' := [(0, _), (1, _), (2, _), (3, _), (4, _), (5, _)]) [0, 1, 2, 3, 4, 5] rfl ?_
      obtain rfl : k = sN S := by omega
      exact kk
    · skip
      refine V_aload_n (q := 55) dX0_outfitFor_54 0 rfl rfl ?_
      refine V_iload (q := 57) dX0_outfitFor_55 5 rfl rfl ?_
      refine V_iload (q := 59) dX0_outfitFor_57 6 rfl rfl ?_
      refine V_iconst (q := 60) dX0_outfitFor_59 rfl ?_
      refine V_callIv (q := 63) dX0_outfitFor_60 (c_X0_canBeWorn ho T k (-1) (by omega) (by omega) (by decide)) yv_X0_canBeWorn rfl gX0_outfitFor_X0_canBeWorn rfl 0 rfl rfl rfl rfl (Nat.le_of_ble_eq_true rfl) (by decide) ?_
      refine V_if_eqB (q := 66) (tgt := 154) dX0_outfitFor_63 (by decide) (fun c63 => ?_) (fun c63 => ?_)
      · skip
        have em : ofB S w p T z (k + 1) = ofB S w p T z k := if_neg (by simp [ofC, c63])
        rw [← em]
        refine V_iinc (q := 157) (lv' := [(0, _), (1, _), (2, _), (3, _), (4, _), (5, _), (6, _)]) dX0_outfitFor_154 6 rfl (rfl) (by decide) rfl rfl ?_
        refine V_goto (tgt := 45) dX0_outfitFor_157 (by decide) ?_
        exact ih (k + 1) (by omega) (by omega)
      · skip
        refine V_aload_n (q := 67) dX0_outfitFor_66 0 rfl rfl ?_
        refine V_iload (q := 69) dX0_outfitFor_67 5 rfl rfl ?_
        refine V_iload (q := 71) dX0_outfitFor_69 6 rfl rfl ?_
        refine V_iload_n (q := 72) dX0_outfitFor_71 2 rfl rfl ?_
        refine V_callIv (q := 75) dX0_outfitFor_72 (c_X0_wasSeenLately ho T k p (by omega) (by omega) hp) yv_X0_wasSeenLately rfl gX0_outfitFor_X0_wasSeenLately rfl 0 rfl rfl rfl rfl (Nat.le_of_ble_eq_true rfl) (by decide) ?_
        refine V_if_eqB (q := 78) (tgt := 81) dX0_outfitFor_75 (by decide) (fun c75 => ?_) (fun c75 => ?_)
        · skip
          have em : ofB S w p T z (k + 1) = ofK S w T k (ofB S w p T z k) (sN S + 1) := if_pos (by simp [ofC, c63, c75])
          refine V_iconst (q := 82) dX0_outfitFor_81 rfl ?_
          refine V_istore (q := 84) (lv' := [(0, _), (1, _), (2, _), (3, _), (4, _), (5, _), (6, _), (7, _)]) dX0_outfitFor_82 (by decide) rfl rfl ?_
          refine lp_X0_outfitFor_84 ho w p rw' hp T k (ofB S w p T z k) (by omega) (by omega) hz2 ?_ (sN S + 2) 0 (by omega) (by omega)
          rw [← em]
          refine V_iinc (q := 157) (lv' := [(0, _), (1, _), (2, _), (3, _), (4, _), (5, _), (6, _)]) dX0_outfitFor_154 6 rfl (rfl) (by decide) rfl rfl ?_
          refine V_goto (tgt := 45) dX0_outfitFor_157 (by decide) ?_
          exact ih (k + 1) (by omega) (by omega)
        · skip
          have em : ofB S w p T z (k + 1) = ofB S w p T z k := if_neg (by simp [ofC, c75])
          rw [← em]
          refine V_goto (tgt := 154) dX0_outfitFor_78 (by decide) ?_
          refine V_iinc (q := 157) (lv' := [(0, _), (1, _), (2, _), (3, _), (4, _), (5, _), (6, _)]) dX0_outfitFor_154 6 rfl (rfl) (by decide) rfl rfl ?_
          refine V_goto (tgt := 45) dX0_outfitFor_157 (by decide) ?_
          exact ih (k + 1) (by omega) (by omega)
set_option maxRecDepth 100000 in
set_option maxHeartbeats 4000000 in
theorem lp_X0_outfitFor_33 {a : Nat → Nat} {c : Nat → ClassId} {S : St} {g : Nat → Nat} (ho : Ok S) (w : Int) (p : Nat) (rw : -2147483648 ≤ w ∧ w < 2147483648) (hp : p < 256) : ∀ (m k : Nat), k ≤ sN S → sN S + 1 ≤ k + m → V RX0 cX0_outfitFor 9 (some .int) wsX0_outfitFor (rmX 8) vXT (tyk c) (qX (tyk c) (wkc a c S g) (wkc a c S g) "" (iZ (ofT S w p (sN S)).1)) 0 0 (wkc a c S g) 33 [(0, .ref (a 0)), (1, .int (iZ w)), (2, .int (iZ p)), (3, .int (iZ (ofT S w p k).1)), (4, .int (iZ (ofT S w p k).2)), (5, .int (iZ k))] [] := by
  intro m
  induction m with
  | zero => intro k  h1 h2 ; exact absurd h2 (by omega)
  | succ m ih =>
    intro k  h1 h2 
    have hn := ho.1
    have rw' := rw
    refine V_iload (q := 35) dX0_outfitFor_33 5 rfl rfl ?_
    refine V_aload_n (q := 36) dX0_outfitFor_35 0 rfl rfl ?_
    refine V_get (q := 39) dX0_outfitFor_36 hin_X0_outfitFor 0 rfl rfl 6 (by decide) f_X0_outfitFor_52 rfl rfl ?_
    refine V_icmp_ge (q := 42) (tgt := 166) dX0_outfitFor_39 (by omega) (by omega) (by decide) (fun c39 => ?_) (fun c39 => ?_)
    · skip
      refine V_iload_n (q := 167) dX0_outfitFor_166 3 rfl rfl ?_
      exact V_iretX dX0_outfitFor_167 rfl (by rw [show k = sN S by omega]) (rfl) (rfl)
    · skip
      refine V_iconst (q := 43) dX0_outfitFor_42 rfl ?_
      refine V_istore (q := 45) (lv' := [(0, _), (1, _), (2, _), (3, _), (4, _), (5, _), (6, _)]) dX0_outfitFor_43 (by decide) rfl rfl ?_
      refine lp_X0_outfitFor_45 ho w p rw' hp k (ofT S w p k) (by omega) (ofT_le k) ?_ (sN S + 1) 0 (by omega) (by omega)
      rw [show ofB S w p k (ofT S w p k) (sN S) = ofT S w p (k + 1) from rfl]
      refine V_iinc (q := 163) (lv' := [(0, _), (1, _), (2, _), (3, _), (4, _), (5, _)]) dX0_outfitFor_160 5 rfl (rfl) (by decide) rfl rfl ?_
      refine V_goto (tgt := 33) dX0_outfitFor_163 (by decide) ?_
      exact ih (k + 1) (by omega) (by omega)
theorem yv_X0_outfitFor : YV yX0_outfitFor wsX0_outfitFor 2 := ⟨_, _, _, _, rfl, by decide +kernel, by decide⟩
set_option maxRecDepth 100000 in
set_option maxHeartbeats 4000000 in
theorem c_X0_outfitFor {a : Nat → Nat} {c : Nat → ClassId} {S : St} {g : Nat → Nat} (ho : Ok S) (w p : Int) (rw : -2147483648 ≤ w ∧ w < 2147483648) (rp : -2147483648 ≤ p ∧ p < 2147483648) : CtX yX0_outfitFor wsX0_outfitFor (rmX 8) (tyk c) [.ref (a 0), .int (iZ w), .int (iZ p)] (wkc a c S g) (xE [EIAE] (cFor w p)) (iZ (ofT S w p.toNat (sN S)).1) (wkc a c S g) := by
  refine CtX_of (own := RX0) (by decide) rfl rfl (Nat.le_of_ble_eq_true rfl) ?_
  refine V_lvq (lv' := [(0, _), (1, _), (2, _)]) rfl ?_
  have rw' := rw
  refine V_iload_n (q := 1) dX0_outfitFor_0 1 rfl rfl ?_
  refine V_callIs (q := 4) dX0_outfitFor_1 (c_X0_isOutfitWarmth w rw') yv_X0_isOutfitWarmth rfl gX0_outfitFor_X0_isOutfitWarmth rfl (Nat.le_of_ble_eq_true rfl) (by decide) ?_
  refine V_if_eqB (q := 7) (tgt := 14) dX0_outfitFor_4 (by decide) (fun c4 => ?_) (fun c4 => ?_)
  · skip
    exact V_throw (text := "the warmth or people is out of range") (cls := EIAE) dX0_outfitFor_14 dX0_outfitFor_17 dX0_outfitFor_18 dX0_outfitFor_20 dX0_outfitFor_23 (by decide +kernel) xn_ok (by decide +kernel) (by decide +kernel) (by decide +kernel) xf_IAE xg_IAE rfl (by decide +kernel) (by rw [show (cFor w p : Nat) = 1 by simp only [cFor, inZ, c4]; first | rfl | (simp only [c11]; rfl)]; rfl) (by decide +kernel) (by decide) (by decide)
  · skip
    refine V_iload_n (q := 8) dX0_outfitFor_7 2 rfl rfl ?_
    refine V_callIs (q := 11) dX0_outfitFor_8 (c_X0_arePeople p rp) yv_X0_arePeople rfl gX0_outfitFor_X0_arePeople rfl (Nat.le_of_ble_eq_true rfl) (by decide) ?_
    refine V_if_neB (q := 14) (tgt := 24) dX0_outfitFor_11 (by decide) (fun c11 => ?_) (fun c11 => ?_)
    · skip
      have b1 : 0 ≤ p ∧ p ≤ 255 := by simpa using c11
      rw [show cFor w p = 0 by simp only [cFor, inZ, c4, c11]; rfl]
      rw [show (iZ p : Int32) = iZ ((p.toNat : Nat) : Int) by rw [Int.toNat_of_nonneg b1.1]]
      refine V_iconst (q := 25) dX0_outfitFor_24 rfl ?_
      refine V_istore_n (q := 26) (lv' := [(0, _), (1, _), (2, _), (3, _)]) dX0_outfitFor_25 (by decide) rfl rfl ?_
      refine V_bipush (q := 28) dX0_outfitFor_26 (by decide) rfl ?_
      refine V_istore (q := 30) (lv' := [(0, _), (1, _), (2, _), (3, _), (4, _)]) dX0_outfitFor_28 (by decide) rfl rfl ?_
      refine V_iconst (q := 31) dX0_outfitFor_30 rfl ?_
      refine V_istore (q := 33) (lv' := [(0, _), (1, _), (2, _), (3, _), (4, _), (5, _)]) dX0_outfitFor_31 (by decide) rfl rfl ?_
      exact lp_X0_outfitFor_33 ho w p.toNat rw' (by omega) (sN S + 1) 0 (by omega) (by omega)
    · skip
      exact V_throw (text := "the warmth or people is out of range") (cls := EIAE) dX0_outfitFor_14 dX0_outfitFor_17 dX0_outfitFor_18 dX0_outfitFor_20 dX0_outfitFor_23 (by decide +kernel) xn_ok (by decide +kernel) (by decide +kernel) (by decide +kernel) xf_IAE xg_IAE rfl (by decide +kernel) (by rw [show (cFor w p : Nat) = 1 by simp only [cFor, inZ, c4]; first | rfl | (simp only [c11]; rfl)]; rfl) (by decide +kernel) (by decide) (by decide)
theorem hin_X0_load : ∀ w ∈ wsX00, w ∈ wsX0_load := by decide +kernel
theorem f_X0_load_52 : Cond.fieldLink RX0 52 (TX0 6).1 (TX0 6).2.1 (TX0 6).2.2.1 ∈ wsX0_load := by decide +kernel
set_option maxRecDepth 100000 in
set_option maxHeartbeats 4000000 in
theorem lp_X0_load {a : Nat → Nat} {c : Nat → ClassId} {S : St} {g : Nat → Nat} (ho : Ok S) (r : Int) (dk : Bool) (rr : -2147483648 ≤ r ∧ r < 2147483648) : ∀ (m k : Nat), k ≤ sN S → sN S + 1 ≤ k + m → V RX0 cX0_load 5 (some .int) wsX0_load (rmX 3) vXT (tyk c) (qX (tyk c) (wkc a c S g) (wkc a c S g) "" (iZ (cnt (ldP S r dk) (sN S) : Nat))) 0 0 (wkc a c S g) 22 [(0, .ref (a 0)), (1, .int (iZ r)), (2, .int (iZ (bZ dk))), (3, .int (iZ (cnt (ldP S r dk) k : Nat))), (4, .int (iZ k))] [] := by
  intro m
  induction m with
  | zero => intro k  h1 h2 ; exact absurd h2 (by omega)
  | succ m ih =>
    intro k  h1 h2 
    have hn := ho.1
    refine V_iload (q := 24) dX0_load_22 4 rfl rfl ?_
    refine V_aload_n (q := 25) dX0_load_24 0 rfl rfl ?_
    refine V_get (q := 28) dX0_load_25 hin_X0_load 0 rfl rfl 6 (by decide) f_X0_load_52 rfl rfl ?_
    refine V_icmp_ge (q := 31) (tgt := 60) dX0_load_28 (by omega) (by omega) (by decide) (fun c28 => ?_) (fun c28 => ?_)
    · skip
      refine V_iload_n (q := 61) dX0_load_60 3 rfl rfl ?_
      exact V_iretX dX0_load_61 rfl (by rw [show k = sN S by omega]) (rfl) (rfl)
    · skip
      refine V_aload_n (q := 32) dX0_load_31 0 rfl rfl ?_
      refine V_iload (q := 34) dX0_load_32 4 rfl rfl ?_
      refine V_iload_n (q := 35) dX0_load_34 1 rfl rfl ?_
      refine V_iload_n (q := 36) dX0_load_35 2 rfl rfl ?_
      refine V_callIv (q := 39) dX0_load_36 (c_X0_isWashedWith ho k r dk (by omega) rr) yv_X0_isWashedWith rfl gX0_load_X0_isWashedWith rfl 0 rfl rfl rfl rfl (Nat.le_of_ble_eq_true rfl) (by decide) ?_
      refine V_if_eqB (q := 42) (tgt := 54) dX0_load_39 (by decide) (fun c39 => ?_) (fun c39 => ?_)
      · skip
        rw [← cnt_f (p := ldP S r dk) (n := k) (by simp [ldP, c39])]
        refine V_iinc (q := 57) (lv' := [(0, _), (1, _), (2, _), (3, _), (4, _)]) dX0_load_54 4 rfl (rfl) (by decide) rfl rfl ?_
        refine V_goto (tgt := 22) dX0_load_57 (by decide) ?_
        exact ih (k + 1) (by omega) (by omega)
      · skip
        refine V_aload_n (q := 43) dX0_load_42 0 rfl rfl ?_
        refine V_iload (q := 45) dX0_load_43 4 rfl rfl ?_
        refine V_callIv (q := 48) dX0_load_45 (c_X0_wearsLeftOf ho k (by omega)) yv_X0_wearsLeftOf rfl gX0_load_X0_wearsLeftOf rfl 0 rfl rfl rfl rfl (Nat.le_of_ble_eq_true rfl) (by decide) ?_
        refine V_if_ne (q := 51) (tgt := 54) dX0_load_48 (by have h8 := lftZ_le ho k; omega) (by decide) (fun c48 => ?_) (fun c48 => ?_)
        · skip
          rw [← cnt_f (p := ldP S r dk) (n := k) (by simp only [ldP, Bool.and_eq_false_iff, decide_eq_false_iff_not]; omega)]
          refine V_iinc (q := 57) (lv' := [(0, _), (1, _), (2, _), (3, _), (4, _)]) dX0_load_54 4 rfl (rfl) (by decide) rfl rfl ?_
          refine V_goto (tgt := 22) dX0_load_57 (by decide) ?_
          exact ih (k + 1) (by omega) (by omega)
        · skip
          refine V_iinc (q := 54) (y := (cnt (ldP S r dk) (k + 1) : Nat)) (lv' := [(0, _), (1, _), (2, _), (3, _), (4, _)]) dX0_load_51 3 rfl (by rw [cnt_t (p := ldP S r dk) (n := k) (by simp only [ldP, c39, Bool.true_and, decide_eq_true_eq]; omega)]; rfl) (by decide) rfl rfl ?_
          refine V_iinc (q := 57) (lv' := [(0, _), (1, _), (2, _), (3, _), (4, _)]) dX0_load_54 4 rfl (rfl) (by decide) rfl rfl ?_
          refine V_goto (tgt := 22) dX0_load_57 (by decide) ?_
          exact ih (k + 1) (by omega) (by omega)
theorem yv_X0_load : YV yX0_load wsX0_load 2 := ⟨_, _, _, _, rfl, by decide +kernel, by decide⟩
set_option maxRecDepth 100000 in
set_option maxHeartbeats 4000000 in
theorem c_X0_load {a : Nat → Nat} {c : Nat → ClassId} {S : St} {g : Nat → Nat} (ho : Ok S) (r : Int) (dk : Bool) (rr : -2147483648 ≤ r ∧ r < 2147483648) : CtX yX0_load wsX0_load (rmX 3) (tyk c) [.ref (a 0), .int (iZ r), .int (iZ (bZ dk))] (wkc a c S g) (xE [EIAE] (cCare r)) (iZ (cnt (ldP S r dk) (sN S) : Nat)) (wkc a c S g) := by
  refine CtX_of (own := RX0) (by decide) rfl rfl (Nat.le_of_ble_eq_true rfl) ?_
  refine V_lvq (lv' := [(0, _), (1, _), (2, _)]) rfl ?_
  refine V_iload_n (q := 1) dX0_load_0 1 rfl rfl ?_
  refine V_callIs (q := 4) dX0_load_1 (c_X0_isCare r rr) yv_X0_isCare rfl gX0_load_X0_isCare rfl (Nat.le_of_ble_eq_true rfl) (by decide) ?_
  refine V_if_neB (q := 7) (tgt := 17) dX0_load_4 (by decide) (fun c4 => ?_) (fun c4 => ?_)
  · skip
    rw [show cCare r = 0 by simp only [cCare, inZ, c4]; rfl]
    refine V_iconst (q := 18) dX0_load_17 rfl ?_
    refine V_istore_n (q := 19) (lv' := [(0, _), (1, _), (2, _), (3, _)]) dX0_load_18 (by decide) rfl rfl ?_
    refine V_iconst (q := 20) dX0_load_19 rfl ?_
    refine V_istore (q := 22) (lv' := [(0, _), (1, _), (2, _), (3, _), (4, _)]) dX0_load_20 (by decide) rfl rfl ?_
    exact lp_X0_load ho r dk rr (sN S + 1) 0 (by omega) (by omega)
  · skip
    exact V_throw (text := "the care is out of range") (cls := EIAE) dX0_load_7 dX0_load_10 dX0_load_11 dX0_load_13 dX0_load_16 (by decide +kernel) xn_ok (by decide +kernel) (by decide +kernel) (by decide +kernel) xf_IAE xg_IAE rfl (by decide +kernel) (by rw [show (cCare r : Nat) = 1 by simp only [cCare, inZ, c4]; rfl]; rfl) (by decide +kernel) (by decide) (by decide)
set_option maxRecDepth 100000 in
set_option maxHeartbeats 4000000 in
theorem lp_X0_wash {a : Nat → Nat} {c : Nat → ClassId} {S : St} {g : Nat → Nat} (ho : Ok S) (r : Int) (dk : Bool) (rr : -2147483648 ≤ r ∧ r < 2147483648) : ∀ (m k : Nat), k ≤ 5 → 5 + 1 ≤ k + m → V RX0 cX0_wash 6 (some .int) wsX0_wash (rmX 4) vXT (tyk c) (qX (tyk c) (wkc a c S g) (wkc a c (wst S r dk 5).1 g) "" (iZ (wst S r dk 5).2)) 0 0 (wkc a c (wst S r dk k).1 g) 22 [(0, .ref (a 0)), (1, .int (iZ r)), (2, .int (iZ (bZ dk))), (3, .int (iZ (wst S r dk k).2)), (4, .int (iZ k))] [] := by
  intro m
  induction m with
  | zero => intro k  h1 h2 ; exact absurd h2 (by omega)
  | succ m ih =>
    intro k  h1 h2 
    have hn := ho.1
    have o1 := wst_ok ho r dk k
    have h9 := nxt_in (wst S r dk k).1 r dk (sN S)
    refine V_iload (q := 24) dX0_wash_22 4 rfl rfl ?_
    refine V_iconst (q := 25) dX0_wash_24 rfl ?_
    refine V_icmp_ge (q := 28) (tgt := 57) dX0_wash_25 (by omega) (by omega) (by decide) (fun c25 => ?_) (fun c25 => ?_)
    · skip
      refine V_iload_n (q := 58) dX0_wash_57 3 rfl rfl ?_
      exact V_iretX dX0_wash_58 rfl (by rw [show k = 5 by omega]) (rfl) (by rw [show k = 5 by omega])
    · skip
      refine V_aload_n (q := 29) dX0_wash_28 0 rfl rfl ?_
      refine V_iload_n (q := 30) dX0_wash_29 1 rfl rfl ?_
      refine V_iload_n (q := 31) dX0_wash_30 2 rfl rfl ?_
      refine V_callIv (q := 34) dX0_wash_31 (c_X0_nextToWash o1.1 r dk rr) yv_X0_nextToWash rfl gX0_wash_X0_nextToWash rfl 0 rfl rfl rfl rfl (Nat.le_of_ble_eq_true rfl) (by decide) ?_
      rw [o1.2]
      refine V_istore (q := 36) (lv' := [(0, _), (1, _), (2, _), (3, _), (4, _), (5, _)]) dX0_wash_34 (by decide) rfl rfl ?_
      refine V_iload (q := 38) dX0_wash_36 5 rfl rfl ?_
      refine V_iconst (q := 39) dX0_wash_38 rfl ?_
      refine V_icmp_eq (q := 42) (tgt := 51) dX0_wash_39 (by omega) (by omega) (by decide) (fun c39 => ?_) (fun c39 => ?_)
      · skip
        have em : wst S r dk (k + 1) = wst S r dk k := if_pos c39
        refine V_loc (lv' := [(0, _), (1, _), (2, _), (3, _), (4, _)]) [0, 1, 2, 3, 4] rfl ?_
        refine V_iinc (q := 54) (lv' := [(0, _), (1, _), (2, _), (3, _), (4, _)]) dX0_wash_51 4 rfl (rfl) (by decide) rfl rfl ?_
        refine V_goto (tgt := 22) dX0_wash_54 (by decide) ?_
        have i9 := ih (k + 1) (by omega) (by omega)
        rw [em] at i9
        exact i9
      · skip
        have em : wst S r dk (k + 1) = (mc (wst S r dk k).1 (nxt (wst S r dk k).1 r dk (sN S)), (wst S r dk k).2 + 1) := if_neg c39
        refine V_aload_n (q := 43) dX0_wash_42 0 rfl rfl ?_
        refine V_iload (q := 45) dX0_wash_43 5 rfl rfl ?_
        refine V_callVv (q := 48) dX0_wash_45 (c_X0_makeClean o1.1 (nxt (wst S r dk k).1 r dk (sN S)) (by omega)) yv_X0_makeClean rfl gX0_wash_X0_makeClean rfl 0 rfl rfl rfl rfl (Nat.le_of_ble_eq_true rfl) (by decide) ?_
        refine V_iinc (q := 51) (lv' := [(0, _), (1, _), (2, _), (3, _), (4, _), (5, _)]) dX0_wash_48 3 rfl (rfl) (by decide) rfl rfl ?_
        refine V_loc (lv' := [(0, _), (1, _), (2, _), (3, _), (4, _)]) [0, 1, 2, 3, 4] rfl ?_
        refine V_iinc (q := 54) (lv' := [(0, _), (1, _), (2, _), (3, _), (4, _)]) dX0_wash_51 4 rfl (rfl) (by decide) rfl rfl ?_
        refine V_goto (tgt := 22) dX0_wash_54 (by decide) ?_
        have i9 := ih (k + 1) (by omega) (by omega)
        rw [em] at i9
        exact i9
theorem yv_X0_wash : YV yX0_wash wsX0_wash 2 := ⟨_, _, _, _, rfl, by decide +kernel, by decide⟩
set_option maxRecDepth 100000 in
set_option maxHeartbeats 4000000 in
theorem c_X0_wash {a : Nat → Nat} {c : Nat → ClassId} {S : St} {g : Nat → Nat} (ho : Ok S) (r : Int) (dk : Bool) (rr : -2147483648 ≤ r ∧ r < 2147483648) : CtX yX0_wash wsX0_wash (rmX 4) (tyk c) [.ref (a 0), .int (iZ r), .int (iZ (bZ dk))] (wkc a c S g) (xE [EIAE] (cCare r)) (iZ (wst S r dk 5).2) (wkc a c (wst S r dk 5).1 g) := by
  refine CtX_of (own := RX0) (by decide) rfl rfl (Nat.le_of_ble_eq_true rfl) ?_
  refine V_lvq (lv' := [(0, _), (1, _), (2, _)]) rfl ?_
  refine V_iload_n (q := 1) dX0_wash_0 1 rfl rfl ?_
  refine V_callIs (q := 4) dX0_wash_1 (c_X0_isCare r rr) yv_X0_isCare rfl gX0_wash_X0_isCare rfl (Nat.le_of_ble_eq_true rfl) (by decide) ?_
  refine V_if_neB (q := 7) (tgt := 17) dX0_wash_4 (by decide) (fun c4 => ?_) (fun c4 => ?_)
  · skip
    rw [show cCare r = 0 by simp only [cCare, inZ, c4]; rfl]
    refine V_iconst (q := 18) dX0_wash_17 rfl ?_
    refine V_istore_n (q := 19) (lv' := [(0, _), (1, _), (2, _), (3, _)]) dX0_wash_18 (by decide) rfl rfl ?_
    refine V_iconst (q := 20) dX0_wash_19 rfl ?_
    refine V_istore (q := 22) (lv' := [(0, _), (1, _), (2, _), (3, _), (4, _)]) dX0_wash_20 (by decide) rfl rfl ?_
    exact lp_X0_wash ho r dk rr 6 0 (by omega) (by omega)
  · skip
    exact V_throw (text := "the care is out of range") (cls := EIAE) dX0_wash_7 dX0_wash_10 dX0_wash_11 dX0_wash_13 dX0_wash_16 (by decide +kernel) xn_ok (by decide +kernel) (by decide +kernel) (by decide +kernel) xf_IAE xg_IAE rfl (by decide +kernel) (by rw [show (cCare r : Nat) = 1 by simp only [cCare, inZ, c4]; rfl]; rfl) (by decide +kernel) (by decide) (by decide)
theorem hin_X0_pass : ∀ w ∈ wsX00, w ∈ wsX0_pass := by decide +kernel
theorem f_X0_pass_162 : Cond.fieldLink RX0 162 (TX0 8).1 (TX0 8).2.1 (TX0 8).2.2.1 ∈ wsX0_pass := by decide +kernel
theorem yv_X0_pass : YV yX0_pass wsX0_pass 1 := ⟨_, _, _, _, rfl, by decide +kernel, by decide⟩
set_option maxRecDepth 100000 in
set_option maxHeartbeats 4000000 in
theorem c_X0_pass {a : Nat → Nat} {c : Nat → ClassId} {S : St} {g : Nat → Nat} (ho : Ok S) (d : Int) (rd : -2147483648 ≤ d ∧ d < 2147483648) : CtX yX0_pass wsX0_pass (rmX 1) (tyk c) [.ref (a 0), .int (iZ d)] (wkc a c S g) (xE [EIAE, EISE] (cPass S d)) (iZ ((sT S + d.toNat : Nat) : Int)) (wkc a c (uT S (sT S + d.toNat)) g) := by
  refine CtX_of (own := RX0) (by decide) rfl rfl (Nat.le_of_ble_eq_true rfl) ?_
  refine V_lvq (lv' := [(0, _), (1, _)]) rfl ?_
  refine V_iload_n (q := 1) dX0_pass_0 1 rfl rfl ?_
  refine V_iconst (q := 2) dX0_pass_1 rfl ?_
  refine V_sipush (q := 5) dX0_pass_2 (by decide) rfl ?_
  refine V_callIs (q := 8) dX0_pass_5 (c_X0_isWithin d 1 365 rd (by decide) (by decide)) yv_X0_isWithin rfl gX0_pass_X0_isWithin rfl (Nat.le_of_ble_eq_true rfl) (by decide) ?_
  refine V_if_neB (q := 11) (tgt := 21) dX0_pass_8 (by decide) (fun c8 => ?_) (fun c8 => ?_)
  · skip
    have b1 : 1 ≤ d ∧ d ≤ 365 := by simpa using c8
    have ht := ho.2.1
    refine V_aload_n (q := 22) dX0_pass_21 0 rfl rfl ?_
    refine V_get (q := 25) dX0_pass_22 hin_X0_pass 0 rfl rfl 8 (by decide) f_X0_pass_162 rfl rfl ?_
    refine V_iload_n (q := 26) dX0_pass_25 1 rfl rfl ?_
    refine V_iadd (q := 27) dX0_pass_26 rfl ?_
    refine V_sipush (q := 30) dX0_pass_27 (by decide) rfl ?_
    refine V_icmp_le (q := 33) (tgt := 43) dX0_pass_30 (by omega) (by omega) (by decide) (fun c30 => ?_) (fun c30 => ?_)
    · skip
      rw [show cPass S d = 0 by simp only [cPass, inZ, c8]; rw [if_pos trivial, if_pos (by omega)]]
      refine V_aload_n (q := 44) dX0_pass_43 0 rfl rfl ?_
      refine V_dup (q := 45) dX0_pass_44 rfl rfl ?_
      refine V_get (q := 48) dX0_pass_45 hin_X0_pass 0 rfl rfl 8 (by decide) f_X0_pass_162 rfl rfl ?_
      refine V_iload_n (q := 49) dX0_pass_48 1 rfl rfl ?_
      refine V_iadd (q := 50) dX0_pass_49 rfl ?_
      rw [show ((sT S : Int) + d) = ((sT S + d.toNat : Nat) : Int) by omega]
      refine V_put (q := 53) (ty := .int) (ws' := wkc a c (uT S (sT S + d.toNat)) g) dX0_pass_50 hin_X0_pass tyX0 tyX0_ok nmX0 0 rfl rfl 8 (by decide) f_X0_pass_162 rfl (by decide +kernel) rfl rfl (Nat.le_of_ble_eq_true rfl) (wkT _) rfl ?_
      refine V_aload_n (q := 54) dX0_pass_53 0 rfl rfl ?_
      refine V_get (q := 57) dX0_pass_54 hin_X0_pass 0 rfl rfl 8 (by decide) f_X0_pass_162 rfl rfl ?_
      exact V_iretX dX0_pass_57 rfl (rfl) (rfl) (rfl)
    · skip
      exact V_throw (text := "today would be above 10000") (cls := EISE) dX0_pass_33 dX0_pass_36 dX0_pass_37 dX0_pass_39 dX0_pass_42 (by decide +kernel) xn_ok (by decide +kernel) (by decide +kernel) (by decide +kernel) xf_ISE xg_ISE rfl (by decide +kernel) (by rw [show (cPass S d : Nat) = 2 by simp only [cPass, inZ, c8]; rw [if_pos trivial, if_neg (by omega)]]; rfl) (by decide +kernel) (by decide) (by decide)
  · skip
    exact V_throw (text := "days is out of range") (cls := EIAE) dX0_pass_11 dX0_pass_14 dX0_pass_15 dX0_pass_17 dX0_pass_20 (by decide +kernel) xn_ok (by decide +kernel) (by decide +kernel) (by decide +kernel) xf_IAE xg_IAE rfl (by decide +kernel) (by rw [show (cPass S d : Nat) = 1 by simp only [cPass, inZ, c8]; rfl]; rfl) (by decide +kernel) (by decide) (by decide)
theorem hin_X0_isEnough : ∀ w ∈ wsX00, w ∈ wsX0_isEnough := by decide +kernel
theorem f_X0_isEnough_61 : Cond.fieldLink RX0 61 (TX0 7).1 (TX0 7).2.1 (TX0 7).2.2.1 ∈ wsX0_isEnough := by decide +kernel
theorem yv_X0_isEnough : YV yX0_isEnough wsX0_isEnough 3 := ⟨_, _, _, _, rfl, by decide +kernel, by decide⟩
set_option maxRecDepth 100000 in
set_option maxHeartbeats 4000000 in
theorem c_X0_isEnough {a : Nat → Nat} {c : Nat → ClassId} {S : St} {g : Nat → Nat} (ho : Ok S) (x : Int32) (d w : Int) (hg : ∀ j, g j < 4096) (rd : -2147483648 ≤ d ∧ d < 2147483648) (rw : -2147483648 ≤ w ∧ w < 2147483648) : CtX yX0_isEnough wsX0_isEnough (rmX 6) (tyk c) [.ref (a 0), .int x, .int (iZ d), .int (iZ w)] (wkc a c S g) (xE [EIAE] (cEn S x d w)) (iZ (bZ (enZ S (gF S w g) x.toBitVec.toNat d))) (wkc a c S (gF S w g)) := by
  refine CtX_of (own := RX0) (by decide) rfl rfl (Nat.le_of_ble_eq_true rfl) ?_
  refine V_lvq (lv' := [(0, _), (1, _), (2, _), (3, _)]) rfl ?_
  have rw' := rw
  refine V_iload_n (q := 1) dX0_isEnough_0 1 rfl rfl ?_
  refine V_aload_n (q := 2) dX0_isEnough_1 0 rfl rfl ?_
  refine V_get (q := 5) dX0_isEnough_2 hin_X0_isEnough 0 rfl rfl 7 (by decide) f_X0_isEnough_61 rfl rfl ?_
  refine V_iconst (q := 6) dX0_isEnough_5 rfl ?_
  refine V_ixor (q := 7) dX0_isEnough_6 rfl ?_
  refine V_iand (q := 8) dX0_isEnough_7 rfl ?_
  refine V_if_neR (q := 11) (tgt := 19) dX0_isEnough_8 (by decide) (fun c8 => ?_) (fun c8 => ?_)
  · skip
    exact V_throw (text := "no such thing, or days or warmth out of range") (cls := EIAE) dX0_isEnough_19 dX0_isEnough_22 dX0_isEnough_23 dX0_isEnough_25 dX0_isEnough_28 (by decide +kernel) xn_ok (by decide +kernel) (by decide +kernel) (by decide +kernel) xf_IAE xg_IAE rfl (by decide +kernel) (by rw [show (cEn S x d w : Nat) = 1 by first | exact if_neg (fun q => c8 q.1) | exact if_neg (fun q => Bool.noConfusion (q.2.symm.trans c16))]; rfl) (by decide +kernel) (by decide) (by decide)
  · skip
    refine V_iload_n (q := 12) dX0_isEnough_11 2 rfl rfl ?_
    refine V_iload_n (q := 13) dX0_isEnough_12 3 rfl rfl ?_
    refine V_callIs (q := 16) dX0_isEnough_13 (c_X0_isBagQuestion d w rd rw') yv_X0_isBagQuestion rfl gX0_isEnough_X0_isBagQuestion rfl (Nat.le_of_ble_eq_true rfl) (by decide) ?_
    refine V_if_neB (q := 19) (tgt := 29) dX0_isEnough_16 (by decide) (fun c16 => ?_) (fun c16 => ?_)
    · skip
      rw [show cEn S x d w = 0 from if_pos ⟨c8, c16⟩]
      obtain ⟨e1, e2⟩ := ow_sub c8
      generalize x.toBitVec.toNat = u at e1 e2 ⊢
      subst e1
      refine V_aload_n (q := 30) dX0_isEnough_29 0 rfl rfl ?_
      refine V_iload_n (q := 31) dX0_isEnough_30 3 rfl rfl ?_
      refine V_callVv (q := 34) dX0_isEnough_31 (c_X0_findPartners ho w rw') yv_X0_findPartners rfl gX0_isEnough_X0_findPartners rfl 0 rfl rfl rfl rfl (Nat.le_of_ble_eq_true rfl) (by decide) ?_
      refine V_aload_n (q := 35) dX0_isEnough_34 0 rfl rfl ?_
      refine V_iload_n (q := 36) dX0_isEnough_35 1 rfl rfl ?_
      refine V_aload_n (q := 37) dX0_isEnough_36 0 rfl rfl ?_
      refine V_iconst (q := 38) dX0_isEnough_37 rfl ?_
      refine V_callIv (q := 41) dX0_isEnough_38 (c_X0_thingsOfKind ho 0 (by decide)) yv_X0_thingsOfKind rfl gX0_isEnough_X0_thingsOfKind rfl 0 rfl rfl rfl rfl (Nat.le_of_ble_eq_true rfl) (by decide) ?_
      refine V_iand (q := 42) dX0_isEnough_41 rfl ?_
      refine V_top (z_and _ _) ?_
      refine V_iload_n (q := 43) dX0_isEnough_42 1 rfl rfl ?_
      refine V_aload_n (q := 44) dX0_isEnough_43 0 rfl rfl ?_
      refine V_iconst (q := 45) dX0_isEnough_44 rfl ?_
      refine V_callIv (q := 48) dX0_isEnough_45 (c_X0_thingsOfKind ho 1 (by decide)) yv_X0_thingsOfKind rfl gX0_isEnough_X0_thingsOfKind rfl 0 rfl rfl rfl rfl (Nat.le_of_ble_eq_true rfl) (by decide) ?_
      refine V_iand (q := 49) dX0_isEnough_48 rfl ?_
      refine V_top (z_and _ _) ?_
      refine V_iload_n (q := 50) dX0_isEnough_49 2 rfl rfl ?_
      refine V_callIv (q := 53) dX0_isEnough_50 (c_X0_lasts ho (u &&& kdB S 0) (u &&& kdB S 1) d (and_lt (n := 12) e2) (and_lt (n := 12) e2) rd) yv_X0_lasts rfl gX0_isEnough_X0_lasts rfl 0 rfl rfl rfl rfl (Nat.le_of_ble_eq_true rfl) (by decide) ?_
      exact V_zretX dX0_isEnough_53 rfl (rfl) (rfl) (rfl)
    · skip
      exact V_throw (text := "no such thing, or days or warmth out of range") (cls := EIAE) dX0_isEnough_19 dX0_isEnough_22 dX0_isEnough_23 dX0_isEnough_25 dX0_isEnough_28 (by decide +kernel) xn_ok (by decide +kernel) (by decide +kernel) (by decide +kernel) xf_IAE xg_IAE rfl (by decide +kernel) (by rw [show (cEn S x d w : Nat) = 1 by first | exact if_neg (fun q => c8 q.1) | exact if_neg (fun q => Bool.noConfusion (q.2.symm.trans c16))]; rfl) (by decide +kernel) (by decide) (by decide)
set_option maxRecDepth 100000 in
set_option maxHeartbeats 4000000 in
theorem lp_X0_bag {a : Nat → Nat} {c : Nat → ClassId} {S : St} {g : Nat → Nat} (ho : Ok S) (d : Int) (u t b : Nat) (rd : -2147483648 ≤ d ∧ d < 2147483648) (hu : u < 4096) (ht : t < 4096) (hb : b < 4096) (w0 : va_W) : ∀ (m k : Nat), k ≤ 2 ^ pc u → 2 ^ pc u + 1 ≤ k + m → V RX0 cX0_bag 11 (some .int) wsX0_bag (rmX 6) vXT (tyk c) (qX (tyk c) (w0) (wkc a c S g) "" (iZ (bgS S g u t b d (2 ^ pc u)).1)) 0 0 (wkc a c S g) 78 [(0, .ref (a 0)), (1, .int (iZ d)), (3, .int (iZ u)), (4, .int (iZ t)), (5, .int (iZ b)), (6, .int (iZ (bgS S g u t b d k).1)), (7, .int (iZ (bgS S g u t b d k).2)), (8, .int (iZ (sq u k : Nat))), (9, .int (iZ (2 ^ pc u - k : Nat)))] [] := by
  intro m
  induction m with
  | zero => intro k  h1 h2 ; exact absurd h2 (by omega)
  | succ m ih =>
    intro k  h1 h2 
    have h4 : 2 ^ pc u ≤ 4096 := Nat.pow_le_pow_right (n := 2) (by decide) (pc_le u)
    have h5 := bgS_le (S := S) (g := g) (u := u) (t := t) (b := b) (days := d) k
    refine V_iload (q := 80) dX0_bag_78 8 rfl rfl ?_
    refine V_if_le (q := 83) (tgt := 137) dX0_bag_80 (by omega) (by decide) (fun c80 => ?_) (fun c80 => ?_)
    · skip
      refine V_iload (q := 139) dX0_bag_137 5 rfl rfl ?_
      exact V_iretX dX0_bag_139 rfl (by rw [show k = 2 ^ pc u by omega]) (rfl) (rfl)
    · skip
      refine V_iload (q := 85) dX0_bag_83 7 rfl rfl ?_
      refine V_callIs (q := 88) dX0_bag_85 (c_J6_bitCount_0f7a4 (sq u k) (sq_lt hu k)) yv_J6_bitCount_0f7a4 rfl gX0_bag_J6_bitCount_0f7a4 rfl (Nat.le_of_ble_eq_true rfl) (by decide) ?_
      refine V_istore (q := 90) (lv' := [(0, _), (1, _), (3, _), (4, _), (5, _), (6, _), (7, _), (8, _), (9, _), (10, _)]) dX0_bag_88 (by decide) rfl rfl ?_
      refine V_iload (q := 92) dX0_bag_90 9 rfl rfl ?_
      refine V_iload (q := 94) dX0_bag_92 6 rfl rfl ?_
      refine V_icmp_ge (q := 97) (tgt := 123) dX0_bag_94 (by have h8 := pc_le (sq u k); omega) (by omega) (by decide) (fun c94 => ?_) (fun c94 => ?_)
      · skip
        have em : bgS S g u t b d (k + 1) = bgS S g u t b d k := if_neg (by simp only [Bool.and_eq_true, decide_eq_true_eq]; omega)
        refine V_loc (lv' := [(0, _), (1, _), (3, _), (4, _), (5, _), (6, _), (7, _), (8, _), (9, _)]) [0, 1, 2, 3, 4, 5, 6, 7, 8] rfl ?_
        refine V_iload (q := 125) dX0_bag_123 7 rfl rfl ?_
        refine V_iload_n (q := 126) dX0_bag_125 2 rfl rfl ?_
        refine V_callIs (q := 129) dX0_bag_126 (c_X0_nextPart (sq u k) u (by omega)) yv_X0_nextPart rfl gX0_bag_X0_nextPart rfl (Nat.le_of_ble_eq_true rfl) (by decide) ?_
        refine V_istore (q := 131) (lv' := [(0, _), (1, _), (3, _), (4, _), (5, _), (6, _), (7, _), (8, _), (9, _)]) dX0_bag_129 (by decide) rfl rfl ?_
        refine V_iinc (q := 134) (y := ((2 ^ pc u - (k + 1) : Nat) : Int)) (lv' := [(0, _), (1, _), (3, _), (4, _), (5, _), (6, _), (7, _), (8, _), (9, _)]) dX0_bag_131 8 rfl (by omega) (by decide) rfl rfl ?_
        refine V_goto (tgt := 78) dX0_bag_134 (by decide) ?_
        have i9 := ih (k + 1) (by omega) (by omega)
        rw [em] at i9
        exact i9
      · skip
        refine V_aload_n (q := 98) dX0_bag_97 0 rfl rfl ?_
        refine V_iload (q := 100) dX0_bag_98 7 rfl rfl ?_
        refine V_iload (q := 102) dX0_bag_100 3 rfl rfl ?_
        refine V_iand (q := 103) dX0_bag_102 rfl ?_
        refine V_top (z_and _ _) ?_
        refine V_iload (q := 105) dX0_bag_103 7 rfl rfl ?_
        refine V_iload (q := 107) dX0_bag_105 4 rfl rfl ?_
        refine V_iand (q := 108) dX0_bag_107 rfl ?_
        refine V_top (z_and _ _) ?_
        refine V_iload_n (q := 109) dX0_bag_108 1 rfl rfl ?_
        refine V_callIv (q := 112) dX0_bag_109 (c_X0_lasts ho (sq u k &&& t) (sq u k &&& b) d (and_lt (n := 12) (sq_lt hu k)) (and_lt (n := 12) (sq_lt hu k)) rd) yv_X0_lasts rfl gX0_bag_X0_lasts rfl 0 rfl rfl rfl rfl (Nat.le_of_ble_eq_true rfl) (by decide) ?_
        refine V_if_eqB (q := 115) (tgt := 123) dX0_bag_112 (by decide) (fun c112 => ?_) (fun c112 => ?_)
        · skip
          have em : bgS S g u t b d (k + 1) = bgS S g u t b d k := if_neg (by rw [c112]; simp)
          refine V_loc (lv' := [(0, _), (1, _), (3, _), (4, _), (5, _), (6, _), (7, _), (8, _), (9, _)]) [0, 1, 2, 3, 4, 5, 6, 7, 8] rfl ?_
          refine V_iload (q := 125) dX0_bag_123 7 rfl rfl ?_
          refine V_iload_n (q := 126) dX0_bag_125 2 rfl rfl ?_
          refine V_callIs (q := 129) dX0_bag_126 (c_X0_nextPart (sq u k) u (by omega)) yv_X0_nextPart rfl gX0_bag_X0_nextPart rfl (Nat.le_of_ble_eq_true rfl) (by decide) ?_
          refine V_istore (q := 131) (lv' := [(0, _), (1, _), (3, _), (4, _), (5, _), (6, _), (7, _), (8, _), (9, _)]) dX0_bag_129 (by decide) rfl rfl ?_
          refine V_iinc (q := 134) (y := ((2 ^ pc u - (k + 1) : Nat) : Int)) (lv' := [(0, _), (1, _), (3, _), (4, _), (5, _), (6, _), (7, _), (8, _), (9, _)]) dX0_bag_131 8 rfl (by omega) (by decide) rfl rfl ?_
          refine V_goto (tgt := 78) dX0_bag_134 (by decide) ?_
          have i9 := ih (k + 1) (by omega) (by omega)
          rw [em] at i9
          exact i9
        · skip
          have em : bgS S g u t b d (k + 1) = (sq u k, pc (sq u k)) := if_pos (by rw [c112, decide_eq_true (by omega)]; rfl)
          refine V_iload (q := 117) dX0_bag_115 7 rfl rfl ?_
          refine V_istore (q := 119) (lv' := [(0, _), (1, _), (3, _), (4, _), (5, _), (6, _), (7, _), (8, _), (9, _), (10, _)]) dX0_bag_117 (by decide) rfl rfl ?_
          refine V_iload (q := 121) dX0_bag_119 9 rfl rfl ?_
          refine V_istore (q := 123) (lv' := [(0, _), (1, _), (3, _), (4, _), (5, _), (6, _), (7, _), (8, _), (9, _), (10, _)]) dX0_bag_121 (by decide) rfl rfl ?_
          refine V_loc (lv' := [(0, _), (1, _), (3, _), (4, _), (5, _), (6, _), (7, _), (8, _), (9, _)]) [0, 1, 2, 3, 4, 5, 6, 7, 8] rfl ?_
          refine V_iload (q := 125) dX0_bag_123 7 rfl rfl ?_
          refine V_iload_n (q := 126) dX0_bag_125 2 rfl rfl ?_
          refine V_callIs (q := 129) dX0_bag_126 (c_X0_nextPart (sq u k) u (by omega)) yv_X0_nextPart rfl gX0_bag_X0_nextPart rfl (Nat.le_of_ble_eq_true rfl) (by decide) ?_
          refine V_istore (q := 131) (lv' := [(0, _), (1, _), (3, _), (4, _), (5, _), (6, _), (7, _), (8, _), (9, _)]) dX0_bag_129 (by decide) rfl rfl ?_
          refine V_iinc (q := 134) (y := ((2 ^ pc u - (k + 1) : Nat) : Int)) (lv' := [(0, _), (1, _), (3, _), (4, _), (5, _), (6, _), (7, _), (8, _), (9, _)]) dX0_bag_131 8 rfl (by omega) (by decide) rfl rfl ?_
          refine V_goto (tgt := 78) dX0_bag_134 (by decide) ?_
          have i9 := ih (k + 1) (by omega) (by omega)
          rw [em] at i9
          exact i9
theorem yv_X0_bag : YV yX0_bag wsX0_bag 2 := ⟨_, _, _, _, rfl, by decide +kernel, by decide⟩
set_option maxRecDepth 100000 in
set_option maxHeartbeats 4000000 in
theorem c_X0_bag {a : Nat → Nat} {c : Nat → ClassId} {S : St} {g : Nat → Nat} (ho : Ok S) (d w : Int) (hg : ∀ j, g j < 4096) (rd : -2147483648 ≤ d ∧ d < 2147483648) (rw : -2147483648 ≤ w ∧ w < 2147483648) : CtX yX0_bag wsX0_bag (rmX 6) (tyk c) [.ref (a 0), .int (iZ d), .int (iZ w)] (wkc a c S g) (xE [EIAE] (cBag d w)) (iZ (bagZ S (gF S w g) d : Nat)) (wkc a c S (gF S w g)) := by
  refine CtX_of (own := RX0) (by decide) rfl rfl (Nat.le_of_ble_eq_true rfl) ?_
  refine V_lvq (lv' := [(0, _), (1, _), (2, _)]) rfl ?_
  have rw' := rw
  refine V_iload_n (q := 1) dX0_bag_0 1 rfl rfl ?_
  refine V_iload_n (q := 2) dX0_bag_1 2 rfl rfl ?_
  refine V_callIs (q := 5) dX0_bag_2 (c_X0_isBagQuestion d w rd rw') yv_X0_isBagQuestion rfl gX0_bag_X0_isBagQuestion rfl (Nat.le_of_ble_eq_true rfl) (by decide) ?_
  refine V_if_neB (q := 8) (tgt := 18) dX0_bag_5 (by decide) (fun c5 => ?_) (fun c5 => ?_)
  · skip
    rw [show cBag d w = 0 by simp only [cBag, inZ, c5]; rfl]
    have hu := usB_lt ho (gF S w g)
    refine V_aload_n (q := 19) dX0_bag_18 0 rfl rfl ?_
    refine V_iload_n (q := 20) dX0_bag_19 2 rfl rfl ?_
    refine V_callVv (q := 23) dX0_bag_20 (c_X0_findPartners ho w rw') yv_X0_findPartners rfl gX0_bag_X0_findPartners rfl 0 rfl rfl rfl rfl (Nat.le_of_ble_eq_true rfl) (by decide) ?_
    refine V_aload_n (q := 24) dX0_bag_23 0 rfl rfl ?_
    refine V_callIv (q := 27) dX0_bag_24 (c_X0_usefulThings (g := gF S w g) ho (gF_lt hg)) yv_X0_usefulThings rfl gX0_bag_X0_usefulThings rfl 0 rfl rfl rfl rfl (Nat.le_of_ble_eq_true rfl) (by decide) ?_
    refine V_istore_n (q := 28) (lv' := [(0, _), (1, _), (2, _), (3, _)]) dX0_bag_27 (by decide) rfl rfl ?_
    refine V_iload_n (q := 29) dX0_bag_28 3 rfl rfl ?_
    refine V_aload_n (q := 30) dX0_bag_29 0 rfl rfl ?_
    refine V_iconst (q := 31) dX0_bag_30 rfl ?_
    refine V_callIv (q := 34) dX0_bag_31 (c_X0_thingsOfKind ho 0 (by decide)) yv_X0_thingsOfKind rfl gX0_bag_X0_thingsOfKind rfl 0 rfl rfl rfl rfl (Nat.le_of_ble_eq_true rfl) (by decide) ?_
    refine V_iand (q := 35) dX0_bag_34 rfl ?_
    refine V_top (y := iZ ((usB S (gF S w g)) &&& kdB S 0 : Nat)) (z_and _ _) ?_
    refine V_istore (q := 37) (lv' := [(0, _), (1, _), (2, _), (3, _), (4, _)]) dX0_bag_35 (by decide) rfl rfl ?_
    refine V_iload_n (q := 38) dX0_bag_37 3 rfl rfl ?_
    refine V_aload_n (q := 39) dX0_bag_38 0 rfl rfl ?_
    refine V_iconst (q := 40) dX0_bag_39 rfl ?_
    refine V_callIv (q := 43) dX0_bag_40 (c_X0_thingsOfKind ho 1 (by decide)) yv_X0_thingsOfKind rfl gX0_bag_X0_thingsOfKind rfl 0 rfl rfl rfl rfl (Nat.le_of_ble_eq_true rfl) (by decide) ?_
    refine V_iand (q := 44) dX0_bag_43 rfl ?_
    refine V_top (y := iZ ((usB S (gF S w g)) &&& kdB S 1 : Nat)) (z_and _ _) ?_
    refine V_istore (q := 46) (lv' := [(0, _), (1, _), (2, _), (3, _), (4, _), (5, _)]) dX0_bag_44 (by decide) rfl rfl ?_
    refine V_aload_n (q := 47) dX0_bag_46 0 rfl rfl ?_
    refine V_iload (q := 49) dX0_bag_47 4 rfl rfl ?_
    refine V_iload (q := 51) dX0_bag_49 5 rfl rfl ?_
    refine V_iload_n (q := 52) dX0_bag_51 1 rfl rfl ?_
    refine V_callIv (q := 55) dX0_bag_52 (c_X0_lasts ho ((usB S (gF S w g)) &&& kdB S 0) ((usB S (gF S w g)) &&& kdB S 1) d (and_lt (n := 12) hu) (and_lt (n := 12) hu) rd) yv_X0_lasts rfl gX0_bag_X0_lasts rfl 0 rfl rfl rfl rfl (Nat.le_of_ble_eq_true rfl) (by decide) ?_
    refine V_if_neB (q := 58) (tgt := 60) dX0_bag_55 (by decide) (fun c55 => ?_) (fun c55 => ?_)
    · skip
      rw [show bagZ S (gF S w g) d = (bgS S (gF S w g) (usB S (gF S w g)) ((usB S (gF S w g)) &&& kdB S 0) ((usB S (gF S w g)) &&& kdB S 1) d (2 ^ pc (usB S (gF S w g)))).1 from if_pos c55]
      refine V_iload_n (q := 61) dX0_bag_60 3 rfl rfl ?_
      refine V_istore (q := 63) (lv' := [(0, _), (1, _), (2, _), (3, _), (4, _), (5, _), (6, _)]) dX0_bag_61 (by decide) rfl rfl ?_
      refine V_iload_n (q := 64) dX0_bag_63 3 rfl rfl ?_
      refine V_callIs (q := 67) dX0_bag_64 (c_J6_bitCount_0f7a4 (usB S (gF S w g)) hu) yv_J6_bitCount_0f7a4 rfl gX0_bag_J6_bitCount_0f7a4 rfl (Nat.le_of_ble_eq_true rfl) (by decide) ?_
      refine V_istore (q := 69) (lv' := [(0, _), (1, _), (2, _), (3, _), (4, _), (5, _), (6, _), (7, _)]) dX0_bag_67 (by decide) rfl rfl ?_
      refine V_iconst (q := 70) dX0_bag_69 rfl ?_
      refine V_istore (q := 72) (lv' := [(0, _), (1, _), (2, _), (3, _), (4, _), (5, _), (6, _), (7, _), (8, _)]) dX0_bag_70 (by decide) rfl rfl ?_
      refine V_iconst (q := 73) dX0_bag_72 rfl ?_
      refine V_iload (q := 75) dX0_bag_73 7 rfl rfl ?_
      refine V_ishl (q := 76) dX0_bag_75 rfl ?_
      refine V_top (y := iZ (2 ^ pc (usB S (gF S w g)) - 0 : Nat)) (by have h4 : 2 ^ pc (usB S (gF S w g)) ≤ 4096 := Nat.pow_le_pow_right (n := 2) (by decide) (pc_le _); rw [show (iZ 1 : Int32) = iZ ((1 : Nat) : Int) from rfl, z_shl (by have := pc_le (usB S (gF S w g)); omega) (by omega), Nat.one_mul]; rfl) ?_
      refine V_istore (q := 78) (lv' := [(0, _), (1, _), (2, _), (3, _), (4, _), (5, _), (6, _), (7, _), (8, _), (9, _)]) dX0_bag_76 (by decide) rfl rfl ?_
      refine V_loc (lv' := [(0, _), (1, _), (3, _), (4, _), (5, _), (6, _), (7, _), (8, _), (9, _)]) [0, 1, 3, 4, 5, 6, 7, 8, 9] rfl ?_
      exact lp_X0_bag (g := gF S w g) ho d (usB S (gF S w g)) ((usB S (gF S w g)) &&& kdB S 0) ((usB S (gF S w g)) &&& kdB S 1) rd hu (and_lt (n := 12) hu) (and_lt (n := 12) hu) _ (2 ^ pc (usB S (gF S w g)) + 1) 0 (Nat.zero_le _) (by rw [Nat.zero_add]; exact Nat.le_refl _)
    · skip
      refine V_iconst (q := 59) dX0_bag_58 rfl ?_
      exact V_iretX dX0_bag_59 rfl (by rw [show bagZ S (gF S w g) d = 0 from if_neg (by rw [c55]; decide)]; rfl) (rfl) (rfl)
  · skip
    exact V_throw (text := "days or warmth is out of range") (cls := EIAE) dX0_bag_8 dX0_bag_11 dX0_bag_12 dX0_bag_14 dX0_bag_17 (by decide +kernel) xn_ok (by decide +kernel) (by decide +kernel) (by decide +kernel) xf_IAE xg_IAE rfl (by decide +kernel) (by rw [show (cBag d w : Nat) = 1 by simp only [cBag, inZ, c5]; rfl]; rfl) (by decide +kernel) (by decide) (by decide)
