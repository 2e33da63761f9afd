theorem wr_lt (S : St) (t u e : Int) : wrZ S t u e < 4 := by
  unfold wrZ
  split
  · split <;> decide
  · decide
theorem cHas_lt (S : St) (x : Int) : cHas S x < 4 := by unfold cHas; split <;> decide
theorem cHas_0 {S : St} {x : Int} (h : cHas S x = 0) : hasZ S x = true := by
  unfold cHas at h
  split at h
  · assumption
  · exact absurd h (by decide)
theorem gv_ok {S : St} (ho : Ok S) {x : Int} (h : hasZ S x = true) : Ok (gvS S x) := by
  have h9 := hasZ_lt ho h
  obtain ⟨h1, h2, h3, h4, h5, h6, h7, h8, h9', h10, h11⟩ := ho
  refine ⟨h1, h2, h3, h4, h5, h6, h7, h8, h9', h10, fun j hj => ?_⟩
  show fu (sG S) x.toNat true j = false
  have h12 : sN S ≤ j := hj
  unfold fu
  rw [if_neg (by omega)]
  exact h11 j hj
theorem fu_self {α : Type} (f : Nat → α) (k : Nat) : fu f k (f k) = f := by
  funext j
  unfold fu
  by_cases h : j = k <;> simp [h]
theorem cl_fu (S : St) (x y : Nat) (v : Bool) : fu (fu (sX S) (8 * x + y) v) (8 * y + x) v = sX (clS S x y v) := by
  funext i
  show fu (fu (sX S) (8 * x + y) v) (8 * y + x) v i = if i = 8 * ((x : Int)).toNat + ((y : Int)).toNat ∨ i = 8 * ((y : Int)).toNat + ((x : Int)).toNat then v else sX S i
  rw [Int.toNat_natCast, Int.toNat_natCast]
  unfold fu
  by_cases h1 : i = 8 * y + x
  · simp [h1]
  · by_cases h2 : i = 8 * x + y <;> simp [h1, h2]
theorem cClash_lt (x y : Int) : cClash x y < 4 := by unfold cClash; split <;> decide
theorem cAdd_lt (S : St) (k c w m r : Int) : cAdd S k c w m r < 4 := by
  unfold cAdd
  split
  · split <;> decide
  · decide
theorem cAdd_0 {S : St} (ho : Ok S) {k c w m r : Int} (h : cAdd S k c w m r = 0) : (0 ≤ k ∧ k ≤ 2) ∧ (0 ≤ c ∧ c ≤ 7) ∧ (0 ≤ w ∧ w ≤ 10) ∧ (1 ≤ m ∧ m ≤ 9) ∧ (0 ≤ r ∧ r ≤ 2) ∧ sN S < 12 := by
  have hn := ho.1
  unfold cAdd at h
  split at h
  · next h1 =>
    split at h
    · exact absurd h (by decide)
    · next h2 =>
      simp only [inZ, Bool.and_eq_true, decide_eq_true_eq] at h1
      exact ⟨h1.1.1.1.1, h1.1.1.1.2, h1.1.1.2, h1.1.2, h1.2, by omega⟩
  · exact absurd h (by decide)
theorem hin_X1_add : ∀ w ∈ wsX10, w ∈ wsX1_add := by decide +kernel
theorem f_X1_add_13 : Cond.fieldLink RX1 13 (TX1 3).1 (TX1 3).2.1 (TX1 3).2.2.1 ∈ wsX1_add := by decide +kernel
theorem f_X1_add_17 : Cond.fieldLink RX1 17 (TX1 4).1 (TX1 4).2.1 (TX1 4).2.2.1 ∈ wsX1_add := by decide +kernel
theorem f_X1_add_20 : Cond.fieldLink RX1 20 (TX1 5).1 (TX1 5).2.1 (TX1 5).2.2.1 ∈ wsX1_add := by decide +kernel
theorem f_X1_add_23 : Cond.fieldLink RX1 23 (TX1 6).1 (TX1 6).2.1 (TX1 6).2.2.1 ∈ wsX1_add := by decide +kernel
theorem f_X1_add_26 : Cond.fieldLink RX1 26 (TX1 7).1 (TX1 7).2.1 (TX1 7).2.2.1 ∈ wsX1_add := by decide +kernel
theorem f_X1_add_29 : Cond.fieldLink RX1 29 (TX1 8).1 (TX1 8).2.1 (TX1 8).2.2.1 ∈ wsX1_add := by decide +kernel
theorem f_X1_add_45 : Cond.fieldLink RX1 45 (TX1 1).1 (TX1 1).2.1 (TX1 1).2.2.1 ∈ wsX1_add := by decide +kernel
theorem yv_X1_add : YV yX1_add wsX1_add 5 := ⟨_, _, _, _, rfl, by decide +kernel, by decide⟩
set_option maxRecDepth 100000 in
set_option maxHeartbeats 4000000 in
theorem c_X1_add {b : Nat → Nat} {d : Nat → ClassId} {S : St} {g : Nat → Nat} {th : Nat} (ho : Ok S) (k c w m r : Int) (rk : -2147483648 ≤ k ∧ k < 2147483648) (rc : -2147483648 ≤ c ∧ c < 2147483648) (rw' : -2147483648 ≤ w ∧ w < 2147483648) (rm : -2147483648 ≤ m ∧ m < 2147483648) (rr : -2147483648 ≤ r ∧ r < 2147483648) : CtI yX1_add wsX1_add (rmD 2) (tym d) [.ref (b 0), .int (iZ k), .int (iZ c), .int (iZ w), .int (iZ m), .int (iZ r)] (mkc b d S g th) (iZ (if cAdd S k c w m r = 0 then sN S else 0 : Nat)) (mkc b d (if cAdd S k c w m r = 0 then uA S k.toNat c.toNat w.toNat m.toNat r.toNat else S) g (cAdd S k c w m r)) := by
  refine CtI_of (own := RX1) (by decide) rfl rfl (Nat.le_of_ble_eq_true rfl) ?_
  refine V_lvq (lv' := [(0, _), (1, _), (2, _), (3, _), (4, _), (5, _)]) rfl ?_
  refine V_cut (M := 50) (iZ (bZ (inZ k 0 2 && inZ c 0 7 && inZ w 0 10 && inZ m 1 9 && inZ r 0 2))) ?_ (fun k50 => ?_)
  · -- from the merge
    refine V_istore (q := 52) (lv' := [(0, _), (1, _), (2, _), (3, _), (4, _), (5, _), (6, _)]) dX1_add_50 (by decide) rfl rfl ?_
    refine V_aload_n (q := 53) dX1_add_52 0 rfl rfl ?_
    refine V_cut (M := 76) (iZ (cAdd S k c w m r : Nat)) ?_ (fun k76 => ?_)
    · -- from the merge
      refine V_callIv (q := 79) dX1_add_76 (c_X1_goes (cAdd S k c w m r) (cAdd_lt S k c w m r)) yv_X1_goes rfl gX1_add_X1_goes rfl 0 rfl rfl rfl rfl (Nat.le_of_ble_eq_true rfl) (by decide) ?_
      refine V_if_neB (q := 82) (tgt := 84) dX1_add_79 (by decide) (fun c79 => ?_) (fun c79 => ?_)
      · skip
        have ec : cAdd S k c w m r = 0 := of_decide_eq_true c79
        obtain ⟨b1, b2, b3, b4, b5, hn1⟩ := cAdd_0 ho ec
        simp only [ec, ↓reduceIte]
        refine V_aload_n (q := 85) dX1_add_84 0 rfl rfl ?_
        refine V_get (q := 88) dX1_add_85 hin_X1_add 0 rfl rfl 3 (by decide) f_X1_add_13 rfl rfl ?_
        refine V_aload_n (q := 89) dX1_add_88 0 rfl rfl ?_
        refine V_get (q := 92) dX1_add_89 hin_X1_add 0 rfl rfl 1 (by decide) f_X1_add_45 rfl rfl ?_
        refine V_iload_n (q := 93) dX1_add_92 1 rfl rfl ?_
        refine V_iast (q := 94) (ws' := mkc b d (uK (S) (fu (sK S) (sN S) k.toNat)) g 0) dX1_add_93 2 1 rfl rfl (sN S) (rfl) (by omega) (by decide) (by (rw [iF_upd k.toNat (by omega), mk2]) <;> rfl) rfl ?_
        refine V_aload_n (q := 95) dX1_add_94 0 rfl rfl ?_
        refine V_get (q := 98) dX1_add_95 hin_X1_add 0 rfl rfl 4 (by decide) f_X1_add_17 rfl rfl ?_
        refine V_aload_n (q := 99) dX1_add_98 0 rfl rfl ?_
        refine V_get (q := 102) dX1_add_99 hin_X1_add 0 rfl rfl 1 (by decide) f_X1_add_45 rfl rfl ?_
        refine V_iload_n (q := 103) dX1_add_102 2 rfl rfl ?_
        refine V_iast (q := 104) (ws' := mkc b d (uC (uK (S) (fu (sK S) (sN S) k.toNat)) (fu (sC S) (sN S) c.toNat)) g 0) dX1_add_103 3 2 rfl rfl (sN S) (rfl) (by omega) (by decide) (by (rw [iF_upd c.toNat (by omega), mk3]) <;> rfl) rfl ?_
        refine V_aload_n (q := 105) dX1_add_104 0 rfl rfl ?_
        refine V_get (q := 108) dX1_add_105 hin_X1_add 0 rfl rfl 5 (by decide) f_X1_add_20 rfl rfl ?_
        refine V_aload_n (q := 109) dX1_add_108 0 rfl rfl ?_
        refine V_get (q := 112) dX1_add_109 hin_X1_add 0 rfl rfl 1 (by decide) f_X1_add_45 rfl rfl ?_
        refine V_iload_n (q := 113) dX1_add_112 3 rfl rfl ?_
        refine V_iast (q := 114) (ws' := mkc b d (uW (uC (uK (S) (fu (sK S) (sN S) k.toNat)) (fu (sC S) (sN S) c.toNat)) (fu (sW S) (sN S) w.toNat)) g 0) dX1_add_113 4 3 rfl rfl (sN S) (rfl) (by omega) (by decide) (by (rw [iF_upd w.toNat (by omega), mk4]) <;> rfl) rfl ?_
        refine V_aload_n (q := 115) dX1_add_114 0 rfl rfl ?_
        refine V_get (q := 118) dX1_add_115 hin_X1_add 0 rfl rfl 6 (by decide) f_X1_add_23 rfl rfl ?_
        refine V_aload_n (q := 119) dX1_add_118 0 rfl rfl ?_
        refine V_get (q := 122) dX1_add_119 hin_X1_add 0 rfl rfl 1 (by decide) f_X1_add_45 rfl rfl ?_
        refine V_iload (q := 124) dX1_add_122 4 rfl rfl ?_
        refine V_iast (q := 125) (ws' := mkc b d (uM (uW (uC (uK (S) (fu (sK S) (sN S) k.toNat)) (fu (sC S) (sN S) c.toNat)) (fu (sW S) (sN S) w.toNat)) (fu (sM S) (sN S) m.toNat)) g 0) dX1_add_124 5 4 rfl rfl (sN S) (rfl) (by omega) (by decide) (by (rw [iF_upd m.toNat (by omega), mk5]) <;> rfl) rfl ?_
        refine V_aload_n (q := 126) dX1_add_125 0 rfl rfl ?_
        refine V_get (q := 129) dX1_add_126 hin_X1_add 0 rfl rfl 7 (by decide) f_X1_add_26 rfl rfl ?_
        refine V_aload_n (q := 130) dX1_add_129 0 rfl rfl ?_
        refine V_get (q := 133) dX1_add_130 hin_X1_add 0 rfl rfl 1 (by decide) f_X1_add_45 rfl rfl ?_
        refine V_iload (q := 135) dX1_add_133 5 rfl rfl ?_
        refine V_iast (q := 136) (ws' := mkc b d (uR (uM (uW (uC (uK (S) (fu (sK S) (sN S) k.toNat)) (fu (sC S) (sN S) c.toNat)) (fu (sW S) (sN S) w.toNat)) (fu (sM S) (sN S) m.toNat)) (fu (sR S) (sN S) r.toNat)) g 0) dX1_add_135 6 5 rfl rfl (sN S) (rfl) (by omega) (by decide) (by (rw [iF_upd r.toNat (by omega), mk6]) <;> rfl) rfl ?_
        refine V_aload_n (q := 137) dX1_add_136 0 rfl rfl ?_
        refine V_get (q := 140) dX1_add_137 hin_X1_add 0 rfl rfl 8 (by decide) f_X1_add_29 rfl rfl ?_
        refine V_aload_n (q := 141) dX1_add_140 0 rfl rfl ?_
        refine V_get (q := 144) dX1_add_141 hin_X1_add 0 rfl rfl 1 (by decide) f_X1_add_45 rfl rfl ?_
        refine V_iload (q := 146) dX1_add_144 4 rfl rfl ?_
        refine V_iast (q := 147) (ws' := mkc b d (uL (uR (uM (uW (uC (uK (S) (fu (sK S) (sN S) k.toNat)) (fu (sC S) (sN S) c.toNat)) (fu (sW S) (sN S) w.toNat)) (fu (sM S) (sN S) m.toNat)) (fu (sR S) (sN S) r.toNat)) (fu (sL S) (sN S) m.toNat)) g 0) dX1_add_146 7 6 rfl rfl (sN S) (rfl) (by omega) (by decide) (by (rw [iF_upd m.toNat (by omega), mk7]) <;> rfl) rfl ?_
        refine V_aload_n (q := 148) dX1_add_147 0 rfl rfl ?_
        refine V_dup (q := 149) dX1_add_148 rfl rfl ?_
        refine V_get (q := 152) dX1_add_149 hin_X1_add 0 rfl rfl 1 (by decide) f_X1_add_45 rfl rfl ?_
        refine V_iconst (q := 153) dX1_add_152 rfl ?_
        refine V_iadd (q := 154) dX1_add_153 rfl ?_
        refine V_put (q := 157) (ty := .int) (ws' := mkc b d (uA S k.toNat c.toNat w.toNat m.toNat r.toNat) g 0) dX1_add_154 hin_X1_add tyX1 tyX1_ok nmX1 0 rfl rfl 1 (by decide) f_X1_add_45 rfl (by decide +kernel) rfl rfl (Nat.le_of_ble_eq_true rfl) (by rfl) rfl ?_
        refine V_aload_n (q := 158) dX1_add_157 0 rfl rfl ?_
        refine V_get (q := 161) dX1_add_158 hin_X1_add 0 rfl rfl 1 (by decide) f_X1_add_45 rfl rfl ?_
        refine V_iconst (q := 162) dX1_add_161 rfl ?_
        refine V_isub (q := 163) dX1_add_162 rfl ?_
        exact V_iret dX1_add_163 rfl (by congr 1; show ((sN S + 1 : Nat) : Int) - 1 = _; omega) (rfl)
      · skip
        refine V_iconst (q := 83) dX1_add_82 rfl ?_
        exact V_iret dX1_add_83 rfl (by rw [if_neg (of_decide_eq_false c79)]; rfl) (by rw [if_neg (of_decide_eq_false c79)])
    · -- the ways to it
      refine V_iload (q := 55) dX1_add_53 6 rfl rfl ?_
      refine V_if_neB (q := 58) (tgt := 62) dX1_add_55 (by decide) (fun c55 => ?_) (fun c55 => ?_)
      · skip
        refine V_aload_n (q := 63) dX1_add_62 0 rfl rfl ?_
        refine V_get (q := 66) dX1_add_63 hin_X1_add 0 rfl rfl 1 (by decide) f_X1_add_45 rfl rfl ?_
        refine V_bipush (q := 68) dX1_add_66 (by decide) rfl ?_
        refine V_icmp_ne (q := 71) (tgt := 75) dX1_add_68 (by have hn := ho.1; omega) (by have hn := ho.1; omega) (by decide) (fun c68 => ?_) (fun c68 => ?_)
        · skip
          refine V_iconst (q := 76) dX1_add_75 rfl ?_
          exact k76 _ (by first | (rw [show (cAdd S k c w m r : Nat) = 1 from if_neg (by rw [c55]; decide)]; rfl) | (rw [show (cAdd S k c w m r : Nat) = 2 from (if_pos c55).trans (if_pos (by omega))]; rfl) | (rw [show (cAdd S k c w m r : Nat) = 0 from (if_pos c55).trans (if_neg (by omega))]; rfl))
        · skip
          refine V_iconst (q := 72) dX1_add_71 rfl ?_
          refine V_goto (tgt := 76) dX1_add_72 (by decide) ?_
          exact k76 _ (by first | (rw [show (cAdd S k c w m r : Nat) = 1 from if_neg (by rw [c55]; decide)]; rfl) | (rw [show (cAdd S k c w m r : Nat) = 2 from (if_pos c55).trans (if_pos (by omega))]; rfl) | (rw [show (cAdd S k c w m r : Nat) = 0 from (if_pos c55).trans (if_neg (by omega))]; rfl))
      · skip
        refine V_iconst (q := 59) dX1_add_58 rfl ?_
        refine V_goto (tgt := 76) dX1_add_59 (by decide) ?_
        exact k76 _ (by first | (rw [show (cAdd S k c w m r : Nat) = 1 from if_neg (by rw [c55]; decide)]; rfl) | (rw [show (cAdd S k c w m r : Nat) = 2 from (if_pos c55).trans (if_pos (by omega))]; rfl) | (rw [show (cAdd S k c w m r : Nat) = 0 from (if_pos c55).trans (if_neg (by omega))]; rfl))
  · -- the ways to it
    refine V_iload_n (q := 1) dX1_add_0 1 rfl rfl ?_
    refine V_iconst (q := 2) dX1_add_1 rfl ?_
    refine V_iconst (q := 3) dX1_add_2 rfl ?_
    refine V_callIs (q := 6) dX1_add_3 (c_X1_isIn k 0 2 rk (by decide) (by decide)) yv_X1_isIn rfl gX1_add_X1_isIn rfl (Nat.le_of_ble_eq_true rfl) (by decide) ?_
    refine V_if_eqB (q := 9) (tgt := 49) dX1_add_6 (by decide) (fun c6 => ?_) (fun c6 => ?_)
    · skip
      refine V_iconst (q := 50) dX1_add_49 rfl ?_
      exact k50 _ (by first | exact bZ_t (by simp only [inZ, c6, c13, c23, c34, c42]; rfl) | exact bZ_f (by first | (simp only [inZ, c6, Bool.false_and]; done) | (simp only [inZ, c13, Bool.false_and, Bool.and_false]; done) | (simp only [inZ, c23, Bool.false_and, Bool.and_false]; done) | (simp only [inZ, c34, Bool.false_and, Bool.and_false]; done) | (simp only [inZ, c42, Bool.false_and, Bool.and_false]; done)))
    · skip
      refine V_iload_n (q := 10) dX1_add_9 2 rfl rfl ?_
      refine V_callIs (q := 13) dX1_add_10 (c_X1_isColour c rc) yv_X1_isColour rfl gX1_add_X1_isColour rfl (Nat.le_of_ble_eq_true rfl) (by decide) ?_
      refine V_if_eqB (q := 16) (tgt := 49) dX1_add_13 (by decide) (fun c13 => ?_) (fun c13 => ?_)
      · skip
        refine V_iconst (q := 50) dX1_add_49 rfl ?_
        exact k50 _ (by first | exact bZ_t (by simp only [inZ, c6, c13, c23, c34, c42]; rfl) | exact bZ_f (by first | (simp only [inZ, c6, Bool.false_and]; done) | (simp only [inZ, c13, Bool.false_and, Bool.and_false]; done) | (simp only [inZ, c23, Bool.false_and, Bool.and_false]; done) | (simp only [inZ, c34, Bool.false_and, Bool.and_false]; done) | (simp only [inZ, c42, Bool.false_and, Bool.and_false]; done)))
      · skip
        refine V_iload_n (q := 17) dX1_add_16 3 rfl rfl ?_
        refine V_iconst (q := 18) dX1_add_17 rfl ?_
        refine V_bipush (q := 20) dX1_add_18 (by decide) rfl ?_
        refine V_callIs (q := 23) dX1_add_20 (c_X1_isIn w 0 10 rw' (by decide) (by decide)) yv_X1_isIn rfl gX1_add_X1_isIn rfl (Nat.le_of_ble_eq_true rfl) (by decide) ?_
        refine V_if_eqB (q := 26) (tgt := 49) dX1_add_23 (by decide) (fun c23 => ?_) (fun c23 => ?_)
        · skip
          refine V_iconst (q := 50) dX1_add_49 rfl ?_
          exact k50 _ (by first | exact bZ_t (by simp only [inZ, c6, c13, c23, c34, c42]; rfl) | exact bZ_f (by first | (simp only [inZ, c6, Bool.false_and]; done) | (simp only [inZ, c13, Bool.false_and, Bool.and_false]; done) | (simp only [inZ, c23, Bool.false_and, Bool.and_false]; done) | (simp only [inZ, c34, Bool.false_and, Bool.and_false]; done) | (simp only [inZ, c42, Bool.false_and, Bool.and_false]; done)))
        · skip
          refine V_iload (q := 28) dX1_add_26 4 rfl rfl ?_
          refine V_iconst (q := 29) dX1_add_28 rfl ?_
          refine V_bipush (q := 31) dX1_add_29 (by decide) rfl ?_
          refine V_callIs (q := 34) dX1_add_31 (c_X1_isIn m 1 9 rm (by decide) (by decide)) yv_X1_isIn rfl gX1_add_X1_isIn rfl (Nat.le_of_ble_eq_true rfl) (by decide) ?_
          refine V_if_eqB (q := 37) (tgt := 49) dX1_add_34 (by decide) (fun c34 => ?_) (fun c34 => ?_)
          · skip
            refine V_iconst (q := 50) dX1_add_49 rfl ?_
            exact k50 _ (by first | exact bZ_t (by simp only [inZ, c6, c13, c23, c34, c42]; rfl) | exact bZ_f (by first | (simp only [inZ, c6, Bool.false_and]; done) | (simp only [inZ, c13, Bool.false_and, Bool.and_false]; done) | (simp only [inZ, c23, Bool.false_and, Bool.and_false]; done) | (simp only [inZ, c34, Bool.false_and, Bool.and_false]; done) | (simp only [inZ, c42, Bool.false_and, Bool.and_false]; done)))
          · skip
            refine V_iload (q := 39) dX1_add_37 5 rfl rfl ?_
            refine V_callIs (q := 42) dX1_add_39 (c_X1_isCare r rr) yv_X1_isCare rfl gX1_add_X1_isCare rfl (Nat.le_of_ble_eq_true rfl) (by decide) ?_
            refine V_if_eqB (q := 45) (tgt := 49) dX1_add_42 (by decide) (fun c42 => ?_) (fun c42 => ?_)
            · skip
              refine V_iconst (q := 50) dX1_add_49 rfl ?_
              exact k50 _ (by first | exact bZ_t (by simp only [inZ, c6, c13, c23, c34, c42]; rfl) | exact bZ_f (by first | (simp only [inZ, c6, Bool.false_and]; done) | (simp only [inZ, c13, Bool.false_and, Bool.and_false]; done) | (simp only [inZ, c23, Bool.false_and, Bool.and_false]; done) | (simp only [inZ, c34, Bool.false_and, Bool.and_false]; done) | (simp only [inZ, c42, Bool.false_and, Bool.and_false]; done)))
            · skip
              refine V_iconst (q := 46) dX1_add_45 rfl ?_
              refine V_goto (tgt := 50) dX1_add_46 (by decide) ?_
              exact k50 _ (by first | exact bZ_t (by simp only [inZ, c6, c13, c23, c34, c42]; rfl) | exact bZ_f (by first | (simp only [inZ, c6, Bool.false_and]; done) | (simp only [inZ, c13, Bool.false_and, Bool.and_false]; done) | (simp only [inZ, c23, Bool.false_and, Bool.and_false]; done) | (simp only [inZ, c34, Bool.false_and, Bool.and_false]; done) | (simp only [inZ, c42, Bool.false_and, Bool.and_false]; done)))
theorem hin_X1_giveAway : ∀ w ∈ wsX10, w ∈ wsX1_giveAway := by decide +kernel
theorem f_X1_giveAway_7 : Cond.fieldLink RX1 7 (TX1 2).1 (TX1 2).2.1 (TX1 2).2.2.1 ∈ wsX1_giveAway := by decide +kernel
theorem yv_X1_giveAway : YV yX1_giveAway wsX1_giveAway 1 := ⟨_, _, _, _, rfl, by decide +kernel, by decide⟩
set_option maxRecDepth 100000 in
set_option maxHeartbeats 4000000 in
theorem c_X1_giveAway {b : Nat → Nat} {d : Nat → ClassId} {S : St} {g : Nat → Nat} {th : Nat} (ho : Ok S) (x : Int) (rx : -2147483648 ≤ x ∧ x < 2147483648) : CtI yX1_giveAway wsX1_giveAway (rmD 2) (tym d) [.ref (b 0), .int (iZ x)] (mkc b d S g th) (iZ (if cHas S x = 0 then cnt (hasT (gvS S x)) 12 else 0 : Nat)) (mkc b d (if cHas S x = 0 then gvS S x else S) g (cHas S x)) := by
  refine CtI_of (own := RX1) (by decide) rfl rfl (Nat.le_of_ble_eq_true rfl) ?_
  refine V_lvq (lv' := [(0, _), (1, _)]) rfl ?_
  refine V_aload_n (q := 1) dX1_giveAway_0 0 rfl rfl ?_
  refine V_cut (M := 14) (iZ (cHas S x : Nat)) ?_ (fun k14 => ?_)
  · -- from the merge
    refine V_callIv (q := 17) dX1_giveAway_14 (c_X1_goes (cHas S x) (cHas_lt S x)) yv_X1_goes rfl gX1_giveAway_X1_goes rfl 0 rfl rfl rfl rfl (Nat.le_of_ble_eq_true rfl) (by decide) ?_
    refine V_if_neB (q := 20) (tgt := 22) dX1_giveAway_17 (by decide) (fun c17 => ?_) (fun c17 => ?_)
    · skip
      have ec : cHas S x = 0 := of_decide_eq_true c17
      simp only [ec, ↓reduceIte]
      have hx := cHas_0 ec
      obtain ⟨x0, x1, x2, x3, x4⟩ := hasZ_lt ho hx
      refine V_aload_n (q := 23) dX1_giveAway_22 0 rfl rfl ?_
      refine V_get (q := 26) dX1_giveAway_23 hin_X1_giveAway 0 rfl rfl 2 (by decide) f_X1_giveAway_7 rfl rfl ?_
      refine V_iload_n (q := 27) dX1_giveAway_26 1 rfl rfl ?_
      refine V_iconst (q := 28) dX1_giveAway_27 rfl ?_
      refine V_top (y := iZ (bZ true)) rfl ?_
      refine V_zast (q := 29) (ws' := mkc b d (gvS S x) g 0) dX1_giveAway_28 1 0 rfl rfl (x.toNat) (x2.symm) (x4) (by decide) (by rw [zF_upd, mk1]; rfl) rfl ?_
      refine V_aload_n (q := 30) dX1_giveAway_29 0 rfl rfl ?_
      refine V_callIv (q := 33) dX1_giveAway_30 (c_X1_here (gv_ok ho hx)) yv_X1_here rfl gX1_giveAway_X1_here rfl 0 rfl rfl rfl rfl (Nat.le_of_ble_eq_true rfl) (by decide) ?_
      exact V_iret dX1_giveAway_33 rfl (rfl) (rfl)
    · skip
      refine V_iconst (q := 21) dX1_giveAway_20 rfl ?_
      exact V_iret dX1_giveAway_21 rfl (by rw [if_neg (of_decide_eq_false c17)]; rfl) (by rw [if_neg (of_decide_eq_false c17)])
  · -- the ways to it
    refine V_aload_n (q := 2) dX1_giveAway_1 0 rfl rfl ?_
    refine V_iload_n (q := 3) dX1_giveAway_2 1 rfl rfl ?_
    refine V_callIv (q := 6) dX1_giveAway_3 (c_X1_isThing ho x rx) yv_X1_isThing rfl gX1_giveAway_X1_isThing rfl 0 rfl rfl rfl rfl (Nat.le_of_ble_eq_true rfl) (by decide) ?_
    refine V_if_eqB (q := 9) (tgt := 13) dX1_giveAway_6 (by decide) (fun c6 => ?_) (fun c6 => ?_)
    · skip
      refine V_iconst (q := 14) dX1_giveAway_13 rfl ?_
      exact k14 _ (by first | (rw [show (cHas S x : Nat) = 0 from if_pos c6]; rfl) | (rw [show (cHas S x : Nat) = 1 from if_neg (by rw [c6]; decide)]; rfl))
    · skip
      refine V_iconst (q := 10) dX1_giveAway_9 rfl ?_
      refine V_goto (tgt := 14) dX1_giveAway_10 (by decide) ?_
      exact k14 _ (by first | (rw [show (cHas S x : Nat) = 0 from if_pos c6]; rfl) | (rw [show (cHas S x : Nat) = 1 from if_neg (by rw [c6]; decide)]; rfl))
theorem hin_X1_things : ∀ w ∈ wsX10, w ∈ wsX1_things := by decide +kernel
theorem f_X1_things_41 : Cond.fieldLink RX1 41 (TX1 12).1 (TX1 12).2.1 (TX1 12).2.2.1 ∈ wsX1_things := by decide +kernel
theorem yv_X1_things : YV yX1_things wsX1_things 0 := ⟨_, _, _, _, rfl, by decide +kernel, by decide⟩
set_option maxRecDepth 100000 in
set_option maxHeartbeats 4000000 in
theorem c_X1_things {b : Nat → Nat} {d : Nat → ClassId} {S : St} {g : Nat → Nat} {th : Nat} (ho : Ok S)  : CtI yX1_things wsX1_things (rmD 2) (tym d) [.ref (b 0)] (mkc b d S g th) (iZ (cnt (hasT S) 12 : Nat)) (mkc b d S g 0) := by
  refine CtI_of (own := RX1) (by decide) rfl rfl (Nat.le_of_ble_eq_true rfl) ?_
  refine V_lvq (lv' := [(0, _)]) rfl ?_
  refine V_aload_n (q := 1) dX1_things_0 0 rfl rfl ?_
  refine V_iconst (q := 2) dX1_things_1 rfl ?_
  refine V_put (q := 5) (ty := .int) (ws' := mkc b d S g 0) dX1_things_2 hin_X1_things tyX1 tyX1_ok nmX1 0 rfl rfl 12 (by decide) f_X1_things_41 rfl (by decide +kernel) rfl rfl (Nat.le_of_ble_eq_true rfl) (mkTh 0) rfl ?_
  refine V_aload_n (q := 6) dX1_things_5 0 rfl rfl ?_
  refine V_callIv (q := 9) dX1_things_6 (c_X1_here ho) yv_X1_here rfl gX1_things_X1_here rfl 0 rfl rfl rfl rfl (Nat.le_of_ble_eq_true rfl) (by decide) ?_
  exact V_iret dX1_things_9 rfl (rfl) (rfl)
theorem hin_X1_left : ∀ w ∈ wsX10, w ∈ wsX1_left := by decide +kernel
theorem f_X1_left_29 : Cond.fieldLink RX1 29 (TX1 8).1 (TX1 8).2.1 (TX1 8).2.2.1 ∈ wsX1_left := by decide +kernel
theorem yv_X1_left : YV yX1_left wsX1_left 1 := ⟨_, _, _, _, rfl, by decide +kernel, by decide⟩
set_option maxRecDepth 100000 in
set_option maxHeartbeats 4000000 in
theorem c_X1_left {b : Nat → Nat} {d : Nat → ClassId} {S : St} {g : Nat → Nat} {th : Nat} (ho : Ok S) (x : Int) (rx : -2147483648 ≤ x ∧ x < 2147483648) : CtI yX1_left wsX1_left (rmD 2) (tym d) [.ref (b 0), .int (iZ x)] (mkc b d S g th) (iZ (if cHas S x = 0 then sL S x.toNat else 0 : Nat)) (mkc b d (S) g (cHas S x)) := by
  refine CtI_of (own := RX1) (by decide) rfl rfl (Nat.le_of_ble_eq_true rfl) ?_
  refine V_lvq (lv' := [(0, _), (1, _)]) rfl ?_
  refine V_aload_n (q := 1) dX1_left_0 0 rfl rfl ?_
  refine V_cut (M := 14) (iZ (cHas S x : Nat)) ?_ (fun k14 => ?_)
  · -- from the merge
    refine V_callIv (q := 17) dX1_left_14 (c_X1_goes (cHas S x) (cHas_lt S x)) yv_X1_goes rfl gX1_left_X1_goes rfl 0 rfl rfl rfl rfl (Nat.le_of_ble_eq_true rfl) (by decide) ?_
    refine V_if_eqB (q := 20) (tgt := 29) dX1_left_17 (by decide) (fun c17 => ?_) (fun c17 => ?_)
    · skip
      refine V_iconst (q := 30) dX1_left_29 rfl ?_
      exact V_iret dX1_left_30 rfl (by first | rfl | (rw [if_neg (of_decide_eq_false c17)]; rfl)) (rfl)
    · skip
      have ec : cHas S x = 0 := of_decide_eq_true c17
      simp only [ec, ↓reduceIte]
      have hx := cHas_0 ec
      obtain ⟨x0, x1, x2, x3, x4⟩ := hasZ_lt ho hx
      refine V_aload_n (q := 21) dX1_left_20 0 rfl rfl ?_
      refine V_get (q := 24) dX1_left_21 hin_X1_left 0 rfl rfl 8 (by decide) f_X1_left_29 rfl rfl ?_
      refine V_iload_n (q := 25) dX1_left_24 1 rfl rfl ?_
      refine V_iald (q := 26) dX1_left_25 7 6 rfl rfl (x.toNat) (x2.symm) (x4) (by decide) (rfl) rfl ?_
      refine V_goto (tgt := 30) dX1_left_26 (by decide) ?_
      exact V_iret dX1_left_30 rfl (by first | rfl | (rw [if_neg (of_decide_eq_false c17)]; rfl)) (rfl)
  · -- the ways to it
    refine V_aload_n (q := 2) dX1_left_1 0 rfl rfl ?_
    refine V_iload_n (q := 3) dX1_left_2 1 rfl rfl ?_
    refine V_callIv (q := 6) dX1_left_3 (c_X1_isThing ho x rx) yv_X1_isThing rfl gX1_left_X1_isThing rfl 0 rfl rfl rfl rfl (Nat.le_of_ble_eq_true rfl) (by decide) ?_
    refine V_if_eqB (q := 9) (tgt := 13) dX1_left_6 (by decide) (fun c6 => ?_) (fun c6 => ?_)
    · skip
      refine V_iconst (q := 14) dX1_left_13 rfl ?_
      exact k14 _ (by first | (rw [show (cHas S x : Nat) = 0 from if_pos c6]; rfl) | (rw [show (cHas S x : Nat) = 1 from if_neg (by rw [c6]; decide)]; rfl))
    · skip
      refine V_iconst (q := 10) dX1_left_9 rfl ?_
      refine V_goto (tgt := 14) dX1_left_10 (by decide) ?_
      exact k14 _ (by first | (rw [show (cHas S x : Nat) = 0 from if_pos c6]; rfl) | (rw [show (cHas S x : Nat) = 1 from if_neg (by rw [c6]; decide)]; rfl))
theorem hin_X1_setClash : ∀ w ∈ wsX10, w ∈ wsX1_setClash := by decide +kernel
theorem f_X1_setClash_32 : Cond.fieldLink RX1 32 (TX1 9).1 (TX1 9).2.1 (TX1 9).2.2.1 ∈ wsX1_setClash := by decide +kernel
theorem yv_X1_setClash : YV yX1_setClash wsX1_setClash 3 := ⟨_, _, _, _, rfl, by decide +kernel, by decide⟩
set_option maxRecDepth 100000 in
set_option maxHeartbeats 4000000 in
theorem c_X1_setClash {b : Nat → Nat} {d : Nat → ClassId} {S : St} {g : Nat → Nat} {th : Nat} (ho : Ok S) (x' y' : Int) (v : Bool) (rx : -2147483648 ≤ x' ∧ x' < 2147483648) (ry : -2147483648 ≤ y' ∧ y' < 2147483648) : CtI yX1_setClash wsX1_setClash (rmD 2) (tym d) [.ref (b 0), .int (iZ x'), .int (iZ y'), .int (iZ (bZ v))] (mkc b d S g th) (iZ (bZ (decide (cClash x' y' = 0) && sX S (8 * x'.toNat + y'.toNat)))) (mkc b d (if cClash x' y' = 0 then clS S x' y' v else S) g (cClash x' y')) := by
  refine CtI_of (own := RX1) (by decide) rfl rfl (Nat.le_of_ble_eq_true rfl) ?_
  refine V_lvq (lv' := [(0, _), (1, _), (2, _), (3, _)]) rfl ?_
  refine V_aload_n (q := 1) dX1_setClash_0 0 rfl rfl ?_
  refine V_cut (M := 20) (iZ (cClash x' y' : Nat)) ?_ (fun k20 => ?_)
  · -- from the merge
    refine V_callIv (q := 23) dX1_setClash_20 (c_X1_goes (cClash x' y') (cClash_lt x' y')) yv_X1_goes rfl gX1_setClash_X1_goes rfl 0 rfl rfl rfl rfl (Nat.le_of_ble_eq_true rfl) (by decide) ?_
    refine V_if_neB (q := 26) (tgt := 28) dX1_setClash_23 (by decide) (fun c23 => ?_) (fun c23 => ?_)
    · skip
      have ec : cClash x' y' = 0 := of_decide_eq_true c23
      rw [c23, if_pos ec, Bool.true_and]
      have b9 : (0 ≤ x' ∧ x' ≤ 7) ∧ (0 ≤ y' ∧ y' ≤ 7) := by unfold cClash at ec; split at ec; (next h => simpa only [inZ, Bool.and_eq_true, decide_eq_true_eq] using h); exact absurd ec (by decide)
      rw [ec]
      clear c23 ec
      obtain ⟨b1, b2⟩ := b9
      obtain ⟨x, hx⟩ : ∃ x : Nat, x' = (x : Int) := ⟨x'.toNat, by omega⟩
      obtain ⟨y, hy⟩ : ∃ y : Nat, y' = (y : Int) := ⟨y'.toNat, by omega⟩
      subst hx
      subst hy
      rw [show ((x : Int)).toNat = x from Int.toNat_natCast x, show ((y : Int)).toNat = y from Int.toNat_natCast y]
      refine V_aload_n (q := 29) dX1_setClash_28 0 rfl rfl ?_
      refine V_get (q := 32) dX1_setClash_29 hin_X1_setClash 0 rfl rfl 9 (by decide) f_X1_setClash_32 rfl rfl ?_
      refine V_bipush (q := 34) dX1_setClash_32 (by decide) rfl ?_
      refine V_iload_n (q := 35) dX1_setClash_34 1 rfl rfl ?_
      refine V_imul (q := 36) dX1_setClash_35 rfl ?_
      refine V_iload_n (q := 37) dX1_setClash_36 2 rfl rfl ?_
      refine V_iadd (q := 38) dX1_setClash_37 rfl ?_
      refine V_zald (q := 39) dX1_setClash_38 8 7 rfl rfl (8 * x + y) (by omega) (by omega) (by decide) (rfl) rfl ?_
      refine V_istore (q := 41) (lv' := [(0, _), (1, _), (2, _), (3, _), (4, _)]) dX1_setClash_39 (by decide) rfl rfl ?_
      refine V_aload_n (q := 42) dX1_setClash_41 0 rfl rfl ?_
      refine V_get (q := 45) dX1_setClash_42 hin_X1_setClash 0 rfl rfl 9 (by decide) f_X1_setClash_32 rfl rfl ?_
      refine V_bipush (q := 47) dX1_setClash_45 (by decide) rfl ?_
      refine V_iload_n (q := 48) dX1_setClash_47 1 rfl rfl ?_
      refine V_imul (q := 49) dX1_setClash_48 rfl ?_
      refine V_iload_n (q := 50) dX1_setClash_49 2 rfl rfl ?_
      refine V_iadd (q := 51) dX1_setClash_50 rfl ?_
      refine V_iload_n (q := 52) dX1_setClash_51 3 rfl rfl ?_
      refine V_zast (q := 53) (ws' := mkc b d (uX S (fu (sX S) (8 * x + y) v)) g 0) dX1_setClash_52 8 7 rfl rfl (8 * x + y) (by omega) (by omega) (by decide) (by rw [zF_upd, mk8]) rfl ?_
      refine V_aload_n (q := 54) dX1_setClash_53 0 rfl rfl ?_
      refine V_get (q := 57) dX1_setClash_54 hin_X1_setClash 0 rfl rfl 9 (by decide) f_X1_setClash_32 rfl rfl ?_
      refine V_bipush (q := 59) dX1_setClash_57 (by decide) rfl ?_
      refine V_iload_n (q := 60) dX1_setClash_59 2 rfl rfl ?_
      refine V_imul (q := 61) dX1_setClash_60 rfl ?_
      refine V_iload_n (q := 62) dX1_setClash_61 1 rfl rfl ?_
      refine V_iadd (q := 63) dX1_setClash_62 rfl ?_
      refine V_iload_n (q := 64) dX1_setClash_63 3 rfl rfl ?_
      refine V_zast (q := 65) (ws' := mkc b d (clS S x y v) g 0) dX1_setClash_64 8 7 rfl rfl (8 * y + x) (by omega) (by omega) (by decide) (by rw [zF_upd, mk8]; show mkc b d (uX (uX S (fu (sX S) (8 * x + y) v)) (fu (fu (sX S) (8 * x + y) v) (8 * y + x) v)) g 0 = _; rw [cl_fu]; rfl) rfl ?_
      refine V_iload (q := 67) dX1_setClash_65 4 rfl rfl ?_
      exact V_zret dX1_setClash_67 rfl (rfl) (rfl)
    · skip
      refine V_iconst (q := 27) dX1_setClash_26 rfl ?_
      exact V_zret dX1_setClash_27 rfl (bZ_f (by rw [c23]; rfl)) (by rw [if_neg (of_decide_eq_false c23)])
  · -- the ways to it
    refine V_iload_n (q := 2) dX1_setClash_1 1 rfl rfl ?_
    refine V_callIs (q := 5) dX1_setClash_2 (c_X1_isColour x' rx) yv_X1_isColour rfl gX1_setClash_X1_isColour rfl (Nat.le_of_ble_eq_true rfl) (by decide) ?_
    refine V_if_eqB (q := 8) (tgt := 19) dX1_setClash_5 (by decide) (fun c5 => ?_) (fun c5 => ?_)
    · skip
      refine V_iconst (q := 20) dX1_setClash_19 rfl ?_
      exact k20 _ (by first | (rw [show (cClash x' y' : Nat) = 0 from if_pos (by simp only [inZ, c5, c12]; rfl)]; rfl) | (rw [show (cClash x' y' : Nat) = 1 from if_neg (by first | (simp only [inZ, c5]; simp; done) | (simp only [inZ, c12]; simp; done))]; rfl))
    · skip
      refine V_iload_n (q := 9) dX1_setClash_8 2 rfl rfl ?_
      refine V_callIs (q := 12) dX1_setClash_9 (c_X1_isColour y' ry) yv_X1_isColour rfl gX1_setClash_X1_isColour rfl (Nat.le_of_ble_eq_true rfl) (by decide) ?_
      refine V_if_eqB (q := 15) (tgt := 19) dX1_setClash_12 (by decide) (fun c12 => ?_) (fun c12 => ?_)
      · skip
        refine V_iconst (q := 20) dX1_setClash_19 rfl ?_
        exact k20 _ (by first | (rw [show (cClash x' y' : Nat) = 0 from if_pos (by simp only [inZ, c5, c12]; rfl)]; rfl) | (rw [show (cClash x' y' : Nat) = 1 from if_neg (by first | (simp only [inZ, c5]; simp; done) | (simp only [inZ, c12]; simp; done))]; rfl))
      · skip
        refine V_iconst (q := 16) dX1_setClash_15 rfl ?_
        refine V_goto (tgt := 20) dX1_setClash_16 (by decide) ?_
        exact k20 _ (by first | (rw [show (cClash x' y' : Nat) = 0 from if_pos (by simp only [inZ, c5, c12]; rfl)]; rfl) | (rw [show (cClash x' y' : Nat) = 1 from if_neg (by first | (simp only [inZ, c5]; simp; done) | (simp only [inZ, c12]; simp; done))]; rfl))
theorem yv_X1_isPossible : YV yX1_isPossible wsX1_isPossible 3 := ⟨_, _, _, _, rfl, by decide +kernel, by decide⟩
set_option maxRecDepth 100000 in
set_option maxHeartbeats 4000000 in
theorem c_X1_isPossible {b : Nat → Nat} {d : Nat → ClassId} {S : St} {g : Nat → Nat} {th : Nat} (ho : Ok S) (t u e : Int) (rt : -2147483648 ≤ t ∧ t < 2147483648) (ru : -2147483648 ≤ u ∧ u < 2147483648) (re : -2147483648 ≤ e ∧ e < 2147483648) : CtI yX1_isPossible wsX1_isPossible (rmD 3) (tym d) [.ref (b 0), .int (iZ t), .int (iZ u), .int (iZ e)] (mkc b d S g th) (iZ (bZ (decide (wrZ S t u e = 0) && canZ S t u e))) (mkc b d (S) g (wrZ S t u e)) := by
  refine CtI_of (own := RX1) (by decide) rfl rfl (Nat.le_of_ble_eq_true rfl) ?_
  refine V_lvq (lv' := [(0, _), (1, _), (2, _), (3, _)]) rfl ?_
  refine V_aload_n (q := 1) dX1_isPossible_0 0 rfl rfl ?_
  refine V_aload_n (q := 2) dX1_isPossible_1 0 rfl rfl ?_
  refine V_iload_n (q := 3) dX1_isPossible_2 1 rfl rfl ?_
  refine V_iload_n (q := 4) dX1_isPossible_3 2 rfl rfl ?_
  refine V_iload_n (q := 5) dX1_isPossible_4 3 rfl rfl ?_
  refine V_callIv (q := 8) dX1_isPossible_5 (c_X1_wrong ho t u e rt ru re) yv_X1_wrong rfl gX1_isPossible_X1_wrong rfl 0 rfl rfl rfl rfl (Nat.le_of_ble_eq_true rfl) (by decide) ?_
  refine V_callIv (q := 11) dX1_isPossible_8 (c_X1_goes (wrZ S t u e) (wr_lt S t u e)) yv_X1_goes rfl gX1_isPossible_X1_goes rfl 0 rfl rfl rfl rfl (Nat.le_of_ble_eq_true rfl) (by decide) ?_
  refine V_if_eqB (q := 14) (tgt := 28) dX1_isPossible_11 (by decide) (fun c11 => ?_) (fun c11 => ?_)
  · skip
    refine V_iconst (q := 29) dX1_isPossible_28 rfl ?_
    exact V_zret dX1_isPossible_29 rfl (by first | exact bZ_t (by simp only [c11]; simp [*]) | exact bZ_f (by simp only [c11]; simp [*])) (rfl)
  · skip
    refine V_aload_n (q := 15) dX1_isPossible_14 0 rfl rfl ?_
    refine V_iload_n (q := 16) dX1_isPossible_15 1 rfl rfl ?_
    refine V_iload_n (q := 17) dX1_isPossible_16 2 rfl rfl ?_
    refine V_iload_n (q := 18) dX1_isPossible_17 3 rfl rfl ?_
    refine V_callIv (q := 21) dX1_isPossible_18 (c_X1_fits ho t u e rt ru re (of_decide_eq_true c11)) yv_X1_fits rfl gX1_isPossible_X1_fits rfl 0 rfl rfl rfl rfl (Nat.le_of_ble_eq_true rfl) (by decide) ?_
    refine V_if_eqB (q := 24) (tgt := 28) dX1_isPossible_21 (by decide) (fun c21 => ?_) (fun c21 => ?_)
    · skip
      refine V_iconst (q := 29) dX1_isPossible_28 rfl ?_
      exact V_zret dX1_isPossible_29 rfl (by first | exact bZ_t (by simp only [c11]; simp [*]) | exact bZ_f (by simp only [c11]; simp [*])) (rfl)
    · skip
      refine V_iconst (q := 25) dX1_isPossible_24 rfl ?_
      refine V_goto (tgt := 29) dX1_isPossible_25 (by decide) ?_
      exact V_zret dX1_isPossible_29 rfl (by first | exact bZ_t (by simp only [c11]; simp [*]) | exact bZ_f (by simp only [c11]; simp [*])) (rfl)
theorem cSoon_lt (S : St) (t u p : Int) : cSoon S t u p < 4 := by
  unfold cSoon
  split
  · split <;> decide
  · exact wr_lt S t u (-1)
theorem cSoon_0 {S : St} {t u p : Int} (h : cSoon S t u p = 0) : wrZ S t u (-1) = 0 ∧ 0 ≤ p ∧ p ≤ 255 := by
  unfold cSoon at h
  split at h
  · next h1 =>
    split at h
    · next h2 => exact ⟨h1, by simpa only [inZ, Bool.and_eq_true, decide_eq_true_eq] using h2⟩
    · exact absurd h (by decide)
  · next h1 => exact absurd h h1
theorem cWear_lt (S : St) (t u e p : Int) : cWear S t u e p < 4 := by
  unfold cWear
  split
  · split
    · split <;> decide
    · decide
  · exact wr_lt S t u e
theorem cWear_0 {S : St} {t u e p : Int} (h : cWear S t u e p = 0) : wrZ S t u e = 0 ∧ (0 ≤ p ∧ p ≤ 255) ∧ canZ S t u e = true ∧ seenZ S t u p.toNat = false := by
  unfold cWear at h
  split at h
  · next h1 =>
    split at h
    · next h2 =>
      split at h
      · next h3 =>
        simp only [Bool.and_eq_true, Bool.not_eq_true'] at h3
        exact ⟨h1, by simpa only [inZ, Bool.and_eq_true, decide_eq_true_eq] using h2, h3.1, h3.2⟩
      · exact absurd h (by decide)
    · exact absurd h (by decide)
  · next h1 => exact absurd h h1
theorem yv_X1_isTooSoon : YV yX1_isTooSoon wsX1_isTooSoon 3 := ⟨_, _, _, _, rfl, by decide +kernel, by decide⟩
set_option maxRecDepth 100000 in
set_option maxHeartbeats 4000000 in
theorem c_X1_isTooSoon {b : Nat → Nat} {d : Nat → ClassId} {S : St} {g : Nat → Nat} {th : Nat} (ho : Ok S) (t u p : Int) (rt : -2147483648 ≤ t ∧ t < 2147483648) (ru : -2147483648 ≤ u ∧ u < 2147483648) (rp : -2147483648 ≤ p ∧ p < 2147483648) : CtI yX1_isTooSoon wsX1_isTooSoon (rmD 3) (tym d) [.ref (b 0), .int (iZ t), .int (iZ u), .int (iZ p)] (mkc b d S g th) (iZ (bZ (decide (cSoon S t u p = 0) && seenZ S t u p.toNat))) (mkc b d (S) g (cSoon S t u p)) := by
  refine CtI_of (own := RX1) (by decide) rfl rfl (Nat.le_of_ble_eq_true rfl) ?_
  refine V_lvq (lv' := [(0, _), (1, _), (2, _), (3, _)]) rfl ?_
  refine V_aload_n (q := 1) dX1_isTooSoon_0 0 rfl rfl ?_
  refine V_iload_n (q := 2) dX1_isTooSoon_1 1 rfl rfl ?_
  refine V_iload_n (q := 3) dX1_isTooSoon_2 2 rfl rfl ?_
  refine V_iconst (q := 4) dX1_isTooSoon_3 rfl ?_
  refine V_callIv (q := 7) dX1_isTooSoon_4 (c_X1_wrong ho t u (-1) rt ru (by decide)) yv_X1_wrong rfl gX1_isTooSoon_X1_wrong rfl 0 rfl rfl rfl rfl (Nat.le_of_ble_eq_true rfl) (by decide) ?_
  refine V_istore (q := 9) (lv' := [(0, _), (1, _), (2, _), (3, _), (4, _)]) dX1_isTooSoon_7 (by decide) rfl rfl ?_
  refine V_aload_n (q := 10) dX1_isTooSoon_9 0 rfl rfl ?_
  refine V_cut (M := 32) (iZ (cSoon S t u p : Nat)) ?_ (fun k32 => ?_)
  · -- from the merge
    refine V_callIv (q := 35) dX1_isTooSoon_32 (c_X1_goes (cSoon S t u p) (cSoon_lt S t u p)) yv_X1_goes rfl gX1_isTooSoon_X1_goes rfl 0 rfl rfl rfl rfl (Nat.le_of_ble_eq_true rfl) (by decide) ?_
    refine V_if_eqB (q := 38) (tgt := 52) dX1_isTooSoon_35 (by decide) (fun c35 => ?_) (fun c35 => ?_)
    · skip
      refine V_iconst (q := 53) dX1_isTooSoon_52 rfl ?_
      exact V_zret dX1_isTooSoon_53 rfl (by first | exact bZ_t (by simp only [c35]; simp [*]) | exact bZ_f (by simp only [c35]; simp [*])) (rfl)
    · skip
      obtain ⟨h1, h2, h3⟩ := cSoon_0 (of_decide_eq_true c35)
      obtain ⟨ht, hu, -⟩ := wr_0 h1
      refine V_aload_n (q := 39) dX1_isTooSoon_38 0 rfl rfl ?_
      refine V_iload_n (q := 40) dX1_isTooSoon_39 1 rfl rfl ?_
      refine V_iload_n (q := 41) dX1_isTooSoon_40 2 rfl rfl ?_
      refine V_iload_n (q := 42) dX1_isTooSoon_41 3 rfl rfl ?_
      rw [show (iZ p : Int32) = iZ ((p.toNat : Nat) : Int) by rw [Int.toNat_of_nonneg h2]]
      refine V_callIv (q := 45) dX1_isTooSoon_42 (c_X1_isSoon ho t u p.toNat rt ru (by omega) ht hu) yv_X1_isSoon rfl gX1_isTooSoon_X1_isSoon rfl 0 rfl rfl rfl rfl (Nat.le_of_ble_eq_true rfl) (by decide) ?_
      refine V_if_eqB (q := 48) (tgt := 52) dX1_isTooSoon_45 (by decide) (fun c45 => ?_) (fun c45 => ?_)
      · skip
        refine V_iconst (q := 53) dX1_isTooSoon_52 rfl ?_
        exact V_zret dX1_isTooSoon_53 rfl (by first | exact bZ_t (by simp only [c35]; simp [*]) | exact bZ_f (by simp only [c35]; simp [*])) (rfl)
      · skip
        refine V_iconst (q := 49) dX1_isTooSoon_48 rfl ?_
        refine V_goto (tgt := 53) dX1_isTooSoon_49 (by decide) ?_
        exact V_zret dX1_isTooSoon_53 rfl (by first | exact bZ_t (by simp only [c35]; simp [*]) | exact bZ_f (by simp only [c35]; simp [*])) (rfl)
  · -- the ways to it
    refine V_iload (q := 12) dX1_isTooSoon_10 4 rfl rfl ?_
    refine V_if_eq (q := 15) (tgt := 20) dX1_isTooSoon_12 (by have q := wr_lt S t u (-1); omega) (by decide) (fun c12 => ?_) (fun c12 => ?_)
    · skip
      refine V_iload_n (q := 21) dX1_isTooSoon_20 3 rfl rfl ?_
      refine V_callIs (q := 24) dX1_isTooSoon_21 (c_X1_arePeople p rp) yv_X1_arePeople rfl gX1_isTooSoon_X1_arePeople rfl (Nat.le_of_ble_eq_true rfl) (by decide) ?_
      refine V_if_eqB (q := 27) (tgt := 31) dX1_isTooSoon_24 (by decide) (fun c24 => ?_) (fun c24 => ?_)
      · skip
        refine V_iconst (q := 32) dX1_isTooSoon_31 rfl ?_
        exact k32 _ (by first | (rw [show (cSoon S t u p : Nat) = wrZ S t u (-1) from if_neg (by omega)]) | (rw [show (cSoon S t u p : Nat) = 0 from (if_pos (by omega)).trans (if_pos c24)]; rfl) | (rw [show (cSoon S t u p : Nat) = 2 from (if_pos (by omega)).trans (if_neg (by rw [show inZ p 0 255 = false from c24]; decide))]; rfl))
      · skip
        refine V_iconst (q := 28) dX1_isTooSoon_27 rfl ?_
        refine V_goto (tgt := 32) dX1_isTooSoon_28 (by decide) ?_
        exact k32 _ (by first | (rw [show (cSoon S t u p : Nat) = wrZ S t u (-1) from if_neg (by omega)]) | (rw [show (cSoon S t u p : Nat) = 0 from (if_pos (by omega)).trans (if_pos c24)]; rfl) | (rw [show (cSoon S t u p : Nat) = 2 from (if_pos (by omega)).trans (if_neg (by rw [show inZ p 0 255 = false from c24]; decide))]; rfl))
    · skip
      refine V_iload (q := 17) dX1_isTooSoon_15 4 rfl rfl ?_
      refine V_goto (tgt := 32) dX1_isTooSoon_17 (by decide) ?_
      exact k32 _ (by first | (rw [show (cSoon S t u p : Nat) = wrZ S t u (-1) from if_neg (by omega)]) | (rw [show (cSoon S t u p : Nat) = 0 from (if_pos (by omega)).trans (if_pos c24)]; rfl) | (rw [show (cSoon S t u p : Nat) = 2 from (if_pos (by omega)).trans (if_neg (by rw [show inZ p 0 255 = false from c24]; decide))]; rfl))
