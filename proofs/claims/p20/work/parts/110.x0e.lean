/-! what each call asks, answers and changes: the same words for the class and its reference -/
def xE (L : List String) : Nat → String
  | 0 => ""
  | k + 1 => L.getD k ""
abbrev inZ (x lo hi : Int) : Bool := decide (lo ≤ x) && decide (x ≤ hi)
def cAdd (S : St) (k c w m r : Int) : Nat := if inZ k 0 2 && inZ c 0 7 && inZ w 0 10 && inZ m 1 9 && inZ r 0 2 then (if sN S = 12 then 2 else 0) else 1
def cHas (S : St) (x : Int) : Nat := if hasZ S x then 0 else 1
def cClash (c o : Int) : Nat := if inZ c 0 7 && inZ o 0 7 then 0 else 1
def wrZ (S : St) (t b d : Int) : Nat := if hasZ S t && hasZ S b && (decide (d = -1) || hasZ S d) then (if kdZ S t 0 && kdZ S b 1 && (decide (d = -1) || kdZ S d 2) then 0 else 2) else 1
theorem wrZ_m1 (S : St) (t b : Int) : wrZ S t b (-1) = if hasZ S t && hasZ S b then (if kdZ S t 0 && kdZ S b 1 then 0 else 2) else 1 := by simp [wrZ]
def cSoon (S : St) (t b p : Int) : Nat := if wrZ S t b (-1) = 0 then (if inZ p 0 255 then 0 else 2) else wrZ S t b (-1)
def cWear (S : St) (t b d p : Int) : Nat := if wrZ S t b d = 0 then (if inZ p 0 255 then (if canZ S t b d && !(seenZ S t b p.toNat) then 0 else 3) else 2) else wrZ S t b d
def cOut (w : Int) : Nat := if inZ w 0 30 then 0 else 1
def cAdds (S : St) (x w : Int) : Nat := if hasZ S x then (if inZ w 0 30 then 0 else 2) else 1
def cFor (w p : Int) : Nat := if inZ w 0 30 && inZ p 0 255 then 0 else 1
def cCare (r : Int) : Nat := if inZ r 0 2 then 0 else 1
def cPass (S : St) (d : Int) : Nat := if inZ d 1 365 then (if (sT S : Int) + d ≤ 10000 then 0 else 2) else 1
def cBag (d w : Int) : Nat := if inZ d 1 20 && inZ w 0 20 then 0 else 1
def gvS (S : St) (x : Int) : St := uG S (fu (sG S) x.toNat true)
def clS (S : St) (c o : Int) (v : Bool) : St := uX S (fun i => if i = 8 * c.toNat + o.toNat ∨ i = 8 * o.toNat + c.toNat then v else sX S i)
def wrS (S : St) (t b d : Int) (p : Nat) : St := shw (wo (wo (wo S t) b) d) t b p
theorem pc_bits (p : Nat → Bool) : pc (bits p 12) = cnt p 12 := cnt_cong fun i hi => by rw [bits_tb]; simp [hi]
/-- giving away, in the mask -/
theorem gv_ow {S : St} (ho : Ok S) {x : Int} (h : hasZ S x = true) : ow S &&& ((iZ 1 <<< (iZ x &&& 31)) ^^^ iZ (-1)) = ow (gvS S x) := by
  obtain ⟨x0, x1, x2, x3, x4⟩ := hasZ_lt ho h
  have h1 : (2 : Nat) ^ x.toNat ≤ 2 ^ 11 := Nat.pow_le_pow_right (by decide) (by omega)
  have e : iZ 1 <<< (iZ x &&& 31) = iZ (2 ^ x.toNat : Nat) := by
    rw [← x2, show (iZ 1 : Int32) = iZ ((1 : Nat) : Int) from rfl, z_shl (by omega) (by omega), Nat.one_mul]; rfl
  rw [e]
  unfold ow
  rw [z_andn]
  congr 2
  apply Nat.eq_of_testBit_eq
  intro i
  rw [andn_tb (Nat.lt_trans (bits_lt _ 12) (by decide)), bits_tb, bits_tb, Nat.testBit_two_pow]
  by_cases hi : i = x.toNat
  · subst hi
    simp [gvS, hasT, uG, sG, fu]
  · have h2 : ¬ x.toNat = i := fun q => hi q.symm
    have e2 : hasT (gvS S x) i = hasT S i := by
      unfold hasT gvS
      show (decide (i < sN S) && !(fu (sG S) x.toNat true i)) = _
      unfold fu
      rw [if_neg hi]
    rw [e2]
    simp [h2]
theorem gv_own {a : Nat → Nat} {c : Nat → ClassId} {S : St} {g : Nat → Nat} (ho : Ok S) {x : Int} (h : hasZ S x = true) : (wkc a c S g).set 0 (a 0, .inr (0, (fkc a (iZ (sN S)) (ow S) (iZ (sT S)) (clL S)).set 7 (.int (ow S &&& ((iZ 1 <<< (iZ x &&& 31)) ^^^ iZ (-1)))))) = wkc a c (gvS S x) g := by
  rw [gv_ow ho h]
  exact wkG _
theorem ad_ow {S S' : St} (ho : Ok S) (hn : sN S < 12) (h1 : sN S' = sN S + 1) (h2 : sG S' = sG S) : ow S ||| (iZ 1 <<< (iZ (sN S : Int) &&& 31)) = ow S' := by
  unfold ow
  rw [or_pow _ (by omega)]
  congr 2
  apply Nat.eq_of_testBit_eq
  intro i
  have hg := ho.2.2.2.2.2.2.2.2.2.2 (sN S) (Nat.le_refl _)
  rw [Nat.testBit_or, bits_tb, bits_tb, Nat.testBit_two_pow]
  unfold hasT
  rw [h1, h2]
  rcases Nat.lt_trichotomy i (sN S) with q | q | q
  · have e1 : ¬ sN S = i := by omega
    have e2 : i < sN S + 1 := by omega
    simp [q, e1, e2]
  · subst q
    simp [hg, hn]
  · have e1 : ¬ sN S = i := by omega
    have e2 : ¬ i < sN S + 1 := by omega
    have e3 : ¬ i < sN S := by omega
    simp [e1, e2, e3]
theorem hin_X0_add : ∀ w ∈ wsX00, w ∈ wsX0_add := by decide +kernel
theorem f_X0_add_9 : Cond.fieldLink RX0 9 (TX0 0).1 (TX0 0).2.1 (TX0 0).2.2.1 ∈ wsX0_add := by decide +kernel
theorem f_X0_add_13 : Cond.fieldLink RX0 13 (TX0 1).1 (TX0 1).2.1 (TX0 1).2.2.1 ∈ wsX0_add := by decide +kernel
theorem f_X0_add_16 : Cond.fieldLink RX0 16 (TX0 2).1 (TX0 2).2.1 (TX0 2).2.2.1 ∈ wsX0_add := by decide +kernel
theorem f_X0_add_19 : Cond.fieldLink RX0 19 (TX0 3).1 (TX0 3).2.1 (TX0 3).2.2.1 ∈ wsX0_add := by decide +kernel
theorem f_X0_add_22 : Cond.fieldLink RX0 22 (TX0 4).1 (TX0 4).2.1 (TX0 4).2.2.1 ∈ wsX0_add := by decide +kernel
theorem f_X0_add_25 : Cond.fieldLink RX0 25 (TX0 5).1 (TX0 5).2.1 (TX0 5).2.2.1 ∈ wsX0_add := by decide +kernel
theorem f_X0_add_52 : Cond.fieldLink RX0 52 (TX0 6).1 (TX0 6).2.1 (TX0 6).2.2.1 ∈ wsX0_add := by decide +kernel
theorem f_X0_add_61 : Cond.fieldLink RX0 61 (TX0 7).1 (TX0 7).2.1 (TX0 7).2.2.1 ∈ wsX0_add := by decide +kernel
theorem yv_X0_add : YV yX0_add wsX0_add 5 := ⟨_, _, _, _, rfl, by decide +kernel, by decide⟩
set_option maxRecDepth 100000 in
set_option maxHeartbeats 4000000 in
theorem c_X0_add {a : Nat → Nat} {c : Nat → ClassId} {S : St} {g : Nat → Nat} (ho : Ok S) (k d w m r : Int) (rk : -2147483648 ≤ k ∧ k < 2147483648) (rd : -2147483648 ≤ d ∧ d < 2147483648) (rw' : -2147483648 ≤ w ∧ w < 2147483648) (rm : -2147483648 ≤ m ∧ m < 2147483648) (rr : -2147483648 ≤ r ∧ r < 2147483648) : CtX yX0_add wsX0_add (rmX 2) (tyk c) [.ref (a 0), .int (iZ k), .int (iZ d), .int (iZ w), .int (iZ m), .int (iZ r)] (wkc a c S g) (xE [EIAE, EISE] (cAdd S k d w m r)) (iZ (sN S)) (wkc a c (uA S k.toNat d.toNat w.toNat m.toNat r.toNat) g) := by
  refine CtX_of (own := RX0) (by decide) rfl rfl (Nat.le_of_ble_eq_true rfl) ?_
  refine V_lvq (lv' := [(0, _), (1, _), (2, _), (3, _), (4, _), (5, _)]) rfl ?_
  refine V_iload_n (q := 1) dX0_add_0 1 rfl rfl ?_
  refine V_iconst (q := 2) dX0_add_1 rfl ?_
  refine V_iconst (q := 3) dX0_add_2 rfl ?_
  refine V_callIs (q := 6) dX0_add_3 (c_X0_isWithin k 0 2 rk (by decide) (by decide)) yv_X0_isWithin rfl gX0_add_X0_isWithin rfl (Nat.le_of_ble_eq_true rfl) (by decide) ?_
  refine V_if_eqB (q := 9) (tgt := 45) dX0_add_6 (by decide) (fun c6 => ?_) (fun c6 => ?_)
  · skip
    exact V_throw (text := "an argument is out of range") (cls := EIAE) dX0_add_45 dX0_add_48 dX0_add_49 dX0_add_51 dX0_add_54 (by decide +kernel) xn_ok (by decide +kernel) (by decide +kernel) (by decide +kernel) xf_IAE xg_IAE rfl (by decide +kernel) (by rw [show (cAdd S k d w m r : Nat) = 1 by simp only [cAdd, inZ, c6]; first | rfl | (simp only [c13]; first | rfl | (simp only [c23]; first | rfl | (simp only [c34]; first | rfl | (simp only [c42]; rfl))))]; rfl) (by decide +kernel) (by decide) (by decide)
  · skip
    refine V_iload_n (q := 10) dX0_add_9 2 rfl rfl ?_
    refine V_callIs (q := 13) dX0_add_10 (c_X0_isColour d rd) yv_X0_isColour rfl gX0_add_X0_isColour rfl (Nat.le_of_ble_eq_true rfl) (by decide) ?_
    refine V_if_eqB (q := 16) (tgt := 45) dX0_add_13 (by decide) (fun c13 => ?_) (fun c13 => ?_)
    · skip
      exact V_throw (text := "an argument is out of range") (cls := EIAE) dX0_add_45 dX0_add_48 dX0_add_49 dX0_add_51 dX0_add_54 (by decide +kernel) xn_ok (by decide +kernel) (by decide +kernel) (by decide +kernel) xf_IAE xg_IAE rfl (by decide +kernel) (by rw [show (cAdd S k d w m r : Nat) = 1 by simp only [cAdd, inZ, c6]; first | rfl | (simp only [c13]; first | rfl | (simp only [c23]; first | rfl | (simp only [c34]; first | rfl | (simp only [c42]; rfl))))]; rfl) (by decide +kernel) (by decide) (by decide)
    · skip
      refine V_iload_n (q := 17) dX0_add_16 3 rfl rfl ?_
      refine V_iconst (q := 18) dX0_add_17 rfl ?_
      refine V_bipush (q := 20) dX0_add_18 (by decide) rfl ?_
      refine V_callIs (q := 23) dX0_add_20 (c_X0_isWithin w 0 10 rw' (by decide) (by decide)) yv_X0_isWithin rfl gX0_add_X0_isWithin rfl (Nat.le_of_ble_eq_true rfl) (by decide) ?_
      refine V_if_eqB (q := 26) (tgt := 45) dX0_add_23 (by decide) (fun c23 => ?_) (fun c23 => ?_)
      · skip
        exact V_throw (text := "an argument is out of range") (cls := EIAE) dX0_add_45 dX0_add_48 dX0_add_49 dX0_add_51 dX0_add_54 (by decide +kernel) xn_ok (by decide +kernel) (by decide +kernel) (by decide +kernel) xf_IAE xg_IAE rfl (by decide +kernel) (by rw [show (cAdd S k d w m r : Nat) = 1 by simp only [cAdd, inZ, c6]; first | rfl | (simp only [c13]; first | rfl | (simp only [c23]; first | rfl | (simp only [c34]; first | rfl | (simp only [c42]; rfl))))]; rfl) (by decide +kernel) (by decide) (by decide)
      · skip
        refine V_iload (q := 28) dX0_add_26 4 rfl rfl ?_
        refine V_iconst (q := 29) dX0_add_28 rfl ?_
        refine V_bipush (q := 31) dX0_add_29 (by decide) rfl ?_
        refine V_callIs (q := 34) dX0_add_31 (c_X0_isWithin m 1 9 rm (by decide) (by decide)) yv_X0_isWithin rfl gX0_add_X0_isWithin rfl (Nat.le_of_ble_eq_true rfl) (by decide) ?_
        refine V_if_eqB (q := 37) (tgt := 45) dX0_add_34 (by decide) (fun c34 => ?_) (fun c34 => ?_)
        · skip
          exact V_throw (text := "an argument is out of range") (cls := EIAE) dX0_add_45 dX0_add_48 dX0_add_49 dX0_add_51 dX0_add_54 (by decide +kernel) xn_ok (by decide +kernel) (by decide +kernel) (by decide +kernel) xf_IAE xg_IAE rfl (by decide +kernel) (by rw [show (cAdd S k d w m r : Nat) = 1 by simp only [cAdd, inZ, c6]; first | rfl | (simp only [c13]; first | rfl | (simp only [c23]; first | rfl | (simp only [c34]; first | rfl | (simp only [c42]; rfl))))]; rfl) (by decide +kernel) (by decide) (by decide)
        · skip
          refine V_iload (q := 39) dX0_add_37 5 rfl rfl ?_
          refine V_callIs (q := 42) dX0_add_39 (c_X0_isCare r rr) yv_X0_isCare rfl gX0_add_X0_isCare rfl (Nat.le_of_ble_eq_true rfl) (by decide) ?_
          refine V_if_neB (q := 45) (tgt := 55) dX0_add_42 (by decide) (fun c42 => ?_) (fun c42 => ?_)
          · skip
            have b1 : 0 ≤ k ∧ k ≤ 2 := by simpa using c6
            have b2 : 0 ≤ d ∧ d ≤ 7 := by simpa using c13
            have b3 : 0 ≤ w ∧ w ≤ 10 := by simpa using c23
            have b4 : 1 ≤ m ∧ m ≤ 9 := by simpa using c34
            have b5 : 0 ≤ r ∧ r ≤ 2 := by simpa using c42
            have hn := ho.1
            refine V_aload_n (q := 56) dX0_add_55 0 rfl rfl ?_
            refine V_get (q := 59) dX0_add_56 hin_X0_add 0 rfl rfl 6 (by decide) f_X0_add_52 rfl rfl ?_
            refine V_bipush (q := 61) dX0_add_59 (by decide) rfl ?_
            refine V_icmp_lt (q := 64) (tgt := 74) dX0_add_61 (by omega) (by omega) (by decide) (fun c61 => ?_) (fun c61 => ?_)
            · skip
              have hn1 : sN S < 12 := by omega
              have ec : cAdd S k d w m r = 0 := by simp [cAdd, c6, c13, c23, c34, c42, Nat.ne_of_lt hn1]
              rw [ec]
              refine V_aload_n (q := 75) dX0_add_74 0 rfl rfl ?_
              refine V_get (q := 78) dX0_add_75 hin_X0_add 0 rfl rfl 6 (by decide) f_X0_add_52 rfl rfl ?_
              refine V_istore (q := 80) (lv' := [(0, _), (1, _), (2, _), (3, _), (4, _), (5, _), (6, _)]) dX0_add_78 (by decide) rfl rfl ?_
              refine V_aload_n (q := 81) dX0_add_80 0 rfl rfl ?_
              refine V_get (q := 84) dX0_add_81 hin_X0_add 0 rfl rfl 0 (by decide) f_X0_add_9 rfl rfl ?_
              refine V_iload (q := 86) dX0_add_84 6 rfl rfl ?_
              refine V_iload_n (q := 87) dX0_add_86 1 rfl rfl ?_
              refine V_iast (q := 88) (ws' := wkc a c (uK (S) (fu (sK S) (sN S) k.toNat)) g) dX0_add_87 1 0 rfl rfl (sN S) (rfl) (by omega) (by decide) (by (rw [iF_upd k.toNat (by omega), wk1]) <;> rfl) rfl ?_
              refine V_aload_n (q := 89) dX0_add_88 0 rfl rfl ?_
              refine V_get (q := 92) dX0_add_89 hin_X0_add 0 rfl rfl 1 (by decide) f_X0_add_13 rfl rfl ?_
              refine V_iload (q := 94) dX0_add_92 6 rfl rfl ?_
              refine V_iload_n (q := 95) dX0_add_94 2 rfl rfl ?_
              refine V_iast (q := 96) (ws' := wkc a c (uC (uK (S) (fu (sK S) (sN S) k.toNat)) (fu (sC S) (sN S) d.toNat)) g) dX0_add_95 2 1 rfl rfl (sN S) (rfl) (by omega) (by decide) (by (rw [iF_upd d.toNat (by omega), wk2]) <;> rfl) rfl ?_
              refine V_aload_n (q := 97) dX0_add_96 0 rfl rfl ?_
              refine V_get (q := 100) dX0_add_97 hin_X0_add 0 rfl rfl 2 (by decide) f_X0_add_16 rfl rfl ?_
              refine V_iload (q := 102) dX0_add_100 6 rfl rfl ?_
              refine V_iload_n (q := 103) dX0_add_102 3 rfl rfl ?_
              refine V_iast (q := 104) (ws' := wkc a c (uW (uC (uK (S) (fu (sK S) (sN S) k.toNat)) (fu (sC S) (sN S) d.toNat)) (fu (sW S) (sN S) w.toNat)) g) dX0_add_103 3 2 rfl rfl (sN S) (rfl) (by omega) (by decide) (by (rw [iF_upd w.toNat (by omega), wk3]) <;> rfl) rfl ?_
              refine V_aload_n (q := 105) dX0_add_104 0 rfl rfl ?_
              refine V_get (q := 108) dX0_add_105 hin_X0_add 0 rfl rfl 3 (by decide) f_X0_add_19 rfl rfl ?_
              refine V_iload (q := 110) dX0_add_108 6 rfl rfl ?_
              refine V_iload (q := 112) dX0_add_110 4 rfl rfl ?_
              refine V_iast (q := 113) (ws' := wkc a c (uM (uW (uC (uK (S) (fu (sK S) (sN S) k.toNat)) (fu (sC S) (sN S) d.toNat)) (fu (sW S) (sN S) w.toNat)) (fu (sM S) (sN S) m.toNat)) g) dX0_add_112 4 3 rfl rfl (sN S) (rfl) (by omega) (by decide) (by (rw [iF_upd m.toNat (by omega), wk4]) <;> rfl) rfl ?_
              refine V_aload_n (q := 114) dX0_add_113 0 rfl rfl ?_
              refine V_get (q := 117) dX0_add_114 hin_X0_add 0 rfl rfl 4 (by decide) f_X0_add_22 rfl rfl ?_
              refine V_iload (q := 119) dX0_add_117 6 rfl rfl ?_
              refine V_iload (q := 121) dX0_add_119 5 rfl rfl ?_
              refine V_iast (q := 122) (ws' := wkc a c (uR (uM (uW (uC (uK (S) (fu (sK S) (sN S) k.toNat)) (fu (sC S) (sN S) d.toNat)) (fu (sW S) (sN S) w.toNat)) (fu (sM S) (sN S) m.toNat)) (fu (sR S) (sN S) r.toNat)) g) dX0_add_121 5 4 rfl rfl (sN S) (rfl) (by omega) (by decide) (by (rw [iF_upd r.toNat (by omega), wk5]) <;> rfl) rfl ?_
              refine V_aload_n (q := 123) dX0_add_122 0 rfl rfl ?_
              refine V_get (q := 126) dX0_add_123 hin_X0_add 0 rfl rfl 5 (by decide) f_X0_add_25 rfl rfl ?_
              refine V_iload (q := 128) dX0_add_126 6 rfl rfl ?_
              refine V_iload (q := 130) dX0_add_128 4 rfl rfl ?_
              refine V_iast (q := 131) (ws' := wkc a c (uL (uR (uM (uW (uC (uK (S) (fu (sK S) (sN S) k.toNat)) (fu (sC S) (sN S) d.toNat)) (fu (sW S) (sN S) w.toNat)) (fu (sM S) (sN S) m.toNat)) (fu (sR S) (sN S) r.toNat)) (fu (sL S) (sN S) m.toNat)) g) dX0_add_130 6 5 rfl rfl (sN S) (rfl) (by omega) (by decide) (by (rw [iF_upd m.toNat (by omega), wk6]) <;> rfl) rfl ?_
              refine V_aload_n (q := 132) dX0_add_131 0 rfl rfl ?_
              refine V_dup (q := 133) dX0_add_132 rfl rfl ?_
              refine V_get (q := 136) dX0_add_133 hin_X0_add 0 rfl rfl 7 (by decide) f_X0_add_61 rfl rfl ?_
              refine V_iconst (q := 137) dX0_add_136 rfl ?_
              refine V_iload (q := 139) dX0_add_137 6 rfl rfl ?_
              refine V_ishl (q := 140) dX0_add_139 rfl ?_
              refine V_ior (q := 141) dX0_add_140 rfl ?_
              refine V_put (q := 144) (ty := .int) (ws' := wkr a c (uL (uR (uM (uW (uC (uK (S) (fu (sK S) (sN S) k.toNat)) (fu (sC S) (sN S) d.toNat)) (fu (sW S) (sN S) w.toNat)) (fu (sM S) (sN S) m.toNat)) (fu (sR S) (sN S) r.toNat)) (fu (sL S) (sN S) m.toNat)) g (iZ (sN S)) (ow (uA S k.toNat d.toNat w.toNat m.toNat r.toNat)) (iZ (sT S)) (clL S)) dX0_add_141 hin_X0_add tyX0 tyX0_ok nmX0 0 rfl rfl 7 (by decide) f_X0_add_61 rfl (by decide +kernel) rfl rfl (Nat.le_of_ble_eq_true rfl) (by rw [← ad_ow (S' := uA S k.toNat d.toNat w.toNat m.toNat r.toNat) ho hn1 rfl rfl]; rfl) rfl ?_
              refine V_aload_n (q := 145) dX0_add_144 0 rfl rfl ?_
              refine V_dup (q := 146) dX0_add_145 rfl rfl ?_
              refine V_get (q := 149) dX0_add_146 hin_X0_add 0 rfl rfl 6 (by decide) f_X0_add_52 rfl rfl ?_
              refine V_iconst (q := 150) dX0_add_149 rfl ?_
              refine V_iadd (q := 151) dX0_add_150 rfl ?_
              refine V_put (q := 154) (ty := .int) (ws' := wkc a c (uA S k.toNat d.toNat w.toNat m.toNat r.toNat) g) dX0_add_151 hin_X0_add tyX0 tyX0_ok nmX0 0 rfl rfl 6 (by decide) f_X0_add_52 rfl (by decide +kernel) rfl rfl (Nat.le_of_ble_eq_true rfl) (by rfl) rfl ?_
              refine V_iload (q := 156) dX0_add_154 6 rfl rfl ?_
              exact V_iretX dX0_add_156 rfl (rfl) (rfl) (rfl)
            · skip
              exact V_throw (text := "12 things were added") (cls := EISE) dX0_add_64 dX0_add_67 dX0_add_68 dX0_add_70 dX0_add_73 (by decide +kernel) xn_ok (by decide +kernel) (by decide +kernel) (by decide +kernel) xf_ISE xg_ISE rfl (by decide +kernel) (by rw [show (cAdd S k d w m r : Nat) = 2 by have e : sN S = 12 := (by omega); simp [cAdd, c6, c13, c23, c34, c42, e]]; rfl) (by decide +kernel) (by decide) (by decide)
          · skip
            exact V_throw (text := "an argument is out of range") (cls := EIAE) dX0_add_45 dX0_add_48 dX0_add_49 dX0_add_51 dX0_add_54 (by decide +kernel) xn_ok (by decide +kernel) (by decide +kernel) (by decide +kernel) xf_IAE xg_IAE rfl (by decide +kernel) (by rw [show (cAdd S k d w m r : Nat) = 1 by simp only [cAdd, inZ, c6]; first | rfl | (simp only [c13]; first | rfl | (simp only [c23]; first | rfl | (simp only [c34]; first | rfl | (simp only [c42]; rfl))))]; rfl) (by decide +kernel) (by decide) (by decide)
theorem hin_X0_giveAway : ∀ w ∈ wsX00, w ∈ wsX0_giveAway := by decide +kernel
theorem f_X0_giveAway_61 : Cond.fieldLink RX0 61 (TX0 7).1 (TX0 7).2.1 (TX0 7).2.2.1 ∈ wsX0_giveAway := by decide +kernel
theorem yv_X0_giveAway : YV yX0_giveAway wsX0_giveAway 1 := ⟨_, _, _, _, rfl, by decide +kernel, by decide⟩
set_option maxRecDepth 100000 in
set_option maxHeartbeats 4000000 in
theorem c_X0_giveAway {a : Nat → Nat} {c : Nat → ClassId} {S : St} {g : Nat → Nat} (ho : Ok S) (x : Int) (rx : -2147483648 ≤ x ∧ x < 2147483648) : CtX yX0_giveAway wsX0_giveAway (rmX 2) (tyk c) [.ref (a 0), .int (iZ x)] (wkc a c S g) (xE [EIOB] (cHas S x)) (iZ (cnt (hasT (gvS S x)) 12 : Nat)) (wkc a c (gvS S x) g) := by
  refine CtX_of (own := RX0) (by decide) rfl rfl (Nat.le_of_ble_eq_true rfl) ?_
  refine V_lvq (lv' := [(0, _), (1, _)]) rfl ?_
  refine V_aload_n (q := 1) dX0_giveAway_0 0 rfl rfl ?_
  refine V_iload_n (q := 2) dX0_giveAway_1 1 rfl rfl ?_
  refine V_callIv (q := 5) dX0_giveAway_2 (c_X0_isThing ho x rx) yv_X0_isThing rfl gX0_giveAway_X0_isThing rfl 0 rfl rfl rfl rfl (Nat.le_of_ble_eq_true rfl) (by decide) ?_
  refine V_if_neB (q := 8) (tgt := 18) dX0_giveAway_5 (by decide) (fun c5 => ?_) (fun c5 => ?_)
  · skip
    refine V_aload_n (q := 19) dX0_giveAway_18 0 rfl rfl ?_
    refine V_dup (q := 20) dX0_giveAway_19 rfl rfl ?_
    refine V_get (q := 23) dX0_giveAway_20 hin_X0_giveAway 0 rfl rfl 7 (by decide) f_X0_giveAway_61 rfl rfl ?_
    refine V_iconst (q := 24) dX0_giveAway_23 rfl ?_
    refine V_iload_n (q := 25) dX0_giveAway_24 1 rfl rfl ?_
    refine V_ishl (q := 26) dX0_giveAway_25 rfl ?_
    refine V_iconst (q := 27) dX0_giveAway_26 rfl ?_
    refine V_ixor (q := 28) dX0_giveAway_27 rfl ?_
    refine V_iand (q := 29) dX0_giveAway_28 rfl ?_
    refine V_put (q := 32) (ty := .int) (ws' := wkc a c (gvS S x) g) dX0_giveAway_29 hin_X0_giveAway tyX0 tyX0_ok nmX0 0 rfl rfl 7 (by decide) f_X0_giveAway_61 rfl (by decide +kernel) rfl rfl (Nat.le_of_ble_eq_true rfl) (gv_own ho c5) rfl ?_
    refine V_aload_n (q := 33) dX0_giveAway_32 0 rfl rfl ?_
    refine V_get (q := 36) dX0_giveAway_33 hin_X0_giveAway 0 rfl rfl 7 (by decide) f_X0_giveAway_61 rfl rfl ?_
    refine V_callIs (q := 39) dX0_giveAway_36 (c_J6_bitCount_0f7a4 (bits (hasT (gvS S x)) 12) (bits_lt _ 12)) yv_J6_bitCount_0f7a4 rfl gX0_giveAway_J6_bitCount_0f7a4 rfl (Nat.le_of_ble_eq_true rfl) (by decide) ?_
    exact V_iretX dX0_giveAway_39 rfl (by rw [pc_bits]) (by rw [show (cHas S x : Nat) = 0 by simp [cHas, c5]]; rfl) (rfl)
  · skip
    exact V_throw (text := "no such thing") (cls := EIOB) dX0_giveAway_8 dX0_giveAway_11 dX0_giveAway_12 dX0_giveAway_14 dX0_giveAway_17 (by decide +kernel) xn_ok (by decide +kernel) (by decide +kernel) (by decide +kernel) xf_IOB xg_IOB rfl (by decide +kernel) (by rw [show (cHas S x : Nat) = 1 by simp [cHas, c5]]; rfl) (by decide +kernel) (by decide) (by decide)
theorem hin_X0_things : ∀ w ∈ wsX00, w ∈ wsX0_things := by decide +kernel
theorem f_X0_things_61 : Cond.fieldLink RX0 61 (TX0 7).1 (TX0 7).2.1 (TX0 7).2.2.1 ∈ wsX0_things := by decide +kernel
theorem yv_X0_things : YV yX0_things wsX0_things 0 := ⟨_, _, _, _, rfl, by decide +kernel, by decide⟩
set_option maxRecDepth 100000 in
set_option maxHeartbeats 4000000 in
theorem c_X0_things {a : Nat → Nat} {c : Nat → ClassId} {S : St} {g : Nat → Nat}  : CtI yX0_things wsX0_things (rmD 1) (tyk c) [.ref (a 0)] (wkc a c S g) (iZ (cnt (hasT S) 12 : Nat)) (wkc a c S g) := by
  refine CtI_of (own := RX0) (by decide) rfl rfl (Nat.le_of_ble_eq_true rfl) ?_
  refine V_lvq (lv' := [(0, _)]) rfl ?_
  refine V_aload_n (q := 1) dX0_things_0 0 rfl rfl ?_
  refine V_get (q := 4) dX0_things_1 hin_X0_things 0 rfl rfl 7 (by decide) f_X0_things_61 rfl rfl ?_
  refine V_callIs (q := 7) dX0_things_4 (c_J6_bitCount_0f7a4 (bits (hasT S) 12) (bits_lt _ 12)) yv_J6_bitCount_0f7a4 rfl gX0_things_J6_bitCount_0f7a4 rfl (Nat.le_of_ble_eq_true rfl) (by decide) ?_
  exact V_iret dX0_things_7 rfl (by rw [pc_bits]) (rfl)
theorem hin_X0_left : ∀ w ∈ wsX00, w ∈ wsX0_left := by decide +kernel
theorem f_X0_left_25 : Cond.fieldLink RX0 25 (TX0 5).1 (TX0 5).2.1 (TX0 5).2.2.1 ∈ wsX0_left := by decide +kernel
theorem yv_X0_left : YV yX0_left wsX0_left 1 := ⟨_, _, _, _, rfl, by decide +kernel, by decide⟩
set_option maxRecDepth 100000 in
set_option maxHeartbeats 4000000 in
theorem c_X0_left {a : Nat → Nat} {c : Nat → ClassId} {S : St} {g : Nat → Nat} (ho : Ok S) (x : Int) (rx : -2147483648 ≤ x ∧ x < 2147483648) : CtX yX0_left wsX0_left (rmX 2) (tyk c) [.ref (a 0), .int (iZ x)] (wkc a c S g) (xE [EIOB] (cHas S x)) (iZ (sL S x.toNat)) (wkc a c S g) := by
  refine CtX_of (own := RX0) (by decide) rfl rfl (Nat.le_of_ble_eq_true rfl) ?_
  refine V_lvq (lv' := [(0, _), (1, _)]) rfl ?_
  refine V_aload_n (q := 1) dX0_left_0 0 rfl rfl ?_
  refine V_iload_n (q := 2) dX0_left_1 1 rfl rfl ?_
  refine V_callIv (q := 5) dX0_left_2 (c_X0_isThing ho x rx) yv_X0_isThing rfl gX0_left_X0_isThing rfl 0 rfl rfl rfl rfl (Nat.le_of_ble_eq_true rfl) (by decide) ?_
  refine V_if_neB (q := 8) (tgt := 18) dX0_left_5 (by decide) (fun c5 => ?_) (fun c5 => ?_)
  · skip
    obtain ⟨x0, x1, x2, x3, x4⟩ := hasZ_lt ho c5
    refine V_aload_n (q := 19) dX0_left_18 0 rfl rfl ?_
    refine V_get (q := 22) dX0_left_19 hin_X0_left 0 rfl rfl 5 (by decide) f_X0_left_25 rfl rfl ?_
    refine V_iload_n (q := 23) dX0_left_22 1 rfl rfl ?_
    refine V_iald (q := 24) dX0_left_23 6 5 rfl rfl (x.toNat) (x2.symm) (x4) (by decide) (rfl) rfl ?_
    exact V_iretX dX0_left_24 rfl (rfl) (by rw [show (cHas S x : Nat) = 0 by simp [cHas, c5]]; rfl) (rfl)
  · skip
    exact V_throw (text := "no such thing") (cls := EIOB) dX0_left_8 dX0_left_11 dX0_left_12 dX0_left_14 dX0_left_17 (by decide +kernel) xn_ok (by decide +kernel) (by decide +kernel) (by decide +kernel) xf_IOB xg_IOB rfl (by decide +kernel) (by rw [show (cHas S x : Nat) = 1 by simp [cHas, c5]]; rfl) (by decide +kernel) (by decide) (by decide)
theorem yv_X0_isPossible : YV yX0_isPossible wsX0_isPossible 3 := ⟨_, _, _, _, rfl, by decide +kernel, by decide⟩
set_option maxRecDepth 100000 in
set_option maxHeartbeats 4000000 in
theorem c_X0_isPossible {a : Nat → Nat} {c : Nat → ClassId} {S : St} {g : Nat → Nat} (ho : Ok S) (t b d : Int) (rt : -2147483648 ≤ t ∧ t < 2147483648) (rb : -2147483648 ≤ b ∧ b < 2147483648) (rd : -2147483648 ≤ d ∧ d < 2147483648) : CtX yX0_isPossible wsX0_isPossible (rmX 6) (tyk c) [.ref (a 0), .int (iZ t), .int (iZ b), .int (iZ d)] (wkc a c S g) (xE [EIOB, EIAE] (wrZ S t b d)) (iZ (bZ (canZ S t b d))) (wkc a c S g) := by
  refine CtX_of (own := RX0) (by decide) rfl rfl (Nat.le_of_ble_eq_true rfl) ?_
  refine V_lvq (lv' := [(0, _), (1, _), (2, _), (3, _)]) rfl ?_
  refine V_aload_n (q := 1) dX0_isPossible_0 0 rfl rfl ?_
  refine V_iload_n (q := 2) dX0_isPossible_1 1 rfl rfl ?_
  refine V_iload_n (q := 3) dX0_isPossible_2 2 rfl rfl ?_
  refine V_iload_n (q := 4) dX0_isPossible_3 3 rfl rfl ?_
  refine V_callIv (q := 7) dX0_isPossible_4 (c_X0_areThings ho t b d rt rb rd) yv_X0_areThings rfl gX0_isPossible_X0_areThings rfl 0 rfl rfl rfl rfl (Nat.le_of_ble_eq_true rfl) (by decide) ?_
  refine V_if_neB (q := 10) (tgt := 20) dX0_isPossible_7 (by decide) (fun c7 => ?_) (fun c7 => ?_)
  · skip
    refine V_aload_n (q := 21) dX0_isPossible_20 0 rfl rfl ?_
    refine V_iload_n (q := 22) dX0_isPossible_21 1 rfl rfl ?_
    refine V_iload_n (q := 23) dX0_isPossible_22 2 rfl rfl ?_
    refine V_iload_n (q := 24) dX0_isPossible_23 3 rfl rfl ?_
    refine V_callIv (q := 27) dX0_isPossible_24 (c_X0_areOfTheirKinds ho t b d rt rb rd) yv_X0_areOfTheirKinds rfl gX0_isPossible_X0_areOfTheirKinds rfl 0 rfl rfl rfl rfl (Nat.le_of_ble_eq_true rfl) (by decide) ?_
    refine V_if_neB (q := 30) (tgt := 40) dX0_isPossible_27 (by decide) (fun c27 => ?_) (fun c27 => ?_)
    · skip
      refine V_aload_n (q := 41) dX0_isPossible_40 0 rfl rfl ?_
      refine V_iload_n (q := 42) dX0_isPossible_41 1 rfl rfl ?_
      refine V_iload_n (q := 43) dX0_isPossible_42 2 rfl rfl ?_
      refine V_iload_n (q := 44) dX0_isPossible_43 3 rfl rfl ?_
      refine V_callIv (q := 47) dX0_isPossible_44 (c_X0_canBeWorn ho t b d rt rb rd) yv_X0_canBeWorn rfl gX0_isPossible_X0_canBeWorn rfl 0 rfl rfl rfl rfl (Nat.le_of_ble_eq_true rfl) (by decide) ?_
      exact V_zretX dX0_isPossible_47 rfl (rfl) (by rw [show (wrZ S t b d : Nat) = 0 by simp only [wrZ, c7]; first | rfl | (simp only [c27]; rfl)]; rfl) (rfl)
    · skip
      exact V_throw (text := "a thing of another kind") (cls := EIAE) dX0_isPossible_30 dX0_isPossible_33 dX0_isPossible_34 dX0_isPossible_36 dX0_isPossible_39 (by decide +kernel) xn_ok (by decide +kernel) (by decide +kernel) (by decide +kernel) xf_IAE xg_IAE rfl (by decide +kernel) (by rw [show (wrZ S t b d : Nat) = 2 by simp only [wrZ, c7]; first | rfl | (simp only [c27]; rfl)]; rfl) (by decide +kernel) (by decide) (by decide)
  · skip
    exact V_throw (text := "no such thing") (cls := EIOB) dX0_isPossible_10 dX0_isPossible_13 dX0_isPossible_14 dX0_isPossible_16 dX0_isPossible_19 (by decide +kernel) xn_ok (by decide +kernel) (by decide +kernel) (by decide +kernel) xf_IOB xg_IOB rfl (by decide +kernel) (by rw [show (wrZ S t b d : Nat) = 1 by simp only [wrZ, c7]; first | rfl | (simp only [c27]; rfl)]; rfl) (by decide +kernel) (by decide) (by decide)
theorem yv_X0_isTooSoon : YV yX0_isTooSoon wsX0_isTooSoon 3 := ⟨_, _, _, _, rfl, by decide +kernel, by decide⟩
set_option maxRecDepth 100000 in
set_option maxHeartbeats 4000000 in
theorem c_X0_isTooSoon {a : Nat → Nat} {c : Nat → ClassId} {S : St} {g : Nat → Nat} (ho : Ok S) (t b p : Int) (rt : -2147483648 ≤ t ∧ t < 2147483648) (rb : -2147483648 ≤ b ∧ b < 2147483648) (rp : -2147483648 ≤ p ∧ p < 2147483648) : CtX yX0_isTooSoon wsX0_isTooSoon (rmX 6) (tyk c) [.ref (a 0), .int (iZ t), .int (iZ b), .int (iZ p)] (wkc a c S g) (xE [EIOB, EIAE] (cSoon S t b p)) (iZ (bZ (seenZ S t b p.toNat))) (wkc a c S g) := by
  refine CtX_of (own := RX0) (by decide) rfl rfl (Nat.le_of_ble_eq_true rfl) ?_
  refine V_lvq (lv' := [(0, _), (1, _), (2, _), (3, _)]) rfl ?_
  refine V_aload_n (q := 1) dX0_isTooSoon_0 0 rfl rfl ?_
  refine V_iload_n (q := 2) dX0_isTooSoon_1 1 rfl rfl ?_
  refine V_iload_n (q := 3) dX0_isTooSoon_2 2 rfl rfl ?_
  refine V_iconst (q := 4) dX0_isTooSoon_3 rfl ?_
  refine V_callIv (q := 7) dX0_isTooSoon_4 (c_X0_areThings ho t b (-1) rt rb (by decide)) yv_X0_areThings rfl gX0_isTooSoon_X0_areThings rfl 0 rfl rfl rfl rfl (Nat.le_of_ble_eq_true rfl) (by decide) ?_
  rw [show (hasZ S t && hasZ S b && (decide ((-1 : Int) = -1) || hasZ S (-1))) = (hasZ S t && hasZ S b) by simp]
  refine V_if_neB (q := 10) (tgt := 20) dX0_isTooSoon_7 (by decide) (fun c7 => ?_) (fun c7 => ?_)
  · skip
    refine V_aload_n (q := 21) dX0_isTooSoon_20 0 rfl rfl ?_
    refine V_iload_n (q := 22) dX0_isTooSoon_21 1 rfl rfl ?_
    refine V_iload_n (q := 23) dX0_isTooSoon_22 2 rfl rfl ?_
    refine V_iconst (q := 24) dX0_isTooSoon_23 rfl ?_
    refine V_callIv (q := 27) dX0_isTooSoon_24 (c_X0_areOfTheirKinds ho t b (-1) rt rb (by decide)) yv_X0_areOfTheirKinds rfl gX0_isTooSoon_X0_areOfTheirKinds rfl 0 rfl rfl rfl rfl (Nat.le_of_ble_eq_true rfl) (by decide) ?_
    rw [show (kdZ S t 0 && kdZ S b 1 && (decide ((-1 : Int) = -1) || kdZ S (-1) 2)) = (kdZ S t 0 && kdZ S b 1) by simp]
    refine V_if_eqB (q := 30) (tgt := 37) dX0_isTooSoon_27 (by decide) (fun c27 => ?_) (fun c27 => ?_)
    · skip
      exact V_throw (text := "a thing of another kind, or people out of range") (cls := EIAE) dX0_isTooSoon_37 dX0_isTooSoon_40 dX0_isTooSoon_41 dX0_isTooSoon_43 dX0_isTooSoon_46 (by decide +kernel) xn_ok (by decide +kernel) (by decide +kernel) (by decide +kernel) xf_IAE xg_IAE rfl (by decide +kernel) (by rw [show (cSoon S t b p : Nat) = 2 by simp only [cSoon, wrZ_m1, c7]; first | rfl | (simp only [c27]; first | rfl | (simp only [inZ, c34]; rfl))]; rfl) (by decide +kernel) (by decide) (by decide)
    · skip
      refine V_iload_n (q := 31) dX0_isTooSoon_30 3 rfl rfl ?_
      refine V_callIs (q := 34) dX0_isTooSoon_31 (c_X0_arePeople p rp) yv_X0_arePeople rfl gX0_isTooSoon_X0_arePeople rfl (Nat.le_of_ble_eq_true rfl) (by decide) ?_
      refine V_if_neB (q := 37) (tgt := 47) dX0_isTooSoon_34 (by decide) (fun c34 => ?_) (fun c34 => ?_)
      · skip
        have b1 : 0 ≤ p ∧ p ≤ 255 := by simpa using c34
        rw [show (iZ p : Int32) = iZ ((p.toNat : Nat) : Int) by rw [Int.toNat_of_nonneg b1.1]]
        refine V_aload_n (q := 48) dX0_isTooSoon_47 0 rfl rfl ?_
        refine V_iload_n (q := 49) dX0_isTooSoon_48 1 rfl rfl ?_
        refine V_iload_n (q := 50) dX0_isTooSoon_49 2 rfl rfl ?_
        refine V_iload_n (q := 51) dX0_isTooSoon_50 3 rfl rfl ?_
        refine V_callIv (q := 54) dX0_isTooSoon_51 (c_X0_wasSeenLately ho t b p.toNat rt rb (by omega)) yv_X0_wasSeenLately rfl gX0_isTooSoon_X0_wasSeenLately rfl 0 rfl rfl rfl rfl (Nat.le_of_ble_eq_true rfl) (by decide) ?_
        exact V_zretX dX0_isTooSoon_54 rfl (rfl) (by rw [show (cSoon S t b p : Nat) = 0 by simp only [cSoon, wrZ_m1, c7]; first | rfl | (simp only [c27]; first | rfl | (simp only [inZ, c34]; rfl))]; rfl) (rfl)
      · skip
        exact V_throw (text := "a thing of another kind, or people out of range") (cls := EIAE) dX0_isTooSoon_37 dX0_isTooSoon_40 dX0_isTooSoon_41 dX0_isTooSoon_43 dX0_isTooSoon_46 (by decide +kernel) xn_ok (by decide +kernel) (by decide +kernel) (by decide +kernel) xf_IAE xg_IAE rfl (by decide +kernel) (by rw [show (cSoon S t b p : Nat) = 2 by simp only [cSoon, wrZ_m1, c7]; first | rfl | (simp only [c27]; first | rfl | (simp only [inZ, c34]; rfl))]; rfl) (by decide +kernel) (by decide) (by decide)
  · skip
    exact V_throw (text := "no such thing") (cls := EIOB) dX0_isTooSoon_10 dX0_isTooSoon_13 dX0_isTooSoon_14 dX0_isTooSoon_16 dX0_isTooSoon_19 (by decide +kernel) xn_ok (by decide +kernel) (by decide +kernel) (by decide +kernel) xf_IOB xg_IOB rfl (by decide +kernel) (by rw [show (cSoon S t b p : Nat) = 1 by simp only [cSoon, wrZ_m1, c7]; first | rfl | (simp only [c27]; first | rfl | (simp only [inZ, c34]; rfl))]; rfl) (by decide +kernel) (by decide) (by decide)
theorem wo_ok {S : St} (ho : Ok S) (x : Int) : Ok (wo S x) := by
  unfold wo
  by_cases h : 0 < lftZ S x
  · rw [if_pos h]
    obtain ⟨h1, h2, h3, h4, h5, h6, h7, h8, h9, h10, h11⟩ := ho
    refine ⟨h1, h2, h3, h4, h5, h6, h7, fun j => ?_, h9, h10, h11⟩
    show fu (sL S) x.toNat (sL S x.toNat - 1) j ≤ sM S j
    have := h8 j
    unfold fu
    split
    · next e => subst e; omega
    · exact this
  · rw [if_neg h]; exact ho
theorem shw_ok {S : St} (ho : Ok S) (t b : Int) (p : Nat) : Ok (shw S t b p) := by
  unfold shw
  split
  · obtain ⟨h1, h2, h3, h4, h5, h6, h7, h8, h9, h10, h11⟩ := ho
    refine ⟨h1, h2, h3, h4, h5, h6, h7, h8, fun i => ?_, h10, h11⟩
    show shE S t b p 8 i ≤ sT S + 1
    unfold shE
    split
    · exact Nat.le_refl _
    · exact h9 i
  · exact ho
theorem owZ_cong {S S' : St} (h1 : sN S' = sN S) (h2 : sG S' = sG S) (h3 : sW S' = sW S) (t b d : Int) : owZ S' t b d = owZ S t b d := by
  unfold owZ wrmZ hasZ hasT
  rw [h1, h2, h3]
theorem wo_same (S : St) (x : Int) : sN (wo S x) = sN S ∧ sG (wo S x) = sG S ∧ sW (wo S x) = sW S := by
  unfold wo
  split <;> exact ⟨rfl, rfl, rfl⟩
theorem shw_same (S : St) (t b : Int) (p : Nat) : sN (shw S t b p) = sN S ∧ sG (shw S t b p) = sG S ∧ sW (shw S t b p) = sW S := by
  unfold shw
  split <;> exact ⟨rfl, rfl, rfl⟩
theorem owZ_wrS (S : St) (t b d : Int) (p : Nat) : owZ (wrS S t b d p) t b d = owZ S t b d := by
  unfold wrS
  obtain ⟨a1, a2, a3⟩ := shw_same (wo (wo (wo S t) b) d) t b p
  obtain ⟨b1, b2, b3⟩ := wo_same (wo (wo S t) b) d
  obtain ⟨c1, c2, c3⟩ := wo_same (wo S t) b
  obtain ⟨d1, d2, d3⟩ := wo_same S t
  rw [owZ_cong a1 a2 a3, owZ_cong b1 b2 b3, owZ_cong c1 c2 c3, owZ_cong d1 d2 d3]
theorem yv_X0_wear : YV yX0_wear wsX0_wear 4 := ⟨_, _, _, _, rfl, by decide +kernel, by decide⟩
set_option maxRecDepth 100000 in
set_option maxHeartbeats 4000000 in
theorem c_X0_wear {a : Nat → Nat} {c : Nat → ClassId} {S : St} {g : Nat → Nat} (ho : Ok S) (t b d p : Int) (rt : -2147483648 ≤ t ∧ t < 2147483648) (rb : -2147483648 ≤ b ∧ b < 2147483648) (rd : -2147483648 ≤ d ∧ d < 2147483648) (rp : -2147483648 ≤ p ∧ p < 2147483648) : CtX yX0_wear wsX0_wear (rmX 6) (tyk c) [.ref (a 0), .int (iZ t), .int (iZ b), .int (iZ d), .int (iZ p)] (wkc a c S g) (xE [EIOB, EIAE, EISE] (cWear S t b d p)) (iZ (owZ S t b d)) (wkc a c (wrS S t b d p.toNat) g) := by
  refine CtX_of (own := RX0) (by decide) rfl rfl (Nat.le_of_ble_eq_true rfl) ?_
  refine V_lvq (lv' := [(0, _), (1, _), (2, _), (3, _), (4, _)]) rfl ?_
  refine V_aload_n (q := 1) dX0_wear_0 0 rfl rfl ?_
  refine V_iload_n (q := 2) dX0_wear_1 1 rfl rfl ?_
  refine V_iload_n (q := 3) dX0_wear_2 2 rfl rfl ?_
  refine V_iload_n (q := 4) dX0_wear_3 3 rfl rfl ?_
  refine V_callIv (q := 7) dX0_wear_4 (c_X0_areThings ho t b d rt rb rd) yv_X0_areThings rfl gX0_wear_X0_areThings rfl 0 rfl rfl rfl rfl (Nat.le_of_ble_eq_true rfl) (by decide) ?_
  refine V_if_neB (q := 10) (tgt := 20) dX0_wear_7 (by decide) (fun c7 => ?_) (fun c7 => ?_)
  · skip
    refine V_aload_n (q := 21) dX0_wear_20 0 rfl rfl ?_
    refine V_iload_n (q := 22) dX0_wear_21 1 rfl rfl ?_
    refine V_iload_n (q := 23) dX0_wear_22 2 rfl rfl ?_
    refine V_iload_n (q := 24) dX0_wear_23 3 rfl rfl ?_
    refine V_callIv (q := 27) dX0_wear_24 (c_X0_areOfTheirKinds ho t b d rt rb rd) yv_X0_areOfTheirKinds rfl gX0_wear_X0_areOfTheirKinds rfl 0 rfl rfl rfl rfl (Nat.le_of_ble_eq_true rfl) (by decide) ?_
    refine V_if_eqB (q := 30) (tgt := 38) dX0_wear_27 (by decide) (fun c27 => ?_) (fun c27 => ?_)
    · skip
      exact V_throw (text := "a thing of another kind, or people out of range") (cls := EIAE) dX0_wear_38 dX0_wear_41 dX0_wear_42 dX0_wear_44 dX0_wear_47 (by decide +kernel) xn_ok (by decide +kernel) (by decide +kernel) (by decide +kernel) xf_IAE xg_IAE rfl (by decide +kernel) (by rw [show (cWear S t b d p : Nat) = 2 by simp only [cWear, wrZ, c7]; first | rfl | (simp only [c27]; first | rfl | (simp only [inZ, c35]; first | rfl | (simp only [c55]; first | rfl | (simp only [c66]; rfl))))]; rfl) (by decide +kernel) (by decide) (by decide)
    · skip
      refine V_iload (q := 32) dX0_wear_30 4 rfl rfl ?_
      refine V_callIs (q := 35) dX0_wear_32 (c_X0_arePeople p rp) yv_X0_arePeople rfl gX0_wear_X0_arePeople rfl (Nat.le_of_ble_eq_true rfl) (by decide) ?_
      refine V_if_neB (q := 38) (tgt := 48) dX0_wear_35 (by decide) (fun c35 => ?_) (fun c35 => ?_)
      · skip
        have b1 : 0 ≤ p ∧ p ≤ 255 := by simpa using c35
        refine V_aload_n (q := 49) dX0_wear_48 0 rfl rfl ?_
        refine V_iload_n (q := 50) dX0_wear_49 1 rfl rfl ?_
        refine V_iload_n (q := 51) dX0_wear_50 2 rfl rfl ?_
        refine V_iload_n (q := 52) dX0_wear_51 3 rfl rfl ?_
        refine V_callIv (q := 55) dX0_wear_52 (c_X0_canBeWorn ho t b d rt rb rd) yv_X0_canBeWorn rfl gX0_wear_X0_canBeWorn rfl 0 rfl rfl rfl rfl (Nat.le_of_ble_eq_true rfl) (by decide) ?_
        refine V_if_eqB (q := 58) (tgt := 69) dX0_wear_55 (by decide) (fun c55 => ?_) (fun c55 => ?_)
        · skip
          exact V_throw (text := "the outfit is not possible, or too soon") (cls := EISE) dX0_wear_69 dX0_wear_72 dX0_wear_73 dX0_wear_75 dX0_wear_78 (by decide +kernel) xn_ok (by decide +kernel) (by decide +kernel) (by decide +kernel) xf_ISE xg_ISE rfl (by decide +kernel) (by rw [show (cWear S t b d p : Nat) = 3 by simp only [cWear, wrZ, c7]; first | rfl | (simp only [c27]; first | rfl | (simp only [inZ, c35]; first | rfl | (simp only [c55]; first | rfl | (simp only [c66]; rfl))))]; rfl) (by decide +kernel) (by decide) (by decide)
        · skip
          refine V_aload_n (q := 59) dX0_wear_58 0 rfl rfl ?_
          refine V_iload_n (q := 60) dX0_wear_59 1 rfl rfl ?_
          refine V_iload_n (q := 61) dX0_wear_60 2 rfl rfl ?_
          refine V_iload (q := 63) dX0_wear_61 4 rfl rfl ?_
          rw [show (iZ p : Int32) = iZ ((p.toNat : Nat) : Int) by rw [Int.toNat_of_nonneg b1.1]]
          refine V_callIv (q := 66) dX0_wear_63 (c_X0_wasSeenLately ho t b p.toNat rt rb (by omega)) yv_X0_wasSeenLately rfl gX0_wear_X0_wasSeenLately rfl 0 rfl rfl rfl rfl (Nat.le_of_ble_eq_true rfl) (by decide) ?_
          refine V_if_eqB (q := 69) (tgt := 79) dX0_wear_66 (by decide) (fun c66 => ?_) (fun c66 => ?_)
          · skip
            have ec : cWear S t b d p = 0 := by simp only [cWear, wrZ, c7, c27, inZ, c35, c55, c66]; rfl
            rw [ec]
            have o1 := wo_ok ho t
            have o2 := wo_ok o1 b
            have o3 := wo_ok o2 d
            refine V_aload_n (q := 80) dX0_wear_79 0 rfl rfl ?_
            refine V_iload_n (q := 81) dX0_wear_80 1 rfl rfl ?_
            refine V_callVv (q := 84) dX0_wear_81 (c_X0_wearOnce ho t rt) yv_X0_wearOnce rfl gX0_wear_X0_wearOnce rfl 0 rfl rfl rfl rfl (Nat.le_of_ble_eq_true rfl) (by decide) ?_
            refine V_aload_n (q := 85) dX0_wear_84 0 rfl rfl ?_
            refine V_iload_n (q := 86) dX0_wear_85 2 rfl rfl ?_
            refine V_callVv (q := 89) dX0_wear_86 (c_X0_wearOnce o1 b rb) yv_X0_wearOnce rfl gX0_wear_X0_wearOnce rfl 0 rfl rfl rfl rfl (Nat.le_of_ble_eq_true rfl) (by decide) ?_
            refine V_aload_n (q := 90) dX0_wear_89 0 rfl rfl ?_
            refine V_iload_n (q := 91) dX0_wear_90 3 rfl rfl ?_
            refine V_callVv (q := 94) dX0_wear_91 (c_X0_wearOnce o2 d rd) yv_X0_wearOnce rfl gX0_wear_X0_wearOnce rfl 0 rfl rfl rfl rfl (Nat.le_of_ble_eq_true rfl) (by decide) ?_
            refine V_aload_n (q := 95) dX0_wear_94 0 rfl rfl ?_
            refine V_iload_n (q := 96) dX0_wear_95 1 rfl rfl ?_
            refine V_iload_n (q := 97) dX0_wear_96 2 rfl rfl ?_
            refine V_iload (q := 99) dX0_wear_97 4 rfl rfl ?_
            refine V_callVv (q := 102) dX0_wear_99 (c_X0_showTo o3 t b p.toNat rt rb (by omega)) yv_X0_showTo rfl gX0_wear_X0_showTo rfl 0 rfl rfl rfl rfl (Nat.le_of_ble_eq_true rfl) (by decide) ?_
            refine V_aload_n (q := 103) dX0_wear_102 0 rfl rfl ?_
            refine V_iload_n (q := 104) dX0_wear_103 1 rfl rfl ?_
            refine V_iload_n (q := 105) dX0_wear_104 2 rfl rfl ?_
            refine V_iload_n (q := 106) dX0_wear_105 3 rfl rfl ?_
            refine V_callIv (q := 109) dX0_wear_106 (c_X0_outfitWarmth (S := wrS S t b d p.toNat) (shw_ok o3 t b p.toNat) t b d rt rb rd) yv_X0_outfitWarmth rfl gX0_wear_X0_outfitWarmth rfl 0 rfl rfl rfl rfl (Nat.le_of_ble_eq_true rfl) (by decide) ?_
            exact V_iretX dX0_wear_109 rfl (by rw [owZ_wrS]) (rfl) (rfl)
          · skip
            exact V_throw (text := "the outfit is not possible, or too soon") (cls := EISE) dX0_wear_69 dX0_wear_72 dX0_wear_73 dX0_wear_75 dX0_wear_78 (by decide +kernel) xn_ok (by decide +kernel) (by decide +kernel) (by decide +kernel) xf_ISE xg_ISE rfl (by decide +kernel) (by rw [show (cWear S t b d p : Nat) = 3 by simp only [cWear, wrZ, c7]; first | rfl | (simp only [c27]; first | rfl | (simp only [inZ, c35]; first | rfl | (simp only [c55]; first | rfl | (simp only [c66]; rfl))))]; rfl) (by decide +kernel) (by decide) (by decide)
      · skip
        exact V_throw (text := "a thing of another kind, or people out of range") (cls := EIAE) dX0_wear_38 dX0_wear_41 dX0_wear_42 dX0_wear_44 dX0_wear_47 (by decide +kernel) xn_ok (by decide +kernel) (by decide +kernel) (by decide +kernel) xf_IAE xg_IAE rfl (by decide +kernel) (by rw [show (cWear S t b d p : Nat) = 2 by simp only [cWear, wrZ, c7]; first | rfl | (simp only [c27]; first | rfl | (simp only [inZ, c35]; first | rfl | (simp only [c55]; first | rfl | (simp only [c66]; rfl))))]; rfl) (by decide +kernel) (by decide) (by decide)
  · skip
    exact V_throw (text := "no such thing") (cls := EIOB) dX0_wear_10 dX0_wear_13 dX0_wear_14 dX0_wear_16 dX0_wear_19 (by decide +kernel) xn_ok (by decide +kernel) (by decide +kernel) (by decide +kernel) xf_IOB xg_IOB rfl (by decide +kernel) (by rw [show (cWear S t b d p : Nat) = 1 by simp only [cWear, wrZ, c7]; first | rfl | (simp only [c27]; first | rfl | (simp only [inZ, c35]; first | rfl | (simp only [c55]; first | rfl | (simp only [c66]; rfl))))]; rfl) (by decide +kernel) (by decide) (by decide)
theorem lN_xm (b : Nat) : lN b ^^^ (-1) = lN (b ^^^ 18446744073709551615) := by
  apply Int64.toBitVec.inj
  show (BitVec.ofNat 64 b) ^^^ (BitVec.ofNat 64 18446744073709551615) = BitVec.ofNat 64 (b ^^^ 18446744073709551615)
  exact (BitVec.ofNat_xor ..).symm
theorem cl_or {S S' : St} {i j : Nat} (hi : i < 64) (hj : j < 64) (h : ∀ q, q < 64 → sX S' q = if q = i ∨ q = j then true else sX S q) : clL S ||| (lN (2 ^ i) ||| lN (2 ^ j)) = clL S' := by
  unfold clL
  rw [lN_or, lN_or]
  congr 1
  apply Nat.eq_of_testBit_eq
  intro q
  rw [Nat.testBit_or, Nat.testBit_or, bits_tb, bits_tb, Nat.testBit_two_pow, Nat.testBit_two_pow]
  by_cases hq : q < 64
  · rw [h q hq]
    by_cases e1 : q = i
    · subst e1; simp [hi]
    · by_cases e2 : q = j
      · subst e2; simp [hj]
      · have e3 : ¬ i = q := fun z => e1 z.symm
        have e4 : ¬ j = q := fun z => e2 z.symm
        simp [e1, e2, e3, e4]
  · have e1 : ¬ i = q := by omega
    have e2 : ¬ j = q := by omega
    simp [hq, e1, e2]
theorem cl_an {S S' : St} {i j : Nat} (hi : i < 64) (hj : j < 64) (h : ∀ q, q < 64 → sX S' q = if q = i ∨ q = j then false else sX S q) : clL S &&& ((lN (2 ^ i) ||| lN (2 ^ j)) ^^^ (-1)) = clL S' := by
  unfold clL
  rw [lN_or, lN_xm, lN_and]
  congr 1
  apply Nat.eq_of_testBit_eq
  intro q
  rw [Nat.testBit_and, Nat.testBit_xor, Nat.testBit_or, bits_tb, bits_tb, Nat.testBit_two_pow, Nat.testBit_two_pow, show (18446744073709551615 : Nat) = 2 ^ 64 - 1 from rfl, Nat.testBit_two_pow_sub_one]
  by_cases hq : q < 64
  · rw [h q hq]
    by_cases e1 : q = i
    · subst e1; simp [hi]
    · by_cases e2 : q = j
      · subst e2; simp [hj]
      · have e3 : ¬ i = q := fun z => e1 z.symm
        have e4 : ¬ j = q := fun z => e2 z.symm
        simp [e1, e2, e3, e4, hq]
  · simp [hq]
theorem hin_X0_setClash : ∀ w ∈ wsX00, w ∈ wsX0_setClash := by decide +kernel
theorem f_X0_setClash_88 : Cond.fieldLink RX0 88 (TX0 9).1 (TX0 9).2.1 (TX0 9).2.2.1 ∈ wsX0_setClash := by decide +kernel
theorem yv_X0_setClash : YV yX0_setClash wsX0_setClash 3 := ⟨_, _, _, _, rfl, by decide +kernel, by decide⟩
set_option maxRecDepth 100000 in
set_option maxHeartbeats 4000000 in
theorem c_X0_setClash {a : Nat → Nat} {c : Nat → ClassId} {S : St} {g : Nat → Nat} (ho : Ok S) (x' y' : Int) (v : Bool) (rx : -2147483648 ≤ x' ∧ x' < 2147483648) (ry : -2147483648 ≤ y' ∧ y' < 2147483648) : CtX yX0_setClash wsX0_setClash (rmX 2) (tyk c) [.ref (a 0), .int (iZ x'), .int (iZ y'), .int (iZ (bZ v))] (wkc a c S g) (xE [EIAE] (cClash x' y')) (iZ (bZ (sX S (8 * x'.toNat + y'.toNat)))) (wkc a c (clS S x' y' v) g) := by
  refine CtX_of (own := RX0) (by decide) rfl rfl (Nat.le_of_ble_eq_true rfl) ?_
  refine V_lvq (lv' := [(0, _), (1, _), (2, _), (3, _)]) rfl ?_
  refine V_iload_n (q := 1) dX0_setClash_0 1 rfl rfl ?_
  refine V_callIs (q := 4) dX0_setClash_1 (c_X0_isColour x' rx) yv_X0_isColour rfl gX0_setClash_X0_isColour rfl (Nat.le_of_ble_eq_true rfl) (by decide) ?_
  refine V_if_eqB (q := 7) (tgt := 14) dX0_setClash_4 (by decide) (fun c4 => ?_) (fun c4 => ?_)
  · skip
    exact V_throw (text := "a colour is out of range") (cls := EIAE) dX0_setClash_14 dX0_setClash_17 dX0_setClash_18 dX0_setClash_20 dX0_setClash_23 (by decide +kernel) xn_ok (by decide +kernel) (by decide +kernel) (by decide +kernel) xf_IAE xg_IAE rfl (by decide +kernel) (by rw [show (cClash x' y' : Nat) = 1 by simp only [cClash, inZ, c4]; first | rfl | (simp only [c11]; rfl)]; rfl) (by decide +kernel) (by decide) (by decide)
  · skip
    refine V_iload_n (q := 8) dX0_setClash_7 2 rfl rfl ?_
    refine V_callIs (q := 11) dX0_setClash_8 (c_X0_isColour y' ry) yv_X0_isColour rfl gX0_setClash_X0_isColour rfl (Nat.le_of_ble_eq_true rfl) (by decide) ?_
    refine V_if_neB (q := 14) (tgt := 24) dX0_setClash_11 (by decide) (fun c11 => ?_) (fun c11 => ?_)
    · skip
      have b1 : 0 ≤ x' ∧ x' ≤ 7 := by simpa using c4
      have b2 : 0 ≤ y' ∧ y' ≤ 7 := by simpa using c11
      have ec : cClash x' y' = 0 := by simp only [cClash, inZ, c4, c11]; rfl
      rw [ec]
      obtain ⟨x, hx⟩ : ∃ x : Nat, x' = (x : Int) := ⟨x'.toNat, by omega⟩
      obtain ⟨y, hy⟩ : ∃ y : Nat, y' = (y : Int) := ⟨y'.toNat, by omega⟩
      subst hx
      subst hy
      rw [show ((x : Int)).toNat = x from Int.toNat_natCast x, show ((y : Int)).toNat = y from Int.toNat_natCast y]
      refine V_aload_n (q := 25) dX0_setClash_24 0 rfl rfl ?_
      refine V_iload_n (q := 26) dX0_setClash_25 1 rfl rfl ?_
      refine V_iload_n (q := 27) dX0_setClash_26 2 rfl rfl ?_
      refine V_callIv (q := 30) dX0_setClash_27 (c_X0_coloursClash x y (by omega) (by omega)) yv_X0_coloursClash rfl gX0_setClash_X0_coloursClash rfl 0 rfl rfl rfl rfl (Nat.le_of_ble_eq_true rfl) (by decide) ?_
      refine V_istore (q := 32) (lv' := [(0, _), (1, _), (2, _), (3, _), (4, _)]) dX0_setClash_30 (by decide) rfl rfl ?_
      refine V_iload_n (q := 33) dX0_setClash_32 1 rfl rfl ?_
      refine V_iload_n (q := 34) dX0_setClash_33 2 rfl rfl ?_
      refine V_callLs (q := 37) dX0_setClash_34 (c_X0_clashBit x y (by omega) (by omega)) yv_X0_clashBit rfl gX0_setClash_X0_clashBit rfl (Nat.le_of_ble_eq_true rfl) (by decide) ?_
      refine V_iload_n (q := 38) dX0_setClash_37 2 rfl rfl ?_
      refine V_iload_n (q := 39) dX0_setClash_38 1 rfl rfl ?_
      refine V_callLs (q := 42) dX0_setClash_39 (c_X0_clashBit y x (by omega) (by omega)) yv_X0_clashBit rfl gX0_setClash_X0_clashBit rfl (Nat.le_of_ble_eq_true rfl) (by decide) ?_
      refine V_lor (q := 43) dX0_setClash_42 rfl ?_
      refine V_lstore (q := 45) (lv' := [(0, _), (1, _), (2, _), (3, _), (4, _), (5, _)]) dX0_setClash_43 (by decide) rfl rfl ?_
      refine V_aload_n (q := 46) dX0_setClash_45 0 rfl rfl ?_
      refine V_cutL (M := 71) (clL (clS S x y v)) ?_ (fun k71 => ?_)
      · -- from the merge
        refine V_put (q := 74) (ty := .long) (ws' := wkc a c (clS S x y v) g) dX0_setClash_71 hin_X0_setClash tyX0 tyX0_ok nmX0 0 rfl rfl 9 (by decide) f_X0_setClash_88 rfl (by decide +kernel) rfl rfl (Nat.le_of_ble_eq_true rfl) (wkX _) rfl ?_
        refine V_iload (q := 76) dX0_setClash_74 4 rfl rfl ?_
        exact V_zretX dX0_setClash_76 rfl (rfl) (rfl) (rfl)
      · -- the ways to it
        refine V_iload_n (q := 47) dX0_setClash_46 3 rfl rfl ?_
        refine V_if_eqB (q := 50) (tgt := 60) dX0_setClash_47 (by decide) (fun c47 => ?_) (fun c47 => ?_)
        · skip
          refine V_aload_n (q := 61) dX0_setClash_60 0 rfl rfl ?_
          refine V_get (q := 64) dX0_setClash_61 hin_X0_setClash 0 rfl rfl 9 (by decide) f_X0_setClash_88 rfl rfl ?_
          refine V_lload (q := 66) dX0_setClash_64 5 rfl rfl ?_
          refine V_ldc2 (q := 69) (v := -1) dX0_setClash_66 (by decide +kernel) rfl ?_
          refine V_lxor (q := 70) dX0_setClash_69 rfl ?_
          refine V_land (q := 71) dX0_setClash_70 rfl ?_
          exact k71 _ (by subst c47; first | exact cl_or (S' := clS S x y true) (by omega) (by omega) (fun q _ => rfl) | exact cl_an (S' := clS S x y false) (by omega) (by omega) (fun q _ => rfl))
        · skip
          refine V_aload_n (q := 51) dX0_setClash_50 0 rfl rfl ?_
          refine V_get (q := 54) dX0_setClash_51 hin_X0_setClash 0 rfl rfl 9 (by decide) f_X0_setClash_88 rfl rfl ?_
          refine V_lload (q := 56) dX0_setClash_54 5 rfl rfl ?_
          refine V_lor (q := 57) dX0_setClash_56 rfl ?_
          refine V_goto (tgt := 71) dX0_setClash_57 (by decide) ?_
          exact k71 _ (by subst c47; first | exact cl_or (S' := clS S x y true) (by omega) (by omega) (fun q _ => rfl) | exact cl_an (S' := clS S x y false) (by omega) (by omega) (fun q _ => rfl))
    · skip
      exact V_throw (text := "a colour is out of range") (cls := EIAE) dX0_setClash_14 dX0_setClash_17 dX0_setClash_18 dX0_setClash_20 dX0_setClash_23 (by decide +kernel) xn_ok (by decide +kernel) (by decide +kernel) (by decide +kernel) xf_IAE xg_IAE rfl (by decide +kernel) (by rw [show (cClash x' y' : Nat) = 1 by simp only [cClash, inZ, c4]; first | rfl | (simp only [c11]; rfl)]; rfl) (by decide +kernel) (by decide) (by decide)
