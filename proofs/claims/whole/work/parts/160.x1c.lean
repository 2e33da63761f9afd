/-- wearing, thing by thing -/
theorem wo_eq {S : St} {x : Int} (h : hasZ S x = true) (h2 : 0 < sL S x.toNat) : wo S x = uL S (fu (sL S) x.toNat (sL S x.toNat - 1)) := if_pos (by rw [show lftZ S x = sL S x.toNat from if_pos h]; exact h2)
theorem wo_m1 (S : St) : wo S (-1) = S := if_neg (by rw [show lftZ S (-1) = 0 from if_neg (by rw [has_m1]; decide)]; decide)
theorem wo_has (S : St) (x y : Int) : hasZ (wo S x) y = hasZ S y := by
  unfold wo
  split <;> rfl
theorem wo_sL {S : St} {x y : Int} (h : x.toNat ≠ y.toNat) : sL (wo S x) y.toNat = sL S y.toNat := by
  unfold wo
  split
  · show fu (sL S) x.toNat (sL S x.toNat - 1) y.toNat = _
    unfold fu
    rw [if_neg (fun q => h q.symm)]
  · rfl
theorem kd_ne {S : St} {x y : Int} {k l : Int} (h1 : kdZ S x k = true) (h2 : kdZ S y l = true) (h : k ≠ l) : x.toNat ≠ y.toNat := by
  intro e
  simp only [kdZ, Bool.and_eq_true, decide_eq_true_eq] at h1 h2
  rw [e] at h1
  exact h (h1.2.symm.trans h2.2)
theorem can_lft {S : St} {t u e : Int} (h : canZ S t u e = true) : 0 < sL S t.toNat ∧ 0 < sL S u.toNat ∧ (e = -1 ∨ 0 < sL S e.toNat) := by
  simp only [canZ, fovZ, clnZ, Bool.and_eq_true, Bool.or_eq_true, decide_eq_true_eq] at h
  obtain ⟨⟨⟨⟨-, h1⟩, -, h2⟩, -⟩, h3⟩ := h
  exact ⟨h1, h2, h3.imp id (fun q => q.1.1.2)⟩
theorem wo_seen (S : St) (x t u : Int) (p k : Nat) : shE (wo S x) t u p k = shE S t u p k := by
  unfold wo
  split <;> rfl
def S3 (S : St) (t u e : Int) : St := wo (wo (wo S t) u) e
theorem S3_ok {S : St} (ho : Ok S) (t u e : Int) : Ok (S3 S t u e) := wo_ok (wo_ok (wo_ok ho t) u) e
theorem S3_has (S : St) (t u e y : Int) : hasZ (S3 S t u e) y = hasZ S y := by unfold S3; rw [wo_has, wo_has, wo_has]
theorem sh_s {S : St} {t u : Int} {p k : Nat} : fu (shE S t u p k) (8 * (12 * t.toNat + u.toNat) + k) (if p.testBit k then sT S + 1 else shE S t u p k (8 * (12 * t.toNat + u.toNat) + k)) = shE S t u p (k + 1) := by
  cases h : p.testBit k with
  | true => exact shE_t h
  | false => rw [shE_f h]; exact fu_self _ _
theorem sh_at (S : St) (t u : Int) (p k : Nat) : shE S t u p k (8 * (12 * t.toNat + u.toNat) + k) = sE S (8 * (12 * t.toNat + u.toNat) + k) := by
  unfold shE
  rw [if_neg (by omega)]
theorem kd_cong {S S' : St} (h1 : sN S' = sN S) (h2 : sG S' = sG S) (h3 : sK S' = sK S) (x k : Int) : kdZ S' x k = kdZ S x k := by
  unfold kdZ hasZ hasT
  rw [h1, h2, h3]
theorem wo_k (S : St) (x : Int) : sK (wo S x) = sK S := by
  unfold wo
  split <;> rfl
theorem shw_k (S : St) (t b : Int) (p : Nat) : sK (shw S t b p) = sK S := by
  unfold shw
  split <;> rfl
theorem wr_cong {S S' : St} (h1 : sN S' = sN S) (h2 : sG S' = sG S) (h3 : sK S' = sK S) (t u e : Int) : wrZ S' t u e = wrZ S t u e := by
  unfold wrZ
  rw [kd_cong h1 h2 h3, kd_cong h1 h2 h3, kd_cong h1 h2 h3]
  unfold hasZ hasT
  rw [h1, h2]
theorem wrS_same (S : St) (t u e : Int) (p : Nat) : sN (wrS S t u e p) = sN S ∧ sG (wrS S t u e p) = sG S ∧ sK (wrS S t u e p) = sK S := by
  unfold wrS
  obtain ⟨a1, a2, -⟩ := shw_same (wo (wo (wo S t) u) e) t u p
  obtain ⟨b1, b2, -⟩ := wo_same (wo (wo S t) u) e
  obtain ⟨c1, c2, -⟩ := wo_same (wo S t) u
  obtain ⟨d1, d2, -⟩ := wo_same S t
  refine ⟨by rw [a1, b1, c1, d1], by rw [a2, b2, c2, d2], by rw [shw_k, wo_k, wo_k, wo_k]⟩
theorem hin_X1_wear : ∀ w ∈ wsX10, w ∈ wsX1_wear := by decide +kernel
theorem f_X1_wear_29 : Cond.fieldLink RX1 29 (TX1 8).1 (TX1 8).2.1 (TX1 8).2.2.1 ∈ wsX1_wear := by decide +kernel
theorem f_X1_wear_35 : Cond.fieldLink RX1 35 (TX1 10).1 (TX1 10).2.1 (TX1 10).2.2.1 ∈ wsX1_wear := by decide +kernel
theorem f_X1_wear_73 : Cond.fieldLink RX1 73 (TX1 0).1 (TX1 0).2.1 (TX1 0).2.2.1 ∈ wsX1_wear := by decide +kernel
set_option maxRecDepth 100000 in
set_option maxHeartbeats 4000000 in
theorem lp_X1_wear {b : Nat → Nat} {d : Nat → ClassId} {S : St} {g : Nat → Nat} {th : Nat} (ho : Ok S) (t u e : Int) (q : Nat) (rt : -2147483648 ≤ t ∧ t < 2147483648) (ru : -2147483648 ≤ u ∧ u < 2147483648) (re : -2147483648 ≤ e ∧ e < 2147483648) (hq : q < 256) (hw : wrZ S t u e = 0) : ∀ (m k : Nat), k ≤ 8 → 8 + 1 ≤ k + m → V RX1 cX1_wear 8 (some .int) wsX1_wear (rmD 3) vX0 (tym d) (qI (tym d) (mkc b d (uE (S3 S t u e) (shE (S3 S t u e) t u q 8)) g 0) (iZ (owZ S t u e)) 0 0) 0 0 (mkc b d (uE (S3 S t u e) (shE (S3 S t u e) t u q k)) g 0) 104 [(0, .ref (b 0)), (1, .int (iZ t)), (2, .int (iZ u)), (3, .int (iZ e)), (4, .int (iZ q)), (6, .int (iZ k))] [] := by
  intro m
  induction m with
  | zero => intro k  h1 h2 ; exact absurd h2 (by omega)
  | succ m ih =>
    intro k  h1 h2 
    obtain ⟨ht, hu, -⟩ := wr_0 hw
    obtain ⟨t0, t1, t2, t3, t4⟩ := hasZ_lt ho ht
    obtain ⟨u0, u1, u2, u3, u4⟩ := hasZ_lt ho hu
    refine V_iload (q := 106) dX1_wear_104 5 rfl rfl ?_
    refine V_bipush (q := 108) dX1_wear_106 (by decide) rfl ?_
    refine V_icmp_ge (q := 111) (tgt := 165) dX1_wear_108 (by omega) (by omega) (by decide) (fun c108 => ?_) (fun c108 => ?_)
    · skip
      obtain rfl : k = 8 := by omega
      refine V_aload_n (q := 166) dX1_wear_165 0 rfl rfl ?_
      refine V_iload_n (q := 167) dX1_wear_166 1 rfl rfl ?_
      refine V_iload_n (q := 168) dX1_wear_167 2 rfl rfl ?_
      refine V_iload_n (q := 169) dX1_wear_168 3 rfl rfl ?_
      refine V_callIv (q := 172) dX1_wear_169 (c_X1_warmthOf (S := uE (S3 S t u e) (shE (S3 S t u e) t u q 8)) (by have q9 := shw_ok (S3_ok ho t u e) t u q; rw [show shw (S3 S t u e) t u q = uE (S3 S t u e) (shE (S3 S t u e) t u q 8) from if_pos (by rw [S3_has, S3_has, ht, hu]; rfl)] at q9; exact q9) t u e rt ru re (by have q9 := wrS_same S t u e q; have q8 : wrS S t u e q = uE (S3 S t u e) (shE (S3 S t u e) t u q 8) := if_pos (by show (hasZ (S3 S t u e) t && hasZ (S3 S t u e) u) = true; rw [S3_has, S3_has, ht, hu]; rfl); rw [← q8, wr_cong q9.1 q9.2.1 q9.2.2]; exact hw)) yv_X1_warmthOf rfl gX1_wear_X1_warmthOf rfl 0 rfl rfl rfl rfl (Nat.le_of_ble_eq_true rfl) (by decide) ?_
      exact V_iret dX1_wear_172 rfl (by have q8 : wrS S t u e q = uE (S3 S t u e) (shE (S3 S t u e) t u q 8) := if_pos (by show (hasZ (S3 S t u e) t && hasZ (S3 S t u e) u) = true; rw [S3_has, S3_has, ht, hu]; rfl); rw [← q8, owZ_wrS]) (rfl)
    · skip
      refine V_bipush (q := 113) dX1_wear_111 (by decide) rfl ?_
      refine V_bipush (q := 115) dX1_wear_113 (by decide) rfl ?_
      refine V_iload_n (q := 116) dX1_wear_115 1 rfl rfl ?_
      refine V_imul (q := 117) dX1_wear_116 rfl ?_
      refine V_iload_n (q := 118) dX1_wear_117 2 rfl rfl ?_
      refine V_iadd (q := 119) dX1_wear_118 rfl ?_
      refine V_imul (q := 120) dX1_wear_119 rfl ?_
      refine V_iload (q := 122) dX1_wear_120 5 rfl rfl ?_
      refine V_iadd (q := 123) dX1_wear_122 rfl ?_
      refine V_istore (q := 125) (lv' := [(0, _), (1, _), (2, _), (3, _), (4, _), (6, _), (7, _)]) dX1_wear_123 (by decide) rfl rfl ?_
      refine V_aload_n (q := 126) dX1_wear_125 0 rfl rfl ?_
      refine V_get (q := 129) dX1_wear_126 hin_X1_wear 0 rfl rfl 10 (by decide) f_X1_wear_35 rfl rfl ?_
      refine V_iload (q := 131) dX1_wear_129 6 rfl rfl ?_
      refine V_cut (M := 158) (iZ ((if q.testBit k then sT (S3 S t u e) + 1 else shE (S3 S t u e) t u q k (8 * (12 * t.toNat + u.toNat) + k) : Nat) : Int)) ?_ (fun k158 => ?_)
      · -- from the merge
        refine V_iast (q := 159) (ws' := mkc b d (uE (S3 S t u e) (shE (S3 S t u e) t u q (k + 1))) g 0) dX1_wear_158 9 8 rfl rfl (8 * (12 * t.toNat + u.toNat) + k) (by omega) (by omega) (by decide) (by rw [iF_upd _ rfl, mk9, uE_uE, sE_uE, sh_s]) rfl ?_
        refine V_loc (lv' := [(0, _), (1, _), (2, _), (3, _), (4, _), (6, _)]) [0, 1, 2, 3, 4, 5] rfl ?_
        refine V_iinc (q := 162) (lv' := [(0, _), (1, _), (2, _), (3, _), (4, _), (6, _)]) dX1_wear_159 5 rfl (rfl) (by decide) rfl rfl ?_
        refine V_goto (tgt := 104) dX1_wear_162 (by decide) ?_
        exact ih (k + 1) (by omega) (by omega)
      · -- the ways to it
        refine V_iload (q := 133) dX1_wear_131 4 rfl rfl ?_
        refine V_iload (q := 135) dX1_wear_133 5 rfl rfl ?_
        refine V_ishr (q := 136) dX1_wear_135 rfl ?_
        refine V_iconst (q := 137) dX1_wear_136 rfl ?_
        refine V_iand (q := 138) dX1_wear_137 rfl ?_
        refine V_top (z_tb (by omega) (by omega)) ?_
        refine V_iconst (q := 139) dX1_wear_138 rfl ?_
        refine V_icmp_ne (q := 142) (tgt := 151) dX1_wear_139 (bZ_in _) (by decide) (by decide) (fun c139 => ?_) (fun c139 => ?_)
        · skip
          have d139 : q.testBit k = false := by cases hq : q.testBit k <;> simp [hq, bZ] at c139 ⊢
          refine V_aload_n (q := 152) dX1_wear_151 0 rfl rfl ?_
          refine V_get (q := 155) dX1_wear_152 hin_X1_wear 0 rfl rfl 10 (by decide) f_X1_wear_35 rfl rfl ?_
          refine V_iload (q := 157) dX1_wear_155 6 rfl rfl ?_
          refine V_iald (q := 158) dX1_wear_157 9 8 rfl rfl (8 * (12 * t.toNat + u.toNat) + k) (by omega) (by omega) (by decide) (rfl) rfl ?_
          exact k158 _ (by first | (rw [d139]; rfl) | (rw [d139]; simp))
        · skip
          have d139 : q.testBit k = true := by cases hq : q.testBit k <;> simp [hq, bZ] at c139 ⊢
          refine V_aload_n (q := 143) dX1_wear_142 0 rfl rfl ?_
          refine V_get (q := 146) dX1_wear_143 hin_X1_wear 0 rfl rfl 0 (by decide) f_X1_wear_73 rfl rfl ?_
          refine V_iconst (q := 147) dX1_wear_146 rfl ?_
          refine V_iadd (q := 148) dX1_wear_147 rfl ?_
          refine V_goto (tgt := 158) dX1_wear_148 (by decide) ?_
          exact k158 _ (by first | (rw [d139]; rfl) | (rw [d139]; simp))
theorem yv_X1_wear : YV yX1_wear wsX1_wear 4 := ⟨_, _, _, _, rfl, by decide +kernel, by decide⟩
set_option maxRecDepth 100000 in
set_option maxHeartbeats 4000000 in
theorem c_X1_wear {b : Nat → Nat} {d : Nat → ClassId} {S : St} {g : Nat → Nat} {th : Nat} (ho : Ok S) (t u e p : Int) (rt : -2147483648 ≤ t ∧ t < 2147483648) (ru : -2147483648 ≤ u ∧ u < 2147483648) (re : -2147483648 ≤ e ∧ e < 2147483648) (rp : -2147483648 ≤ p ∧ p < 2147483648) : CtI yX1_wear wsX1_wear (rmD 3) (tym d) [.ref (b 0), .int (iZ t), .int (iZ u), .int (iZ e), .int (iZ p)] (mkc b d S g th) (iZ (if cWear S t u e p = 0 then owZ S t u e else 0 : Nat)) (mkc b d (if cWear S t u e p = 0 then wrS S t u e p.toNat else S) g (cWear S t u e p)) := by
  refine CtI_of (own := RX1) (by decide) rfl rfl (Nat.le_of_ble_eq_true rfl) ?_
  refine V_lvq (lv' := [(0, _), (1, _), (2, _), (3, _), (4, _)]) rfl ?_
  refine V_aload_n (q := 1) dX1_wear_0 0 rfl rfl ?_
  refine V_iload_n (q := 2) dX1_wear_1 1 rfl rfl ?_
  refine V_iload_n (q := 3) dX1_wear_2 2 rfl rfl ?_
  refine V_iload_n (q := 4) dX1_wear_3 3 rfl rfl ?_
  refine V_callIv (q := 7) dX1_wear_4 (c_X1_wrong ho t u e rt ru re) yv_X1_wrong rfl gX1_wear_X1_wrong rfl 0 rfl rfl rfl rfl (Nat.le_of_ble_eq_true rfl) (by decide) ?_
  refine V_istore (q := 9) (lv' := [(0, _), (1, _), (2, _), (3, _), (4, _), (5, _)]) dX1_wear_7 (by decide) rfl rfl ?_
  refine V_aload_n (q := 10) dX1_wear_9 0 rfl rfl ?_
  refine V_cut (M := 58) (iZ (cWear S t u e p : Nat)) ?_ (fun k58 => ?_)
  · -- from the merge
    refine V_callIv (q := 61) dX1_wear_58 (c_X1_goes (cWear S t u e p) (cWear_lt S t u e p)) yv_X1_goes rfl gX1_wear_X1_goes rfl 0 rfl rfl rfl rfl (Nat.le_of_ble_eq_true rfl) (by decide) ?_
    refine V_if_neB (q := 64) (tgt := 66) dX1_wear_61 (by decide) (fun c61 => ?_) (fun c61 => ?_)
    · skip
      have ec : cWear S t u e p = 0 := of_decide_eq_true c61
      obtain ⟨hw, b1, hc, hs⟩ := cWear_0 ec
      simp only [ec, ↓reduceIte]
      obtain ⟨ht, hu, he, kt, ku, ke⟩ := wr_0 hw
      obtain ⟨t0, t1, t2, t3, t4⟩ := hasZ_lt ho ht
      obtain ⟨u0, u1, u2, u3, u4⟩ := hasZ_lt ho hu
      obtain ⟨l1, l2, l3⟩ := can_lft hc
      have n1 := kd_ne kt ku (by decide)
      have q8 : wrS S t u e p.toNat = uE (S3 S t u e) (shE (S3 S t u e) t u p.toNat 8) := if_pos (by show (hasZ (S3 S t u e) t && hasZ (S3 S t u e) u) = true; rw [S3_has, S3_has, ht, hu]; rfl)
      rw [q8]
      rw [show (iZ p : Int32) = iZ ((p.toNat : Nat) : Int) by rw [Int.toNat_of_nonneg b1.1]]
      refine V_aload_n (q := 67) dX1_wear_66 0 rfl rfl ?_
      refine V_get (q := 70) dX1_wear_67 hin_X1_wear 0 rfl rfl 8 (by decide) f_X1_wear_29 rfl rfl ?_
      refine V_iload_n (q := 71) dX1_wear_70 1 rfl rfl ?_
      refine V_dup2 (q := 72) dX1_wear_71 rfl rfl rfl ?_
      refine V_iald (q := 73) dX1_wear_72 7 6 rfl rfl (t.toNat) (t2.symm) (t4) (by decide) (rfl) rfl ?_
      refine V_iconst (q := 74) dX1_wear_73 rfl ?_
      refine V_isub (q := 75) dX1_wear_74 rfl ?_
      refine V_iast (q := 76) (ws' := mkc b d (wo S t) g 0) dX1_wear_75 7 6 rfl rfl (t.toNat) (t2.symm) (t4) (by decide) (by rw [iF_upd (sL S t.toNat - 1) (by omega), mk7, wo_eq ht l1]) rfl ?_
      refine V_aload_n (q := 77) dX1_wear_76 0 rfl rfl ?_
      refine V_get (q := 80) dX1_wear_77 hin_X1_wear 0 rfl rfl 8 (by decide) f_X1_wear_29 rfl rfl ?_
      refine V_iload_n (q := 81) dX1_wear_80 2 rfl rfl ?_
      refine V_dup2 (q := 82) dX1_wear_81 rfl rfl rfl ?_
      refine V_iald (q := 83) dX1_wear_82 7 6 rfl rfl (u.toNat) (u2.symm) (u4) (by decide) (rfl) rfl ?_
      refine V_iconst (q := 84) dX1_wear_83 rfl ?_
      refine V_isub (q := 85) dX1_wear_84 rfl ?_
      refine V_iast (q := 86) (ws' := mkc b d (wo (wo S t) u) g 0) dX1_wear_85 7 6 rfl rfl (u.toNat) (u2.symm) (u4) (by decide) (by rw [iF_upd (sL (wo S t) u.toNat - 1) (by rw [wo_sL n1]; omega), mk7, wo_eq (S := wo S t) (x := u) (by rw [wo_has]; exact hu) (by rw [wo_sL n1]; exact l2)]) rfl ?_
      refine V_iload_n (q := 87) dX1_wear_86 3 rfl rfl ?_
      refine V_iconst (q := 88) dX1_wear_87 rfl ?_
      refine V_icmp_eq (q := 91) (tgt := 101) dX1_wear_88 (by omega) (by omega) (by decide) (fun c88 => ?_) (fun c88 => ?_)
      · skip
        have e3 : wo (wo S t) u = S3 S t u e := by unfold S3; rw [c88, wo_m1]
        rw [e3]
        refine V_iconst (q := 102) dX1_wear_101 rfl ?_
        refine V_istore (q := 104) (lv' := [(0, _), (1, _), (2, _), (3, _), (4, _), (5, _), (6, _)]) dX1_wear_102 (by decide) rfl rfl ?_
        refine V_loc (lv' := [(0, _), (1, _), (2, _), (3, _), (4, _), (6, _)]) [0, 1, 2, 3, 4, 6] rfl ?_
        refine V_ws (ws' := mkc b d (uE (S3 S t u e) (shE (S3 S t u e) t u p.toNat 0)) g 0) (by rw [show shE (S3 S t u e) t u p.toNat 0 = sE (S3 S t u e) by funext i; unfold shE; rw [if_neg (by omega)]]; rfl) ?_
        exact lp_X1_wear (th := 0) ho t u e p.toNat rt ru re (by omega) hw 9 0 (by omega) (by omega)
      · skip
        have he2 : hasZ S e = true := he.resolve_left c88
        have ke2 := ke.resolve_left c88
        have l4 := l3.resolve_left c88
        obtain ⟨e0, e1, e2, e3, e4⟩ := hasZ_lt ho he2
        have n2 := kd_ne kt ke2 (by decide)
        have n3 := kd_ne ku ke2 (by decide)
        refine V_aload_n (q := 92) dX1_wear_91 0 rfl rfl ?_
        refine V_get (q := 95) dX1_wear_92 hin_X1_wear 0 rfl rfl 8 (by decide) f_X1_wear_29 rfl rfl ?_
        refine V_iload_n (q := 96) dX1_wear_95 3 rfl rfl ?_
        refine V_dup2 (q := 97) dX1_wear_96 rfl rfl rfl ?_
        refine V_iald (q := 98) dX1_wear_97 7 6 rfl rfl (e.toNat) (e2.symm) (e4) (by decide) (rfl) rfl ?_
        refine V_iconst (q := 99) dX1_wear_98 rfl ?_
        refine V_isub (q := 100) dX1_wear_99 rfl ?_
        refine V_iast (q := 101) (ws' := mkc b d (S3 S t u e) g 0) dX1_wear_100 7 6 rfl rfl (e.toNat) (e2.symm) (e4) (by decide) (by unfold S3; rw [iF_upd (sL (wo (wo S t) u) e.toNat - 1) (by rw [wo_sL n3, wo_sL n2]; omega), mk7, wo_eq (S := wo (wo S t) u) (x := e) (by rw [wo_has, wo_has]; exact he2) (by rw [wo_sL n3, wo_sL n2]; exact l4)]) rfl ?_
        refine V_iconst (q := 102) dX1_wear_101 rfl ?_
        refine V_istore (q := 104) (lv' := [(0, _), (1, _), (2, _), (3, _), (4, _), (5, _), (6, _)]) dX1_wear_102 (by decide) rfl rfl ?_
        refine V_loc (lv' := [(0, _), (1, _), (2, _), (3, _), (4, _), (6, _)]) [0, 1, 2, 3, 4, 6] rfl ?_
        refine V_ws (ws' := mkc b d (uE (S3 S t u e) (shE (S3 S t u e) t u p.toNat 0)) g 0) (by rw [show shE (S3 S t u e) t u p.toNat 0 = sE (S3 S t u e) by funext i; unfold shE; rw [if_neg (by omega)]]; rfl) ?_
        exact lp_X1_wear (th := 0) ho t u e p.toNat rt ru re (by omega) hw 9 0 (by omega) (by omega)
    · skip
      refine V_iconst (q := 65) dX1_wear_64 rfl ?_
      exact V_iret dX1_wear_65 rfl (by rw [if_neg (of_decide_eq_false c61)]; rfl) (by rw [if_neg (of_decide_eq_false c61)])
  · -- the ways to it
    refine V_iload (q := 12) dX1_wear_10 5 rfl rfl ?_
    refine V_if_eq (q := 15) (tgt := 20) dX1_wear_12 (by have q := wr_lt S t u e; omega) (by decide) (fun c12 => ?_) (fun c12 => ?_)
    · skip
      refine V_iload (q := 22) dX1_wear_20 4 rfl rfl ?_
      refine V_callIs (q := 25) dX1_wear_22 (c_X1_arePeople p rp) yv_X1_arePeople rfl gX1_wear_X1_arePeople rfl (Nat.le_of_ble_eq_true rfl) (by decide) ?_
      refine V_if_neB (q := 28) (tgt := 32) dX1_wear_25 (by decide) (fun c25 => ?_) (fun c25 => ?_)
      · skip
        have b1 : 0 ≤ p ∧ p ≤ 255 := by simpa using c25
        have hw : wrZ S t u e = 0 := by omega
        obtain ⟨ht, hu, -⟩ := wr_0 hw
        rw [show (iZ p : Int32) = iZ ((p.toNat : Nat) : Int) by rw [Int.toNat_of_nonneg b1.1]] at k58 ⊢
        refine V_aload_n (q := 33) dX1_wear_32 0 rfl rfl ?_
        refine V_iload_n (q := 34) dX1_wear_33 1 rfl rfl ?_
        refine V_iload_n (q := 35) dX1_wear_34 2 rfl rfl ?_
        refine V_iload_n (q := 36) dX1_wear_35 3 rfl rfl ?_
        refine V_callIv (q := 39) dX1_wear_36 (c_X1_fits ho t u e rt ru re hw) yv_X1_fits rfl gX1_wear_X1_fits rfl 0 rfl rfl rfl rfl (Nat.le_of_ble_eq_true rfl) (by decide) ?_
        refine V_if_eqB (q := 42) (tgt := 53) dX1_wear_39 (by decide) (fun c39 => ?_) (fun c39 => ?_)
        · skip
          refine V_iconst (q := 54) dX1_wear_53 rfl ?_
          refine V_goto (tgt := 58) dX1_wear_54 (by decide) ?_
          exact k58 _ (by first | (rw [show (cWear S t u e p : Nat) = wrZ S t u e from if_neg (by omega)]) | (rw [show (cWear S t u e p : Nat) = 2 from (if_pos (by omega)).trans (if_neg (by rw [show inZ p 0 255 = false from c25]; decide))]; rfl) | (rw [show (cWear S t u e p : Nat) = 3 from (if_pos (by omega)).trans ((if_pos c25).trans (if_neg (by first | (rw [c39]; simp; done) | (rw [c50]; simp; done))))]; rfl) | (rw [show (cWear S t u e p : Nat) = 0 from (if_pos (by omega)).trans ((if_pos c25).trans (if_pos (by rw [c39, c50]; rfl)))]; rfl))
        · skip
          refine V_aload_n (q := 43) dX1_wear_42 0 rfl rfl ?_
          refine V_iload_n (q := 44) dX1_wear_43 1 rfl rfl ?_
          refine V_iload_n (q := 45) dX1_wear_44 2 rfl rfl ?_
          refine V_iload (q := 47) dX1_wear_45 4 rfl rfl ?_
          refine V_callIv (q := 50) dX1_wear_47 (c_X1_isSoon ho t u p.toNat rt ru (by omega) ht hu) yv_X1_isSoon rfl gX1_wear_X1_isSoon rfl 0 rfl rfl rfl rfl (Nat.le_of_ble_eq_true rfl) (by decide) ?_
          refine V_if_eqB (q := 53) (tgt := 57) dX1_wear_50 (by decide) (fun c50 => ?_) (fun c50 => ?_)
          · skip
            refine V_iconst (q := 58) dX1_wear_57 rfl ?_
            exact k58 _ (by first | (rw [show (cWear S t u e p : Nat) = wrZ S t u e from if_neg (by omega)]) | (rw [show (cWear S t u e p : Nat) = 2 from (if_pos (by omega)).trans (if_neg (by rw [show inZ p 0 255 = false from c25]; decide))]; rfl) | (rw [show (cWear S t u e p : Nat) = 3 from (if_pos (by omega)).trans ((if_pos c25).trans (if_neg (by first | (rw [c39]; simp; done) | (rw [c50]; simp; done))))]; rfl) | (rw [show (cWear S t u e p : Nat) = 0 from (if_pos (by omega)).trans ((if_pos c25).trans (if_pos (by rw [c39, c50]; rfl)))]; rfl))
          · skip
            refine V_iconst (q := 54) dX1_wear_53 rfl ?_
            refine V_goto (tgt := 58) dX1_wear_54 (by decide) ?_
            exact k58 _ (by first | (rw [show (cWear S t u e p : Nat) = wrZ S t u e from if_neg (by omega)]) | (rw [show (cWear S t u e p : Nat) = 2 from (if_pos (by omega)).trans (if_neg (by rw [show inZ p 0 255 = false from c25]; decide))]; rfl) | (rw [show (cWear S t u e p : Nat) = 3 from (if_pos (by omega)).trans ((if_pos c25).trans (if_neg (by first | (rw [c39]; simp; done) | (rw [c50]; simp; done))))]; rfl) | (rw [show (cWear S t u e p : Nat) = 0 from (if_pos (by omega)).trans ((if_pos c25).trans (if_pos (by rw [c39, c50]; rfl)))]; rfl))
      · skip
        refine V_iconst (q := 29) dX1_wear_28 rfl ?_
        refine V_goto (tgt := 58) dX1_wear_29 (by decide) ?_
        exact k58 _ (by first | (rw [show (cWear S t u e p : Nat) = wrZ S t u e from if_neg (by omega)]) | (rw [show (cWear S t u e p : Nat) = 2 from (if_pos (by omega)).trans (if_neg (by rw [show inZ p 0 255 = false from c25]; decide))]; rfl) | (rw [show (cWear S t u e p : Nat) = 3 from (if_pos (by omega)).trans ((if_pos c25).trans (if_neg (by first | (rw [c39]; simp; done) | (rw [c50]; simp; done))))]; rfl) | (rw [show (cWear S t u e p : Nat) = 0 from (if_pos (by omega)).trans ((if_pos c25).trans (if_pos (by rw [c39, c50]; rfl)))]; rfl))
    · skip
      refine V_iload (q := 17) dX1_wear_15 5 rfl rfl ?_
      refine V_goto (tgt := 58) dX1_wear_17 (by decide) ?_
      exact k58 _ (by first | (rw [show (cWear S t u e p : Nat) = wrZ S t u e from if_neg (by omega)]) | (rw [show (cWear S t u e p : Nat) = 2 from (if_pos (by omega)).trans (if_neg (by rw [show inZ p 0 255 = false from c25]; decide))]; rfl) | (rw [show (cWear S t u e p : Nat) = 3 from (if_pos (by omega)).trans ((if_pos c25).trans (if_neg (by first | (rw [c39]; simp; done) | (rw [c50]; simp; done))))]; rfl) | (rw [show (cWear S t u e p : Nat) = 0 from (if_pos (by omega)).trans ((if_pos c25).trans (if_pos (by rw [c39, c50]; rfl)))]; rfl))
/-- the outfits in the reference's order -/
def cT (k : Nat) : Int := ((k / 12 % 12 : Nat) : Int)
def cU (k : Nat) : Int := ((k % 12 : Nat) : Int)
def cE (k : Nat) : Int := ((k / 144 : Nat) : Int) - 1
def ctA (S : St) (w : Int) (k : Nat) : Bool := canZ S (cT k) (cU k) (cE k) && decide (w ≤ (owZ S (cT k) (cU k) (cE k) : Int))
def ctP (S : St) (w x : Int) : Nat → Bool := fun k => ctA S w k && (decide (x = -1) || decide (cT k = x) || decide (cU k = x) || decide (cE k = x))
theorem can_no {S : St} {t u e : Int} (h : ¬ wrZ S t u e = 0) : canZ S t u e = false := by
  cases q : canZ S t u e with
  | false => rfl
  | true => exact absurd (can_in q) h
set_option maxRecDepth 100000 in
set_option maxHeartbeats 4000000 in
theorem lp_X1_count {b : Nat → Nat} {d : Nat → ClassId} {S : St} {g : Nat → Nat} {th : Nat} (ho : Ok S) (w x : Int) (rw : -2147483648 ≤ w ∧ w < 2147483648) (rx : -2147483648 ≤ x ∧ x < 2147483648) : ∀ (m k : Nat), k ≤ 1872 → 1872 + 1 ≤ k + m → V RX1 cX1_count 9 (some .int) wsX1_count (rmD 3) vX0 (tym d) (qI (tym d) (mkc b d S g th) (iZ (cnt (ctP S w x) 1872 : Nat)) 0 0) 0 0 (mkc b d S g th) 5 [(0, .ref (b 0)), (1, .int (iZ w)), (2, .int (iZ x)), (3, .int (iZ (cnt (ctP S w x) k : Nat))), (4, .int (iZ k))] [] := by
  intro m
  induction m with
  | zero => intro k  h1 h2 ; exact absurd h2 (by omega)
  | succ m ih =>
    intro k  h1 h2 
    have r1 : -2147483648 ≤ cT k ∧ cT k < 2147483648 := by unfold cT; omega
    have r2 : -2147483648 ≤ cU k ∧ cU k < 2147483648 := by unfold cU; omega
    have r3 : -2147483648 ≤ cE k ∧ cE k < 2147483648 := by unfold cE; omega
    refine V_iload (q := 7) dX1_count_5 4 rfl rfl ?_
    refine V_sipush (q := 10) dX1_count_7 (by decide) rfl ?_
    refine V_icmp_ge (q := 13) (tgt := 129) dX1_count_10 (by omega) (by omega) (by decide) (fun c10 => ?_) (fun c10 => ?_)
    · skip
      refine V_iload_n (q := 130) dX1_count_129 3 rfl rfl ?_
      exact V_iret dX1_count_130 rfl (by rw [show k = 1872 by omega]) (rfl)
    · skip
      refine V_iload (q := 15) dX1_count_13 4 rfl rfl ?_
      refine V_bipush (q := 17) dX1_count_15 (by decide) rfl ?_
      refine V_idiv (q := 18) (b := 12) dX1_count_17 (by omega) (by decide) (by decide) rfl ?_
      refine V_bipush (q := 20) dX1_count_18 (by decide) rfl ?_
      refine V_irem (q := 21) (b := 12) dX1_count_20 (by omega) (by decide) (by decide) rfl ?_
      refine V_top (y := iZ (cT k)) rfl ?_
      refine V_istore (q := 23) (lv' := [(0, _), (1, _), (2, _), (3, _), (4, _), (5, _)]) dX1_count_21 (by decide) rfl rfl ?_
      refine V_iload (q := 25) dX1_count_23 4 rfl rfl ?_
      refine V_bipush (q := 27) dX1_count_25 (by decide) rfl ?_
      refine V_irem (q := 28) (b := 12) dX1_count_27 (by omega) (by decide) (by decide) rfl ?_
      refine V_top (y := iZ (cU k)) rfl ?_
      refine V_istore (q := 30) (lv' := [(0, _), (1, _), (2, _), (3, _), (4, _), (5, _), (6, _)]) dX1_count_28 (by decide) rfl rfl ?_
      refine V_iload (q := 32) dX1_count_30 4 rfl rfl ?_
      refine V_sipush (q := 35) dX1_count_32 (by decide) rfl ?_
      refine V_idiv (q := 36) (b := 144) dX1_count_35 (by omega) (by decide) (by decide) rfl ?_
      refine V_iconst (q := 37) dX1_count_36 rfl ?_
      refine V_isub (q := 38) dX1_count_37 rfl ?_
      refine V_top (y := iZ (cE k)) rfl ?_
      refine V_istore (q := 40) (lv' := [(0, _), (1, _), (2, _), (3, _), (4, _), (5, _), (6, _), (7, _)]) dX1_count_38 (by decide) rfl rfl ?_
      refine V_cut (M := 85) (iZ (bZ (ctA S w k))) ?_ (fun k85 => ?_)
      · -- from the merge
        refine V_istore (q := 87) (lv' := [(0, _), (1, _), (2, _), (3, _), (4, _), (5, _), (6, _), (7, _), (8, _)]) dX1_count_85 (by decide) rfl rfl ?_
        refine V_iload_n (q := 88) dX1_count_87 3 rfl rfl ?_
        refine V_cut (M := 121) (iZ (bZ (ctP S w x k))) ?_ (fun k121 => ?_)
        · -- from the merge
          refine V_iadd (q := 122) dX1_count_121 rfl ?_
          refine V_top (y := iZ (cnt (ctP S w x) (k + 1) : Nat)) (by cases hq : ctP S w x k <;> simp [cnt, hq, bZ]) ?_
          refine V_istore_n (q := 123) (lv' := [(0, _), (1, _), (2, _), (3, _), (4, _), (5, _), (6, _), (7, _), (8, _)]) dX1_count_122 (by decide) rfl rfl ?_
          refine V_loc (lv' := [(0, _), (1, _), (2, _), (3, _), (4, _)]) [0, 1, 2, 3, 4] rfl ?_
          refine V_iinc (q := 126) (lv' := [(0, _), (1, _), (2, _), (3, _), (4, _)]) dX1_count_123 4 rfl (rfl) (by decide) rfl rfl ?_
          refine V_goto (tgt := 5) dX1_count_126 (by decide) ?_
          exact ih (k + 1) (by omega) (by omega)
        · -- the ways to it
          refine V_iload (q := 90) dX1_count_88 8 rfl rfl ?_
          refine V_if_eqB (q := 93) (tgt := 120) dX1_count_90 (by decide) (fun c90 => ?_) (fun c90 => ?_)
          · skip
            refine V_iconst (q := 121) dX1_count_120 rfl ?_
            exact k121 _ (by first | exact bZ_f (by unfold ctP; rw [c90]; rfl) | exact bZ_t (by unfold ctP; rw [c90]; simp only [Bool.true_and, Bool.or_eq_true, decide_eq_true_eq]; omega) | exact bZ_f (by unfold ctP; rw [c90]; simp only [Bool.true_and, Bool.or_eq_false_iff, decide_eq_false_iff_not]; omega))
          · skip
            refine V_iload_n (q := 94) dX1_count_93 2 rfl rfl ?_
            refine V_iconst (q := 95) dX1_count_94 rfl ?_
            refine V_icmp_eq (q := 98) (tgt := 116) dX1_count_95 (by omega) (by omega) (by decide) (fun c95 => ?_) (fun c95 => ?_)
            · skip
              refine V_iconst (q := 117) dX1_count_116 rfl ?_
              refine V_goto (tgt := 121) dX1_count_117 (by decide) ?_
              exact k121 _ (by first | exact bZ_f (by unfold ctP; rw [c90]; rfl) | exact bZ_t (by unfold ctP; rw [c90]; simp only [Bool.true_and, Bool.or_eq_true, decide_eq_true_eq]; omega) | exact bZ_f (by unfold ctP; rw [c90]; simp only [Bool.true_and, Bool.or_eq_false_iff, decide_eq_false_iff_not]; omega))
            · skip
              refine V_iload (q := 100) dX1_count_98 5 rfl rfl ?_
              refine V_iload_n (q := 101) dX1_count_100 2 rfl rfl ?_
              refine V_icmp_eq (q := 104) (tgt := 116) dX1_count_101 (by omega) (by omega) (by decide) (fun c101 => ?_) (fun c101 => ?_)
              · skip
                refine V_iconst (q := 117) dX1_count_116 rfl ?_
                refine V_goto (tgt := 121) dX1_count_117 (by decide) ?_
                exact k121 _ (by first | exact bZ_f (by unfold ctP; rw [c90]; rfl) | exact bZ_t (by unfold ctP; rw [c90]; simp only [Bool.true_and, Bool.or_eq_true, decide_eq_true_eq]; omega) | exact bZ_f (by unfold ctP; rw [c90]; simp only [Bool.true_and, Bool.or_eq_false_iff, decide_eq_false_iff_not]; omega))
              · skip
                refine V_iload (q := 106) dX1_count_104 6 rfl rfl ?_
                refine V_iload_n (q := 107) dX1_count_106 2 rfl rfl ?_
                refine V_icmp_eq (q := 110) (tgt := 116) dX1_count_107 (by omega) (by omega) (by decide) (fun c107 => ?_) (fun c107 => ?_)
                · skip
                  refine V_iconst (q := 117) dX1_count_116 rfl ?_
                  refine V_goto (tgt := 121) dX1_count_117 (by decide) ?_
                  exact k121 _ (by first | exact bZ_f (by unfold ctP; rw [c90]; rfl) | exact bZ_t (by unfold ctP; rw [c90]; simp only [Bool.true_and, Bool.or_eq_true, decide_eq_true_eq]; omega) | exact bZ_f (by unfold ctP; rw [c90]; simp only [Bool.true_and, Bool.or_eq_false_iff, decide_eq_false_iff_not]; omega))
                · skip
                  refine V_iload (q := 112) dX1_count_110 7 rfl rfl ?_
                  refine V_iload_n (q := 113) dX1_count_112 2 rfl rfl ?_
                  refine V_icmp_ne (q := 116) (tgt := 120) dX1_count_113 (by omega) (by omega) (by decide) (fun c113 => ?_) (fun c113 => ?_)
                  · skip
                    refine V_iconst (q := 121) dX1_count_120 rfl ?_
                    exact k121 _ (by first | exact bZ_f (by unfold ctP; rw [c90]; rfl) | exact bZ_t (by unfold ctP; rw [c90]; simp only [Bool.true_and, Bool.or_eq_true, decide_eq_true_eq]; omega) | exact bZ_f (by unfold ctP; rw [c90]; simp only [Bool.true_and, Bool.or_eq_false_iff, decide_eq_false_iff_not]; omega))
                  · skip
                    refine V_iconst (q := 117) dX1_count_116 rfl ?_
                    refine V_goto (tgt := 121) dX1_count_117 (by decide) ?_
                    exact k121 _ (by first | exact bZ_f (by unfold ctP; rw [c90]; rfl) | exact bZ_t (by unfold ctP; rw [c90]; simp only [Bool.true_and, Bool.or_eq_true, decide_eq_true_eq]; omega) | exact bZ_f (by unfold ctP; rw [c90]; simp only [Bool.true_and, Bool.or_eq_false_iff, decide_eq_false_iff_not]; omega))
      · -- the ways to it
        refine V_aload_n (q := 41) dX1_count_40 0 rfl rfl ?_
        refine V_iload (q := 43) dX1_count_41 5 rfl rfl ?_
        refine V_iload (q := 45) dX1_count_43 6 rfl rfl ?_
        refine V_iload (q := 47) dX1_count_45 7 rfl rfl ?_
        refine V_callIv (q := 50) dX1_count_47 (c_X1_wrong ho (cT k) (cU k) (cE k) r1 r2 r3) yv_X1_wrong rfl gX1_count_X1_wrong rfl 0 rfl rfl rfl rfl (Nat.le_of_ble_eq_true rfl) (by decide) ?_
        refine V_if_ne (q := 53) (tgt := 84) dX1_count_50 (by have q := wr_lt S (cT k) (cU k) (cE k); omega) (by decide) (fun c50 => ?_) (fun c50 => ?_)
        · skip
          refine V_iconst (q := 85) dX1_count_84 rfl ?_
          exact k85 _ (by first | exact bZ_f (by unfold ctA; rw [can_no (by omega)]; rfl) | exact bZ_f (by unfold ctA; rw [c63]; rfl) | exact bZ_f (by unfold ctA; rw [c63, decide_eq_false (by omega)]; rfl) | exact bZ_t (by unfold ctA; rw [c63, decide_eq_true (by omega)]; rfl))
        · skip
          refine V_aload_n (q := 54) dX1_count_53 0 rfl rfl ?_
          refine V_iload (q := 56) dX1_count_54 5 rfl rfl ?_
          refine V_iload (q := 58) dX1_count_56 6 rfl rfl ?_
          refine V_iload (q := 60) dX1_count_58 7 rfl rfl ?_
          refine V_callIv (q := 63) dX1_count_60 (c_X1_fits ho (cT k) (cU k) (cE k) r1 r2 r3 (by omega)) yv_X1_fits rfl gX1_count_X1_fits rfl 0 rfl rfl rfl rfl (Nat.le_of_ble_eq_true rfl) (by decide) ?_
          refine V_if_eqB (q := 66) (tgt := 84) dX1_count_63 (by decide) (fun c63 => ?_) (fun c63 => ?_)
          · skip
            refine V_iconst (q := 85) dX1_count_84 rfl ?_
            exact k85 _ (by first | exact bZ_f (by unfold ctA; rw [can_no (by omega)]; rfl) | exact bZ_f (by unfold ctA; rw [c63]; rfl) | exact bZ_f (by unfold ctA; rw [c63, decide_eq_false (by omega)]; rfl) | exact bZ_t (by unfold ctA; rw [c63, decide_eq_true (by omega)]; rfl))
          · skip
            refine V_aload_n (q := 67) dX1_count_66 0 rfl rfl ?_
            refine V_iload (q := 69) dX1_count_67 5 rfl rfl ?_
            refine V_iload (q := 71) dX1_count_69 6 rfl rfl ?_
            refine V_iload (q := 73) dX1_count_71 7 rfl rfl ?_
            refine V_callIv (q := 76) dX1_count_73 (c_X1_warmthOf ho (cT k) (cU k) (cE k) r1 r2 r3 (by omega)) yv_X1_warmthOf rfl gX1_count_X1_warmthOf rfl 0 rfl rfl rfl rfl (Nat.le_of_ble_eq_true rfl) (by decide) ?_
            refine V_iload_n (q := 77) dX1_count_76 1 rfl rfl ?_
            refine V_icmp_lt (q := 80) (tgt := 84) dX1_count_77 (by have q := owZ_le ho (cT k) (cU k) (cE k); omega) (by have q := owZ_le ho (cT k) (cU k) (cE k); omega) (by decide) (fun c77 => ?_) (fun c77 => ?_)
            · skip
              refine V_iconst (q := 85) dX1_count_84 rfl ?_
              exact k85 _ (by first | exact bZ_f (by unfold ctA; rw [can_no (by omega)]; rfl) | exact bZ_f (by unfold ctA; rw [c63]; rfl) | exact bZ_f (by unfold ctA; rw [c63, decide_eq_false (by omega)]; rfl) | exact bZ_t (by unfold ctA; rw [c63, decide_eq_true (by omega)]; rfl))
            · skip
              refine V_iconst (q := 81) dX1_count_80 rfl ?_
              refine V_goto (tgt := 85) dX1_count_81 (by decide) ?_
              exact k85 _ (by first | exact bZ_f (by unfold ctA; rw [can_no (by omega)]; rfl) | exact bZ_f (by unfold ctA; rw [c63]; rfl) | exact bZ_f (by unfold ctA; rw [c63, decide_eq_false (by omega)]; rfl) | exact bZ_t (by unfold ctA; rw [c63, decide_eq_true (by omega)]; rfl))
theorem yv_X1_count : YV yX1_count wsX1_count 2 := ⟨_, _, _, _, rfl, by decide +kernel, by decide⟩
set_option maxRecDepth 100000 in
set_option maxHeartbeats 4000000 in
theorem c_X1_count {b : Nat → Nat} {d : Nat → ClassId} {S : St} {g : Nat → Nat} {th : Nat} (ho : Ok S) (w x : Int) (rw : -2147483648 ≤ w ∧ w < 2147483648) (rx : -2147483648 ≤ x ∧ x < 2147483648) : CtI yX1_count wsX1_count (rmD 3) (tym d) [.ref (b 0), .int (iZ w), .int (iZ x)] (mkc b d S g th) (iZ (cnt (ctP S w x) 1872 : Nat)) (mkc b d S g th) := by
  refine CtI_of (own := RX1) (by decide) rfl rfl (Nat.le_of_ble_eq_true rfl) ?_
  refine V_lvq (lv' := [(0, _), (1, _), (2, _)]) rfl ?_
  have rw' := rw
  refine V_iconst (q := 1) dX1_count_0 rfl ?_
  refine V_istore_n (q := 2) (lv' := [(0, _), (1, _), (2, _), (3, _)]) dX1_count_1 (by decide) rfl rfl ?_
  refine V_iconst (q := 3) dX1_count_2 rfl ?_
  refine V_istore (q := 5) (lv' := [(0, _), (1, _), (2, _), (3, _), (4, _)]) dX1_count_3 (by decide) rfl rfl ?_
  exact lp_X1_count ho w x rw' rx 1873 0 (by omega) (by omega)
theorem cOut_lt (w : Int) : cOut w < 4 := by unfold cOut; split <;> decide
theorem cAdds_lt (S : St) (x w : Int) : cAdds S x w < 4 := by
  unfold cAdds
  split
  · split <;> decide
  · decide
theorem yv_X1_outfits : YV yX1_outfits wsX1_outfits 1 := ⟨_, _, _, _, rfl, by decide +kernel, by decide⟩
set_option maxRecDepth 100000 in
set_option maxHeartbeats 4000000 in
theorem c_X1_outfits {b : Nat → Nat} {d : Nat → ClassId} {S : St} {g : Nat → Nat} {th : Nat} (ho : Ok S) (w : Int) (rw : -2147483648 ≤ w ∧ w < 2147483648) : CtI yX1_outfits wsX1_outfits (rmD 4) (tym d) [.ref (b 0), .int (iZ w)] (mkc b d S g th) (iZ (if cOut w = 0 then cnt (ctP S w (-1)) 1872 else 0 : Nat)) (mkc b d (S) g (cOut w)) := by
  refine CtI_of (own := RX1) (by decide) rfl rfl (Nat.le_of_ble_eq_true rfl) ?_
  refine V_lvq (lv' := [(0, _), (1, _)]) rfl ?_
  refine V_aload_n (q := 1) dX1_outfits_0 0 rfl rfl ?_
  have rw' := rw
  refine V_cut (M := 16) (iZ (cOut w : Nat)) ?_ (fun k16 => ?_)
  · -- from the merge
    refine V_callIv (q := 19) dX1_outfits_16 (c_X1_goes (cOut w) (cOut_lt w)) yv_X1_goes rfl gX1_outfits_X1_goes rfl 0 rfl rfl rfl rfl (Nat.le_of_ble_eq_true rfl) (by decide) ?_
    refine V_if_eqB (q := 22) (tgt := 31) dX1_outfits_19 (by decide) (fun c19 => ?_) (fun c19 => ?_)
    · skip
      refine V_iconst (q := 32) dX1_outfits_31 rfl ?_
      exact V_iret dX1_outfits_32 rfl (by first | rfl | (rw [if_neg (of_decide_eq_false c19)]; rfl)) (rfl)
    · skip
      have ec : cOut w = 0 := of_decide_eq_true c19
      simp only [ec, ↓reduceIte]
      refine V_aload_n (q := 23) dX1_outfits_22 0 rfl rfl ?_
      refine V_iload_n (q := 24) dX1_outfits_23 1 rfl rfl ?_
      refine V_iconst (q := 25) dX1_outfits_24 rfl ?_
      refine V_callIv (q := 28) dX1_outfits_25 (c_X1_count ho w (-1) rw' (by decide)) yv_X1_count rfl gX1_outfits_X1_count rfl 0 rfl rfl rfl rfl (Nat.le_of_ble_eq_true rfl) (by decide) ?_
      refine V_goto (tgt := 32) dX1_outfits_28 (by decide) ?_
      exact V_iret dX1_outfits_32 rfl (by first | rfl | (rw [if_neg (of_decide_eq_false c19)]; rfl)) (rfl)
  · -- the ways to it
    refine V_iload_n (q := 2) dX1_outfits_1 1 rfl rfl ?_
    refine V_iconst (q := 3) dX1_outfits_2 rfl ?_
    refine V_bipush (q := 5) dX1_outfits_3 (by decide) rfl ?_
    refine V_callIs (q := 8) dX1_outfits_5 (c_X1_isIn w 0 30 rw' (by decide) (by decide)) yv_X1_isIn rfl gX1_outfits_X1_isIn rfl (Nat.le_of_ble_eq_true rfl) (by decide) ?_
    refine V_if_eqB (q := 11) (tgt := 15) dX1_outfits_8 (by decide) (fun c8 => ?_) (fun c8 => ?_)
    · skip
      refine V_iconst (q := 16) dX1_outfits_15 rfl ?_
      exact k16 _ (by first | (rw [show (cOut w : Nat) = 0 from if_pos c8]; rfl) | (rw [show (cOut w : Nat) = 1 from if_neg (by rw [show inZ w 0 30 = false from c8]; decide)]; rfl))
    · skip
      refine V_iconst (q := 12) dX1_outfits_11 rfl ?_
      refine V_goto (tgt := 16) dX1_outfits_12 (by decide) ?_
      exact k16 _ (by first | (rw [show (cOut w : Nat) = 0 from if_pos c8]; rfl) | (rw [show (cOut w : Nat) = 1 from if_neg (by rw [show inZ w 0 30 = false from c8]; decide)]; rfl))
theorem yv_X1_adds : YV yX1_adds wsX1_adds 2 := ⟨_, _, _, _, rfl, by decide +kernel, by decide⟩
set_option maxRecDepth 100000 in
set_option maxHeartbeats 4000000 in
theorem c_X1_adds {b : Nat → Nat} {d : Nat → ClassId} {S : St} {g : Nat → Nat} {th : Nat} (ho : Ok S) (x w : Int) (rx : -2147483648 ≤ x ∧ x < 2147483648) (rw : -2147483648 ≤ w ∧ w < 2147483648) : CtI yX1_adds wsX1_adds (rmD 4) (tym d) [.ref (b 0), .int (iZ x), .int (iZ w)] (mkc b d S g th) (iZ (if cAdds S x w = 0 then cnt (ctP S w x) 1872 else 0 : Nat)) (mkc b d (S) g (cAdds S x w)) := by
  refine CtI_of (own := RX1) (by decide) rfl rfl (Nat.le_of_ble_eq_true rfl) ?_
  refine V_lvq (lv' := [(0, _), (1, _), (2, _)]) rfl ?_
  refine V_aload_n (q := 1) dX1_adds_0 0 rfl rfl ?_
  have rw' := rw
  refine V_cut (M := 28) (iZ (cAdds S x w : Nat)) ?_ (fun k28 => ?_)
  · -- from the merge
    refine V_callIv (q := 31) dX1_adds_28 (c_X1_goes (cAdds S x w) (cAdds_lt S x w)) yv_X1_goes rfl gX1_adds_X1_goes rfl 0 rfl rfl rfl rfl (Nat.le_of_ble_eq_true rfl) (by decide) ?_
    refine V_if_eqB (q := 34) (tgt := 43) dX1_adds_31 (by decide) (fun c31 => ?_) (fun c31 => ?_)
    · skip
      refine V_iconst (q := 44) dX1_adds_43 rfl ?_
      exact V_iret dX1_adds_44 rfl (by first | rfl | (rw [if_neg (of_decide_eq_false c31)]; rfl)) (rfl)
    · skip
      have ec : cAdds S x w = 0 := of_decide_eq_true c31
      simp only [ec, ↓reduceIte]
      refine V_aload_n (q := 35) dX1_adds_34 0 rfl rfl ?_
      refine V_iload_n (q := 36) dX1_adds_35 2 rfl rfl ?_
      refine V_iload_n (q := 37) dX1_adds_36 1 rfl rfl ?_
      refine V_callIv (q := 40) dX1_adds_37 (c_X1_count ho w x rw' rx) yv_X1_count rfl gX1_adds_X1_count rfl 0 rfl rfl rfl rfl (Nat.le_of_ble_eq_true rfl) (by decide) ?_
      refine V_goto (tgt := 44) dX1_adds_40 (by decide) ?_
      exact V_iret dX1_adds_44 rfl (by first | rfl | (rw [if_neg (of_decide_eq_false c31)]; rfl)) (rfl)
  · -- the ways to it
    refine V_aload_n (q := 2) dX1_adds_1 0 rfl rfl ?_
    refine V_iload_n (q := 3) dX1_adds_2 1 rfl rfl ?_
    refine V_callIv (q := 6) dX1_adds_3 (c_X1_isThing ho x rx) yv_X1_isThing rfl gX1_adds_X1_isThing rfl 0 rfl rfl rfl rfl (Nat.le_of_ble_eq_true rfl) (by decide) ?_
    refine V_if_neB (q := 9) (tgt := 13) dX1_adds_6 (by decide) (fun c6 => ?_) (fun c6 => ?_)
    · skip
      refine V_iload_n (q := 14) dX1_adds_13 2 rfl rfl ?_
      refine V_iconst (q := 15) dX1_adds_14 rfl ?_
      refine V_bipush (q := 17) dX1_adds_15 (by decide) rfl ?_
      refine V_callIs (q := 20) dX1_adds_17 (c_X1_isIn w 0 30 rw' (by decide) (by decide)) yv_X1_isIn rfl gX1_adds_X1_isIn rfl (Nat.le_of_ble_eq_true rfl) (by decide) ?_
      refine V_if_eqB (q := 23) (tgt := 27) dX1_adds_20 (by decide) (fun c20 => ?_) (fun c20 => ?_)
      · skip
        refine V_iconst (q := 28) dX1_adds_27 rfl ?_
        exact k28 _ (by first | (rw [show (cAdds S x w : Nat) = 1 from if_neg (by rw [c6]; decide)]; rfl) | (rw [show (cAdds S x w : Nat) = 0 from (if_pos c6).trans (if_pos c20)]; rfl) | (rw [show (cAdds S x w : Nat) = 2 from (if_pos c6).trans (if_neg (by rw [show inZ w 0 30 = false from c20]; decide))]; rfl))
      · skip
        refine V_iconst (q := 24) dX1_adds_23 rfl ?_
        refine V_goto (tgt := 28) dX1_adds_24 (by decide) ?_
        exact k28 _ (by first | (rw [show (cAdds S x w : Nat) = 1 from if_neg (by rw [c6]; decide)]; rfl) | (rw [show (cAdds S x w : Nat) = 0 from (if_pos c6).trans (if_pos c20)]; rfl) | (rw [show (cAdds S x w : Nat) = 2 from (if_pos c6).trans (if_neg (by rw [show inZ w 0 30 = false from c20]; decide))]; rfl))
    · skip
      refine V_iconst (q := 10) dX1_adds_9 rfl ?_
      refine V_goto (tgt := 28) dX1_adds_10 (by decide) ?_
      exact k28 _ (by first | (rw [show (cAdds S x w : Nat) = 1 from if_neg (by rw [c6]; decide)]; rfl) | (rw [show (cAdds S x w : Nat) = 0 from (if_pos c6).trans (if_pos c20)]; rfl) | (rw [show (cAdds S x w : Nat) = 2 from (if_pos c6).trans (if_neg (by rw [show inZ w 0 30 = false from c20]; decide))]; rfl))
