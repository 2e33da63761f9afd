theorem hasZ_k {S : St} {k : Nat} (h : k < sN S) : hasZ S (k : Int) = !(sG S k) := by rw [hasZ_nat]; simp [hasT, h]
def ckP (S : St) (k : Nat) : Bool := !(sG S k) && decide (sK S k = 1) && decide (0 < sL S k)
theorem ck_eq {S : St} {k : Nat} (h : k < sN S) : clnZ S (k : Int) 1 = ckP S k := by
  unfold clnZ kdZ ckP
  rw [hasZ_k h, Int.toNat_natCast]
  rw [show (decide ((sK S k : Int) = 1)) = decide (sK S k = 1) from decide_eq_decide.mpr (by omega)]
theorem hin_X1_missingTop : ∀ w ∈ wsX10, w ∈ wsX1_missingTop := by decide +kernel
theorem f_X1_missingTop_7 : Cond.fieldLink RX1 7 (TX1 2).1 (TX1 2).2.1 (TX1 2).2.2.1 ∈ wsX1_missingTop := by decide +kernel
theorem f_X1_missingTop_13 : Cond.fieldLink RX1 13 (TX1 3).1 (TX1 3).2.1 (TX1 3).2.2.1 ∈ wsX1_missingTop := by decide +kernel
theorem f_X1_missingTop_17 : Cond.fieldLink RX1 17 (TX1 4).1 (TX1 4).2.1 (TX1 4).2.2.1 ∈ wsX1_missingTop := by decide +kernel
theorem f_X1_missingTop_29 : Cond.fieldLink RX1 29 (TX1 8).1 (TX1 8).2.1 (TX1 8).2.2.1 ∈ wsX1_missingTop := by decide +kernel
theorem f_X1_missingTop_32 : Cond.fieldLink RX1 32 (TX1 9).1 (TX1 9).2.1 (TX1 9).2.2.1 ∈ wsX1_missingTop := by decide +kernel
theorem f_X1_missingTop_41 : Cond.fieldLink RX1 41 (TX1 12).1 (TX1 12).2.1 (TX1 12).2.2.1 ∈ wsX1_missingTop := by decide +kernel
theorem f_X1_missingTop_45 : Cond.fieldLink RX1 45 (TX1 1).1 (TX1 1).2.1 (TX1 1).2.2.1 ∈ wsX1_missingTop := by decide +kernel
set_option maxRecDepth 100000 in
set_option maxHeartbeats 4000000 in
theorem lp_X1_missingTop_23 {b : Nat → Nat} {d : Nat → ClassId} {S : St} {g : Nat → Nat} (ho : Ok S) (C : Nat) (hC : C < 8) (kk : V RX1 cX1_missingTop 7 (some .int) wsX1_missingTop (rmD 1) vX0 (tym d) (qI (tym d) (mkc b d S g 0) (iZ (mtS S 8).1) 0 0) 0 0 (mkc b d S g 0) 111 [(0, .ref (b 0)), (1, .int (iZ (mtS S C).1)), (2, .int (iZ (mtS S C).2)), (3, .int (iZ C)), (4, .int (iZ (cnt (cbP S C) (sN S) : Nat)))] []) : ∀ (m k : Nat), k ≤ sN S → sN S + 1 ≤ k + m → V RX1 cX1_missingTop 7 (some .int) wsX1_missingTop (rmD 1) vX0 (tym d) (qI (tym d) (mkc b d S g 0) (iZ (mtS S 8).1) 0 0) 0 0 (mkc b d S g 0) 23 [(0, .ref (b 0)), (1, .int (iZ (mtS S C).1)), (2, .int (iZ (mtS S C).2)), (3, .int (iZ C)), (4, .int (iZ (cnt (cbP S C) k : Nat))), (5, .int (iZ k))] [] := by
  intro m
  induction m with
  | zero => intro k  h1 h2 ; exact absurd h2 (by omega)
  | succ m ih =>
    intro k  h1 h2 
    have hn := ho.1
    refine V_iload (q := 25) dX1_missingTop_23 5 rfl rfl ?_
    refine V_aload_n (q := 26) dX1_missingTop_25 0 rfl rfl ?_
    refine V_get (q := 29) dX1_missingTop_26 hin_X1_missingTop 0 rfl rfl 1 (by decide) f_X1_missingTop_45 rfl rfl ?_
    refine V_icmp_ge (q := 32) (tgt := 111) dX1_missingTop_29 (by omega) (by omega) (by decide) (fun c29 => ?_) (fun c29 => ?_)
    · skip
      refine V_loc (lv' := [(0, _), (1, _), (2, _), (3, _), (4, _)]) [0, 1, 2, 3, 4] rfl ?_
      obtain rfl : k = sN S := by omega
      exact kk
    · skip
      have y1 := ho.2.2.1 k
      have y2 := ho.2.2.2.2.2.2.2.1 k
      have y3 := ho.2.2.2.2.2.1 k
      have y4 := ho.2.2.2.1 k
      refine V_cut (M := 68) (iZ (bZ (ckP S k))) ?_ (fun k68 => ?_)
      · -- from the merge
        refine V_istore (q := 70) (lv' := [(0, _), (1, _), (2, _), (3, _), (4, _), (5, _), (6, _)]) dX1_missingTop_68 (by decide) rfl rfl ?_
        refine V_iload (q := 72) dX1_missingTop_70 4 rfl rfl ?_
        refine V_cut (M := 102) (iZ (bZ (cbP S C k))) ?_ (fun k102 => ?_)
        · -- from the merge
          refine V_iadd (q := 103) dX1_missingTop_102 rfl ?_
          refine V_top (y := iZ (cnt (cbP S C) (k + 1) : Nat)) (by cases hq : cbP S C k <;> simp [cnt, hq, bZ]) ?_
          refine V_istore (q := 105) (lv' := [(0, _), (1, _), (2, _), (3, _), (4, _), (5, _), (6, _)]) dX1_missingTop_103 (by decide) rfl rfl ?_
          refine V_loc (lv' := [(0, _), (1, _), (2, _), (3, _), (4, _), (5, _)]) [0, 1, 2, 3, 4, 5] rfl ?_
          refine V_iinc (q := 108) (lv' := [(0, _), (1, _), (2, _), (3, _), (4, _), (5, _)]) dX1_missingTop_105 5 rfl (rfl) (by decide) rfl rfl ?_
          refine V_goto (tgt := 23) dX1_missingTop_108 (by decide) ?_
          exact ih (k + 1) (by omega) (by omega)
        · -- the ways to it
          refine V_iload (q := 74) dX1_missingTop_72 6 rfl rfl ?_
          refine V_if_eqB (q := 77) (tgt := 101) dX1_missingTop_74 (by decide) (fun c74 => ?_) (fun c74 => ?_)
          · skip
            refine V_iconst (q := 102) dX1_missingTop_101 rfl ?_
            exact k102 _ (by first | exact bZ_f (by unfold cbP; rw [ck_eq (by omega), c74]; rfl) | exact bZ_f (by unfold cbP; rw [ck_eq (by omega), c74, c94]; rfl) | exact bZ_t (by unfold cbP; rw [ck_eq (by omega), c74, c94]; rfl))
          · skip
            refine V_aload_n (q := 78) dX1_missingTop_77 0 rfl rfl ?_
            refine V_get (q := 81) dX1_missingTop_78 hin_X1_missingTop 0 rfl rfl 9 (by decide) f_X1_missingTop_32 rfl rfl ?_
            refine V_bipush (q := 83) dX1_missingTop_81 (by decide) rfl ?_
            refine V_iload_n (q := 84) dX1_missingTop_83 3 rfl rfl ?_
            refine V_imul (q := 85) dX1_missingTop_84 rfl ?_
            refine V_aload_n (q := 86) dX1_missingTop_85 0 rfl rfl ?_
            refine V_get (q := 89) dX1_missingTop_86 hin_X1_missingTop 0 rfl rfl 4 (by decide) f_X1_missingTop_17 rfl rfl ?_
            refine V_iload (q := 91) dX1_missingTop_89 5 rfl rfl ?_
            refine V_iald (q := 92) dX1_missingTop_91 3 2 rfl rfl (k) (rfl) (by omega) (by decide) (rfl) rfl ?_
            refine V_iadd (q := 93) dX1_missingTop_92 rfl ?_
            refine V_zald (q := 94) dX1_missingTop_93 8 7 rfl rfl (8 * C + sC S k) (by omega) (by omega) (by decide) (rfl) rfl ?_
            refine V_if_neB (q := 97) (tgt := 101) dX1_missingTop_94 (by decide) (fun c94 => ?_) (fun c94 => ?_)
            · skip
              refine V_iconst (q := 102) dX1_missingTop_101 rfl ?_
              exact k102 _ (by first | exact bZ_f (by unfold cbP; rw [ck_eq (by omega), c74]; rfl) | exact bZ_f (by unfold cbP; rw [ck_eq (by omega), c74, c94]; rfl) | exact bZ_t (by unfold cbP; rw [ck_eq (by omega), c74, c94]; rfl))
            · skip
              refine V_iconst (q := 98) dX1_missingTop_97 rfl ?_
              refine V_goto (tgt := 102) dX1_missingTop_98 (by decide) ?_
              exact k102 _ (by first | exact bZ_f (by unfold cbP; rw [ck_eq (by omega), c74]; rfl) | exact bZ_f (by unfold cbP; rw [ck_eq (by omega), c74, c94]; rfl) | exact bZ_t (by unfold cbP; rw [ck_eq (by omega), c74, c94]; rfl))
      · -- the ways to it
        refine V_aload_n (q := 33) dX1_missingTop_32 0 rfl rfl ?_
        refine V_get (q := 36) dX1_missingTop_33 hin_X1_missingTop 0 rfl rfl 2 (by decide) f_X1_missingTop_7 rfl rfl ?_
        refine V_iload (q := 38) dX1_missingTop_36 5 rfl rfl ?_
        refine V_zald (q := 39) dX1_missingTop_38 1 0 rfl rfl (k) (rfl) (by omega) (by decide) (rfl) rfl ?_
        refine V_if_neB (q := 42) (tgt := 67) dX1_missingTop_39 (by decide) (fun c39 => ?_) (fun c39 => ?_)
        · skip
          refine V_iconst (q := 68) dX1_missingTop_67 rfl ?_
          exact k68 _ (by first | exact bZ_f (by unfold ckP; rw [c39]; rfl) | exact bZ_f (by unfold ckP; rw [c39, decide_eq_false (by omega)]; rfl) | exact bZ_f (by unfold ckP; rw [c39, decide_eq_true (by omega), decide_eq_false (by omega)]; rfl) | exact bZ_t (by unfold ckP; rw [c39, decide_eq_true (by omega), decide_eq_true (by omega)]; rfl))
        · skip
          refine V_aload_n (q := 43) dX1_missingTop_42 0 rfl rfl ?_
          refine V_get (q := 46) dX1_missingTop_43 hin_X1_missingTop 0 rfl rfl 3 (by decide) f_X1_missingTop_13 rfl rfl ?_
          refine V_iload (q := 48) dX1_missingTop_46 5 rfl rfl ?_
          refine V_iald (q := 49) dX1_missingTop_48 2 1 rfl rfl (k) (rfl) (by omega) (by decide) (rfl) rfl ?_
          refine V_iconst (q := 50) dX1_missingTop_49 rfl ?_
          refine V_icmp_ne (q := 53) (tgt := 67) dX1_missingTop_50 (by omega) (by omega) (by decide) (fun c50 => ?_) (fun c50 => ?_)
          · skip
            refine V_iconst (q := 68) dX1_missingTop_67 rfl ?_
            exact k68 _ (by first | exact bZ_f (by unfold ckP; rw [c39]; rfl) | exact bZ_f (by unfold ckP; rw [c39, decide_eq_false (by omega)]; rfl) | exact bZ_f (by unfold ckP; rw [c39, decide_eq_true (by omega), decide_eq_false (by omega)]; rfl) | exact bZ_t (by unfold ckP; rw [c39, decide_eq_true (by omega), decide_eq_true (by omega)]; rfl))
          · skip
            refine V_aload_n (q := 54) dX1_missingTop_53 0 rfl rfl ?_
            refine V_get (q := 57) dX1_missingTop_54 hin_X1_missingTop 0 rfl rfl 8 (by decide) f_X1_missingTop_29 rfl rfl ?_
            refine V_iload (q := 59) dX1_missingTop_57 5 rfl rfl ?_
            refine V_iald (q := 60) dX1_missingTop_59 7 6 rfl rfl (k) (rfl) (by omega) (by decide) (rfl) rfl ?_
            refine V_if_le (q := 63) (tgt := 67) dX1_missingTop_60 (by omega) (by decide) (fun c60 => ?_) (fun c60 => ?_)
            · skip
              refine V_iconst (q := 68) dX1_missingTop_67 rfl ?_
              exact k68 _ (by first | exact bZ_f (by unfold ckP; rw [c39]; rfl) | exact bZ_f (by unfold ckP; rw [c39, decide_eq_false (by omega)]; rfl) | exact bZ_f (by unfold ckP; rw [c39, decide_eq_true (by omega), decide_eq_false (by omega)]; rfl) | exact bZ_t (by unfold ckP; rw [c39, decide_eq_true (by omega), decide_eq_true (by omega)]; rfl))
            · skip
              refine V_iconst (q := 64) dX1_missingTop_63 rfl ?_
              refine V_goto (tgt := 68) dX1_missingTop_64 (by decide) ?_
              exact k68 _ (by first | exact bZ_f (by unfold ckP; rw [c39]; rfl) | exact bZ_f (by unfold ckP; rw [c39, decide_eq_false (by omega)]; rfl) | exact bZ_f (by unfold ckP; rw [c39, decide_eq_true (by omega), decide_eq_false (by omega)]; rfl) | exact bZ_t (by unfold ckP; rw [c39, decide_eq_true (by omega), decide_eq_true (by omega)]; rfl))
set_option maxRecDepth 100000 in
set_option maxHeartbeats 4000000 in
theorem lp_X1_missingTop_11 {b : Nat → Nat} {d : Nat → ClassId} {S : St} {g : Nat → Nat} (ho : Ok S) : ∀ (m k : Nat), k ≤ 8 → 8 + 1 ≤ k + m → V RX1 cX1_missingTop 7 (some .int) wsX1_missingTop (rmD 1) vX0 (tym d) (qI (tym d) (mkc b d S g 0) (iZ (mtS S 8).1) 0 0) 0 0 (mkc b d S g 0) 11 [(0, .ref (b 0)), (1, .int (iZ (mtS S k).1)), (2, .int (iZ (mtS S k).2)), (3, .int (iZ k))] [] := by
  intro m
  induction m with
  | zero => intro k  h1 h2 ; exact absurd h2 (by omega)
  | succ m ih =>
    intro k  h1 h2 
    have hn := ho.1
    refine V_iload_n (q := 12) dX1_missingTop_11 3 rfl rfl ?_
    refine V_bipush (q := 14) dX1_missingTop_12 (by decide) rfl ?_
    refine V_icmp_ge (q := 17) (tgt := 142) dX1_missingTop_14 (by omega) (by omega) (by decide) (fun c14 => ?_) (fun c14 => ?_)
    · skip
      refine V_iload_n (q := 143) dX1_missingTop_142 1 rfl rfl ?_
      exact V_iret dX1_missingTop_143 rfl (by rw [show k = 8 by omega]) (rfl)
    · skip
      refine V_iconst (q := 18) dX1_missingTop_17 rfl ?_
      refine V_istore (q := 20) (lv' := [(0, _), (1, _), (2, _), (3, _), (4, _)]) dX1_missingTop_18 (by decide) rfl rfl ?_
      refine V_iconst (q := 21) dX1_missingTop_20 rfl ?_
      refine V_istore (q := 23) (lv' := [(0, _), (1, _), (2, _), (3, _), (4, _), (5, _)]) dX1_missingTop_21 (by decide) rfl rfl ?_
      refine lp_X1_missingTop_23 ho k (by omega) ?_ (sN S + 1) 0 (by omega) (by omega)
      refine V_cut (M := 122) (iZ (mtS S (k + 1)).1) ?_ (fun k122 => ?_)
      · -- from the merge
        refine V_istore_n (q := 123) (lv' := [(0, _), (1, _), (2, _), (3, _), (4, _)]) dX1_missingTop_122 (by decide) rfl rfl ?_
        refine V_cut (M := 135) (iZ (mtS S (k + 1)).2) ?_ (fun k135 => ?_)
        · -- from the merge
          refine V_istore_n (q := 136) (lv' := [(0, _), (1, _), (2, _), (3, _), (4, _)]) dX1_missingTop_135 (by decide) rfl rfl ?_
          refine V_loc (lv' := [(0, _), (1, _), (2, _), (3, _)]) [0, 1, 2, 3] rfl ?_
          refine V_iinc (q := 139) (lv' := [(0, _), (1, _), (2, _), (3, _)]) dX1_missingTop_136 3 rfl (rfl) (by decide) rfl rfl ?_
          refine V_goto (tgt := 11) dX1_missingTop_139 (by decide) ?_
          exact ih (k + 1) (by omega) (by omega)
        · -- the ways to it
          refine V_iload (q := 125) dX1_missingTop_123 4 rfl rfl ?_
          refine V_iload_n (q := 126) dX1_missingTop_125 2 rfl rfl ?_
          refine V_icmp_le (q := 129) (tgt := 134) dX1_missingTop_126 (by have q := cnt_le (cbP S k) (sN S); omega) (by have q := mtS_le ho k; omega) (by decide) (fun c126 => ?_) (fun c126 => ?_)
          · skip
            refine V_iload_n (q := 135) dX1_missingTop_134 2 rfl rfl ?_
            exact k135 _ (by first | (rw [show mtS S (k + 1) = (k, cnt (cbP S k) (sN S)) from if_pos (by omega)]) | (rw [show mtS S (k + 1) = mtS S k from if_neg (by omega)]))
          · skip
            refine V_iload (q := 131) dX1_missingTop_129 4 rfl rfl ?_
            refine V_goto (tgt := 135) dX1_missingTop_131 (by decide) ?_
            exact k135 _ (by first | (rw [show mtS S (k + 1) = (k, cnt (cbP S k) (sN S)) from if_pos (by omega)]) | (rw [show mtS S (k + 1) = mtS S k from if_neg (by omega)]))
      · -- the ways to it
        refine V_iload (q := 113) dX1_missingTop_111 4 rfl rfl ?_
        refine V_iload_n (q := 114) dX1_missingTop_113 2 rfl rfl ?_
        refine V_icmp_le (q := 117) (tgt := 121) dX1_missingTop_114 (by have q := cnt_le (cbP S k) (sN S); omega) (by have q := mtS_le ho k; omega) (by decide) (fun c114 => ?_) (fun c114 => ?_)
        · skip
          refine V_iload_n (q := 122) dX1_missingTop_121 1 rfl rfl ?_
          exact k122 _ (by first | (rw [show mtS S (k + 1) = (k, cnt (cbP S k) (sN S)) from if_pos (by omega)]) | (rw [show mtS S (k + 1) = mtS S k from if_neg (by omega)]))
        · skip
          refine V_iload_n (q := 118) dX1_missingTop_117 3 rfl rfl ?_
          refine V_goto (tgt := 122) dX1_missingTop_118 (by decide) ?_
          exact k122 _ (by first | (rw [show mtS S (k + 1) = (k, cnt (cbP S k) (sN S)) from if_pos (by omega)]) | (rw [show mtS S (k + 1) = mtS S k from if_neg (by omega)]))
theorem yv_X1_missingTop : YV yX1_missingTop wsX1_missingTop 0 := ⟨_, _, _, _, rfl, by decide +kernel, by decide⟩
set_option maxRecDepth 100000 in
set_option maxHeartbeats 4000000 in
theorem c_X1_missingTop {b : Nat → Nat} {d : Nat → ClassId} {S : St} {g : Nat → Nat} {th : Nat} (ho : Ok S)  : CtI yX1_missingTop wsX1_missingTop (rmD 1) (tym d) [.ref (b 0)] (mkc b d S g th) (iZ (mtS S 8).1) (mkc b d S g 0) := by
  refine CtI_of (own := RX1) (by decide) rfl rfl (Nat.le_of_ble_eq_true rfl) ?_
  refine V_lvq (lv' := [(0, _)]) rfl ?_
  refine V_aload_n (q := 1) dX1_missingTop_0 0 rfl rfl ?_
  refine V_iconst (q := 2) dX1_missingTop_1 rfl ?_
  refine V_put (q := 5) (ty := .int) (ws' := mkc b d S g 0) dX1_missingTop_2 hin_X1_missingTop tyX1 tyX1_ok nmX1 0 rfl rfl 12 (by decide) f_X1_missingTop_41 rfl (by decide +kernel) rfl rfl (Nat.le_of_ble_eq_true rfl) (mkTh 0) rfl ?_
  refine V_iconst (q := 6) dX1_missingTop_5 rfl ?_
  refine V_istore_n (q := 7) (lv' := [(0, _), (1, _)]) dX1_missingTop_6 (by decide) rfl rfl ?_
  refine V_iconst (q := 8) dX1_missingTop_7 rfl ?_
  refine V_istore_n (q := 9) (lv' := [(0, _), (1, _), (2, _)]) dX1_missingTop_8 (by decide) rfl rfl ?_
  refine V_iconst (q := 10) dX1_missingTop_9 rfl ?_
  refine V_istore_n (q := 11) (lv' := [(0, _), (1, _), (2, _), (3, _)]) dX1_missingTop_10 (by decide) rfl rfl ?_
  exact lp_X1_missingTop_11 ho 9 0 (by omega) (by omega)
def gT (k : Nat) : Int := ((k / 156 : Nat) : Int)
def gU (k : Nat) : Int := ((k / 13 % 12 : Nat) : Int)
def gE (k : Nat) : Int := ((k % 13 : Nat) : Int) - 1
def moA (S : St) (p k : Nat) : Bool := canZ S (gT k) (gU k) (gE k) && !(seenZ S (gT k) (gU k) p)
def moI (S : St) (p k : Nat) : Nat := if moA S p k then owZ S (gT k) (gU k) (gE k) else 0
def moB (S : St) (w : Int) (p k l : Nat) : Bool := moA S p k && decide (w ≤ (moI S p k : Int)) && decide (moI S p k < l)
def moS (S : St) (w : Int) (p : Nat) : Nat → Int × Nat
  | 0 => (-1, 100)
  | k + 1 => if moB S w p k (moS S w p k).2 then (10000 * gT k + 100 * gU k + gE k + 1, moI S p k) else moS S w p k
theorem moI_le {S : St} (ho : Ok S) (p k : Nat) : moI S p k ≤ 30 := by
  unfold moI
  split
  · exact owZ_le ho _ _ _
  · exact Nat.zero_le _
theorem moS_le {S : St} (ho : Ok S) (w : Int) (p : Nat) : ∀ k, (moS S w p k).2 ≤ 100
  | 0 => Nat.le_refl _
  | k + 1 => by
    have ih := moS_le ho w p k
    show (if moB S w p k (moS S w p k).2 then (10000 * gT k + 100 * gU k + gE k + 1, moI S p k) else moS S w p k).2 ≤ 100
    split
    · exact Nat.le_trans (moI_le ho p k) (by decide)
    · exact ih
theorem cFor_lt (w p : Int) : cFor w p < 4 := by unfold cFor; split <;> decide
theorem cFor_0 {w p : Int} (h : cFor w p = 0) : 0 ≤ p ∧ p ≤ 255 := by
  unfold cFor at h
  split at h
  · next h1 =>
    simp only [inZ, Bool.and_eq_true, decide_eq_true_eq] at h1
    exact h1.2
  · exact absurd h (by decide)
theorem cCare_lt (r : Int) : cCare r < 4 := by unfold cCare; split <;> decide
theorem cPass_lt (S : St) (d : Int) : cPass S d < 4 := by
  unfold cPass
  split
  · split <;> decide
  · decide
theorem cPass_0 {S : St} {d : Int} (h : cPass S d = 0) : (1 ≤ d ∧ d ≤ 365) ∧ (sT S : Int) + d ≤ 10000 := by
  unfold cPass at h
  split at h
  · next h1 =>
    split at h
    · next h2 => exact ⟨by simpa only [inZ, Bool.and_eq_true, decide_eq_true_eq] using h1, h2⟩
    · exact absurd h (by decide)
  · exact absurd h (by decide)
set_option maxRecDepth 100000 in
set_option maxHeartbeats 4000000 in
theorem lp_X1_outfitFor {b : Nat → Nat} {d : Nat → ClassId} {S : St} {g : Nat → Nat} {th : Nat} (ho : Ok S) (w : Int) (p : Nat) (rw : -2147483648 ≤ w ∧ w < 2147483648) (hp : p < 256) : ∀ (m k : Nat), k ≤ 1872 → 1872 + 1 ≤ k + m → V RX1 cX1_outfitFor 11 (some .int) wsX1_outfitFor (rmD 3) vX0 (tym d) (qI (tym d) (mkc b d S g th) (iZ (moS S w p 1872).1) 0 0) 0 0 (mkc b d S g th) 40 [(0, .ref (b 0)), (1, .int (iZ w)), (2, .int (iZ p)), (3, .int (iZ (moS S w p k).1)), (4, .int (iZ (moS S w p k).2)), (5, .int (iZ k))] [] := by
  intro m
  induction m with
  | zero => intro k  h1 h2 ; exact absurd h2 (by omega)
  | succ m ih =>
    intro k  h1 h2 
    have r1 : -2147483648 ≤ gT k ∧ gT k < 2147483648 := by unfold gT; omega
    have r2 : -2147483648 ≤ gU k ∧ gU k < 2147483648 := by unfold gU; omega
    have r3 : -2147483648 ≤ gE k ∧ gE k < 2147483648 := by unfold gE; omega
    have z1 := moI_le ho p k
    have z2 := moS_le ho w p k
    have rw' := rw
    refine V_iload (q := 42) dX1_outfitFor_40 5 rfl rfl ?_
    refine V_sipush (q := 45) dX1_outfitFor_42 (by decide) rfl ?_
    refine V_icmp_ge (q := 48) (tgt := 213) dX1_outfitFor_45 (by omega) (by omega) (by decide) (fun c45 => ?_) (fun c45 => ?_)
    · skip
      refine V_iload_n (q := 214) dX1_outfitFor_213 3 rfl rfl ?_
      exact V_iret dX1_outfitFor_214 rfl (by rw [show k = 1872 by omega]) (rfl)
    · skip
      refine V_iload (q := 50) dX1_outfitFor_48 5 rfl rfl ?_
      refine V_sipush (q := 53) dX1_outfitFor_50 (by decide) rfl ?_
      refine V_idiv (q := 54) (b := 156) dX1_outfitFor_53 (by omega) (by decide) (by decide) rfl ?_
      refine V_top (y := iZ (gT k)) rfl ?_
      refine V_istore (q := 56) (lv' := [(0, _), (1, _), (2, _), (3, _), (4, _), (5, _), (6, _)]) dX1_outfitFor_54 (by decide) rfl rfl ?_
      refine V_iload (q := 58) dX1_outfitFor_56 5 rfl rfl ?_
      refine V_bipush (q := 60) dX1_outfitFor_58 (by decide) rfl ?_
      refine V_idiv (q := 61) (b := 13) dX1_outfitFor_60 (by omega) (by decide) (by decide) rfl ?_
      refine V_bipush (q := 63) dX1_outfitFor_61 (by decide) rfl ?_
      refine V_irem (q := 64) (b := 12) dX1_outfitFor_63 (by omega) (by decide) (by decide) rfl ?_
      refine V_top (y := iZ (gU k)) rfl ?_
      refine V_istore (q := 66) (lv' := [(0, _), (1, _), (2, _), (3, _), (4, _), (5, _), (6, _), (7, _)]) dX1_outfitFor_64 (by decide) rfl rfl ?_
      refine V_iload (q := 68) dX1_outfitFor_66 5 rfl rfl ?_
      refine V_bipush (q := 70) dX1_outfitFor_68 (by decide) rfl ?_
      refine V_irem (q := 71) (b := 13) dX1_outfitFor_70 (by omega) (by decide) (by decide) rfl ?_
      refine V_iconst (q := 72) dX1_outfitFor_71 rfl ?_
      refine V_isub (q := 73) dX1_outfitFor_72 rfl ?_
      refine V_top (y := iZ (gE k)) rfl ?_
      refine V_istore (q := 75) (lv' := [(0, _), (1, _), (2, _), (3, _), (4, _), (5, _), (6, _), (7, _), (8, _)]) dX1_outfitFor_73 (by decide) rfl rfl ?_
      refine V_cut (M := 118) (iZ (bZ (moA S p k))) ?_ (fun k118 => ?_)
      · -- from the merge
        refine V_istore (q := 120) (lv' := [(0, _), (1, _), (2, _), (3, _), (4, _), (5, _), (6, _), (7, _), (8, _), (9, _)]) dX1_outfitFor_118 (by decide) rfl rfl ?_
        refine V_cut (M := 139) (iZ (moI S p k : Nat)) ?_ (fun k139 => ?_)
        · -- from the merge
          refine V_istore (q := 141) (lv' := [(0, _), (1, _), (2, _), (3, _), (4, _), (5, _), (6, _), (7, _), (8, _), (9, _), (10, _)]) dX1_outfitFor_139 (by decide) rfl rfl ?_
          refine V_cut (M := 164) (iZ (bZ (moB S w p k (moS S w p k).2))) ?_ (fun k164 => ?_)
          · -- from the merge
            refine V_istore (q := 166) (lv' := [(0, _), (1, _), (2, _), (3, _), (4, _), (5, _), (6, _), (7, _), (8, _), (9, _), (10, _)]) dX1_outfitFor_164 (by decide) rfl rfl ?_
            refine V_cut (M := 192) (iZ (moS S w p (k + 1)).1) ?_ (fun k192 => ?_)
            · -- from the merge
              refine V_istore_n (q := 193) (lv' := [(0, _), (1, _), (2, _), (3, _), (4, _), (5, _), (6, _), (7, _), (8, _), (9, _), (10, _)]) dX1_outfitFor_192 (by decide) rfl rfl ?_
              refine V_cut (M := 205) (iZ (moS S w p (k + 1)).2) ?_ (fun k205 => ?_)
              · -- from the merge
                refine V_istore (q := 207) (lv' := [(0, _), (1, _), (2, _), (3, _), (4, _), (5, _), (6, _), (7, _), (8, _), (9, _), (10, _)]) dX1_outfitFor_205 (by decide) rfl rfl ?_
                refine V_loc (lv' := [(0, _), (1, _), (2, _), (3, _), (4, _), (5, _)]) [0, 1, 2, 3, 4, 5] rfl ?_
                refine V_iinc (q := 210) (lv' := [(0, _), (1, _), (2, _), (3, _), (4, _), (5, _)]) dX1_outfitFor_207 5 rfl (rfl) (by decide) rfl rfl ?_
                refine V_goto (tgt := 40) dX1_outfitFor_210 (by decide) ?_
                exact ih (k + 1) (by omega) (by omega)
              · -- the ways to it
                refine V_iload (q := 195) dX1_outfitFor_193 9 rfl rfl ?_
                refine V_if_eqB (q := 198) (tgt := 203) dX1_outfitFor_195 (by decide) (fun c195 => ?_) (fun c195 => ?_)
                · skip
                  refine V_iload (q := 205) dX1_outfitFor_203 4 rfl rfl ?_
                  exact k205 _ (by first | (rw [show moS S w p (k + 1) = (10000 * gT k + 100 * gU k + gE k + 1, moI S p k) from if_pos c195]) | (rw [show moS S w p (k + 1) = moS S w p k from if_neg (by rw [c195]; decide)]))
                · skip
                  refine V_iload (q := 200) dX1_outfitFor_198 10 rfl rfl ?_
                  refine V_goto (tgt := 205) dX1_outfitFor_200 (by decide) ?_
                  exact k205 _ (by first | (rw [show moS S w p (k + 1) = (10000 * gT k + 100 * gU k + gE k + 1, moI S p k) from if_pos c195]) | (rw [show moS S w p (k + 1) = moS S w p k from if_neg (by rw [c195]; decide)]))
            · -- the ways to it
              refine V_iload (q := 168) dX1_outfitFor_166 9 rfl rfl ?_
              refine V_if_eqB (q := 171) (tgt := 191) dX1_outfitFor_168 (by decide) (fun c168 => ?_) (fun c168 => ?_)
              · skip
                refine V_iload_n (q := 192) dX1_outfitFor_191 3 rfl rfl ?_
                exact k192 _ (by first | (rw [show moS S w p (k + 1) = (10000 * gT k + 100 * gU k + gE k + 1, moI S p k) from if_pos c168]) | (rw [show moS S w p (k + 1) = moS S w p k from if_neg (by rw [c168]; decide)]))
              · skip
                refine V_sipush (q := 174) dX1_outfitFor_171 (by decide) rfl ?_
                refine V_iload (q := 176) dX1_outfitFor_174 6 rfl rfl ?_
                refine V_imul (q := 177) dX1_outfitFor_176 rfl ?_
                refine V_bipush (q := 179) dX1_outfitFor_177 (by decide) rfl ?_
                refine V_iload (q := 181) dX1_outfitFor_179 7 rfl rfl ?_
                refine V_imul (q := 182) dX1_outfitFor_181 rfl ?_
                refine V_iadd (q := 183) dX1_outfitFor_182 rfl ?_
                refine V_iload (q := 185) dX1_outfitFor_183 8 rfl rfl ?_
                refine V_iadd (q := 186) dX1_outfitFor_185 rfl ?_
                refine V_iconst (q := 187) dX1_outfitFor_186 rfl ?_
                refine V_iadd (q := 188) dX1_outfitFor_187 rfl ?_
                refine V_goto (tgt := 192) dX1_outfitFor_188 (by decide) ?_
                exact k192 _ (by first | (rw [show moS S w p (k + 1) = (10000 * gT k + 100 * gU k + gE k + 1, moI S p k) from if_pos c168]) | (rw [show moS S w p (k + 1) = moS S w p k from if_neg (by rw [c168]; decide)]))
          · -- the ways to it
            refine V_iload (q := 143) dX1_outfitFor_141 9 rfl rfl ?_
            refine V_if_eqB (q := 146) (tgt := 163) dX1_outfitFor_143 (by decide) (fun c143 => ?_) (fun c143 => ?_)
            · skip
              refine V_iconst (q := 164) dX1_outfitFor_163 rfl ?_
              exact k164 _ (by first | exact bZ_f (by unfold moB; rw [c143]; rfl) | exact bZ_f (by unfold moB; rw [c143, decide_eq_false (by omega)]; rfl) | exact bZ_f (by unfold moB; rw [c143, decide_eq_true (by omega), decide_eq_false (by omega)]; rfl) | exact bZ_t (by unfold moB; rw [c143, decide_eq_true (by omega), decide_eq_true (by omega)]; rfl))
            · skip
              refine V_iload (q := 148) dX1_outfitFor_146 10 rfl rfl ?_
              refine V_iload_n (q := 149) dX1_outfitFor_148 1 rfl rfl ?_
              refine V_icmp_lt (q := 152) (tgt := 163) dX1_outfitFor_149 (by omega) (rw') (by decide) (fun c149 => ?_) (fun c149 => ?_)
              · skip
                refine V_iconst (q := 164) dX1_outfitFor_163 rfl ?_
                exact k164 _ (by first | exact bZ_f (by unfold moB; rw [c143]; rfl) | exact bZ_f (by unfold moB; rw [c143, decide_eq_false (by omega)]; rfl) | exact bZ_f (by unfold moB; rw [c143, decide_eq_true (by omega), decide_eq_false (by omega)]; rfl) | exact bZ_t (by unfold moB; rw [c143, decide_eq_true (by omega), decide_eq_true (by omega)]; rfl))
              · skip
                refine V_iload (q := 154) dX1_outfitFor_152 10 rfl rfl ?_
                refine V_iload (q := 156) dX1_outfitFor_154 4 rfl rfl ?_
                refine V_icmp_ge (q := 159) (tgt := 163) dX1_outfitFor_156 (by omega) (by omega) (by decide) (fun c156 => ?_) (fun c156 => ?_)
                · skip
                  refine V_iconst (q := 164) dX1_outfitFor_163 rfl ?_
                  exact k164 _ (by first | exact bZ_f (by unfold moB; rw [c143]; rfl) | exact bZ_f (by unfold moB; rw [c143, decide_eq_false (by omega)]; rfl) | exact bZ_f (by unfold moB; rw [c143, decide_eq_true (by omega), decide_eq_false (by omega)]; rfl) | exact bZ_t (by unfold moB; rw [c143, decide_eq_true (by omega), decide_eq_true (by omega)]; rfl))
                · skip
                  refine V_iconst (q := 160) dX1_outfitFor_159 rfl ?_
                  refine V_goto (tgt := 164) dX1_outfitFor_160 (by decide) ?_
                  exact k164 _ (by first | exact bZ_f (by unfold moB; rw [c143]; rfl) | exact bZ_f (by unfold moB; rw [c143, decide_eq_false (by omega)]; rfl) | exact bZ_f (by unfold moB; rw [c143, decide_eq_true (by omega), decide_eq_false (by omega)]; rfl) | exact bZ_t (by unfold moB; rw [c143, decide_eq_true (by omega), decide_eq_true (by omega)]; rfl))
        · -- the ways to it
          refine V_iload (q := 122) dX1_outfitFor_120 9 rfl rfl ?_
          refine V_if_eqB (q := 125) (tgt := 138) dX1_outfitFor_122 (by decide) (fun c122 => ?_) (fun c122 => ?_)
          · skip
            refine V_iconst (q := 139) dX1_outfitFor_138 rfl ?_
            exact k139 _ (by unfold moI; first | (rw [if_pos c122]) | (rw [if_neg (by rw [c122]; decide)]; rfl))
          · skip
            refine V_aload_n (q := 126) dX1_outfitFor_125 0 rfl rfl ?_
            refine V_iload (q := 128) dX1_outfitFor_126 6 rfl rfl ?_
            refine V_iload (q := 130) dX1_outfitFor_128 7 rfl rfl ?_
            refine V_iload (q := 132) dX1_outfitFor_130 8 rfl rfl ?_
            refine V_callIv (q := 135) dX1_outfitFor_132 (c_X1_warmthOf ho (gT k) (gU k) (gE k) r1 r2 r3 (by have c123 := c122; simp only [moA, Bool.and_eq_true] at c123; exact can_in c123.1)) yv_X1_warmthOf rfl gX1_outfitFor_X1_warmthOf rfl 0 rfl rfl rfl rfl (Nat.le_of_ble_eq_true rfl) (by decide) ?_
            refine V_goto (tgt := 139) dX1_outfitFor_135 (by decide) ?_
            exact k139 _ (by unfold moI; first | (rw [if_pos c122]) | (rw [if_neg (by rw [c122]; decide)]; rfl))
      · -- the ways to it
        refine V_aload_n (q := 76) dX1_outfitFor_75 0 rfl rfl ?_
        refine V_iload (q := 78) dX1_outfitFor_76 6 rfl rfl ?_
        refine V_iload (q := 80) dX1_outfitFor_78 7 rfl rfl ?_
        refine V_iload (q := 82) dX1_outfitFor_80 8 rfl rfl ?_
        refine V_callIv (q := 85) dX1_outfitFor_82 (c_X1_wrong ho (gT k) (gU k) (gE k) r1 r2 r3) yv_X1_wrong rfl gX1_outfitFor_X1_wrong rfl 0 rfl rfl rfl rfl (Nat.le_of_ble_eq_true rfl) (by decide) ?_
        refine V_if_ne (q := 88) (tgt := 117) dX1_outfitFor_85 (by have q := wr_lt S (gT k) (gU k) (gE k); omega) (by decide) (fun c85 => ?_) (fun c85 => ?_)
        · skip
          refine V_iconst (q := 118) dX1_outfitFor_117 rfl ?_
          exact k118 _ (by first | exact bZ_f (by unfold moA; rw [can_no (by omega)]; rfl) | exact bZ_f (by unfold moA; rw [c98]; rfl) | exact bZ_f (by unfold moA; rw [c98, c110]; rfl) | exact bZ_t (by unfold moA; rw [c98, c110]; rfl))
        · skip
          refine V_aload_n (q := 89) dX1_outfitFor_88 0 rfl rfl ?_
          refine V_iload (q := 91) dX1_outfitFor_89 6 rfl rfl ?_
          refine V_iload (q := 93) dX1_outfitFor_91 7 rfl rfl ?_
          refine V_iload (q := 95) dX1_outfitFor_93 8 rfl rfl ?_
          refine V_callIv (q := 98) dX1_outfitFor_95 (c_X1_fits ho (gT k) (gU k) (gE k) r1 r2 r3 (by omega)) yv_X1_fits rfl gX1_outfitFor_X1_fits rfl 0 rfl rfl rfl rfl (Nat.le_of_ble_eq_true rfl) (by decide) ?_
          refine V_if_eqB (q := 101) (tgt := 117) dX1_outfitFor_98 (by decide) (fun c98 => ?_) (fun c98 => ?_)
          · skip
            refine V_iconst (q := 118) dX1_outfitFor_117 rfl ?_
            exact k118 _ (by first | exact bZ_f (by unfold moA; rw [can_no (by omega)]; rfl) | exact bZ_f (by unfold moA; rw [c98]; rfl) | exact bZ_f (by unfold moA; rw [c98, c110]; rfl) | exact bZ_t (by unfold moA; rw [c98, c110]; rfl))
          · skip
            refine V_aload_n (q := 102) dX1_outfitFor_101 0 rfl rfl ?_
            refine V_iload (q := 104) dX1_outfitFor_102 6 rfl rfl ?_
            refine V_iload (q := 106) dX1_outfitFor_104 7 rfl rfl ?_
            refine V_iload_n (q := 107) dX1_outfitFor_106 2 rfl rfl ?_
            refine V_callIv (q := 110) dX1_outfitFor_107 (c_X1_isSoon ho (gT k) (gU k) p r1 r2 hp (wr_0 (by omega : wrZ S (gT k) (gU k) (gE k) = 0)).1 (wr_0 (by omega : wrZ S (gT k) (gU k) (gE k) = 0)).2.1) yv_X1_isSoon rfl gX1_outfitFor_X1_isSoon rfl 0 rfl rfl rfl rfl (Nat.le_of_ble_eq_true rfl) (by decide) ?_
            refine V_if_neB (q := 113) (tgt := 117) dX1_outfitFor_110 (by decide) (fun c110 => ?_) (fun c110 => ?_)
            · skip
              refine V_iconst (q := 118) dX1_outfitFor_117 rfl ?_
              exact k118 _ (by first | exact bZ_f (by unfold moA; rw [can_no (by omega)]; rfl) | exact bZ_f (by unfold moA; rw [c98]; rfl) | exact bZ_f (by unfold moA; rw [c98, c110]; rfl) | exact bZ_t (by unfold moA; rw [c98, c110]; rfl))
            · skip
              refine V_iconst (q := 114) dX1_outfitFor_113 rfl ?_
              refine V_goto (tgt := 118) dX1_outfitFor_114 (by decide) ?_
              exact k118 _ (by first | exact bZ_f (by unfold moA; rw [can_no (by omega)]; rfl) | exact bZ_f (by unfold moA; rw [c98]; rfl) | exact bZ_f (by unfold moA; rw [c98, c110]; rfl) | exact bZ_t (by unfold moA; rw [c98, c110]; rfl))
theorem yv_X1_outfitFor : YV yX1_outfitFor wsX1_outfitFor 2 := ⟨_, _, _, _, rfl, by decide +kernel, by decide⟩
set_option maxRecDepth 100000 in
set_option maxHeartbeats 4000000 in
theorem c_X1_outfitFor {b : Nat → Nat} {d : Nat → ClassId} {S : St} {g : Nat → Nat} {th : Nat} (ho : Ok S) (w p : Int) (rw : -2147483648 ≤ w ∧ w < 2147483648) (rp : -2147483648 ≤ p ∧ p < 2147483648) : CtI yX1_outfitFor wsX1_outfitFor (rmD 3) (tym d) [.ref (b 0), .int (iZ w), .int (iZ p)] (mkc b d S g th) (iZ (if cFor w p = 0 then (moS S w p.toNat 1872).1 else 0)) (mkc b d (S) g (cFor w p)) := by
  refine CtI_of (own := RX1) (by decide) rfl rfl (Nat.le_of_ble_eq_true rfl) ?_
  refine V_lvq (lv' := [(0, _), (1, _), (2, _)]) rfl ?_
  refine V_aload_n (q := 1) dX1_outfitFor_0 0 rfl rfl ?_
  have rw' := rw
  refine V_cut (M := 23) (iZ (cFor w p : Nat)) ?_ (fun k23 => ?_)
  · -- from the merge
    refine V_callIv (q := 26) dX1_outfitFor_23 (c_X1_goes (cFor w p) (cFor_lt w p)) yv_X1_goes rfl gX1_outfitFor_X1_goes rfl 0 rfl rfl rfl rfl (Nat.le_of_ble_eq_true rfl) (by decide) ?_
    refine V_if_neB (q := 29) (tgt := 31) dX1_outfitFor_26 (by decide) (fun c26 => ?_) (fun c26 => ?_)
    · skip
      have b1 := cFor_0 (of_decide_eq_true c26)
      have ec : cFor w p = 0 := of_decide_eq_true c26
      simp only [ec, ↓reduceIte]
      rw [show (iZ p : Int32) = iZ ((p.toNat : Nat) : Int) by rw [Int.toNat_of_nonneg b1.1]]
      refine V_iconst (q := 32) dX1_outfitFor_31 rfl ?_
      refine V_istore_n (q := 33) (lv' := [(0, _), (1, _), (2, _), (3, _)]) dX1_outfitFor_32 (by decide) rfl rfl ?_
      refine V_bipush (q := 35) dX1_outfitFor_33 (by decide) rfl ?_
      refine V_istore (q := 37) (lv' := [(0, _), (1, _), (2, _), (3, _), (4, _)]) dX1_outfitFor_35 (by decide) rfl rfl ?_
      refine V_iconst (q := 38) dX1_outfitFor_37 rfl ?_
      refine V_istore (q := 40) (lv' := [(0, _), (1, _), (2, _), (3, _), (4, _), (5, _)]) dX1_outfitFor_38 (by decide) rfl rfl ?_
      exact lp_X1_outfitFor ho w p.toNat rw' (by omega) 1873 0 (by omega) (by omega)
    · skip
      refine V_iconst (q := 30) dX1_outfitFor_29 rfl ?_
      exact V_iret dX1_outfitFor_30 rfl (by rw [if_neg (of_decide_eq_false c26)]) (rfl)
  · -- the ways to it
    refine V_iload_n (q := 2) dX1_outfitFor_1 1 rfl rfl ?_
    refine V_iconst (q := 3) dX1_outfitFor_2 rfl ?_
    refine V_bipush (q := 5) dX1_outfitFor_3 (by decide) rfl ?_
    refine V_callIs (q := 8) dX1_outfitFor_5 (c_X1_isIn w 0 30 rw' (by decide) (by decide)) yv_X1_isIn rfl gX1_outfitFor_X1_isIn rfl (Nat.le_of_ble_eq_true rfl) (by decide) ?_
    refine V_if_eqB (q := 11) (tgt := 22) dX1_outfitFor_8 (by decide) (fun c8 => ?_) (fun c8 => ?_)
    · skip
      refine V_iconst (q := 23) dX1_outfitFor_22 rfl ?_
      exact k23 _ (by first | (rw [show (cFor w p : Nat) = 0 from if_pos (by simp only [inZ, c8, c15]; rfl)]; rfl) | (rw [show (cFor w p : Nat) = 1 from if_neg (by first | (simp only [inZ, c8]; simp; done) | (simp only [inZ, c15]; simp; done))]; rfl))
    · skip
      refine V_iload_n (q := 12) dX1_outfitFor_11 2 rfl rfl ?_
      refine V_callIs (q := 15) dX1_outfitFor_12 (c_X1_arePeople p rp) yv_X1_arePeople rfl gX1_outfitFor_X1_arePeople rfl (Nat.le_of_ble_eq_true rfl) (by decide) ?_
      refine V_if_eqB (q := 18) (tgt := 22) dX1_outfitFor_15 (by decide) (fun c15 => ?_) (fun c15 => ?_)
      · skip
        refine V_iconst (q := 23) dX1_outfitFor_22 rfl ?_
        exact k23 _ (by first | (rw [show (cFor w p : Nat) = 0 from if_pos (by simp only [inZ, c8, c15]; rfl)]; rfl) | (rw [show (cFor w p : Nat) = 1 from if_neg (by first | (simp only [inZ, c8]; simp; done) | (simp only [inZ, c15]; simp; done))]; rfl))
      · skip
        refine V_iconst (q := 19) dX1_outfitFor_18 rfl ?_
        refine V_goto (tgt := 23) dX1_outfitFor_19 (by decide) ?_
        exact k23 _ (by first | (rw [show (cFor w p : Nat) = 0 from if_pos (by simp only [inZ, c8, c15]; rfl)]; rfl) | (rw [show (cFor w p : Nat) = 1 from if_neg (by first | (simp only [inZ, c8]; simp; done) | (simp only [inZ, c15]; simp; done))]; rfl))
theorem hin_X1_isOf : ∀ w ∈ wsX10, w ∈ wsX1_isOf := by decide +kernel
theorem f_X1_isOf_7 : Cond.fieldLink RX1 7 (TX1 2).1 (TX1 2).2.1 (TX1 2).2.2.1 ∈ wsX1_isOf := by decide +kernel
theorem f_X1_isOf_17 : Cond.fieldLink RX1 17 (TX1 4).1 (TX1 4).2.1 (TX1 4).2.2.1 ∈ wsX1_isOf := by decide +kernel
theorem f_X1_isOf_26 : Cond.fieldLink RX1 26 (TX1 7).1 (TX1 7).2.1 (TX1 7).2.2.1 ∈ wsX1_isOf := by decide +kernel
theorem yv_X1_isOf : YV yX1_isOf wsX1_isOf 3 := ⟨_, _, _, _, rfl, by decide +kernel, by decide⟩
set_option maxRecDepth 100000 in
set_option maxHeartbeats 4000000 in
theorem c_X1_isOf {b : Nat → Nat} {d : Nat → ClassId} {S : St} {g : Nat → Nat} {th : Nat} (ho : Ok S) (k : Nat) (r : Int) (dk : Bool) (hk : k < sN S) (rr : -2147483648 ≤ r ∧ r < 2147483648) : CtI yX1_isOf wsX1_isOf (rmD 1) (tym d) [.ref (b 0), .int (iZ k), .int (iZ r), .int (iZ (bZ dk))] (mkc b d S g th) (iZ (bZ (washZ S k r dk))) (mkc b d S g th) := by
  refine CtI_of (own := RX1) (by decide) rfl rfl (Nat.le_of_ble_eq_true rfl) ?_
  refine V_lvq (lv' := [(0, _), (1, _), (2, _), (3, _)]) rfl ?_
  have hn := ho.1
  have h6 := ho.2.2.2.2.2.2.1 k
  have h7 := ho.2.2.2.1 k
  refine V_aload_n (q := 1) dX1_isOf_0 0 rfl rfl ?_
  refine V_get (q := 4) dX1_isOf_1 hin_X1_isOf 0 rfl rfl 2 (by decide) f_X1_isOf_7 rfl rfl ?_
  refine V_iload_n (q := 5) dX1_isOf_4 1 rfl rfl ?_
  refine V_zald (q := 6) dX1_isOf_5 1 0 rfl rfl (k) (rfl) (by omega) (by decide) (rfl) rfl ?_
  refine V_if_neB (q := 9) (tgt := 42) dX1_isOf_6 (by decide) (fun c6 => ?_) (fun c6 => ?_)
  · skip
    refine V_iconst (q := 43) dX1_isOf_42 rfl ?_
    exact V_zret dX1_isOf_43 rfl (by first | exact bZ_t (by unfold washZ; rw [hasZ_k hk, c6]; rw [Int.toNat_natCast]; first | rfl | (rw [decide_eq_false c16]; rfl) | (rw [decide_eq_true c16, beq_eq_false_iff_ne.mpr c36]; rfl) | (rw [decide_eq_true c16, c36]; simp)) | exact bZ_f (by unfold washZ; rw [hasZ_k hk, c6]; rw [Int.toNat_natCast]; first | rfl | (rw [decide_eq_false c16]; rfl) | (rw [decide_eq_true c16, beq_eq_false_iff_ne.mpr c36]; rfl) | (rw [decide_eq_true c16, c36]; simp))) (rfl)
  · skip
    refine V_aload_n (q := 10) dX1_isOf_9 0 rfl rfl ?_
    refine V_get (q := 13) dX1_isOf_10 hin_X1_isOf 0 rfl rfl 7 (by decide) f_X1_isOf_26 rfl rfl ?_
    refine V_iload_n (q := 14) dX1_isOf_13 1 rfl rfl ?_
    refine V_iald (q := 15) dX1_isOf_14 6 5 rfl rfl (k) (rfl) (by omega) (by decide) (rfl) rfl ?_
    refine V_iload_n (q := 16) dX1_isOf_15 2 rfl rfl ?_
    refine V_icmp_ne (q := 19) (tgt := 42) dX1_isOf_16 (by omega) (rr) (by decide) (fun c16 => ?_) (fun c16 => ?_)
    · skip
      refine V_iconst (q := 43) dX1_isOf_42 rfl ?_
      exact V_zret dX1_isOf_43 rfl (by first | exact bZ_t (by unfold washZ; rw [hasZ_k hk, c6]; rw [Int.toNat_natCast]; first | rfl | (rw [decide_eq_false c16]; rfl) | (rw [decide_eq_true c16, beq_eq_false_iff_ne.mpr c36]; rfl) | (rw [decide_eq_true c16, c36]; simp)) | exact bZ_f (by unfold washZ; rw [hasZ_k hk, c6]; rw [Int.toNat_natCast]; first | rfl | (rw [decide_eq_false c16]; rfl) | (rw [decide_eq_true c16, beq_eq_false_iff_ne.mpr c36]; rfl) | (rw [decide_eq_true c16, c36]; simp))) (rfl)
    · skip
      refine V_cut (M := 34) (iZ (bZ (decide (4 ≤ sC S k)))) ?_ (fun k34 => ?_)
      · -- from the merge
        refine V_iload_n (q := 35) dX1_isOf_34 3 rfl rfl ?_
        refine V_icmp_ne (q := 38) (tgt := 42) dX1_isOf_35 (bZ_in _) (bZ_in _) (by decide) (fun c35 => ?_) (fun c35 => ?_)
        · skip
          have c36 : ¬ (decide (4 ≤ sC S k)) = dk := fun q => c35 (bZ_inj.mpr q)
          refine V_iconst (q := 43) dX1_isOf_42 rfl ?_
          exact V_zret dX1_isOf_43 rfl (by first | exact bZ_t (by unfold washZ; rw [hasZ_k hk, c6]; rw [Int.toNat_natCast]; first | rfl | (rw [decide_eq_false c16]; rfl) | (rw [decide_eq_true c16, beq_eq_false_iff_ne.mpr c36]; rfl) | (rw [decide_eq_true c16, c36]; simp)) | exact bZ_f (by unfold washZ; rw [hasZ_k hk, c6]; rw [Int.toNat_natCast]; first | rfl | (rw [decide_eq_false c16]; rfl) | (rw [decide_eq_true c16, beq_eq_false_iff_ne.mpr c36]; rfl) | (rw [decide_eq_true c16, c36]; simp))) (rfl)
        · skip
          have c36 := bZ_inj.mp c35
          refine V_iconst (q := 39) dX1_isOf_38 rfl ?_
          refine V_goto (tgt := 43) dX1_isOf_39 (by decide) ?_
          exact V_zret dX1_isOf_43 rfl (by first | exact bZ_t (by unfold washZ; rw [hasZ_k hk, c6]; rw [Int.toNat_natCast]; first | rfl | (rw [decide_eq_false c16]; rfl) | (rw [decide_eq_true c16, beq_eq_false_iff_ne.mpr c36]; rfl) | (rw [decide_eq_true c16, c36]; simp)) | exact bZ_f (by unfold washZ; rw [hasZ_k hk, c6]; rw [Int.toNat_natCast]; first | rfl | (rw [decide_eq_false c16]; rfl) | (rw [decide_eq_true c16, beq_eq_false_iff_ne.mpr c36]; rfl) | (rw [decide_eq_true c16, c36]; simp))) (rfl)
      · -- the ways to it
        refine V_aload_n (q := 20) dX1_isOf_19 0 rfl rfl ?_
        refine V_get (q := 23) dX1_isOf_20 hin_X1_isOf 0 rfl rfl 4 (by decide) f_X1_isOf_17 rfl rfl ?_
        refine V_iload_n (q := 24) dX1_isOf_23 1 rfl rfl ?_
        refine V_iald (q := 25) dX1_isOf_24 3 2 rfl rfl (k) (rfl) (by omega) (by decide) (rfl) rfl ?_
        refine V_iconst (q := 26) dX1_isOf_25 rfl ?_
        refine V_icmp_le (q := 29) (tgt := 33) dX1_isOf_26 (by omega) (by omega) (by decide) (fun c26 => ?_) (fun c26 => ?_)
        · skip
          refine V_iconst (q := 34) dX1_isOf_33 rfl ?_
          exact k34 _ (by first | exact bZ_t (by simp; omega) | exact bZ_f (by simp; omega))
        · skip
          refine V_iconst (q := 30) dX1_isOf_29 rfl ?_
          refine V_goto (tgt := 34) dX1_isOf_30 (by decide) ?_
          exact k34 _ (by first | exact bZ_t (by simp; omega) | exact bZ_f (by simp; omega))
theorem lft_k {S : St} {k : Nat} {r : Int} {dk : Bool} (h : washZ S (k : Int) r dk = true) : lftZ S (k : Int) = sL S k := by
  simp only [washZ, Bool.and_eq_true] at h
  exact (if_pos h.1.1).trans (by rw [Int.toNat_natCast])
theorem hin_X1_load : ∀ w ∈ wsX10, w ∈ wsX1_load := by decide +kernel
theorem f_X1_load_29 : Cond.fieldLink RX1 29 (TX1 8).1 (TX1 8).2.1 (TX1 8).2.2.1 ∈ wsX1_load := by decide +kernel
theorem f_X1_load_45 : Cond.fieldLink RX1 45 (TX1 1).1 (TX1 1).2.1 (TX1 1).2.2.1 ∈ wsX1_load := by decide +kernel
set_option maxRecDepth 100000 in
set_option maxHeartbeats 4000000 in
theorem lp_X1_load {b : Nat → Nat} {d : Nat → ClassId} {S : St} {g : Nat → Nat} {th : Nat} (ho : Ok S) (r : Int) (dk : Bool) (rr : -2147483648 ≤ r ∧ r < 2147483648) : ∀ (m k : Nat), k ≤ sN S → sN S + 1 ≤ k + m → V RX1 cX1_load 5 (some .int) wsX1_load (rmD 2) vX0 (tym d) (qI (tym d) (mkc b d S g th) (iZ (cnt (ldP S r dk) (sN S) : Nat)) 0 0) 0 0 (mkc b d S g th) 26 [(0, .ref (b 0)), (1, .int (iZ r)), (2, .int (iZ (bZ dk))), (3, .int (iZ (cnt (ldP S r dk) k : Nat))), (4, .int (iZ k))] [] := by
  intro m
  induction m with
  | zero => intro k  h1 h2 ; exact absurd h2 (by omega)
  | succ m ih =>
    intro k  h1 h2 
    have hn := ho.1
    have y1 := ho.2.2.2.2.2.2.2.1 k
    have y2 := ho.2.2.2.2.2.1 k
    refine V_iload (q := 28) dX1_load_26 4 rfl rfl ?_
    refine V_aload_n (q := 29) dX1_load_28 0 rfl rfl ?_
    refine V_get (q := 32) dX1_load_29 hin_X1_load 0 rfl rfl 1 (by decide) f_X1_load_45 rfl rfl ?_
    refine V_icmp_ge (q := 35) (tgt := 70) dX1_load_32 (by omega) (by omega) (by decide) (fun c32 => ?_) (fun c32 => ?_)
    · skip
      refine V_iload_n (q := 71) dX1_load_70 3 rfl rfl ?_
      exact V_iret dX1_load_71 rfl (by rw [show k = sN S by omega]) (rfl)
    · skip
      refine V_iload_n (q := 36) dX1_load_35 3 rfl rfl ?_
      refine V_cut (M := 62) (iZ (bZ (ldP S r dk k))) ?_ (fun k62 => ?_)
      · -- from the merge
        refine V_iadd (q := 63) dX1_load_62 rfl ?_
        refine V_top (y := iZ (cnt (ldP S r dk) (k + 1) : Nat)) (by cases hq : ldP S r dk k <;> simp [cnt, hq, bZ]) ?_
        refine V_istore_n (q := 64) (lv' := [(0, _), (1, _), (2, _), (3, _), (4, _)]) dX1_load_63 (by decide) rfl rfl ?_
        refine V_iinc (q := 67) (lv' := [(0, _), (1, _), (2, _), (3, _), (4, _)]) dX1_load_64 4 rfl (rfl) (by decide) rfl rfl ?_
        refine V_goto (tgt := 26) dX1_load_67 (by decide) ?_
        exact ih (k + 1) (by omega) (by omega)
      · -- the ways to it
        refine V_aload_n (q := 37) dX1_load_36 0 rfl rfl ?_
        refine V_iload (q := 39) dX1_load_37 4 rfl rfl ?_
        refine V_iload_n (q := 40) dX1_load_39 1 rfl rfl ?_
        refine V_iload_n (q := 41) dX1_load_40 2 rfl rfl ?_
        refine V_callIv (q := 44) dX1_load_41 (c_X1_isOf ho k r dk (by omega) rr) yv_X1_isOf rfl gX1_load_X1_isOf rfl 0 rfl rfl rfl rfl (Nat.le_of_ble_eq_true rfl) (by decide) ?_
        refine V_if_eqB (q := 47) (tgt := 61) dX1_load_44 (by decide) (fun c44 => ?_) (fun c44 => ?_)
        · skip
          refine V_iconst (q := 62) dX1_load_61 rfl ?_
          exact k62 _ (by first | exact bZ_f (by unfold ldP; rw [c44]; rfl) | exact bZ_f (by unfold ldP; rw [c44, decide_eq_false (by rw [lft_k c44]; omega)]; rfl) | exact bZ_t (by unfold ldP; rw [c44, decide_eq_true (by rw [lft_k c44]; omega)]; rfl))
        · skip
          refine V_aload_n (q := 48) dX1_load_47 0 rfl rfl ?_
          refine V_get (q := 51) dX1_load_48 hin_X1_load 0 rfl rfl 8 (by decide) f_X1_load_29 rfl rfl ?_
          refine V_iload (q := 53) dX1_load_51 4 rfl rfl ?_
          refine V_iald (q := 54) dX1_load_53 7 6 rfl rfl (k) (rfl) (by omega) (by decide) (rfl) rfl ?_
          refine V_if_ne (q := 57) (tgt := 61) dX1_load_54 (by omega) (by decide) (fun c54 => ?_) (fun c54 => ?_)
          · skip
            refine V_iconst (q := 62) dX1_load_61 rfl ?_
            exact k62 _ (by first | exact bZ_f (by unfold ldP; rw [c44]; rfl) | exact bZ_f (by unfold ldP; rw [c44, decide_eq_false (by rw [lft_k c44]; omega)]; rfl) | exact bZ_t (by unfold ldP; rw [c44, decide_eq_true (by rw [lft_k c44]; omega)]; rfl))
          · skip
            refine V_iconst (q := 58) dX1_load_57 rfl ?_
            refine V_goto (tgt := 62) dX1_load_58 (by decide) ?_
            exact k62 _ (by first | exact bZ_f (by unfold ldP; rw [c44]; rfl) | exact bZ_f (by unfold ldP; rw [c44, decide_eq_false (by rw [lft_k c44]; omega)]; rfl) | exact bZ_t (by unfold ldP; rw [c44, decide_eq_true (by rw [lft_k c44]; omega)]; rfl))
theorem yv_X1_load : YV yX1_load wsX1_load 2 := ⟨_, _, _, _, rfl, by decide +kernel, by decide⟩
set_option maxRecDepth 100000 in
set_option maxHeartbeats 4000000 in
theorem c_X1_load {b : Nat → Nat} {d : Nat → ClassId} {S : St} {g : Nat → Nat} {th : Nat} (ho : Ok S) (r : Int) (dk : Bool) (rr : -2147483648 ≤ r ∧ r < 2147483648) : CtI yX1_load wsX1_load (rmD 2) (tym d) [.ref (b 0), .int (iZ r), .int (iZ (bZ dk))] (mkc b d S g th) (iZ (if cCare r = 0 then cnt (ldP S r dk) (sN S) else 0 : Nat)) (mkc b d (S) g (cCare r)) := by
  refine CtI_of (own := RX1) (by decide) rfl rfl (Nat.le_of_ble_eq_true rfl) ?_
  refine V_lvq (lv' := [(0, _), (1, _), (2, _)]) rfl ?_
  refine V_aload_n (q := 1) dX1_load_0 0 rfl rfl ?_
  refine V_cut (M := 13) (iZ (cCare r : Nat)) ?_ (fun k13 => ?_)
  · -- from the merge
    refine V_callIv (q := 16) dX1_load_13 (c_X1_goes (cCare r) (cCare_lt r)) yv_X1_goes rfl gX1_load_X1_goes rfl 0 rfl rfl rfl rfl (Nat.le_of_ble_eq_true rfl) (by decide) ?_
    refine V_if_neB (q := 19) (tgt := 21) dX1_load_16 (by decide) (fun c16 => ?_) (fun c16 => ?_)
    · skip
      have ec : cCare r = 0 := of_decide_eq_true c16
      simp only [ec, ↓reduceIte]
      refine V_iconst (q := 22) dX1_load_21 rfl ?_
      refine V_istore_n (q := 23) (lv' := [(0, _), (1, _), (2, _), (3, _)]) dX1_load_22 (by decide) rfl rfl ?_
      refine V_iconst (q := 24) dX1_load_23 rfl ?_
      refine V_istore (q := 26) (lv' := [(0, _), (1, _), (2, _), (3, _), (4, _)]) dX1_load_24 (by decide) rfl rfl ?_
      exact lp_X1_load ho r dk rr (sN S + 1) 0 (by omega) (by omega)
    · skip
      refine V_iconst (q := 20) dX1_load_19 rfl ?_
      exact V_iret dX1_load_20 rfl (by rw [if_neg (of_decide_eq_false c16)]; rfl) (rfl)
  · -- the ways to it
    refine V_iload_n (q := 2) dX1_load_1 1 rfl rfl ?_
    refine V_callIs (q := 5) dX1_load_2 (c_X1_isCare r rr) yv_X1_isCare rfl gX1_load_X1_isCare rfl (Nat.le_of_ble_eq_true rfl) (by decide) ?_
    refine V_if_eqB (q := 8) (tgt := 12) dX1_load_5 (by decide) (fun c5 => ?_) (fun c5 => ?_)
    · skip
      refine V_iconst (q := 13) dX1_load_12 rfl ?_
      exact k13 _ (by first | (rw [show (cCare r : Nat) = 0 from if_pos c5]; rfl) | (rw [show (cCare r : Nat) = 1 from if_neg (by rw [show inZ r 0 2 = false from c5]; decide)]; rfl))
    · skip
      refine V_iconst (q := 9) dX1_load_8 rfl ?_
      refine V_goto (tgt := 13) dX1_load_9 (by decide) ?_
      exact k13 _ (by first | (rw [show (cCare r : Nat) = 0 from if_pos c5]; rfl) | (rw [show (cCare r : Nat) = 1 from if_neg (by rw [show inZ r 0 2 = false from c5]; decide)]; rfl))
/-- the reference's wash: by what is left, then by number -/
def wmC (r : Int) (dk : Bool) (lf k : Nat) (z : St × Nat) : Bool := washZ z.1 (k : Int) r dk && decide (sL z.1 k = lf) && decide (lf < sM z.1 k) && decide (z.2 < 5)
def wm1 (r : Int) (dk : Bool) (lf k : Nat) (z : St × Nat) : St × Nat := if wmC r dk lf k z then (uL z.1 (fu (sL z.1) k (sM z.1 k)), z.2 + 1) else z
def wmK (r : Int) (dk : Bool) (lf : Nat) (z : St × Nat) : Nat → St × Nat
  | 0 => z
  | k + 1 => wm1 r dk lf k (wmK r dk lf z k)
def wmL (S : St) (r : Int) (dk : Bool) : Nat → St × Nat
  | 0 => (S, 0)
  | lf + 1 => wmK r dk lf (wmL S r dk lf) (sN S)
theorem wm1_ok {r : Int} {dk : Bool} {lf k : Nat} {z : St × Nat} (h : Ok z.1 ∧ z.2 ≤ 5) : (Ok (wm1 r dk lf k z).1 ∧ (wm1 r dk lf k z).2 ≤ 5) ∧ sN (wm1 r dk lf k z).1 = sN z.1 := by
  unfold wm1
  by_cases q : wmC r dk lf k z = true
  · rw [if_pos q]
    simp only [wmC, Bool.and_eq_true, decide_eq_true_eq] at q
    refine ⟨⟨?_, q.2⟩, rfl⟩
    have ho := h.1
    obtain ⟨h1, h2, h3, h4, h5, h6, h7, h8, h9, h10, h11⟩ := ho
    refine ⟨h1, h2, h3, h4, h5, h6, h7, fun j => ?_, h9, h10, h11⟩
    show fu (sL z.1) k (sM z.1 k) j ≤ sM z.1 j
    have := h8 j
    unfold fu
    split
    · next e => subst e; exact Nat.le_refl _
    · exact this
  · rw [if_neg q]
    exact ⟨h, rfl⟩
theorem wmK_ok {r : Int} {dk : Bool} {lf : Nat} {z : St × Nat} (h : Ok z.1 ∧ z.2 ≤ 5) : ∀ k, (Ok (wmK r dk lf z k).1 ∧ (wmK r dk lf z k).2 ≤ 5) ∧ sN (wmK r dk lf z k).1 = sN z.1
  | 0 => ⟨h, rfl⟩
  | k + 1 => by
    have ih := wmK_ok (r := r) (dk := dk) (lf := lf) h k
    have h2 := wm1_ok (r := r) (dk := dk) (lf := lf) (k := k) ih.1
    exact ⟨h2.1, h2.2.trans ih.2⟩
theorem wmL_ok {S : St} (ho : Ok S) (r : Int) (dk : Bool) : ∀ lf, (Ok (wmL S r dk lf).1 ∧ (wmL S r dk lf).2 ≤ 5) ∧ sN (wmL S r dk lf).1 = sN S
  | 0 => ⟨⟨ho, Nat.zero_le _⟩, rfl⟩
  | lf + 1 => by
    have ih := wmL_ok ho r dk lf
    have h2 := wmK_ok (r := r) (dk := dk) (lf := lf) ih.1 (sN S)
    exact ⟨h2.1, h2.2.trans ih.2⟩
theorem wm1_s {r : Int} {dk : Bool} {lf k : Nat} {z : St × Nat} : uL z.1 (fu (sL z.1) k (if wmC r dk lf k z then sM z.1 k else sL z.1 k)) = (wm1 r dk lf k z).1 := by
  unfold wm1
  split
  · rfl
  · rw [fu_self]; rfl
theorem hin_X1_wash : ∀ w ∈ wsX10, w ∈ wsX1_wash := by decide +kernel
theorem f_X1_wash_23 : Cond.fieldLink RX1 23 (TX1 6).1 (TX1 6).2.1 (TX1 6).2.2.1 ∈ wsX1_wash := by decide +kernel
theorem f_X1_wash_29 : Cond.fieldLink RX1 29 (TX1 8).1 (TX1 8).2.1 (TX1 8).2.2.1 ∈ wsX1_wash := by decide +kernel
theorem f_X1_wash_45 : Cond.fieldLink RX1 45 (TX1 1).1 (TX1 1).2.1 (TX1 1).2.2.1 ∈ wsX1_wash := by decide +kernel
set_option maxRecDepth 100000 in
set_option maxHeartbeats 4000000 in
theorem lp_X1_wash_36 {b : Nat → Nat} {d : Nat → ClassId} {S : St} {g : Nat → Nat} {th : Nat} (r : Int) (dk : Bool) (rr : -2147483648 ≤ r ∧ r < 2147483648) (LF : Nat) (hL : LF < 10) (z : St × Nat) (hz : Ok z.1 ∧ z.2 ≤ 5) (hzn : sN z.1 = sN S) (hn : sN S ≤ 12) (kk : V RX1 cX1_wash 7 (some .int) wsX1_wash (rmD 2) vX0 (tym d) (qI (tym d) (mkc b d (wmL S r dk 10).1 g th) (iZ (wmL S r dk 10).2) 0 0) 0 0 (mkc b d (wmK r dk LF z (sN S)).1 g th) 140 [(0, .ref (b 0)), (1, .int (iZ r)), (2, .int (iZ (bZ dk))), (3, .int (iZ (wmK r dk LF z (sN S)).2)), (4, .int (iZ LF))] []) : ∀ (m k : Nat), k ≤ sN S → sN S + 1 ≤ k + m → V RX1 cX1_wash 7 (some .int) wsX1_wash (rmD 2) vX0 (tym d) (qI (tym d) (mkc b d (wmL S r dk 10).1 g th) (iZ (wmL S r dk 10).2) 0 0) 0 0 (mkc b d (wmK r dk LF z k).1 g th) 36 [(0, .ref (b 0)), (1, .int (iZ r)), (2, .int (iZ (bZ dk))), (3, .int (iZ (wmK r dk LF z k).2)), (4, .int (iZ LF)), (5, .int (iZ k))] [] := by
  intro m
  induction m with
  | zero => intro k  h1 h2 ; exact absurd h2 (by omega)
  | succ m ih =>
    intro k  h1 h2 
    have o1 := wmK_ok (r := r) (dk := dk) (lf := LF) hz k
    have o2 := o1.2.trans hzn
    refine V_iload (q := 38) dX1_wash_36 5 rfl rfl ?_
    refine V_aload_n (q := 39) dX1_wash_38 0 rfl rfl ?_
    refine V_get (q := 42) dX1_wash_39 hin_X1_wash 0 rfl rfl 1 (by decide) f_X1_wash_45 rfl rfl ?_
    refine V_icmp_ge (q := 45) (tgt := 140) dX1_wash_42 (by omega) (by omega) (by decide) (fun c42 => ?_) (fun c42 => ?_)
    · skip
      refine V_loc (lv' := [(0, _), (1, _), (2, _), (3, _), (4, _)]) [0, 1, 2, 3, 4] rfl ?_
      obtain rfl : k = sN S := by omega
      exact kk
    · skip
      have y1 := o1.1.1.2.2.2.2.2.2.2.1 k
      have y2 := o1.1.1.2.2.2.2.2.1 k
      refine V_cut (M := 90) (iZ (bZ (wmC r dk LF k (wmK r dk LF z k)))) ?_ (fun k90 => ?_)
      · -- from the merge
        refine V_istore (q := 92) (lv' := [(0, _), (1, _), (2, _), (3, _), (4, _), (5, _), (6, _)]) dX1_wash_90 (by decide) rfl rfl ?_
        refine V_aload_n (q := 93) dX1_wash_92 0 rfl rfl ?_
        refine V_get (q := 96) dX1_wash_93 hin_X1_wash 0 rfl rfl 8 (by decide) f_X1_wash_29 rfl rfl ?_
        refine V_iload (q := 98) dX1_wash_96 5 rfl rfl ?_
        refine V_cut (M := 120) (iZ ((if wmC r dk LF k (wmK r dk LF z k) then sM (wmK r dk LF z k).1 k else sL (wmK r dk LF z k).1 k : Nat) : Int)) ?_ (fun k120 => ?_)
        · -- from the merge
          refine V_iast (q := 121) (ws' := mkc b d (wmK r dk LF z (k + 1)).1 g th) dX1_wash_120 7 6 rfl rfl (k) (rfl) (by omega) (by decide) (by rw [iF_upd _ rfl, mk7]; show mkc b d (uL (wmK r dk LF z k).1 (fu (sL (wmK r dk LF z k).1) k (if wmC r dk LF k (wmK r dk LF z k) then sM (wmK r dk LF z k).1 k else sL (wmK r dk LF z k).1 k))) g th = mkc b d (wm1 r dk LF k (wmK r dk LF z k)).1 g th; rw [wm1_s]) rfl ?_
          refine V_iload_n (q := 122) dX1_wash_121 3 rfl rfl ?_
          refine V_cut (M := 132) (iZ (bZ (wmC r dk LF k (wmK r dk LF z k)))) ?_ (fun k132 => ?_)
          · -- from the merge
            refine V_iadd (q := 133) dX1_wash_132 rfl ?_
            refine V_top (y := iZ (wmK r dk LF z (k + 1)).2) (by show _ = iZ (wm1 r dk LF k (wmK r dk LF z k)).2; unfold wm1; cases hq : wmC r dk LF k (wmK r dk LF z k) <;> simp [bZ]) ?_
            refine V_istore_n (q := 134) (lv' := [(0, _), (1, _), (2, _), (3, _), (4, _), (5, _), (6, _)]) dX1_wash_133 (by decide) rfl rfl ?_
            refine V_loc (lv' := [(0, _), (1, _), (2, _), (3, _), (4, _), (5, _)]) [0, 1, 2, 3, 4, 5] rfl ?_
            refine V_iinc (q := 137) (lv' := [(0, _), (1, _), (2, _), (3, _), (4, _), (5, _)]) dX1_wash_134 5 rfl (rfl) (by decide) rfl rfl ?_
            refine V_goto (tgt := 36) dX1_wash_137 (by decide) ?_
            exact ih (k + 1) (by omega) (by omega)
          · -- the ways to it
            refine V_iload (q := 124) dX1_wash_122 6 rfl rfl ?_
            refine V_if_eqB (q := 127) (tgt := 131) dX1_wash_124 (by decide) (fun c124 => ?_) (fun c124 => ?_)
            · skip
              refine V_iconst (q := 132) dX1_wash_131 rfl ?_
              exact k132 _ (by rw [c124]; rfl)
            · skip
              refine V_iconst (q := 128) dX1_wash_127 rfl ?_
              refine V_goto (tgt := 132) dX1_wash_128 (by decide) ?_
              exact k132 _ (by rw [c124]; rfl)
        · -- the ways to it
          refine V_iload (q := 100) dX1_wash_98 6 rfl rfl ?_
          refine V_if_eqB (q := 103) (tgt := 113) dX1_wash_100 (by decide) (fun c100 => ?_) (fun c100 => ?_)
          · skip
            refine V_aload_n (q := 114) dX1_wash_113 0 rfl rfl ?_
            refine V_get (q := 117) dX1_wash_114 hin_X1_wash 0 rfl rfl 8 (by decide) f_X1_wash_29 rfl rfl ?_
            refine V_iload (q := 119) dX1_wash_117 5 rfl rfl ?_
            refine V_iald (q := 120) dX1_wash_119 7 6 rfl rfl (k) (rfl) (by omega) (by decide) (rfl) rfl ?_
            exact k120 _ (by first | (rw [if_pos c100]) | (rw [if_neg (by rw [c100]; decide)]))
          · skip
            refine V_aload_n (q := 104) dX1_wash_103 0 rfl rfl ?_
            refine V_get (q := 107) dX1_wash_104 hin_X1_wash 0 rfl rfl 6 (by decide) f_X1_wash_23 rfl rfl ?_
            refine V_iload (q := 109) dX1_wash_107 5 rfl rfl ?_
            refine V_iald (q := 110) dX1_wash_109 5 4 rfl rfl (k) (rfl) (by omega) (by decide) (rfl) rfl ?_
            refine V_goto (tgt := 120) dX1_wash_110 (by decide) ?_
            exact k120 _ (by first | (rw [if_pos c100]) | (rw [if_neg (by rw [c100]; decide)]))
      · -- the ways to it
        refine V_aload_n (q := 46) dX1_wash_45 0 rfl rfl ?_
        refine V_iload (q := 48) dX1_wash_46 5 rfl rfl ?_
        refine V_iload_n (q := 49) dX1_wash_48 1 rfl rfl ?_
        refine V_iload_n (q := 50) dX1_wash_49 2 rfl rfl ?_
        refine V_callIv (q := 53) dX1_wash_50 (c_X1_isOf o1.1.1 k r dk (by omega) rr) yv_X1_isOf rfl gX1_wash_X1_isOf rfl 0 rfl rfl rfl rfl (Nat.le_of_ble_eq_true rfl) (by decide) ?_
        refine V_if_eqB (q := 56) (tgt := 89) dX1_wash_53 (by decide) (fun c53 => ?_) (fun c53 => ?_)
        · skip
          refine V_iconst (q := 90) dX1_wash_89 rfl ?_
          exact k90 _ (by first | exact bZ_f (by unfold wmC; rw [c53]; rfl) | exact bZ_f (by unfold wmC; rw [c53, decide_eq_false (by omega)]; rfl) | exact bZ_f (by unfold wmC; rw [c53, decide_eq_true (by omega), decide_eq_false (by omega)]; rfl) | exact bZ_f (by unfold wmC; rw [c53, decide_eq_true (by omega), decide_eq_true (by omega), decide_eq_false (by omega)]; rfl) | exact bZ_t (by unfold wmC; rw [c53, decide_eq_true (by omega), decide_eq_true (by omega), decide_eq_true (by omega)]; rfl))
        · skip
          refine V_aload_n (q := 57) dX1_wash_56 0 rfl rfl ?_
          refine V_get (q := 60) dX1_wash_57 hin_X1_wash 0 rfl rfl 8 (by decide) f_X1_wash_29 rfl rfl ?_
          refine V_iload (q := 62) dX1_wash_60 5 rfl rfl ?_
          refine V_iald (q := 63) dX1_wash_62 7 6 rfl rfl (k) (rfl) (by omega) (by decide) (rfl) rfl ?_
          refine V_iload (q := 65) dX1_wash_63 4 rfl rfl ?_
          refine V_icmp_ne (q := 68) (tgt := 89) dX1_wash_65 (by omega) (by omega) (by decide) (fun c65 => ?_) (fun c65 => ?_)
          · skip
            refine V_iconst (q := 90) dX1_wash_89 rfl ?_
            exact k90 _ (by first | exact bZ_f (by unfold wmC; rw [c53]; rfl) | exact bZ_f (by unfold wmC; rw [c53, decide_eq_false (by omega)]; rfl) | exact bZ_f (by unfold wmC; rw [c53, decide_eq_true (by omega), decide_eq_false (by omega)]; rfl) | exact bZ_f (by unfold wmC; rw [c53, decide_eq_true (by omega), decide_eq_true (by omega), decide_eq_false (by omega)]; rfl) | exact bZ_t (by unfold wmC; rw [c53, decide_eq_true (by omega), decide_eq_true (by omega), decide_eq_true (by omega)]; rfl))
          · skip
            refine V_iload (q := 70) dX1_wash_68 4 rfl rfl ?_
            refine V_aload_n (q := 71) dX1_wash_70 0 rfl rfl ?_
            refine V_get (q := 74) dX1_wash_71 hin_X1_wash 0 rfl rfl 6 (by decide) f_X1_wash_23 rfl rfl ?_
            refine V_iload (q := 76) dX1_wash_74 5 rfl rfl ?_
            refine V_iald (q := 77) dX1_wash_76 5 4 rfl rfl (k) (rfl) (by omega) (by decide) (rfl) rfl ?_
            refine V_icmp_ge (q := 80) (tgt := 89) dX1_wash_77 (by omega) (by omega) (by decide) (fun c77 => ?_) (fun c77 => ?_)
            · skip
              refine V_iconst (q := 90) dX1_wash_89 rfl ?_
              exact k90 _ (by first | exact bZ_f (by unfold wmC; rw [c53]; rfl) | exact bZ_f (by unfold wmC; rw [c53, decide_eq_false (by omega)]; rfl) | exact bZ_f (by unfold wmC; rw [c53, decide_eq_true (by omega), decide_eq_false (by omega)]; rfl) | exact bZ_f (by unfold wmC; rw [c53, decide_eq_true (by omega), decide_eq_true (by omega), decide_eq_false (by omega)]; rfl) | exact bZ_t (by unfold wmC; rw [c53, decide_eq_true (by omega), decide_eq_true (by omega), decide_eq_true (by omega)]; rfl))
            · skip
              refine V_iload_n (q := 81) dX1_wash_80 3 rfl rfl ?_
              refine V_iconst (q := 82) dX1_wash_81 rfl ?_
              refine V_icmp_ge (q := 85) (tgt := 89) dX1_wash_82 (by omega) (by omega) (by decide) (fun c82 => ?_) (fun c82 => ?_)
              · skip
                refine V_iconst (q := 90) dX1_wash_89 rfl ?_
                exact k90 _ (by first | exact bZ_f (by unfold wmC; rw [c53]; rfl) | exact bZ_f (by unfold wmC; rw [c53, decide_eq_false (by omega)]; rfl) | exact bZ_f (by unfold wmC; rw [c53, decide_eq_true (by omega), decide_eq_false (by omega)]; rfl) | exact bZ_f (by unfold wmC; rw [c53, decide_eq_true (by omega), decide_eq_true (by omega), decide_eq_false (by omega)]; rfl) | exact bZ_t (by unfold wmC; rw [c53, decide_eq_true (by omega), decide_eq_true (by omega), decide_eq_true (by omega)]; rfl))
              · skip
                refine V_iconst (q := 86) dX1_wash_85 rfl ?_
                refine V_goto (tgt := 90) dX1_wash_86 (by decide) ?_
                exact k90 _ (by first | exact bZ_f (by unfold wmC; rw [c53]; rfl) | exact bZ_f (by unfold wmC; rw [c53, decide_eq_false (by omega)]; rfl) | exact bZ_f (by unfold wmC; rw [c53, decide_eq_true (by omega), decide_eq_false (by omega)]; rfl) | exact bZ_f (by unfold wmC; rw [c53, decide_eq_true (by omega), decide_eq_true (by omega), decide_eq_false (by omega)]; rfl) | exact bZ_t (by unfold wmC; rw [c53, decide_eq_true (by omega), decide_eq_true (by omega), decide_eq_true (by omega)]; rfl))
set_option maxRecDepth 100000 in
set_option maxHeartbeats 4000000 in
theorem lp_X1_wash_26 {b : Nat → Nat} {d : Nat → ClassId} {S : St} {g : Nat → Nat} {th : Nat} (ho : Ok S) (r : Int) (dk : Bool) (rr : -2147483648 ≤ r ∧ r < 2147483648) : ∀ (m k : Nat), k ≤ 10 → 10 + 1 ≤ k + m → V RX1 cX1_wash 7 (some .int) wsX1_wash (rmD 2) vX0 (tym d) (qI (tym d) (mkc b d (wmL S r dk 10).1 g th) (iZ (wmL S r dk 10).2) 0 0) 0 0 (mkc b d (wmL S r dk k).1 g th) 26 [(0, .ref (b 0)), (1, .int (iZ r)), (2, .int (iZ (bZ dk))), (3, .int (iZ (wmL S r dk k).2)), (4, .int (iZ k))] [] := by
  intro m
  induction m with
  | zero => intro k  h1 h2 ; exact absurd h2 (by omega)
  | succ m ih =>
    intro k  h1 h2 
    have o1 := wmL_ok ho r dk k
    refine V_iload (q := 28) dX1_wash_26 4 rfl rfl ?_
    refine V_bipush (q := 30) dX1_wash_28 (by decide) rfl ?_
    refine V_icmp_ge (q := 33) (tgt := 146) dX1_wash_30 (by omega) (by omega) (by decide) (fun c30 => ?_) (fun c30 => ?_)
    · skip
      refine V_iload_n (q := 147) dX1_wash_146 3 rfl rfl ?_
      exact V_iret dX1_wash_147 rfl (by rw [show k = 10 by omega]) (by rw [show k = 10 by omega])
    · skip
      refine V_iconst (q := 34) dX1_wash_33 rfl ?_
      refine V_istore (q := 36) (lv' := [(0, _), (1, _), (2, _), (3, _), (4, _), (5, _)]) dX1_wash_34 (by decide) rfl rfl ?_
      refine lp_X1_wash_36 (S := S) r dk rr k (by omega) (wmL S r dk k) o1.1 o1.2 ho.1 ?_ (sN S + 1) 0 (by omega) (by omega)
      rw [show wmK r dk k (wmL S r dk k) (sN S) = wmL S r dk (k + 1) from rfl]
      refine V_iinc (q := 143) (lv' := [(0, _), (1, _), (2, _), (3, _), (4, _)]) dX1_wash_140 4 rfl (rfl) (by decide) rfl rfl ?_
      refine V_goto (tgt := 26) dX1_wash_143 (by decide) ?_
      exact ih (k + 1) (by omega) (by omega)
theorem yv_X1_wash : YV yX1_wash wsX1_wash 2 := ⟨_, _, _, _, rfl, by decide +kernel, by decide⟩
set_option maxRecDepth 100000 in
set_option maxHeartbeats 4000000 in
theorem c_X1_wash {b : Nat → Nat} {d : Nat → ClassId} {S : St} {g : Nat → Nat} {th : Nat} (ho : Ok S) (r : Int) (dk : Bool) (rr : -2147483648 ≤ r ∧ r < 2147483648) : CtI yX1_wash wsX1_wash (rmD 2) (tym d) [.ref (b 0), .int (iZ r), .int (iZ (bZ dk))] (mkc b d S g th) (iZ (if cCare r = 0 then (wmL S r dk 10).2 else 0 : Nat)) (mkc b d (if cCare r = 0 then (wmL S r dk 10).1 else S) g (cCare r)) := by
  refine CtI_of (own := RX1) (by decide) rfl rfl (Nat.le_of_ble_eq_true rfl) ?_
  refine V_lvq (lv' := [(0, _), (1, _), (2, _)]) rfl ?_
  refine V_aload_n (q := 1) dX1_wash_0 0 rfl rfl ?_
  refine V_cut (M := 13) (iZ (cCare r : Nat)) ?_ (fun k13 => ?_)
  · -- from the merge
    refine V_callIv (q := 16) dX1_wash_13 (c_X1_goes (cCare r) (cCare_lt r)) yv_X1_goes rfl gX1_wash_X1_goes rfl 0 rfl rfl rfl rfl (Nat.le_of_ble_eq_true rfl) (by decide) ?_
    refine V_if_neB (q := 19) (tgt := 21) dX1_wash_16 (by decide) (fun c16 => ?_) (fun c16 => ?_)
    · skip
      have ec : cCare r = 0 := of_decide_eq_true c16
      simp only [ec, ↓reduceIte]
      refine V_iconst (q := 22) dX1_wash_21 rfl ?_
      refine V_istore_n (q := 23) (lv' := [(0, _), (1, _), (2, _), (3, _)]) dX1_wash_22 (by decide) rfl rfl ?_
      refine V_iconst (q := 24) dX1_wash_23 rfl ?_
      refine V_istore (q := 26) (lv' := [(0, _), (1, _), (2, _), (3, _), (4, _)]) dX1_wash_24 (by decide) rfl rfl ?_
      exact lp_X1_wash_26 ho r dk rr 11 0 (by omega) (by omega)
    · skip
      refine V_iconst (q := 20) dX1_wash_19 rfl ?_
      exact V_iret dX1_wash_20 rfl (by rw [if_neg (of_decide_eq_false c16)]; rfl) (by rw [if_neg (of_decide_eq_false c16)])
  · -- the ways to it
    refine V_iload_n (q := 2) dX1_wash_1 1 rfl rfl ?_
    refine V_callIs (q := 5) dX1_wash_2 (c_X1_isCare r rr) yv_X1_isCare rfl gX1_wash_X1_isCare rfl (Nat.le_of_ble_eq_true rfl) (by decide) ?_
    refine V_if_eqB (q := 8) (tgt := 12) dX1_wash_5 (by decide) (fun c5 => ?_) (fun c5 => ?_)
    · skip
      refine V_iconst (q := 13) dX1_wash_12 rfl ?_
      exact k13 _ (by first | (rw [show (cCare r : Nat) = 0 from if_pos c5]; rfl) | (rw [show (cCare r : Nat) = 1 from if_neg (by rw [show inZ r 0 2 = false from c5]; decide)]; rfl))
    · skip
      refine V_iconst (q := 9) dX1_wash_8 rfl ?_
      refine V_goto (tgt := 13) dX1_wash_9 (by decide) ?_
      exact k13 _ (by first | (rw [show (cCare r : Nat) = 0 from if_pos c5]; rfl) | (rw [show (cCare r : Nat) = 1 from if_neg (by rw [show inZ r 0 2 = false from c5]; decide)]; rfl))
theorem hin_X1_pass : ∀ w ∈ wsX10, w ∈ wsX1_pass := by decide +kernel
theorem f_X1_pass_73 : Cond.fieldLink RX1 73 (TX1 0).1 (TX1 0).2.1 (TX1 0).2.2.1 ∈ wsX1_pass := by decide +kernel
theorem yv_X1_pass : YV yX1_pass wsX1_pass 1 := ⟨_, _, _, _, rfl, by decide +kernel, by decide⟩
set_option maxRecDepth 100000 in
set_option maxHeartbeats 4000000 in
theorem c_X1_pass {b : Nat → Nat} {d : Nat → ClassId} {S : St} {g : Nat → Nat} {th : Nat} (ho : Ok S) (y : Int) (ry : -2147483648 ≤ y ∧ y < 2147483648) : CtI yX1_pass wsX1_pass (rmD 2) (tym d) [.ref (b 0), .int (iZ y)] (mkc b d S g th) (iZ (if cPass S y = 0 then sT S + y.toNat else 0 : Nat)) (mkc b d (if cPass S y = 0 then uT S (sT S + y.toNat) else S) g (cPass S y)) := by
  refine CtI_of (own := RX1) (by decide) rfl rfl (Nat.le_of_ble_eq_true rfl) ?_
  refine V_lvq (lv' := [(0, _), (1, _)]) rfl ?_
  refine V_aload_n (q := 1) dX1_pass_0 0 rfl rfl ?_
  have ht := ho.2.1
  refine V_cut (M := 33) (iZ (cPass S y : Nat)) ?_ (fun k33 => ?_)
  · -- from the merge
    refine V_callIv (q := 36) dX1_pass_33 (c_X1_goes (cPass S y) (cPass_lt S y)) yv_X1_goes rfl gX1_pass_X1_goes rfl 0 rfl rfl rfl rfl (Nat.le_of_ble_eq_true rfl) (by decide) ?_
    refine V_if_neB (q := 39) (tgt := 41) dX1_pass_36 (by decide) (fun c36 => ?_) (fun c36 => ?_)
    · skip
      have b1 := cPass_0 (of_decide_eq_true c36)
      have ec : cPass S y = 0 := of_decide_eq_true c36
      simp only [ec, ↓reduceIte]
      refine V_aload_n (q := 42) dX1_pass_41 0 rfl rfl ?_
      refine V_dup (q := 43) dX1_pass_42 rfl rfl ?_
      refine V_get (q := 46) dX1_pass_43 hin_X1_pass 0 rfl rfl 0 (by decide) f_X1_pass_73 rfl rfl ?_
      refine V_iload_n (q := 47) dX1_pass_46 1 rfl rfl ?_
      refine V_iadd (q := 48) dX1_pass_47 rfl ?_
      rw [show ((sT S : Int) + y) = ((sT S + y.toNat : Nat) : Int) by omega]
      refine V_put (q := 51) (ty := .int) (ws' := mkc b d (uT S (sT S + y.toNat)) g 0) dX1_pass_48 hin_X1_pass tyX1 tyX1_ok nmX1 0 rfl rfl 0 (by decide) f_X1_pass_73 rfl (by decide +kernel) rfl rfl (Nat.le_of_ble_eq_true rfl) (mkT _) rfl ?_
      refine V_aload_n (q := 52) dX1_pass_51 0 rfl rfl ?_
      refine V_get (q := 55) dX1_pass_52 hin_X1_pass 0 rfl rfl 0 (by decide) f_X1_pass_73 rfl rfl ?_
      exact V_iret dX1_pass_55 rfl (rfl) (rfl)
    · skip
      refine V_iconst (q := 40) dX1_pass_39 rfl ?_
      exact V_iret dX1_pass_40 rfl (by rw [if_neg (of_decide_eq_false c36)]; rfl) (by rw [if_neg (of_decide_eq_false c36)])
  · -- the ways to it
    refine V_iload_n (q := 2) dX1_pass_1 1 rfl rfl ?_
    refine V_iconst (q := 3) dX1_pass_2 rfl ?_
    refine V_sipush (q := 6) dX1_pass_3 (by decide) rfl ?_
    refine V_callIs (q := 9) dX1_pass_6 (c_X1_isIn y 1 365 ry (by decide) (by decide)) yv_X1_isIn rfl gX1_pass_X1_isIn rfl (Nat.le_of_ble_eq_true rfl) (by decide) ?_
    refine V_if_neB (q := 12) (tgt := 16) dX1_pass_9 (by decide) (fun c9 => ?_) (fun c9 => ?_)
    · skip
      have b1 : 1 ≤ y ∧ y ≤ 365 := by simpa using c9
      refine V_aload_n (q := 17) dX1_pass_16 0 rfl rfl ?_
      refine V_get (q := 20) dX1_pass_17 hin_X1_pass 0 rfl rfl 0 (by decide) f_X1_pass_73 rfl rfl ?_
      refine V_iload_n (q := 21) dX1_pass_20 1 rfl rfl ?_
      refine V_iadd (q := 22) dX1_pass_21 rfl ?_
      refine V_sipush (q := 25) dX1_pass_22 (by decide) rfl ?_
      refine V_icmp_le (q := 28) (tgt := 32) dX1_pass_25 (by omega) (by omega) (by decide) (fun c25 => ?_) (fun c25 => ?_)
      · skip
        refine V_iconst (q := 33) dX1_pass_32 rfl ?_
        exact k33 _ (by first | (rw [show (cPass S y : Nat) = 1 from if_neg (by rw [show inZ y 1 365 = false from c9]; decide)]; rfl) | (rw [show (cPass S y : Nat) = 2 from (if_pos c9).trans (if_neg (by omega))]; rfl) | (rw [show (cPass S y : Nat) = 0 from (if_pos c9).trans (if_pos (by omega))]; rfl))
      · skip
        refine V_iconst (q := 29) dX1_pass_28 rfl ?_
        refine V_goto (tgt := 33) dX1_pass_29 (by decide) ?_
        exact k33 _ (by first | (rw [show (cPass S y : Nat) = 1 from if_neg (by rw [show inZ y 1 365 = false from c9]; decide)]; rfl) | (rw [show (cPass S y : Nat) = 2 from (if_pos c9).trans (if_neg (by omega))]; rfl) | (rw [show (cPass S y : Nat) = 0 from (if_pos c9).trans (if_pos (by omega))]; rfl))
    · skip
      refine V_iconst (q := 13) dX1_pass_12 rfl ?_
      refine V_goto (tgt := 33) dX1_pass_13 (by decide) ?_
      exact k33 _ (by first | (rw [show (cPass S y : Nat) = 1 from if_neg (by rw [show inZ y 1 365 = false from c9]; decide)]; rfl) | (rw [show (cPass S y : Nat) = 2 from (if_pos c9).trans (if_neg (by omega))]; rfl) | (rw [show (cPass S y : Nat) = 0 from (if_pos c9).trans (if_pos (by omega))]; rfl))
