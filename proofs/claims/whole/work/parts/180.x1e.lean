theorem shl_1 {k : Nat} (hk : k < 31) : iZ 1 <<< (iZ (k : Int) &&& 31) = iZ (2 ^ k : Nat) := by
  have h1 : (2 : Nat) ^ k ≤ 2 ^ 31 := Nat.pow_le_pow_right (by decide) (by omega)
  rw [show (iZ 1 : Int32) = iZ ((1 : Nat) : Int) from rfl, z_shl (by omega) (by omega), Nat.one_mul]
theorem bits_or (p : Nat → Bool) (k : Nat) : bits p k ||| (if p k then 2 ^ k else 0) = bits p (k + 1) := by
  cases h : p k with
  | true => rw [bits_t h]; rfl
  | false => rw [bits_f h]; exact Nat.or_zero _
theorem fu_fu {α : Type} (f : Nat → α) (k : Nat) (x y : α) : fu (fu f k x) k y = fu f k y := by
  funext j
  unfold fu
  by_cases h : j = k <;> simp [h]
theorem fu_at {α : Type} (f : Nat → α) (k : Nat) (x : α) : fu f k x k = x := if_pos rfl
/-- the pairs as the reference lays them: by top -/
def pmP (S : St) (w : Int) (t : Nat) : Nat → Bool := fun i => prtZ S (t : Int) (i : Int) w
def gM (S : St) (w : Int) (g : Nat → Nat) (k : Nat) : Nat → Nat := fun j => if j < k then bits (pmP S w j) 12 else g j
theorem gM_0 (S : St) (w : Int) (g : Nat → Nat) : gM S w g 0 = g := by funext j; exact if_neg (Nat.not_lt_zero j)
theorem gM_s (S : St) (w : Int) (g : Nat → Nat) (k : Nat) : fu (gM S w g k) k (bits (pmP S w k) 12) = gM S w g (k + 1) := by
  funext j
  unfold fu gM
  by_cases h : j = k
  · subst h; simp
  · have e : j < k + 1 ↔ j < k := by omega
    simp [h, e]
theorem prt_wr {S : St} {t u w : Int} (h : wrZ S t u (-1) = 0) : prtZ S t u w = (!(dx S t u) && decide (w ≤ ((sW S t.toNat + sW S u.toNat : Nat) : Int))) := by
  obtain ⟨h1, h2, -, h4, h5, -⟩ := wr_0 h
  unfold prtZ dcZ
  rw [h4, h5, h1, h2, ow_wr h1 h2, show wrmZ S (-1) = 0 from if_neg (by rw [has_m1]; decide)]
  rfl
theorem prt_no {S : St} {t u w : Int} (h : ¬ wrZ S t u (-1) = 0) : prtZ S t u w = false := by
  cases q : prtZ S t u w with
  | false => rfl
  | true =>
    exfalso
    apply h
    simp only [prtZ, Bool.and_eq_true] at q
    obtain ⟨⟨⟨k1, k2⟩, -⟩, -⟩ := q
    have k3 : hasZ S t = true := by simp only [kdZ, Bool.and_eq_true] at k1; exact k1.1
    have k4 : hasZ S u = true := by simp only [kdZ, Bool.and_eq_true] at k2; exact k2.1
    rw [wrZ_m1, k1, k2, k3, k4]
    rfl
theorem tk_k {S : St} {q : Int} {k : Nat} (h : k < sN S) : tkP S q k = (!(sG S k) && decide ((sK S k : Int) = q)) := by
  unfold tkP kdZ
  rw [hasZ_k h, Int.toNat_natCast]
theorem kd_all {S : St} (ho : Ok S) : kdB S 0 ||| kdB S 1 ||| kdB S 2 = bits (hasT S) 12 := by
  have hn := ho.1
  apply Nat.eq_of_testBit_eq
  intro i
  unfold kdB
  rw [Nat.testBit_or, Nat.testBit_or, bits_tb, bits_tb, bits_tb, bits_tb]
  by_cases hi : i < sN S
  · have h2 : i < 12 := by omega
    have h3 := ho.2.2.1 i
    rw [tk_k hi, tk_k hi, tk_k hi]
    have e : hasT S i = !(sG S i) := by simp [hasT, hi]
    rw [e]
    cases sG S i with
    | true => simp
    | false =>
      have h4 : sK S i = 0 ∨ sK S i = 1 ∨ sK S i = 2 := by omega
      rcases h4 with h4 | h4 | h4 <;> simp [h4, hi, h2]
  · have e : hasT S i = false := by simp [hasT, hi]
    simp [hi, e]
/-- the days by the tightest cut, counted down -/
def itZ (S : St) (g : Nat → Nat) (tp bt s : Nat) : Nat := sm (lfI S (andn tp s)) (sN S) + sm (lfI S (orU g s (sN S) &&& bt)) (sN S)
def dyL (S : St) (g : Nat → Nat) (tp bt : Nat) : Nat → Nat → Nat → Nat
  | 0, _, dc => dc
  | m + 1, s, dc => if s = 0 then dc else dyL S g tp bt m ((s - 1) &&& tp) (if itZ S g tp bt s < dc then itZ S g tp bt s else dc)
def dayZ (S : St) (g : Nat → Nat) (x t u : Nat) : Nat := dyL S g (x &&& t) (x &&& u) 4096 (x &&& t) (sm (lfI S (x &&& t)) (sN S))
theorem lfN_le {S : St} (ho : Ok S) (x : Nat) : sm (lfI S x) (sN S) ≤ 108 := by
  have h := sm_le (f := lfI S x) (c := 9) (n := sN S) fun i _ => by
    have h1 := ho.2.2.2.2.2.2.2.1 i
    have h2 := ho.2.2.2.2.2.1 i
    unfold lfI
    split <;> omega
  have h1 := ho.1
  omega
theorem dec_and (s t : Nat) (hs : 0 < s) : iZ ((s : Int) - 1) &&& iZ t = iZ ((s - 1) &&& t : Nat) := by
  rw [show ((s : Int) - 1) = ((s - 1 : Nat) : Int) by omega, z_and]
theorem dec_lt {s t m : Nat} (h : s < m + 1) (hs : 0 < s) : (s - 1) &&& t < m := by
  have := Nat.and_le_left (n := s - 1) (m := t)
  omega
theorem hin_X1_laysPairs : ∀ w ∈ wsX10, w ∈ wsX1_laysPairs := by decide +kernel
theorem f_X1_laysPairs_20 : Cond.fieldLink RX1 20 (TX1 5).1 (TX1 5).2.1 (TX1 5).2.2.1 ∈ wsX1_laysPairs := by decide +kernel
theorem f_X1_laysPairs_38 : Cond.fieldLink RX1 38 (TX1 11).1 (TX1 11).2.1 (TX1 11).2.2.1 ∈ wsX1_laysPairs := by decide +kernel
set_option maxRecDepth 100000 in
set_option maxHeartbeats 4000000 in
theorem lp_X1_laysPairs_17 {b : Nat → Nat} {d : Nat → ClassId} {S : St} {g : Nat → Nat} {th : Nat} (ho : Ok S) (w : Int) (rw : -2147483648 ≤ w ∧ w < 2147483648) (T : Nat) (hT : T < 12) (kk : V RX1 cX1_laysPairs 5 (none) wsX1_laysPairs (rmD 3) vX0 (tym d) (qV (tym d) (mkc b d S (gM S w g 12) th) 0 0) 0 0 (mkc b d S (fu (gM S w g T) T (bits (pmP S w T) 12)) th) 93 [(0, .ref (b 0)), (1, .int (iZ w)), (2, .int (iZ T))] []) : ∀ (m k : Nat), k ≤ 12 → 12 + 1 ≤ k + m → V RX1 cX1_laysPairs 5 (none) wsX1_laysPairs (rmD 3) vX0 (tym d) (qV (tym d) (mkc b d S (gM S w g 12) th) 0 0) 0 0 (mkc b d S (fu (gM S w g T) T (bits (pmP S w T) k)) th) 17 [(0, .ref (b 0)), (1, .int (iZ w)), (2, .int (iZ T)), (3, .int (iZ k))] [] := by
  intro m
  induction m with
  | zero => intro k  h1 h2 ; exact absurd h2 (by omega)
  | succ m ih =>
    intro k  h1 h2 
    have rw' := rw
    refine V_iload_n (q := 18) dX1_laysPairs_17 3 rfl rfl ?_
    refine V_bipush (q := 20) dX1_laysPairs_18 (by decide) rfl ?_
    refine V_icmp_ge (q := 23) (tgt := 93) dX1_laysPairs_20 (by omega) (by omega) (by decide) (fun c20 => ?_) (fun c20 => ?_)
    · skip
      refine V_loc (lv' := [(0, _), (1, _), (2, _)]) [0, 1, 2] rfl ?_
      obtain rfl : k = 12 := by omega
      exact kk
    · skip
      refine V_cut (M := 64) (iZ (bZ (pmP S w T k))) ?_ (fun k64 => ?_)
      · -- from the merge
        refine V_istore (q := 66) (lv' := [(0, _), (1, _), (2, _), (3, _), (4, _)]) dX1_laysPairs_64 (by decide) rfl rfl ?_
        refine V_aload_n (q := 67) dX1_laysPairs_66 0 rfl rfl ?_
        refine V_get (q := 70) dX1_laysPairs_67 hin_X1_laysPairs 0 rfl rfl 11 (by decide) f_X1_laysPairs_38 rfl rfl ?_
        refine V_iload_n (q := 71) dX1_laysPairs_70 2 rfl rfl ?_
        refine V_dup2 (q := 72) dX1_laysPairs_71 rfl rfl rfl ?_
        refine V_iald (q := 73) (v := (iZ (bits (pmP S w T) k : Nat))) dX1_laysPairs_72 10 9 rfl rfl (T) (rfl) (by omega) (by decide) (congrArg (fun z : Nat => iZ z) (fu_at _ _ _)) rfl ?_
        refine V_cut (M := 85) (iZ ((if pmP S w T k then 2 ^ k else 0 : Nat) : Int)) ?_ (fun k85 => ?_)
        · -- from the merge
          refine V_ior (q := 86) dX1_laysPairs_85 rfl ?_
          refine V_top (y := iZ (bits (pmP S w T) (k + 1) : Nat)) (by rw [z_or, bits_or]) ?_
          refine V_iast (q := 87) (ws' := mkc b d S (fu (gM S w g T) T (bits (pmP S w T) (k + 1))) th) dX1_laysPairs_86 10 9 rfl rfl (T) (rfl) (by omega) (by decide) (by rw [iF_upd _ rfl, mk10, fu_fu]) rfl ?_
          refine V_loc (lv' := [(0, _), (1, _), (2, _), (3, _)]) [0, 1, 2, 3] rfl ?_
          refine V_iinc (q := 90) (lv' := [(0, _), (1, _), (2, _), (3, _)]) dX1_laysPairs_87 3 rfl (rfl) (by decide) rfl rfl ?_
          refine V_goto (tgt := 17) dX1_laysPairs_90 (by decide) ?_
          exact ih (k + 1) (by omega) (by omega)
        · -- the ways to it
          refine V_iload (q := 75) dX1_laysPairs_73 4 rfl rfl ?_
          refine V_if_eqB (q := 78) (tgt := 84) dX1_laysPairs_75 (by decide) (fun c75 => ?_) (fun c75 => ?_)
          · skip
            refine V_iconst (q := 85) dX1_laysPairs_84 rfl ?_
            exact k85 _ (by first | (rw [if_pos c75]; exact shl_1 (by omega)) | (rw [if_neg (by rw [c75]; decide)]; rfl))
          · skip
            refine V_iconst (q := 79) dX1_laysPairs_78 rfl ?_
            refine V_iload_n (q := 80) dX1_laysPairs_79 3 rfl rfl ?_
            refine V_ishl (q := 81) dX1_laysPairs_80 rfl ?_
            refine V_goto (tgt := 85) dX1_laysPairs_81 (by decide) ?_
            exact k85 _ (by first | (rw [if_pos c75]; exact shl_1 (by omega)) | (rw [if_neg (by rw [c75]; decide)]; rfl))
      · -- the ways to it
        refine V_aload_n (q := 24) dX1_laysPairs_23 0 rfl rfl ?_
        refine V_iload_n (q := 25) dX1_laysPairs_24 2 rfl rfl ?_
        refine V_iload_n (q := 26) dX1_laysPairs_25 3 rfl rfl ?_
        refine V_iconst (q := 27) dX1_laysPairs_26 rfl ?_
        refine V_callIv (q := 30) dX1_laysPairs_27 (c_X1_wrong ho T k (-1) (by omega) (by omega) (by decide)) yv_X1_wrong rfl gX1_laysPairs_X1_wrong rfl 0 rfl rfl rfl rfl (Nat.le_of_ble_eq_true rfl) (by decide) ?_
        refine V_if_ne (q := 33) (tgt := 63) dX1_laysPairs_30 (by have q := wr_lt S T k (-1); omega) (by decide) (fun c30 => ?_) (fun c30 => ?_)
        · skip
          refine V_iconst (q := 64) dX1_laysPairs_63 rfl ?_
          exact k64 _ (by first | exact bZ_f (prt_no (by omega)) | exact bZ_f (by unfold pmP; rw [prt_wr (by omega)]; rw [c39]; rfl) | exact bZ_f (by unfold pmP; rw [prt_wr (by omega), Int.toNat_natCast, Int.toNat_natCast, c39, decide_eq_false (by omega)]; rfl) | exact bZ_t (by unfold pmP; rw [prt_wr (by omega), Int.toNat_natCast, Int.toNat_natCast, c39, decide_eq_true (by omega)]; rfl))
        · skip
          refine V_aload_n (q := 34) dX1_laysPairs_33 0 rfl rfl ?_
          refine V_iload_n (q := 35) dX1_laysPairs_34 2 rfl rfl ?_
          refine V_iload_n (q := 36) dX1_laysPairs_35 3 rfl rfl ?_
          refine V_callIv (q := 39) dX1_laysPairs_36 (c_X1_doClash ho T k (by omega) (by omega)) yv_X1_doClash rfl gX1_laysPairs_X1_doClash rfl 0 rfl rfl rfl rfl (Nat.le_of_ble_eq_true rfl) (by decide) ?_
          refine V_if_neB (q := 42) (tgt := 63) dX1_laysPairs_39 (by decide) (fun c39 => ?_) (fun c39 => ?_)
          · skip
            refine V_iconst (q := 64) dX1_laysPairs_63 rfl ?_
            exact k64 _ (by first | exact bZ_f (prt_no (by omega)) | exact bZ_f (by unfold pmP; rw [prt_wr (by omega)]; rw [c39]; rfl) | exact bZ_f (by unfold pmP; rw [prt_wr (by omega), Int.toNat_natCast, Int.toNat_natCast, c39, decide_eq_false (by omega)]; rfl) | exact bZ_t (by unfold pmP; rw [prt_wr (by omega), Int.toNat_natCast, Int.toNat_natCast, c39, decide_eq_true (by omega)]; rfl))
          · skip
            refine V_aload_n (q := 43) dX1_laysPairs_42 0 rfl rfl ?_
            refine V_get (q := 46) dX1_laysPairs_43 hin_X1_laysPairs 0 rfl rfl 5 (by decide) f_X1_laysPairs_20 rfl rfl ?_
            refine V_iload_n (q := 47) dX1_laysPairs_46 2 rfl rfl ?_
            refine V_iald (q := 48) dX1_laysPairs_47 4 3 rfl rfl (T) (rfl) (by omega) (by decide) (rfl) rfl ?_
            refine V_aload_n (q := 49) dX1_laysPairs_48 0 rfl rfl ?_
            refine V_get (q := 52) dX1_laysPairs_49 hin_X1_laysPairs 0 rfl rfl 5 (by decide) f_X1_laysPairs_20 rfl rfl ?_
            refine V_iload_n (q := 53) dX1_laysPairs_52 3 rfl rfl ?_
            refine V_iald (q := 54) dX1_laysPairs_53 4 3 rfl rfl (k) (rfl) (by omega) (by decide) (rfl) rfl ?_
            refine V_iadd (q := 55) dX1_laysPairs_54 rfl ?_
            refine V_iload_n (q := 56) dX1_laysPairs_55 1 rfl rfl ?_
            refine V_icmp_lt (q := 59) (tgt := 63) dX1_laysPairs_56 (by have q1 := ho.2.2.2.2.1 T; have q2 := ho.2.2.2.2.1 k; omega) (rw') (by decide) (fun c56 => ?_) (fun c56 => ?_)
            · skip
              refine V_iconst (q := 64) dX1_laysPairs_63 rfl ?_
              exact k64 _ (by first | exact bZ_f (prt_no (by omega)) | exact bZ_f (by unfold pmP; rw [prt_wr (by omega)]; rw [c39]; rfl) | exact bZ_f (by unfold pmP; rw [prt_wr (by omega), Int.toNat_natCast, Int.toNat_natCast, c39, decide_eq_false (by omega)]; rfl) | exact bZ_t (by unfold pmP; rw [prt_wr (by omega), Int.toNat_natCast, Int.toNat_natCast, c39, decide_eq_true (by omega)]; rfl))
            · skip
              refine V_iconst (q := 60) dX1_laysPairs_59 rfl ?_
              refine V_goto (tgt := 64) dX1_laysPairs_60 (by decide) ?_
              exact k64 _ (by first | exact bZ_f (prt_no (by omega)) | exact bZ_f (by unfold pmP; rw [prt_wr (by omega)]; rw [c39]; rfl) | exact bZ_f (by unfold pmP; rw [prt_wr (by omega), Int.toNat_natCast, Int.toNat_natCast, c39, decide_eq_false (by omega)]; rfl) | exact bZ_t (by unfold pmP; rw [prt_wr (by omega), Int.toNat_natCast, Int.toNat_natCast, c39, decide_eq_true (by omega)]; rfl))
set_option maxRecDepth 100000 in
set_option maxHeartbeats 4000000 in
theorem lp_X1_laysPairs_2 {b : Nat → Nat} {d : Nat → ClassId} {S : St} {g : Nat → Nat} {th : Nat} (ho : Ok S) (w : Int) (rw : -2147483648 ≤ w ∧ w < 2147483648) : ∀ (m k : Nat), k ≤ 12 → 12 + 1 ≤ k + m → V RX1 cX1_laysPairs 5 (none) wsX1_laysPairs (rmD 3) vX0 (tym d) (qV (tym d) (mkc b d S (gM S w g 12) th) 0 0) 0 0 (mkc b d S (gM S w g k) th) 2 [(0, .ref (b 0)), (1, .int (iZ w)), (2, .int (iZ k))] [] := by
  intro m
  induction m with
  | zero => intro k  h1 h2 ; exact absurd h2 (by omega)
  | succ m ih =>
    intro k  h1 h2 
    have rw' := rw
    refine V_iload_n (q := 3) dX1_laysPairs_2 2 rfl rfl ?_
    refine V_bipush (q := 5) dX1_laysPairs_3 (by decide) rfl ?_
    refine V_icmp_ge (q := 8) (tgt := 99) dX1_laysPairs_5 (by omega) (by omega) (by decide) (fun c5 => ?_) (fun c5 => ?_)
    · skip
      exact V_vret dX1_laysPairs_99 rfl (by rw [show k = 12 by omega])
    · skip
      refine V_aload_n (q := 9) dX1_laysPairs_8 0 rfl rfl ?_
      refine V_get (q := 12) dX1_laysPairs_9 hin_X1_laysPairs 0 rfl rfl 11 (by decide) f_X1_laysPairs_38 rfl rfl ?_
      refine V_iload_n (q := 13) dX1_laysPairs_12 2 rfl rfl ?_
      refine V_iconst (q := 14) dX1_laysPairs_13 rfl ?_
      refine V_iast (q := 15) (ws' := mkc b d S (fu (gM S w g k) k (bits (pmP S w k) 0)) th) dX1_laysPairs_14 10 9 rfl rfl (k) (rfl) (by omega) (by decide) (by rw [show (iZ 0 : Int32) = iZ ((0 : Nat) : Int) from rfl, iF_upd 0 rfl, mk10]; rfl) rfl ?_
      refine V_iconst (q := 16) dX1_laysPairs_15 rfl ?_
      refine V_istore_n (q := 17) (lv' := [(0, _), (1, _), (2, _), (3, _)]) dX1_laysPairs_16 (by decide) rfl rfl ?_
      refine lp_X1_laysPairs_17 (g := g) ho w rw' k (by omega) ?_ 13 0 (by omega) (by omega)
      rw [gM_s]
      refine V_iinc (q := 96) (lv' := [(0, _), (1, _), (2, _)]) dX1_laysPairs_93 2 rfl (rfl) (by decide) rfl rfl ?_
      refine V_goto (tgt := 2) dX1_laysPairs_96 (by decide) ?_
      exact ih (k + 1) (by omega) (by omega)
theorem yv_X1_laysPairs : YV yX1_laysPairs wsX1_laysPairs 1 := ⟨_, _, _, _, rfl, by decide +kernel, by decide⟩
set_option maxRecDepth 100000 in
set_option maxHeartbeats 4000000 in
theorem c_X1_laysPairs {b : Nat → Nat} {d : Nat → ClassId} {S : St} {g : Nat → Nat} {th : Nat} (ho : Ok S) (w : Int) (rw : -2147483648 ≤ w ∧ w < 2147483648) : CtV yX1_laysPairs wsX1_laysPairs (rmD 3) (tym d) [.ref (b 0), .int (iZ w)] (mkc b d S g th) (mkc b d S (gM S w g 12) th) := by
  refine CtV_of (own := RX1) (by decide) rfl rfl (Nat.le_of_ble_eq_true rfl) ?_
  refine V_lvq (lv' := [(0, _), (1, _)]) rfl ?_
  refine V_iconst (q := 1) dX1_laysPairs_0 rfl ?_
  refine V_istore_n (q := 2) (lv' := [(0, _), (1, _), (2, _)]) dX1_laysPairs_1 (by decide) rfl rfl ?_
  refine V_ws (ws' := mkc b d S (gM S w g 0) th) (by rw [gM_0]) ?_
  exact lp_X1_laysPairs_2 ho w rw 13 0 (by omega) (by omega)
theorem hin_X1_setOf : ∀ w ∈ wsX10, w ∈ wsX1_setOf := by decide +kernel
theorem f_X1_setOf_7 : Cond.fieldLink RX1 7 (TX1 2).1 (TX1 2).2.1 (TX1 2).2.2.1 ∈ wsX1_setOf := by decide +kernel
theorem f_X1_setOf_13 : Cond.fieldLink RX1 13 (TX1 3).1 (TX1 3).2.1 (TX1 3).2.2.1 ∈ wsX1_setOf := by decide +kernel
theorem f_X1_setOf_45 : Cond.fieldLink RX1 45 (TX1 1).1 (TX1 1).2.1 (TX1 1).2.2.1 ∈ wsX1_setOf := by decide +kernel
set_option maxRecDepth 100000 in
set_option maxHeartbeats 4000000 in
theorem lp_X1_setOf {b : Nat → Nat} {d : Nat → ClassId} {S : St} {g : Nat → Nat} {th : Nat} (ho : Ok S) (q : Int) (rq : -2147483648 ≤ q ∧ q < 2147483648) : ∀ (m k : Nat), k ≤ sN S → sN S + 1 ≤ k + m → V RX1 cX1_setOf 4 (some .int) wsX1_setOf (rmD 1) vX0 (tym d) (qI (tym d) (mkc b d S g th) (iZ (kdB S q : Nat)) 0 0) 0 0 (mkc b d S g th) 4 [(0, .ref (b 0)), (1, .int (iZ q)), (2, .int (iZ (bits (tkP S q) k : Nat))), (3, .int (iZ k))] [] := by
  intro m
  induction m with
  | zero => intro k  h1 h2 ; exact absurd h2 (by omega)
  | succ m ih =>
    intro k  h1 h2 
    have hn := ho.1
    refine V_iload_n (q := 5) dX1_setOf_4 3 rfl rfl ?_
    refine V_aload_n (q := 6) dX1_setOf_5 0 rfl rfl ?_
    refine V_get (q := 9) dX1_setOf_6 hin_X1_setOf 0 rfl rfl 1 (by decide) f_X1_setOf_45 rfl rfl ?_
    refine V_icmp_ge (q := 12) (tgt := 47) dX1_setOf_9 (by omega) (by omega) (by decide) (fun c9 => ?_) (fun c9 => ?_)
    · skip
      refine V_iload_n (q := 48) dX1_setOf_47 2 rfl rfl ?_
      exact V_iret dX1_setOf_48 rfl (by rw [show k = sN S by omega]; rfl) (rfl)
    · skip
      refine V_iload_n (q := 13) dX1_setOf_12 2 rfl rfl ?_
      refine V_cut (M := 39) (iZ ((if tkP S q k then 2 ^ k else 0 : Nat) : Int)) ?_ (fun k39 => ?_)
      · -- from the merge
        refine V_ior (q := 40) dX1_setOf_39 rfl ?_
        refine V_top (y := iZ (bits (tkP S q) (k + 1) : Nat)) (by rw [z_or, bits_or]) ?_
        refine V_istore_n (q := 41) (lv' := [(0, _), (1, _), (2, _), (3, _)]) dX1_setOf_40 (by decide) rfl rfl ?_
        refine V_iinc (q := 44) (lv' := [(0, _), (1, _), (2, _), (3, _)]) dX1_setOf_41 3 rfl (rfl) (by decide) rfl rfl ?_
        refine V_goto (tgt := 4) dX1_setOf_44 (by decide) ?_
        exact ih (k + 1) (by omega) (by omega)
      · -- the ways to it
        refine V_aload_n (q := 14) dX1_setOf_13 0 rfl rfl ?_
        refine V_get (q := 17) dX1_setOf_14 hin_X1_setOf 0 rfl rfl 2 (by decide) f_X1_setOf_7 rfl rfl ?_
        refine V_iload_n (q := 18) dX1_setOf_17 3 rfl rfl ?_
        refine V_zald (q := 19) dX1_setOf_18 1 0 rfl rfl (k) (rfl) (by omega) (by decide) (rfl) rfl ?_
        refine V_if_neB (q := 22) (tgt := 38) dX1_setOf_19 (by decide) (fun c19 => ?_) (fun c19 => ?_)
        · skip
          refine V_iconst (q := 39) dX1_setOf_38 rfl ?_
          exact k39 _ (by rw [tk_k (by omega)]; first | (rw [c19]; rfl) | (rw [c19, decide_eq_false (by omega)]; rfl) | (rw [c19, decide_eq_true (by omega)]; exact shl_1 (by omega)))
        · skip
          refine V_aload_n (q := 23) dX1_setOf_22 0 rfl rfl ?_
          refine V_get (q := 26) dX1_setOf_23 hin_X1_setOf 0 rfl rfl 3 (by decide) f_X1_setOf_13 rfl rfl ?_
          refine V_iload_n (q := 27) dX1_setOf_26 3 rfl rfl ?_
          refine V_iald (q := 28) dX1_setOf_27 2 1 rfl rfl (k) (rfl) (by omega) (by decide) (rfl) rfl ?_
          refine V_iload_n (q := 29) dX1_setOf_28 1 rfl rfl ?_
          refine V_icmp_ne (q := 32) (tgt := 38) dX1_setOf_29 (by have y1 := ho.2.2.1 k; omega) (rq) (by decide) (fun c29 => ?_) (fun c29 => ?_)
          · skip
            refine V_iconst (q := 39) dX1_setOf_38 rfl ?_
            exact k39 _ (by rw [tk_k (by omega)]; first | (rw [c19]; rfl) | (rw [c19, decide_eq_false (by omega)]; rfl) | (rw [c19, decide_eq_true (by omega)]; exact shl_1 (by omega)))
          · skip
            refine V_iconst (q := 33) dX1_setOf_32 rfl ?_
            refine V_iload_n (q := 34) dX1_setOf_33 3 rfl rfl ?_
            refine V_ishl (q := 35) dX1_setOf_34 rfl ?_
            refine V_goto (tgt := 39) dX1_setOf_35 (by decide) ?_
            exact k39 _ (by rw [tk_k (by omega)]; first | (rw [c19]; rfl) | (rw [c19, decide_eq_false (by omega)]; rfl) | (rw [c19, decide_eq_true (by omega)]; exact shl_1 (by omega)))
theorem yv_X1_setOf : YV yX1_setOf wsX1_setOf 1 := ⟨_, _, _, _, rfl, by decide +kernel, by decide⟩
set_option maxRecDepth 100000 in
set_option maxHeartbeats 4000000 in
theorem c_X1_setOf {b : Nat → Nat} {d : Nat → ClassId} {S : St} {g : Nat → Nat} {th : Nat} (ho : Ok S) (q : Int) (rq : -2147483648 ≤ q ∧ q < 2147483648) : CtI yX1_setOf wsX1_setOf (rmD 1) (tym d) [.ref (b 0), .int (iZ q)] (mkc b d S g th) (iZ (kdB S q : Nat)) (mkc b d S g th) := by
  refine CtI_of (own := RX1) (by decide) rfl rfl (Nat.le_of_ble_eq_true rfl) ?_
  refine V_lvq (lv' := [(0, _), (1, _)]) rfl ?_
  refine V_iconst (q := 1) dX1_setOf_0 rfl ?_
  refine V_istore_n (q := 2) (lv' := [(0, _), (1, _), (2, _)]) dX1_setOf_1 (by decide) rfl rfl ?_
  refine V_iconst (q := 3) dX1_setOf_2 rfl ?_
  refine V_istore_n (q := 4) (lv' := [(0, _), (1, _), (2, _), (3, _)]) dX1_setOf_3 (by decide) rfl rfl ?_
  exact lp_X1_setOf ho q rq (sN S + 1) 0 (by omega) (by omega)
theorem hin_X1_worn : ∀ w ∈ wsX10, w ∈ wsX1_worn := by decide +kernel
theorem f_X1_worn_29 : Cond.fieldLink RX1 29 (TX1 8).1 (TX1 8).2.1 (TX1 8).2.2.1 ∈ wsX1_worn := by decide +kernel
theorem f_X1_worn_45 : Cond.fieldLink RX1 45 (TX1 1).1 (TX1 1).2.1 (TX1 1).2.2.1 ∈ wsX1_worn := by decide +kernel
set_option maxRecDepth 100000 in
set_option maxHeartbeats 4000000 in
theorem lp_X1_worn {b : Nat → Nat} {d : Nat → ClassId} {S : St} {g : Nat → Nat} {th : Nat} (ho : Ok S) (x : Nat) (hx : x < 4096) : ∀ (m k : Nat), k ≤ sN S → sN S + 1 ≤ k + m → V RX1 cX1_worn 4 (some .int) wsX1_worn (rmD 0) vX0 (tym d) (qI (tym d) (mkc b d S g th) (iZ (sm (lfI S x) (sN S) : Nat)) 0 0) 0 0 (mkc b d S g th) 4 [(0, .ref (b 0)), (1, .int (iZ x)), (2, .int (iZ (sm (lfI S x) k : Nat))), (3, .int (iZ k))] [] := by
  intro m
  induction m with
  | zero => intro k  h1 h2 ; exact absurd h2 (by omega)
  | succ m ih =>
    intro k  h1 h2 
    have hn := ho.1
    refine V_iload_n (q := 5) dX1_worn_4 3 rfl rfl ?_
    refine V_aload_n (q := 6) dX1_worn_5 0 rfl rfl ?_
    refine V_get (q := 9) dX1_worn_6 hin_X1_worn 0 rfl rfl 1 (by decide) f_X1_worn_45 rfl rfl ?_
    refine V_icmp_ge (q := 12) (tgt := 40) dX1_worn_9 (by omega) (by omega) (by decide) (fun c9 => ?_) (fun c9 => ?_)
    · skip
      refine V_iload_n (q := 41) dX1_worn_40 2 rfl rfl ?_
      exact V_iret dX1_worn_41 rfl (by rw [show k = sN S by omega]) (rfl)
    · skip
      refine V_iload_n (q := 13) dX1_worn_12 2 rfl rfl ?_
      refine V_cut (M := 32) (iZ (lfI S x k : Nat)) ?_ (fun k32 => ?_)
      · -- from the merge
        refine V_iadd (q := 33) dX1_worn_32 rfl ?_
        refine V_top (y := iZ (sm (lfI S x) (k + 1) : Nat)) rfl ?_
        refine V_istore_n (q := 34) (lv' := [(0, _), (1, _), (2, _), (3, _)]) dX1_worn_33 (by decide) rfl rfl ?_
        refine V_iinc (q := 37) (lv' := [(0, _), (1, _), (2, _), (3, _)]) dX1_worn_34 3 rfl (rfl) (by decide) rfl rfl ?_
        refine V_goto (tgt := 4) dX1_worn_37 (by decide) ?_
        exact ih (k + 1) (by omega) (by omega)
      · -- the ways to it
        refine V_iload_n (q := 14) dX1_worn_13 1 rfl rfl ?_
        refine V_iload_n (q := 15) dX1_worn_14 3 rfl rfl ?_
        refine V_ishr (q := 16) dX1_worn_15 rfl ?_
        refine V_iconst (q := 17) dX1_worn_16 rfl ?_
        refine V_iand (q := 18) dX1_worn_17 rfl ?_
        refine V_top (z_tb (by omega) (by omega)) ?_
        refine V_iconst (q := 19) dX1_worn_18 rfl ?_
        refine V_icmp_ne (q := 22) (tgt := 31) dX1_worn_19 (bZ_in _) (by decide) (by decide) (fun c19 => ?_) (fun c19 => ?_)
        · skip
          have d19 : x.testBit k = false := by cases hq : x.testBit k <;> simp [hq, bZ] at c19 ⊢
          refine V_iconst (q := 32) dX1_worn_31 rfl ?_
          exact k32 _ (by unfold lfI; first | (rw [d19]; rfl))
        · skip
          have d19 : x.testBit k = true := by cases hq : x.testBit k <;> simp [hq, bZ] at c19 ⊢
          refine V_aload_n (q := 23) dX1_worn_22 0 rfl rfl ?_
          refine V_get (q := 26) dX1_worn_23 hin_X1_worn 0 rfl rfl 8 (by decide) f_X1_worn_29 rfl rfl ?_
          refine V_iload_n (q := 27) dX1_worn_26 3 rfl rfl ?_
          refine V_iald (q := 28) dX1_worn_27 7 6 rfl rfl (k) (rfl) (by omega) (by decide) (rfl) rfl ?_
          refine V_goto (tgt := 32) dX1_worn_28 (by decide) ?_
          exact k32 _ (by unfold lfI; first | (rw [d19]; rfl))
theorem yv_X1_worn : YV yX1_worn wsX1_worn 1 := ⟨_, _, _, _, rfl, by decide +kernel, by decide⟩
set_option maxRecDepth 100000 in
set_option maxHeartbeats 4000000 in
theorem c_X1_worn {b : Nat → Nat} {d : Nat → ClassId} {S : St} {g : Nat → Nat} {th : Nat} (ho : Ok S) (x : Nat) (hx : x < 4096) : CtI yX1_worn wsX1_worn (rmD 0) (tym d) [.ref (b 0), .int (iZ x)] (mkc b d S g th) (iZ (sm (lfI S x) (sN S) : Nat)) (mkc b d S g th) := by
  refine CtI_of (own := RX1) (by decide) rfl rfl (Nat.le_of_ble_eq_true rfl) ?_
  refine V_lvq (lv' := [(0, _), (1, _)]) rfl ?_
  refine V_iconst (q := 1) dX1_worn_0 rfl ?_
  refine V_istore_n (q := 2) (lv' := [(0, _), (1, _), (2, _)]) dX1_worn_1 (by decide) rfl rfl ?_
  refine V_iconst (q := 3) dX1_worn_2 rfl ?_
  refine V_istore_n (q := 4) (lv' := [(0, _), (1, _), (2, _), (3, _)]) dX1_worn_3 (by decide) rfl rfl ?_
  exact lp_X1_worn ho x hx (sN S + 1) 0 (by omega) (by omega)
theorem hin_X1_daysOf : ∀ w ∈ wsX10, w ∈ wsX1_daysOf := by decide +kernel
theorem f_X1_daysOf_38 : Cond.fieldLink RX1 38 (TX1 11).1 (TX1 11).2.1 (TX1 11).2.2.1 ∈ wsX1_daysOf := by decide +kernel
theorem orU_lt {g : Nat → Nat} (hg : ∀ j, g j < 4096) (s : Nat) : ∀ n, orU g s n < 4096
  | 0 => by show 0 < 4096; decide
  | n + 1 => or_lt (n := 12) (orU_lt hg s n) (by split; exact hg n; decide)
theorem f_X1_daysOf_45 : Cond.fieldLink RX1 45 (TX1 1).1 (TX1 1).2.1 (TX1 1).2.2.1 ∈ wsX1_daysOf := by decide +kernel
set_option maxRecDepth 100000 in
set_option maxHeartbeats 4000000 in
theorem lp_X1_daysOf_33 {b : Nat → Nat} {d : Nat → ClassId} {S : St} {g : Nat → Nat} {th : Nat} (ho : Ok S) (tp bt : Nat) (htp : tp < 4096) (hbt : bt < 4096) (rr : Int32) (s dc : Nat) (hs : s < 4096) (kk : V RX1 cX1_daysOf 10 (some .int) wsX1_daysOf (rmD 1) vX0 (tym d) (qI (tym d) (mkc b d S g th) (rr) 0 0) 0 0 (mkc b d S g th) 75 [(0, .ref (b 0)), (4, .int (iZ tp)), (5, .int (iZ bt)), (6, .int (iZ dc)), (7, .int (iZ s)), (8, .int (iZ (orU g s (sN S) : Nat)))] []) : ∀ (m k : Nat), k ≤ sN S → sN S + 1 ≤ k + m → V RX1 cX1_daysOf 10 (some .int) wsX1_daysOf (rmD 1) vX0 (tym d) (qI (tym d) (mkc b d S g th) (rr) 0 0) 0 0 (mkc b d S g th) 33 [(0, .ref (b 0)), (4, .int (iZ tp)), (5, .int (iZ bt)), (6, .int (iZ dc)), (7, .int (iZ s)), (8, .int (iZ (orU g s k : Nat))), (9, .int (iZ k))] [] := by
  intro m
  induction m with
  | zero => intro k  h1 h2 ; exact absurd h2 (by omega)
  | succ m ih =>
    intro k  h1 h2 
    have hn := ho.1
    refine V_iload (q := 35) dX1_daysOf_33 6 rfl rfl ?_
    refine V_aload_n (q := 36) dX1_daysOf_35 0 rfl rfl ?_
    refine V_get (q := 39) dX1_daysOf_36 hin_X1_daysOf 0 rfl rfl 1 (by decide) f_X1_daysOf_45 rfl rfl ?_
    refine V_icmp_ge (q := 42) (tgt := 75) dX1_daysOf_39 (by omega) (by omega) (by decide) (fun c39 => ?_) (fun c39 => ?_)
    · skip
      refine V_loc (lv' := [(0, _), (4, _), (5, _), (6, _), (7, _), (8, _)]) [0, 1, 2, 3, 4, 5] rfl ?_
      obtain rfl : k = sN S := by omega
      exact kk
    · skip
      refine V_iload (q := 44) dX1_daysOf_42 5 rfl rfl ?_
      refine V_cut (M := 66) (iZ ((if s.testBit k then g k else 0 : Nat) : Int)) ?_ (fun k66 => ?_)
      · -- from the merge
        refine V_ior (q := 67) dX1_daysOf_66 rfl ?_
        refine V_top (y := iZ (orU g s (k + 1) : Nat)) (by rw [z_or]; rfl) ?_
        refine V_istore (q := 69) (lv' := [(0, _), (4, _), (5, _), (6, _), (7, _), (8, _), (9, _)]) dX1_daysOf_67 (by decide) rfl rfl ?_
        refine V_iinc (q := 72) (lv' := [(0, _), (4, _), (5, _), (6, _), (7, _), (8, _), (9, _)]) dX1_daysOf_69 6 rfl (rfl) (by decide) rfl rfl ?_
        refine V_goto (tgt := 33) dX1_daysOf_72 (by decide) ?_
        exact ih (k + 1) (by omega) (by omega)
      · -- the ways to it
        refine V_iload (q := 46) dX1_daysOf_44 4 rfl rfl ?_
        refine V_iload (q := 48) dX1_daysOf_46 6 rfl rfl ?_
        refine V_ishr (q := 49) dX1_daysOf_48 rfl ?_
        refine V_iconst (q := 50) dX1_daysOf_49 rfl ?_
        refine V_iand (q := 51) dX1_daysOf_50 rfl ?_
        refine V_top (z_tb (by omega) (by omega)) ?_
        refine V_iconst (q := 52) dX1_daysOf_51 rfl ?_
        refine V_icmp_ne (q := 55) (tgt := 65) dX1_daysOf_52 (bZ_in _) (by decide) (by decide) (fun c52 => ?_) (fun c52 => ?_)
        · skip
          have d52 : s.testBit k = false := by cases hq : s.testBit k <;> simp [hq, bZ] at c52 ⊢
          refine V_iconst (q := 66) dX1_daysOf_65 rfl ?_
          exact k66 _ (by rw [d52]; rfl)
        · skip
          have d52 : s.testBit k = true := by cases hq : s.testBit k <;> simp [hq, bZ] at c52 ⊢
          refine V_aload_n (q := 56) dX1_daysOf_55 0 rfl rfl ?_
          refine V_get (q := 59) dX1_daysOf_56 hin_X1_daysOf 0 rfl rfl 11 (by decide) f_X1_daysOf_38 rfl rfl ?_
          refine V_iload (q := 61) dX1_daysOf_59 6 rfl rfl ?_
          refine V_iald (q := 62) dX1_daysOf_61 10 9 rfl rfl (k) (rfl) (by omega) (by decide) (rfl) rfl ?_
          refine V_goto (tgt := 66) dX1_daysOf_62 (by decide) ?_
          exact k66 _ (by rw [d52]; rfl)
set_option maxRecDepth 100000 in
set_option maxHeartbeats 4000000 in
theorem lp_X1_daysOf_22 {b : Nat → Nat} {d : Nat → ClassId} {S : St} {g : Nat → Nat} {th : Nat} (ho : Ok S) (tp bt : Nat) (htp : tp < 4096) (hbt : bt < 4096) (hg : ∀ j, g j < 4096) : ∀ (m : Nat) (s dc : Nat), s < m → (s < 4096) → (dc < 4096) → V RX1 cX1_daysOf 10 (some .int) wsX1_daysOf (rmD 1) vX0 (tym d) (qI (tym d) (mkc b d S g th) (iZ (dyL S g tp bt m s dc : Nat)) 0 0) 0 0 (mkc b d S g th) 22 [(0, .ref (b 0)), (4, .int (iZ tp)), (5, .int (iZ bt)), (6, .int (iZ dc)), (7, .int (iZ s))] [] := by
  intro m
  induction m with
  | zero => intro s dc h1 i0 i1; exact absurd h1 (Nat.not_lt_zero _)
  | succ m ih =>
    intro s dc h1 i0 i1
    have hn := ho.1
    refine V_iload (q := 24) dX1_daysOf_22 4 rfl rfl ?_
    refine V_if_le (q := 27) (tgt := 126) dX1_daysOf_24 (by omega) (by decide) (fun c24 => ?_) (fun c24 => ?_)
    · skip
      refine V_iload (q := 128) dX1_daysOf_126 3 rfl rfl ?_
      exact V_iret dX1_daysOf_128 rfl (by rw [show dyL S g tp bt (m + 1) s dc = dc from if_pos (by omega)]) (rfl)
    · skip
      rw [show dyL S g tp bt (m + 1) s dc = dyL S g tp bt m ((s - 1) &&& tp) (if itZ S g tp bt s < dc then itZ S g tp bt s else dc) from if_neg (by omega)]
      have y1 := lfN_le ho (andn tp s)
      have y2 := lfN_le ho (orU g s (sN S) &&& bt)
      have y3 : orU g s (sN S) < 4096 := orU_lt hg s (sN S)
      refine V_iconst (q := 28) dX1_daysOf_27 rfl ?_
      refine V_istore (q := 30) (lv' := [(0, _), (4, _), (5, _), (6, _), (7, _), (8, _)]) dX1_daysOf_28 (by decide) rfl rfl ?_
      refine V_iconst (q := 31) dX1_daysOf_30 rfl ?_
      refine V_istore (q := 33) (lv' := [(0, _), (4, _), (5, _), (6, _), (7, _), (8, _), (9, _)]) dX1_daysOf_31 (by decide) rfl rfl ?_
      refine lp_X1_daysOf_33 ho tp bt htp hbt _ s dc (by omega) ?_ (sN S + 1) 0 (by omega) (by omega)
      refine V_aload_n (q := 76) dX1_daysOf_75 0 rfl rfl ?_
      refine V_iload (q := 78) dX1_daysOf_76 1 rfl rfl ?_
      refine V_iload (q := 80) dX1_daysOf_78 4 rfl rfl ?_
      refine V_iconst (q := 81) dX1_daysOf_80 rfl ?_
      refine V_ixor (q := 82) dX1_daysOf_81 rfl ?_
      refine V_iand (q := 83) dX1_daysOf_82 rfl ?_
      refine V_top (z_andn _ _) ?_
      refine V_callIv (q := 86) dX1_daysOf_83 (c_X1_worn ho (andn tp s) (andn_lt (n := 12) htp)) yv_X1_worn rfl gX1_daysOf_X1_worn rfl 0 rfl rfl rfl rfl (Nat.le_of_ble_eq_true rfl) (by decide) ?_
      refine V_aload_n (q := 87) dX1_daysOf_86 0 rfl rfl ?_
      refine V_iload (q := 89) dX1_daysOf_87 5 rfl rfl ?_
      refine V_iload (q := 91) dX1_daysOf_89 2 rfl rfl ?_
      refine V_iand (q := 92) dX1_daysOf_91 rfl ?_
      refine V_top (z_and _ _) ?_
      refine V_callIv (q := 95) dX1_daysOf_92 (c_X1_worn ho (orU g s (sN S) &&& bt) (and_lt (n := 12) y3)) yv_X1_worn rfl gX1_daysOf_X1_worn rfl 0 rfl rfl rfl rfl (Nat.le_of_ble_eq_true rfl) (by decide) ?_
      refine V_iadd (q := 96) dX1_daysOf_95 rfl ?_
      refine V_top (y := iZ (itZ S g tp bt s : Nat)) rfl ?_
      have y4 : itZ S g tp bt s ≤ 216 := by unfold itZ; omega
      refine V_istore (q := 98) (lv' := [(0, _), (4, _), (5, _), (6, _), (7, _), (8, _), (9, _)]) dX1_daysOf_96 (by decide) rfl rfl ?_
      refine V_cut (M := 112) (iZ ((if itZ S g tp bt s < dc then itZ S g tp bt s else dc : Nat) : Int)) ?_ (fun k112 => ?_)
      · -- from the merge
        refine V_istore (q := 114) (lv' := [(0, _), (4, _), (5, _), (6, _), (7, _), (8, _), (9, _)]) dX1_daysOf_112 (by decide) rfl rfl ?_
        refine V_loc (lv' := [(0, _), (4, _), (5, _), (6, _), (7, _)]) [0, 1, 2, 3, 4] rfl ?_
        refine V_iload (q := 116) dX1_daysOf_114 4 rfl rfl ?_
        refine V_iconst (q := 117) dX1_daysOf_116 rfl ?_
        refine V_isub (q := 118) dX1_daysOf_117 rfl ?_
        refine V_iload (q := 120) dX1_daysOf_118 1 rfl rfl ?_
        refine V_iand (q := 121) dX1_daysOf_120 rfl ?_
        refine V_top (dec_and s tp (by omega)) ?_
        refine V_istore (q := 123) (lv' := [(0, _), (4, _), (5, _), (6, _), (7, _)]) dX1_daysOf_121 (by decide) rfl rfl ?_
        refine V_goto (tgt := 22) dX1_daysOf_123 (by decide) ?_
        exact ih _ _ (dec_lt h1 (by omega)) (Nat.lt_of_le_of_lt Nat.and_le_right htp) (by split <;> omega)
      · -- the ways to it
        refine V_iload (q := 100) dX1_daysOf_98 6 rfl rfl ?_
        refine V_iload (q := 102) dX1_daysOf_100 3 rfl rfl ?_
        refine V_icmp_ge (q := 105) (tgt := 110) dX1_daysOf_102 (by omega) (by omega) (by decide) (fun c102 => ?_) (fun c102 => ?_)
        · skip
          refine V_iload (q := 112) dX1_daysOf_110 3 rfl rfl ?_
          exact k112 _ (by first | (rw [if_pos (by omega)]) | (rw [if_neg (by omega)]))
        · skip
          refine V_iload (q := 107) dX1_daysOf_105 6 rfl rfl ?_
          refine V_goto (tgt := 112) dX1_daysOf_107 (by decide) ?_
          exact k112 _ (by first | (rw [if_pos (by omega)]) | (rw [if_neg (by omega)]))
theorem yv_X1_daysOf : YV yX1_daysOf wsX1_daysOf 3 := ⟨_, _, _, _, rfl, by decide +kernel, by decide⟩
set_option maxRecDepth 100000 in
set_option maxHeartbeats 4000000 in
theorem c_X1_daysOf {b : Nat → Nat} {d : Nat → ClassId} {S : St} {g : Nat → Nat} {th : Nat} (ho : Ok S) (x t u : Nat) (hx : x < 4096) (hg : ∀ j, g j < 4096) : CtI yX1_daysOf wsX1_daysOf (rmD 1) (tym d) [.ref (b 0), .int (iZ x), .int (iZ t), .int (iZ u)] (mkc b d S g th) (iZ (dayZ S g x t u : Nat)) (mkc b d S g th) := by
  refine CtI_of (own := RX1) (by decide) rfl rfl (Nat.le_of_ble_eq_true rfl) ?_
  refine V_lvq (lv' := [(0, _), (1, _), (2, _), (3, _)]) rfl ?_
  refine V_iload_n (q := 1) dX1_daysOf_0 1 rfl rfl ?_
  refine V_iload_n (q := 2) dX1_daysOf_1 2 rfl rfl ?_
  refine V_iand (q := 3) dX1_daysOf_2 rfl ?_
  refine V_top (z_and _ _) ?_
  refine V_istore (q := 5) (lv' := [(0, _), (1, _), (2, _), (3, _), (4, _)]) dX1_daysOf_3 (by decide) rfl rfl ?_
  refine V_iload_n (q := 6) dX1_daysOf_5 1 rfl rfl ?_
  refine V_iload_n (q := 7) dX1_daysOf_6 3 rfl rfl ?_
  refine V_iand (q := 8) dX1_daysOf_7 rfl ?_
  refine V_top (z_and _ _) ?_
  refine V_istore (q := 10) (lv' := [(0, _), (1, _), (2, _), (3, _), (4, _), (5, _)]) dX1_daysOf_8 (by decide) rfl rfl ?_
  refine V_aload_n (q := 11) dX1_daysOf_10 0 rfl rfl ?_
  refine V_iload (q := 13) dX1_daysOf_11 4 rfl rfl ?_
  refine V_callIv (q := 16) dX1_daysOf_13 (c_X1_worn ho (x &&& t) (and_lt (n := 12) hx)) yv_X1_worn rfl gX1_daysOf_X1_worn rfl 0 rfl rfl rfl rfl (Nat.le_of_ble_eq_true rfl) (by decide) ?_
  refine V_istore (q := 18) (lv' := [(0, _), (1, _), (2, _), (3, _), (4, _), (5, _), (6, _)]) dX1_daysOf_16 (by decide) rfl rfl ?_
  refine V_iload (q := 20) dX1_daysOf_18 4 rfl rfl ?_
  refine V_istore (q := 22) (lv' := [(0, _), (1, _), (2, _), (3, _), (4, _), (5, _), (6, _), (7, _)]) dX1_daysOf_20 (by decide) rfl rfl ?_
  refine V_loc (lv' := [(0, _), (4, _), (5, _), (6, _), (7, _)]) [0, 4, 5, 6, 7] rfl ?_
  exact lp_X1_daysOf_22 ho (x &&& t) (x &&& u) (and_lt (n := 12) hx) (and_lt (n := 12) hx) hg 4096 _ _ (and_lt (n := 12) hx) (and_lt (n := 12) hx) (by have := lfN_le ho (x &&& t); omega)
set_option maxRecDepth 100000 in
set_option maxHeartbeats 4000000 in
theorem lp_X1_size {tys : List (ClassId × FieldType)} {w : va_W} (x : Nat) (hx : x < 4096) : ∀ (m k : Nat), k ≤ 12 → 12 + 1 ≤ k + m → V RX1 cX1_size 3 (some .int) wsX1_size (rmD 0) vX0 tys (qI tys (w) (iZ (pc x : Nat)) 0 0) 0 0 (w) 4 [(0, .int (iZ x)), (1, .int (iZ (cnt (fun i => x.testBit i) k : Nat))), (2, .int (iZ k))] [] := by
  intro m
  induction m with
  | zero => intro k  h1 h2 ; exact absurd h2 (by omega)
  | succ m ih =>
    intro k  h1 h2 
    refine V_iload_n (q := 5) dX1_size_4 2 rfl rfl ?_
    refine V_bipush (q := 7) dX1_size_5 (by decide) rfl ?_
    refine V_icmp_ge (q := 10) (tgt := 24) dX1_size_7 (by omega) (by omega) (by decide) (fun c7 => ?_) (fun c7 => ?_)
    · skip
      refine V_iload_n (q := 25) dX1_size_24 1 rfl rfl ?_
      exact V_iret dX1_size_25 rfl (by rw [show k = 12 by omega]; rfl) (rfl)
    · skip
      refine V_iload_n (q := 11) dX1_size_10 1 rfl rfl ?_
      refine V_iload_n (q := 12) dX1_size_11 0 rfl rfl ?_
      refine V_iload_n (q := 13) dX1_size_12 2 rfl rfl ?_
      refine V_ishr (q := 14) dX1_size_13 rfl ?_
      refine V_iconst (q := 15) dX1_size_14 rfl ?_
      refine V_iand (q := 16) dX1_size_15 rfl ?_
      refine V_top (z_tb (by omega) (by omega)) ?_
      refine V_iadd (q := 17) dX1_size_16 rfl ?_
      refine V_top (y := iZ (cnt (fun i => x.testBit i) (k + 1) : Nat)) (by cases hq : x.testBit k <;> simp [cnt, hq, bZ]) ?_
      refine V_istore_n (q := 18) (lv' := [(0, _), (1, _), (2, _)]) dX1_size_17 (by decide) rfl rfl ?_
      refine V_iinc (q := 21) (lv' := [(0, _), (1, _), (2, _)]) dX1_size_18 2 rfl (rfl) (by decide) rfl rfl ?_
      refine V_goto (tgt := 4) dX1_size_21 (by decide) ?_
      exact ih (k + 1) (by omega) (by omega)
theorem yv_X1_size : YV yX1_size wsX1_size 1 := ⟨_, _, _, _, rfl, by decide +kernel, by decide⟩
set_option maxRecDepth 100000 in
set_option maxHeartbeats 4000000 in
theorem c_X1_size {tys : List (ClassId × FieldType)} {w : va_W} (x : Nat) (hx : x < 4096) : CtI yX1_size wsX1_size (rmD 0) tys [.int (iZ x)] (w) (iZ (pc x : Nat)) (w) := by
  refine CtI_of (own := RX1) (by decide) rfl rfl (Nat.le_of_ble_eq_true rfl) ?_
  refine V_lvq (lv' := [(0, _)]) rfl ?_
  refine V_iconst (q := 1) dX1_size_0 rfl ?_
  refine V_istore_n (q := 2) (lv' := [(0, _), (1, _)]) dX1_size_1 (by decide) rfl rfl ?_
  refine V_iconst (q := 3) dX1_size_2 rfl ?_
  refine V_istore_n (q := 4) (lv' := [(0, _), (1, _), (2, _)]) dX1_size_3 (by decide) rfl rfl ?_
  exact lp_X1_size x hx 13 0 (by omega) (by omega)
theorem cEn_lt (S : St) (x : Int32) (y w : Int) : cEn S x y w < 4 := by unfold cEn; split <;> decide
theorem cEn_0 {S : St} {x : Int32} {y w : Int} (h : cEn S x y w = 0) : x &&& (ow S ^^^ iZ (-1)) = 0 ∧ (1 ≤ y ∧ y ≤ 20) := by
  unfold cEn at h
  split at h
  · next h1 =>
    refine ⟨h1.1, ?_⟩
    have h2 := h1.2
    simp only [inZ, Bool.and_eq_true, decide_eq_true_eq] at h2
    exact h2.1
  · exact absurd h (by decide)
theorem cBag_lt (y w : Int) : cBag y w < 4 := by unfold cBag; split <;> decide
theorem cBag_0 {y w : Int} (h : cBag y w = 0) : 1 ≤ y ∧ y ≤ 20 := by
  unfold cBag at h
  split at h
  · next h2 =>
    simp only [inZ, Bool.and_eq_true, decide_eq_true_eq] at h2
    exact h2.1
  · exact absurd h (by decide)
theorem gM_lt {S : St} {w : Int} {g : Nat → Nat} (hg : ∀ j, g j < 4096) (k j : Nat) : gM S w g k j < 4096 := by
  unfold gM
  split
  · exact bits_lt _ 12
  · exact hg j
theorem itZ_le {S : St} (ho : Ok S) (g : Nat → Nat) (tp bt s : Nat) : itZ S g tp bt s ≤ 216 := by
  have y1 := lfN_le ho (andn tp s)
  have y2 := lfN_le ho (orU g s (sN S) &&& bt)
  unfold itZ
  omega
theorem dyL_le {S : St} (ho : Ok S) (g : Nat → Nat) (tp bt : Nat) : ∀ m s dc, dc ≤ 216 → dyL S g tp bt m s dc ≤ 216
  | 0, _, _, h => h
  | m + 1, s, dc, h => by
    show (if s = 0 then dc else dyL S g tp bt m ((s - 1) &&& tp) (if itZ S g tp bt s < dc then itZ S g tp bt s else dc)) ≤ 216
    split
    · exact h
    · refine dyL_le ho g tp bt m _ _ ?_
      have := itZ_le ho g tp bt s
      split <;> omega
theorem dayZ_le {S : St} (ho : Ok S) (g : Nat → Nat) (x t u : Nat) : dayZ S g x t u ≤ 216 := dyL_le ho g _ _ _ _ _ (by have := lfN_le ho (x &&& t); omega)
def enM (S : St) (g : Nat → Nat) (u : Nat) (y : Int) : Bool := decide (y ≤ (dayZ S g u (kdB S 0) (kdB S 1) : Int))
theorem yv_X1_isEnough : YV yX1_isEnough wsX1_isEnough 3 := ⟨_, _, _, _, rfl, by decide +kernel, by decide⟩
set_option maxRecDepth 100000 in
set_option maxHeartbeats 4000000 in
theorem c_X1_isEnough {b : Nat → Nat} {d : Nat → ClassId} {S : St} {g : Nat → Nat} {th : Nat} (ho : Ok S) (x : Int32) (y w : Int) (hg : ∀ j, g j < 4096) (ry : -2147483648 ≤ y ∧ y < 2147483648) (rw : -2147483648 ≤ w ∧ w < 2147483648) : CtI yX1_isEnough wsX1_isEnough (rmD 4) (tym d) [.ref (b 0), .int x, .int (iZ y), .int (iZ w)] (mkc b d S g th) (iZ (bZ (decide (cEn S x y w = 0) && enM S (gM S w g 12) x.toBitVec.toNat y))) (mkc b d S (if cEn S x y w = 0 then (gM S w g 12) else g) (cEn S x y w)) := by
  refine CtI_of (own := RX1) (by decide) rfl rfl (Nat.le_of_ble_eq_true rfl) ?_
  refine V_lvq (lv' := [(0, _), (1, _), (2, _), (3, _)]) rfl ?_
  have rw' := rw
  refine V_aload_n (q := 1) dX1_isEnough_0 0 rfl rfl ?_
  refine V_iconst (q := 2) dX1_isEnough_1 rfl ?_
  refine V_callIv (q := 5) dX1_isEnough_2 (c_X1_setOf ho 0 (by decide)) yv_X1_setOf rfl gX1_isEnough_X1_setOf rfl 0 rfl rfl rfl rfl (Nat.le_of_ble_eq_true rfl) (by decide) ?_
  refine V_aload_n (q := 6) dX1_isEnough_5 0 rfl rfl ?_
  refine V_iconst (q := 7) dX1_isEnough_6 rfl ?_
  refine V_callIv (q := 10) dX1_isEnough_7 (c_X1_setOf ho 1 (by decide)) yv_X1_setOf rfl gX1_isEnough_X1_setOf rfl 0 rfl rfl rfl rfl (Nat.le_of_ble_eq_true rfl) (by decide) ?_
  refine V_ior (q := 11) dX1_isEnough_10 rfl ?_
  refine V_top (z_or _ _) ?_
  refine V_aload_n (q := 12) dX1_isEnough_11 0 rfl rfl ?_
  refine V_iconst (q := 13) dX1_isEnough_12 rfl ?_
  refine V_callIv (q := 16) dX1_isEnough_13 (c_X1_setOf ho 2 (by decide)) yv_X1_setOf rfl gX1_isEnough_X1_setOf rfl 0 rfl rfl rfl rfl (Nat.le_of_ble_eq_true rfl) (by decide) ?_
  refine V_ior (q := 17) dX1_isEnough_16 rfl ?_
  refine V_top (y := ow S) (by rw [z_or, kd_all ho]; rfl) ?_
  refine V_istore (q := 19) (lv' := [(0, _), (1, _), (2, _), (3, _), (4, _)]) dX1_isEnough_17 (by decide) rfl rfl ?_
  refine V_aload_n (q := 20) dX1_isEnough_19 0 rfl rfl ?_
  refine V_cut (M := 54) (iZ (cEn S x y w : Nat)) ?_ (fun k54 => ?_)
  · -- from the merge
    refine V_callIv (q := 57) dX1_isEnough_54 (c_X1_goes (cEn S x y w) (cEn_lt S x y w)) yv_X1_goes rfl gX1_isEnough_X1_goes rfl 0 rfl rfl rfl rfl (Nat.le_of_ble_eq_true rfl) (by decide) ?_
    refine V_if_neB (q := 60) (tgt := 62) dX1_isEnough_57 (by decide) (fun c57 => ?_) (fun c57 => ?_)
    · skip
      have ec : cEn S x y w = 0 := of_decide_eq_true c57
      rw [c57, if_pos ec, ec, Bool.true_and]
      obtain ⟨e0, b1⟩ := cEn_0 ec
      obtain ⟨e1, e2⟩ := ow_sub e0
      clear e0 ec c57
      generalize x.toBitVec.toNat = u at e1 e2 ⊢
      subst e1
      refine V_aload_n (q := 63) dX1_isEnough_62 0 rfl rfl ?_
      refine V_iload_n (q := 64) dX1_isEnough_63 3 rfl rfl ?_
      refine V_callVv (q := 67) dX1_isEnough_64 (c_X1_laysPairs ho w rw') yv_X1_laysPairs rfl gX1_isEnough_X1_laysPairs rfl 0 rfl rfl rfl rfl (Nat.le_of_ble_eq_true rfl) (by decide) ?_
      refine V_aload_n (q := 68) dX1_isEnough_67 0 rfl rfl ?_
      refine V_iload_n (q := 69) dX1_isEnough_68 1 rfl rfl ?_
      refine V_aload_n (q := 70) dX1_isEnough_69 0 rfl rfl ?_
      refine V_iconst (q := 71) dX1_isEnough_70 rfl ?_
      refine V_callIv (q := 74) dX1_isEnough_71 (c_X1_setOf ho 0 (by decide)) yv_X1_setOf rfl gX1_isEnough_X1_setOf rfl 0 rfl rfl rfl rfl (Nat.le_of_ble_eq_true rfl) (by decide) ?_
      refine V_aload_n (q := 75) dX1_isEnough_74 0 rfl rfl ?_
      refine V_iconst (q := 76) dX1_isEnough_75 rfl ?_
      refine V_callIv (q := 79) dX1_isEnough_76 (c_X1_setOf ho 1 (by decide)) yv_X1_setOf rfl gX1_isEnough_X1_setOf rfl 0 rfl rfl rfl rfl (Nat.le_of_ble_eq_true rfl) (by decide) ?_
      refine V_callIv (q := 82) dX1_isEnough_79 (c_X1_daysOf ho u (kdB S 0) (kdB S 1) e2 (gM_lt hg 12)) yv_X1_daysOf rfl gX1_isEnough_X1_daysOf rfl 0 rfl rfl rfl rfl (Nat.le_of_ble_eq_true rfl) (by decide) ?_
      refine V_iload_n (q := 83) dX1_isEnough_82 2 rfl rfl ?_
      refine V_icmp_lt (q := 86) (tgt := 90) dX1_isEnough_83 (by have q := dayZ_le ho (gM S w g 12) u (kdB S 0) (kdB S 1); omega) (by omega) (by decide) (fun c83 => ?_) (fun c83 => ?_)
      · skip
        refine V_iconst (q := 91) dX1_isEnough_90 rfl ?_
        exact V_zret dX1_isEnough_91 rfl (by first | exact bZ_t (by unfold enM; first | exact decide_eq_true (by omega) | exact decide_eq_false (by omega)) | exact bZ_f (by unfold enM; first | exact decide_eq_true (by omega) | exact decide_eq_false (by omega))) (rfl)
      · skip
        refine V_iconst (q := 87) dX1_isEnough_86 rfl ?_
        refine V_goto (tgt := 91) dX1_isEnough_87 (by decide) ?_
        exact V_zret dX1_isEnough_91 rfl (by first | exact bZ_t (by unfold enM; first | exact decide_eq_true (by omega) | exact decide_eq_false (by omega)) | exact bZ_f (by unfold enM; first | exact decide_eq_true (by omega) | exact decide_eq_false (by omega))) (rfl)
    · skip
      refine V_iconst (q := 61) dX1_isEnough_60 rfl ?_
      exact V_zret dX1_isEnough_61 rfl (bZ_f (by rw [c57]; rfl)) (by rw [if_neg (of_decide_eq_false c57)])
  · -- the ways to it
    refine V_iload_n (q := 21) dX1_isEnough_20 1 rfl rfl ?_
    refine V_iload (q := 23) dX1_isEnough_21 4 rfl rfl ?_
    refine V_iconst (q := 24) dX1_isEnough_23 rfl ?_
    refine V_ixor (q := 25) dX1_isEnough_24 rfl ?_
    refine V_iand (q := 26) dX1_isEnough_25 rfl ?_
    refine V_if_neR (q := 29) (tgt := 53) dX1_isEnough_26 (by decide) (fun c26 => ?_) (fun c26 => ?_)
    · skip
      refine V_iconst (q := 54) dX1_isEnough_53 rfl ?_
      exact k54 _ (by first | (rw [show (cEn S x y w : Nat) = 1 from if_neg (fun q => c26 q.1)]; rfl) | (rw [show (cEn S x y w : Nat) = 1 from if_neg (fun q => by have q2 := q.2; simp only [inZ] at q2; rw [c36] at q2; exact Bool.noConfusion q2)]; rfl) | (rw [show (cEn S x y w : Nat) = 1 from if_neg (fun q => by have q2 := q.2; simp only [inZ] at q2; rw [c36, c46] at q2; exact Bool.noConfusion q2)]; rfl) | (rw [show (cEn S x y w : Nat) = 0 from if_pos ⟨c26, by simp only [inZ]; rw [c36, c46]; rfl⟩]; rfl))
    · skip
      refine V_iload_n (q := 30) dX1_isEnough_29 2 rfl rfl ?_
      refine V_iconst (q := 31) dX1_isEnough_30 rfl ?_
      refine V_bipush (q := 33) dX1_isEnough_31 (by decide) rfl ?_
      refine V_callIs (q := 36) dX1_isEnough_33 (c_X1_isIn y 1 20 ry (by decide) (by decide)) yv_X1_isIn rfl gX1_isEnough_X1_isIn rfl (Nat.le_of_ble_eq_true rfl) (by decide) ?_
      refine V_if_eqB (q := 39) (tgt := 53) dX1_isEnough_36 (by decide) (fun c36 => ?_) (fun c36 => ?_)
      · skip
        refine V_iconst (q := 54) dX1_isEnough_53 rfl ?_
        exact k54 _ (by first | (rw [show (cEn S x y w : Nat) = 1 from if_neg (fun q => c26 q.1)]; rfl) | (rw [show (cEn S x y w : Nat) = 1 from if_neg (fun q => by have q2 := q.2; simp only [inZ] at q2; rw [c36] at q2; exact Bool.noConfusion q2)]; rfl) | (rw [show (cEn S x y w : Nat) = 1 from if_neg (fun q => by have q2 := q.2; simp only [inZ] at q2; rw [c36, c46] at q2; exact Bool.noConfusion q2)]; rfl) | (rw [show (cEn S x y w : Nat) = 0 from if_pos ⟨c26, by simp only [inZ]; rw [c36, c46]; rfl⟩]; rfl))
      · skip
        refine V_iload_n (q := 40) dX1_isEnough_39 3 rfl rfl ?_
        refine V_iconst (q := 41) dX1_isEnough_40 rfl ?_
        refine V_bipush (q := 43) dX1_isEnough_41 (by decide) rfl ?_
        refine V_callIs (q := 46) dX1_isEnough_43 (c_X1_isIn w 0 20 rw' (by decide) (by decide)) yv_X1_isIn rfl gX1_isEnough_X1_isIn rfl (Nat.le_of_ble_eq_true rfl) (by decide) ?_
        refine V_if_eqB (q := 49) (tgt := 53) dX1_isEnough_46 (by decide) (fun c46 => ?_) (fun c46 => ?_)
        · skip
          refine V_iconst (q := 54) dX1_isEnough_53 rfl ?_
          exact k54 _ (by first | (rw [show (cEn S x y w : Nat) = 1 from if_neg (fun q => c26 q.1)]; rfl) | (rw [show (cEn S x y w : Nat) = 1 from if_neg (fun q => by have q2 := q.2; simp only [inZ] at q2; rw [c36] at q2; exact Bool.noConfusion q2)]; rfl) | (rw [show (cEn S x y w : Nat) = 1 from if_neg (fun q => by have q2 := q.2; simp only [inZ] at q2; rw [c36, c46] at q2; exact Bool.noConfusion q2)]; rfl) | (rw [show (cEn S x y w : Nat) = 0 from if_pos ⟨c26, by simp only [inZ]; rw [c36, c46]; rfl⟩]; rfl))
        · skip
          refine V_iconst (q := 50) dX1_isEnough_49 rfl ?_
          refine V_goto (tgt := 54) dX1_isEnough_50 (by decide) ?_
          exact k54 _ (by first | (rw [show (cEn S x y w : Nat) = 1 from if_neg (fun q => c26 q.1)]; rfl) | (rw [show (cEn S x y w : Nat) = 1 from if_neg (fun q => by have q2 := q.2; simp only [inZ] at q2; rw [c36] at q2; exact Bool.noConfusion q2)]; rfl) | (rw [show (cEn S x y w : Nat) = 1 from if_neg (fun q => by have q2 := q.2; simp only [inZ] at q2; rw [c36, c46] at q2; exact Bool.noConfusion q2)]; rfl) | (rw [show (cEn S x y w : Nat) = 0 from if_pos ⟨c26, by simp only [inZ]; rw [c36, c46]; rfl⟩]; rfl))
/-- the reference's search for a bag, counted down -/
def bmC (S : St) (g : Nat → Nat) (t u : Nat) (y : Int) (s l : Nat) : Bool := decide (pc s ≤ l) && decide (y ≤ (dayZ S g s t u : Int))
def bmL (S : St) (g : Nat → Nat) (t u : Nat) (y : Int) : Nat → Nat → Nat → Nat → Nat
  | 0, _, f, _ => f
  | m + 1, s, f, l => if s = 0 then f else bmL S g t u y m ((s - 1) &&& (t ||| u)) (if bmC S g t u y s l then s else f) (if bmC S g t u y s l then pc s else l)
def bagM (S : St) (g : Nat → Nat) (y : Int) : Nat := bmL S g (kdB S 0) (kdB S 1) y 4096 (kdB S 0 ||| kdB S 1) 0 13
set_option maxRecDepth 100000 in
set_option maxHeartbeats 4000000 in
theorem lp_X1_bag {b : Nat → Nat} {d : Nat → ClassId} {S : St} {g : Nat → Nat} {th : Nat} (ho : Ok S) (t u : Nat) (y : Int) (ht : t < 4096) (hu : u < 4096) (hg : ∀ j, g j < 4096) (ry : -2147483648 ≤ y ∧ y < 2147483648) : ∀ (m : Nat) (s f l : Nat), s < m → (s < 4096) → (l ≤ 13) → V RX1 cX1_bag 11 (some .int) wsX1_bag (rmD 4) vX0 (tym d) (qI (tym d) (mkc b d S g th) (iZ (bmL S g t u y m s f l : Nat)) 0 0) 0 0 (mkc b d S g th) 69 [(0, .ref (b 0)), (1, .int (iZ y)), (3, .int (iZ t)), (4, .int (iZ u)), (5, .int (iZ (t ||| u : Nat))), (6, .int (iZ f)), (7, .int (iZ l)), (8, .int (iZ s))] [] := by
  intro m
  induction m with
  | zero => intro s f l h1 i0 i1; exact absurd h1 (Nat.not_lt_zero _)
  | succ m ih =>
    intro s f l h1 i0 i1
    refine V_iload (q := 71) dX1_bag_69 7 rfl rfl ?_
    refine V_if_le (q := 74) (tgt := 148) dX1_bag_71 (by omega) (by decide) (fun c71 => ?_) (fun c71 => ?_)
    · skip
      refine V_iload (q := 150) dX1_bag_148 5 rfl rfl ?_
      exact V_iret dX1_bag_150 rfl (by rw [show bmL S g t u y (m + 1) s f l = f from if_pos (by omega)]) (rfl)
    · skip
      rw [show bmL S g t u y (m + 1) s f l = bmL S g t u y m ((s - 1) &&& (t ||| u)) (if bmC S g t u y s l then s else f) (if bmC S g t u y s l then pc s else l) from if_neg (by omega)]
      refine V_iload (q := 76) dX1_bag_74 7 rfl rfl ?_
      refine V_callIs (q := 79) dX1_bag_76 (c_X1_size s i0) yv_X1_size rfl gX1_bag_X1_size rfl (Nat.le_of_ble_eq_true rfl) (by decide) ?_
      refine V_istore (q := 81) (lv' := [(0, _), (1, _), (3, _), (4, _), (5, _), (6, _), (7, _), (8, _), (9, _)]) dX1_bag_79 (by decide) rfl rfl ?_
      refine V_cut (M := 106) (iZ (bZ (bmC S g t u y s l))) ?_ (fun k106 => ?_)
      · -- from the merge
        refine V_istore (q := 108) (lv' := [(0, _), (1, _), (3, _), (4, _), (5, _), (6, _), (7, _), (8, _), (9, _), (10, _)]) dX1_bag_106 (by decide) rfl rfl ?_
        refine V_cut (M := 120) (iZ ((if (bmC S g t u y s l) then s else f : Nat) : Int)) ?_ (fun k120 => ?_)
        · -- from the merge
          refine V_istore (q := 122) (lv' := [(0, _), (1, _), (3, _), (4, _), (5, _), (6, _), (7, _), (8, _), (9, _), (10, _)]) dX1_bag_120 (by decide) rfl rfl ?_
          refine V_cut (M := 134) (iZ ((if (bmC S g t u y s l) then pc s else l : Nat) : Int)) ?_ (fun k134 => ?_)
          · -- from the merge
            refine V_istore (q := 136) (lv' := [(0, _), (1, _), (3, _), (4, _), (5, _), (6, _), (7, _), (8, _), (9, _), (10, _)]) dX1_bag_134 (by decide) rfl rfl ?_
            refine V_loc (lv' := [(0, _), (1, _), (3, _), (4, _), (5, _), (6, _), (7, _), (8, _)]) [0, 1, 2, 3, 4, 5, 6, 7] rfl ?_
            refine V_iload (q := 138) dX1_bag_136 7 rfl rfl ?_
            refine V_iconst (q := 139) dX1_bag_138 rfl ?_
            refine V_isub (q := 140) dX1_bag_139 rfl ?_
            refine V_iload (q := 142) dX1_bag_140 4 rfl rfl ?_
            refine V_iand (q := 143) dX1_bag_142 rfl ?_
            refine V_top (dec_and s (t ||| u) (by omega)) ?_
            refine V_istore (q := 145) (lv' := [(0, _), (1, _), (3, _), (4, _), (5, _), (6, _), (7, _), (8, _)]) dX1_bag_143 (by decide) rfl rfl ?_
            refine V_goto (tgt := 69) dX1_bag_145 (by decide) ?_
            exact ih _ _ _ (dec_lt h1 (by omega)) (Nat.lt_of_le_of_lt Nat.and_le_right (or_lt (n := 12) ht hu)) (by have q := pc_le s; split <;> omega)
          · -- the ways to it
            refine V_iload (q := 124) dX1_bag_122 9 rfl rfl ?_
            refine V_if_eqB (q := 127) (tgt := 132) dX1_bag_124 (by decide) (fun c124 => ?_) (fun c124 => ?_)
            · skip
              refine V_iload (q := 134) dX1_bag_132 6 rfl rfl ?_
              exact k134 _ (by first | (rw [if_pos c124]) | (rw [if_neg (by rw [c124]; decide)]))
            · skip
              refine V_iload (q := 129) dX1_bag_127 8 rfl rfl ?_
              refine V_goto (tgt := 134) dX1_bag_129 (by decide) ?_
              exact k134 _ (by first | (rw [if_pos c124]) | (rw [if_neg (by rw [c124]; decide)]))
        · -- the ways to it
          refine V_iload (q := 110) dX1_bag_108 9 rfl rfl ?_
          refine V_if_eqB (q := 113) (tgt := 118) dX1_bag_110 (by decide) (fun c110 => ?_) (fun c110 => ?_)
          · skip
            refine V_iload (q := 120) dX1_bag_118 5 rfl rfl ?_
            exact k120 _ (by first | (rw [if_pos c110]) | (rw [if_neg (by rw [c110]; decide)]))
          · skip
            refine V_iload (q := 115) dX1_bag_113 7 rfl rfl ?_
            refine V_goto (tgt := 120) dX1_bag_115 (by decide) ?_
            exact k120 _ (by first | (rw [if_pos c110]) | (rw [if_neg (by rw [c110]; decide)]))
      · -- the ways to it
        refine V_iload (q := 83) dX1_bag_81 8 rfl rfl ?_
        refine V_iload (q := 85) dX1_bag_83 6 rfl rfl ?_
        refine V_icmp_gt (q := 88) (tgt := 105) dX1_bag_85 (by have q := pc_le s; omega) (by omega) (by decide) (fun c85 => ?_) (fun c85 => ?_)
        · skip
          refine V_iconst (q := 106) dX1_bag_105 rfl ?_
          exact k106 _ (by first | exact bZ_f (by unfold bmC; rw [decide_eq_false (by omega)]; rfl) | exact bZ_f (by unfold bmC; rw [decide_eq_true (by omega), decide_eq_false (by omega)]; rfl) | exact bZ_t (by unfold bmC; rw [decide_eq_true (by omega), decide_eq_true (by omega)]; rfl))
        · skip
          refine V_aload_n (q := 89) dX1_bag_88 0 rfl rfl ?_
          refine V_iload (q := 91) dX1_bag_89 7 rfl rfl ?_
          refine V_iload_n (q := 92) dX1_bag_91 2 rfl rfl ?_
          refine V_iload (q := 94) dX1_bag_92 3 rfl rfl ?_
          refine V_callIv (q := 97) dX1_bag_94 (c_X1_daysOf ho s t u i0 hg) yv_X1_daysOf rfl gX1_bag_X1_daysOf rfl 0 rfl rfl rfl rfl (Nat.le_of_ble_eq_true rfl) (by decide) ?_
          refine V_iload_n (q := 98) dX1_bag_97 1 rfl rfl ?_
          refine V_icmp_lt (q := 101) (tgt := 105) dX1_bag_98 (by have q := dayZ_le ho g s t u; omega) (ry) (by decide) (fun c98 => ?_) (fun c98 => ?_)
          · skip
            refine V_iconst (q := 106) dX1_bag_105 rfl ?_
            exact k106 _ (by first | exact bZ_f (by unfold bmC; rw [decide_eq_false (by omega)]; rfl) | exact bZ_f (by unfold bmC; rw [decide_eq_true (by omega), decide_eq_false (by omega)]; rfl) | exact bZ_t (by unfold bmC; rw [decide_eq_true (by omega), decide_eq_true (by omega)]; rfl))
          · skip
            refine V_iconst (q := 102) dX1_bag_101 rfl ?_
            refine V_goto (tgt := 106) dX1_bag_102 (by decide) ?_
            exact k106 _ (by first | exact bZ_f (by unfold bmC; rw [decide_eq_false (by omega)]; rfl) | exact bZ_f (by unfold bmC; rw [decide_eq_true (by omega), decide_eq_false (by omega)]; rfl) | exact bZ_t (by unfold bmC; rw [decide_eq_true (by omega), decide_eq_true (by omega)]; rfl))
theorem yv_X1_bag : YV yX1_bag wsX1_bag 2 := ⟨_, _, _, _, rfl, by decide +kernel, by decide⟩
set_option maxRecDepth 100000 in
set_option maxHeartbeats 4000000 in
theorem c_X1_bag {b : Nat → Nat} {d : Nat → ClassId} {S : St} {g : Nat → Nat} {th : Nat} (ho : Ok S) (y w : Int) (hg : ∀ j, g j < 4096) (ry : -2147483648 ≤ y ∧ y < 2147483648) (rw : -2147483648 ≤ w ∧ w < 2147483648) : CtI yX1_bag wsX1_bag (rmD 4) (tym d) [.ref (b 0), .int (iZ y), .int (iZ w)] (mkc b d S g th) (iZ (if cBag y w = 0 then bagM S (gM S w g 12) y else 0 : Nat)) (mkc b d S (if cBag y w = 0 then (gM S w g 12) else g) (cBag y w)) := by
  refine CtI_of (own := RX1) (by decide) rfl rfl (Nat.le_of_ble_eq_true rfl) ?_
  refine V_lvq (lv' := [(0, _), (1, _), (2, _)]) rfl ?_
  refine V_aload_n (q := 1) dX1_bag_0 0 rfl rfl ?_
  have rw' := rw
  refine V_cut (M := 26) (iZ (cBag y w : Nat)) ?_ (fun k26 => ?_)
  · -- from the merge
    refine V_callIv (q := 29) dX1_bag_26 (c_X1_goes (cBag y w) (cBag_lt y w)) yv_X1_goes rfl gX1_bag_X1_goes rfl 0 rfl rfl rfl rfl (Nat.le_of_ble_eq_true rfl) (by decide) ?_
    refine V_if_neB (q := 32) (tgt := 34) dX1_bag_29 (by decide) (fun c29 => ?_) (fun c29 => ?_)
    · skip
      have ec : cBag y w = 0 := of_decide_eq_true c29
      simp only [ec, ↓reduceIte]
      refine V_aload_n (q := 35) dX1_bag_34 0 rfl rfl ?_
      refine V_iload_n (q := 36) dX1_bag_35 2 rfl rfl ?_
      refine V_callVv (q := 39) dX1_bag_36 (c_X1_laysPairs ho w rw') yv_X1_laysPairs rfl gX1_bag_X1_laysPairs rfl 0 rfl rfl rfl rfl (Nat.le_of_ble_eq_true rfl) (by decide) ?_
      refine V_aload_n (q := 40) dX1_bag_39 0 rfl rfl ?_
      refine V_iconst (q := 41) dX1_bag_40 rfl ?_
      refine V_callIv (q := 44) dX1_bag_41 (c_X1_setOf ho 0 (by decide)) yv_X1_setOf rfl gX1_bag_X1_setOf rfl 0 rfl rfl rfl rfl (Nat.le_of_ble_eq_true rfl) (by decide) ?_
      refine V_istore_n (q := 45) (lv' := [(0, _), (1, _), (2, _), (3, _)]) dX1_bag_44 (by decide) rfl rfl ?_
      refine V_aload_n (q := 46) dX1_bag_45 0 rfl rfl ?_
      refine V_iconst (q := 47) dX1_bag_46 rfl ?_
      refine V_callIv (q := 50) dX1_bag_47 (c_X1_setOf ho 1 (by decide)) yv_X1_setOf rfl gX1_bag_X1_setOf rfl 0 rfl rfl rfl rfl (Nat.le_of_ble_eq_true rfl) (by decide) ?_
      refine V_istore (q := 52) (lv' := [(0, _), (1, _), (2, _), (3, _), (4, _)]) dX1_bag_50 (by decide) rfl rfl ?_
      refine V_iload_n (q := 53) dX1_bag_52 3 rfl rfl ?_
      refine V_iload (q := 55) dX1_bag_53 4 rfl rfl ?_
      refine V_ior (q := 56) dX1_bag_55 rfl ?_
      refine V_top (z_or _ _) ?_
      refine V_istore (q := 58) (lv' := [(0, _), (1, _), (2, _), (3, _), (4, _), (5, _)]) dX1_bag_56 (by decide) rfl rfl ?_
      refine V_iconst (q := 59) dX1_bag_58 rfl ?_
      refine V_istore (q := 61) (lv' := [(0, _), (1, _), (2, _), (3, _), (4, _), (5, _), (6, _)]) dX1_bag_59 (by decide) rfl rfl ?_
      refine V_bipush (q := 63) dX1_bag_61 (by decide) rfl ?_
      refine V_istore (q := 65) (lv' := [(0, _), (1, _), (2, _), (3, _), (4, _), (5, _), (6, _), (7, _)]) dX1_bag_63 (by decide) rfl rfl ?_
      refine V_iload (q := 67) dX1_bag_65 5 rfl rfl ?_
      refine V_istore (q := 69) (lv' := [(0, _), (1, _), (2, _), (3, _), (4, _), (5, _), (6, _), (7, _), (8, _)]) dX1_bag_67 (by decide) rfl rfl ?_
      refine V_loc (lv' := [(0, _), (1, _), (3, _), (4, _), (5, _), (6, _), (7, _), (8, _)]) [0, 1, 3, 4, 5, 6, 7, 8] rfl ?_
      exact lp_X1_bag (g := (gM S w g 12)) ho (kdB S 0) (kdB S 1) y (kdB_lt ho 0) (kdB_lt ho 1) (gM_lt hg 12) ry 4096 _ 0 13 (or_lt (n := 12) (kdB_lt ho 0) (kdB_lt ho 1)) (or_lt (n := 12) (kdB_lt ho 0) (kdB_lt ho 1)) (Nat.le_refl _)
    · skip
      refine V_iconst (q := 33) dX1_bag_32 rfl ?_
      exact V_iret dX1_bag_33 rfl (by rw [if_neg (of_decide_eq_false c29)]; rfl) (by rw [if_neg (of_decide_eq_false c29)])
  · -- the ways to it
    refine V_iload_n (q := 2) dX1_bag_1 1 rfl rfl ?_
    refine V_iconst (q := 3) dX1_bag_2 rfl ?_
    refine V_bipush (q := 5) dX1_bag_3 (by decide) rfl ?_
    refine V_callIs (q := 8) dX1_bag_5 (c_X1_isIn y 1 20 ry (by decide) (by decide)) yv_X1_isIn rfl gX1_bag_X1_isIn rfl (Nat.le_of_ble_eq_true rfl) (by decide) ?_
    refine V_if_eqB (q := 11) (tgt := 25) dX1_bag_8 (by decide) (fun c8 => ?_) (fun c8 => ?_)
    · skip
      refine V_iconst (q := 26) dX1_bag_25 rfl ?_
      exact k26 _ (by first | (rw [show (cBag y w : Nat) = 0 from if_pos (by simp only [inZ, c8, c18]; rfl)]; rfl) | (rw [show (cBag y w : Nat) = 1 from if_neg (by first | (simp only [inZ, c8]; simp; done) | (simp only [inZ, c18]; simp; done))]; rfl))
    · skip
      refine V_iload_n (q := 12) dX1_bag_11 2 rfl rfl ?_
      refine V_iconst (q := 13) dX1_bag_12 rfl ?_
      refine V_bipush (q := 15) dX1_bag_13 (by decide) rfl ?_
      refine V_callIs (q := 18) dX1_bag_15 (c_X1_isIn w 0 20 rw' (by decide) (by decide)) yv_X1_isIn rfl gX1_bag_X1_isIn rfl (Nat.le_of_ble_eq_true rfl) (by decide) ?_
      refine V_if_eqB (q := 21) (tgt := 25) dX1_bag_18 (by decide) (fun c18 => ?_) (fun c18 => ?_)
      · skip
        refine V_iconst (q := 26) dX1_bag_25 rfl ?_
        exact k26 _ (by first | (rw [show (cBag y w : Nat) = 0 from if_pos (by simp only [inZ, c8, c18]; rfl)]; rfl) | (rw [show (cBag y w : Nat) = 1 from if_neg (by first | (simp only [inZ, c8]; simp; done) | (simp only [inZ, c18]; simp; done))]; rfl))
      · skip
        refine V_iconst (q := 22) dX1_bag_21 rfl ?_
        refine V_goto (tgt := 26) dX1_bag_22 (by decide) ?_
        exact k26 _ (by first | (rw [show (cBag y w : Nat) = 0 from if_pos (by simp only [inZ, c8, c18]; rfl)]; rfl) | (rw [show (cBag y w : Nat) = 1 from if_neg (by first | (simp only [inZ, c8]; simp; done) | (simp only [inZ, c18]; simp; done))]; rfl))
