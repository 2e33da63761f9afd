/-! sums over pairs, searches -/
def oB (S : St) (t : Nat) (w : Int) : Nat → Nat := fun b => coZ S (t : Int) (b : Int) w
def oT (S : St) (w : Int) : Nat → Nat := fun t => sm (oB S t w) (sN S)
def outZ (S : St) (w : Int) : Nat := sm (oT S w) (sN S)
def aB (S : St) (t : Nat) (x w : Int) : Nat → Nat := fun b => if (t : Int) = x ∨ (b : Int) = x then coZ S (t : Int) (b : Int) w else if warmZ S (t : Int) (b : Int) x w then 1 else 0
def aT (S : St) (x w : Int) : Nat → Nat := fun t => sm (aB S t x w) (sN S)
def addZ (S : St) (x w : Int) : Nat := sm (aT S x w) (sN S)
def mtS (S : St) : Nat → Nat × Nat
  | 0 => (0, 0)
  | k + 1 => if (mtS S k).2 < cnt (cbP S k) (sN S) then (k, cnt (cbP S k) (sN S)) else mtS S k
def of1 (S : St) (w : Int) (t b k : Nat) (z : Int × Nat) : Int × Nat := if decide (owZ S (t : Int) (b : Int) ((k : Int) - 1) < z.2) && warmZ S (t : Int) (b : Int) ((k : Int) - 1) w then (10000 * (t : Int) + 100 * (b : Int) + ((k : Int) - 1) + 1, owZ S (t : Int) (b : Int) ((k : Int) - 1)) else z
def ofK (S : St) (w : Int) (t b : Nat) (z : Int × Nat) : Nat → Int × Nat
  | 0 => z
  | k + 1 => of1 S w t b k (ofK S w t b z k)
def ofC (S : St) (p t b : Nat) : Bool := canZ S (t : Int) (b : Int) (-1) && !(seenZ S (t : Int) (b : Int) p)
def ofB (S : St) (w : Int) (p t : Nat) (z : Int × Nat) : Nat → Int × Nat
  | 0 => z
  | b + 1 => if ofC S p t b then ofK S w t b (ofB S w p t z b) (sN S + 1) else ofB S w p t z b
def ofT (S : St) (w : Int) (p : Nat) : Nat → Int × Nat
  | 0 => (-1, 31)
  | t + 1 => ofB S w p t (ofT S w p t) (sN S)
theorem ofK_le {S : St} {w : Int} {t b : Nat} {z : Int × Nat} (h : z.2 ≤ 31) : ∀ k, (ofK S w t b z k).2 ≤ 31
  | 0 => h
  | k + 1 => by
    have ih := ofK_le (S := S) (w := w) (t := t) (b := b) h k
    show (of1 S w t b k (ofK S w t b z k)).2 ≤ 31
    unfold of1
    split
    · next q =>
      simp only [Bool.and_eq_true, decide_eq_true_eq] at q
      show owZ S _ _ _ ≤ 31
      omega
    · exact ih
theorem ofB_le {S : St} {w : Int} {p t : Nat} {z : Int × Nat} (h : z.2 ≤ 31) : ∀ b, (ofB S w p t z b).2 ≤ 31
  | 0 => h
  | b + 1 => by
    have ih := ofB_le (S := S) (w := w) (p := p) (t := t) h b
    show (if ofC S p t b then ofK S w t b (ofB S w p t z b) (sN S + 1) else ofB S w p t z b).2 ≤ 31
    split
    · exact ofK_le ih _
    · exact ih
theorem ofT_le {S : St} {w : Int} {p : Nat} : ∀ t, (ofT S w p t).2 ≤ 31
  | 0 => by show 31 ≤ 31; exact Nat.le_refl _
  | t + 1 => ofB_le (ofT_le t) _
def ldP (S : St) (r : Int) (dk : Bool) : Nat → Bool := fun j => washZ S (j : Int) r dk && decide (lftZ S (j : Int) = 0)
def wst (S : St) (r : Int) (dk : Bool) : Nat → St × Nat
  | 0 => (S, 0)
  | k + 1 => if nxt (wst S r dk k).1 r dk (sN S) = -1 then wst S r dk k else (mc (wst S r dk k).1 (nxt (wst S r dk k).1 r dk (sN S)), (wst S r dk k).2 + 1)
theorem mc_ok {S : St} (ho : Ok S) (x : Int) : Ok (mc S x) := by
  unfold mc
  by_cases h : hasZ S x = true
  · rw [if_pos h]
    obtain ⟨h1, h2, h3, h4, h5, h6, h7, h8, h9, h10, h11⟩ := ho
    refine ⟨h1, h2, h3, h4, h5, h6, h7, fun j => ?_, h9, h10, h11⟩
    show fu (sL S) x.toNat (sM S x.toNat) j ≤ sM S j
    have := h8 j
    unfold fu
    split
    · next e => subst e; omega
    · exact this
  · rw [if_neg h]; exact ho
theorem mc_n (S : St) (x : Int) : sN (mc S x) = sN S := by
  unfold mc
  split <;> rfl
theorem wst_ok {S : St} (ho : Ok S) (r : Int) (dk : Bool) : ∀ k, Ok (wst S r dk k).1 ∧ sN (wst S r dk k).1 = sN S
  | 0 => ⟨ho, rfl⟩
  | k + 1 => by
    have ih := wst_ok ho r dk k
    show Ok (if nxt (wst S r dk k).1 r dk (sN S) = -1 then wst S r dk k else (mc (wst S r dk k).1 (nxt (wst S r dk k).1 r dk (sN S)), (wst S r dk k).2 + 1)).1 ∧ sN (if nxt (wst S r dk k).1 r dk (sN S) = -1 then wst S r dk k else (mc (wst S r dk k).1 (nxt (wst S r dk k).1 r dk (sN S)), (wst S r dk k).2 + 1)).1 = sN S
    split
    · exact ih
    · exact ⟨mc_ok ih.1 _, (mc_n _ _).trans ih.2⟩
def kdB (S : St) (k : Int) : Nat := bits (tkP S k) (sN S)
theorem kdB_lt {S : St} (ho : Ok S) (k : Int) : kdB S k < 4096 := bits_le (m := 12) ho.1
/-- the bag so far: the best and its size -/
def bgS (S : St) (g : Nat → Nat) (u t b : Nat) (days : Int) : Nat → Nat × Nat
  | 0 => (u, pc u)
  | i + 1 => if decide (pc (sq u i) < (bgS S g u t b days i).2) && lstZ S g (sq u i &&& t) (sq u i &&& b) days then (sq u i, pc (sq u i)) else bgS S g u t b days i
theorem bgS_le {S : St} {g : Nat → Nat} {u t b : Nat} {days : Int} : ∀ i, (bgS S g u t b days i).2 ≤ 12
  | 0 => pc_le u
  | i + 1 => by
    have ih := bgS_le (S := S) (g := g) (u := u) (t := t) (b := b) (days := days) i
    show (if decide (pc (sq u i) < (bgS S g u t b days i).2) && lstZ S g (sq u i &&& t) (sq u i &&& b) days then (sq u i, pc (sq u i)) else bgS S g u t b days i).2 ≤ 12
    split
    · exact pc_le _
    · exact ih
def usB (S : St) (g : Nat → Nat) : Nat := bits (usP S g) (sN S)
theorem usB_lt {S : St} (ho : Ok S) (g : Nat → Nat) : usB S g < 4096 := bits_le (m := 12) ho.1
def bagZ (S : St) (g : Nat → Nat) (days : Int) : Nat := if lstZ S g (usB S g &&& kdB S 0) (usB S g &&& kdB S 1) days then (bgS S g (usB S g) (usB S g &&& kdB S 0) (usB S g &&& kdB S 1) days (2 ^ pc (usB S g))).1 else 0
/-- the answer of isEnough: which exception -/
def cEn (S : St) (x : Int32) (d w : Int) : Nat := if x &&& (ow S ^^^ iZ (-1)) = 0 ∧ (inZ d 1 20 && inZ w 0 20) = true then 0 else 1
def enZ (S : St) (g : Nat → Nat) (u : Nat) (d : Int) : Bool := lstZ S g (u &&& kdB S 0) (u &&& kdB S 1) d
theorem ow_sub {S : St} {x : Int32} (h : x &&& (ow S ^^^ iZ (-1)) = 0) : x = iZ (x.toBitVec.toNat : Nat) ∧ x.toBitVec.toNat < 4096 := by
  have e : x = iZ (x.toBitVec.toNat : Nat) := by
    rw [iZ_nI]
    apply Int32.toBitVec.inj
    show x.toBitVec = BitVec.ofNat 32 x.toBitVec.toNat
    exact BitVec.eq_of_toNat_eq (by simp)
  refine ⟨e, ?_⟩
  have hx : x.toBitVec.toNat < 4294967296 := x.toBitVec.isLt
  generalize x.toBitVec.toNat = u at e hx
  subst e
  unfold ow at h
  rw [z_andn, iZ_nI] at h
  have h2 := congrArg (fun z : Int32 => z.toBitVec.toNat) h
  have h3 : (nI (andn u (bits (hasT S) 12))).toBitVec.toNat = andn u (bits (hasT S) 12) := pk_tn (andn_lt (n := 32) hx)
  have h4 : andn u (bits (hasT S) 12) = 0 := by rw [← h3]; exact h2
  rcases Nat.lt_or_ge u 4096 with q | q
  · exact q
  · exfalso
    obtain ⟨i, hi1, hi2⟩ := Nat.exists_ge_and_testBit_of_ge_two_pow (n := 12) (x := u) q
    have h5 : (andn u (bits (hasT S) 12)).testBit i = true := by
      rw [andn_tb hx, hi2, bits_tb]
      have : ¬ i < 12 := by omega
      simp [this]
    rw [h4] at h5
    simp at h5
theorem hin_X0_outfits : ∀ w ∈ wsX00, w ∈ wsX0_outfits := by decide +kernel
theorem f_X0_outfits_52 : Cond.fieldLink RX0 52 (TX0 6).1 (TX0 6).2.1 (TX0 6).2.2.1 ∈ wsX0_outfits := by decide +kernel
set_option maxRecDepth 100000 in
set_option maxHeartbeats 4000000 in
theorem lp_X0_outfits_32 {a : Nat → Nat} {c : Nat → ClassId} {S : St} {g : Nat → Nat} (ho : Ok S) (w : Int) (rw : -2147483648 ≤ w ∧ w < 2147483648) (T M : Nat) (hT : T < sN S) (kk : V RX0 cX0_outfits 5 (some .int) wsX0_outfits (rmX 8) vXT (tyk c) (qX (tyk c) (wkc a c S g) (wkc a c S g) "" (iZ (outZ S w))) 0 0 (wkc a c S g) 58 [(0, .ref (a 0)), (1, .int (iZ w)), (2, .int (iZ (M + sm (oB S T w) (sN S) : Nat))), (3, .int (iZ T))] []) : ∀ (m k : Nat), k ≤ sN S → sN S + 1 ≤ k + m → V RX0 cX0_outfits 5 (some .int) wsX0_outfits (rmX 8) vXT (tyk c) (qX (tyk c) (wkc a c S g) (wkc a c S g) "" (iZ (outZ S w))) 0 0 (wkc a c S g) 32 [(0, .ref (a 0)), (1, .int (iZ w)), (2, .int (iZ (M + sm (oB S T w) k : Nat))), (3, .int (iZ T)), (4, .int (iZ k))] [] := by
  intro m
  induction m with
  | zero => intro k  h1 h2 ; exact absurd h2 (by omega)
  | succ m ih =>
    intro k  h1 h2 
    have hn := ho.1
    have rw' := rw
    refine V_iload (q := 34) dX0_outfits_32 4 rfl rfl ?_
    refine V_aload_n (q := 35) dX0_outfits_34 0 rfl rfl ?_
    refine V_get (q := 38) dX0_outfits_35 hin_X0_outfits 0 rfl rfl 6 (by decide) f_X0_outfits_52 rfl rfl ?_
    refine V_icmp_ge (q := 41) (tgt := 58) dX0_outfits_38 (by omega) (by omega) (by decide) (fun c38 => ?_) (fun c38 => ?_)
    · skip
      refine V_loc (lv' := [(0, _), (1, _), (2, _), (3, _)]) [0, 1, 2, 3] rfl ?_
      obtain rfl : k = sN S := by omega
      exact kk
    · skip
      refine V_iload_n (q := 42) dX0_outfits_41 2 rfl rfl ?_
      refine V_aload_n (q := 43) dX0_outfits_42 0 rfl rfl ?_
      refine V_iload_n (q := 44) dX0_outfits_43 3 rfl rfl ?_
      refine V_iload (q := 46) dX0_outfits_44 4 rfl rfl ?_
      refine V_iload_n (q := 47) dX0_outfits_46 1 rfl rfl ?_
      refine V_callIv (q := 50) dX0_outfits_47 (c_X0_countOutfitsOf ho T k w (by omega) (by omega) rw') yv_X0_countOutfitsOf rfl gX0_outfits_X0_countOutfitsOf rfl 0 rfl rfl rfl rfl (Nat.le_of_ble_eq_true rfl) (by decide) ?_
      refine V_iadd (q := 51) dX0_outfits_50 rfl ?_
      refine V_top (y := iZ (M + sm (oB S T w) (k + 1) : Nat)) (by congr 1; show _ = ((M + (sm (oB S T w) k + oB S T w k) : Nat) : Int); unfold oB; omega) ?_
      refine V_istore_n (q := 52) (lv' := [(0, _), (1, _), (2, _), (3, _), (4, _)]) dX0_outfits_51 (by decide) rfl rfl ?_
      refine V_iinc (q := 55) (lv' := [(0, _), (1, _), (2, _), (3, _), (4, _)]) dX0_outfits_52 4 rfl (rfl) (by decide) rfl rfl ?_
      refine V_goto (tgt := 32) dX0_outfits_55 (by decide) ?_
      exact ih (k + 1) (by omega) (by omega)
set_option maxRecDepth 100000 in
set_option maxHeartbeats 4000000 in
theorem lp_X0_outfits_21 {a : Nat → Nat} {c : Nat → ClassId} {S : St} {g : Nat → Nat} (ho : Ok S) (w : Int) (rw : -2147483648 ≤ w ∧ w < 2147483648) : ∀ (m k : Nat), k ≤ sN S → sN S + 1 ≤ k + m → V RX0 cX0_outfits 5 (some .int) wsX0_outfits (rmX 8) vXT (tyk c) (qX (tyk c) (wkc a c S g) (wkc a c S g) "" (iZ (outZ S w))) 0 0 (wkc a c S g) 21 [(0, .ref (a 0)), (1, .int (iZ w)), (2, .int (iZ (sm (oT S w) k : Nat))), (3, .int (iZ k))] [] := by
  intro m
  induction m with
  | zero => intro k  h1 h2 ; exact absurd h2 (by omega)
  | succ m ih =>
    intro k  h1 h2 
    have hn := ho.1
    have rw' := rw
    refine V_iload_n (q := 22) dX0_outfits_21 3 rfl rfl ?_
    refine V_aload_n (q := 23) dX0_outfits_22 0 rfl rfl ?_
    refine V_get (q := 26) dX0_outfits_23 hin_X0_outfits 0 rfl rfl 6 (by decide) f_X0_outfits_52 rfl rfl ?_
    refine V_icmp_ge (q := 29) (tgt := 64) dX0_outfits_26 (by omega) (by omega) (by decide) (fun c26 => ?_) (fun c26 => ?_)
    · skip
      refine V_iload_n (q := 65) dX0_outfits_64 2 rfl rfl ?_
      exact V_iretX dX0_outfits_65 rfl (by rw [show k = sN S by omega]; rfl) (rfl) (rfl)
    · skip
      refine V_iconst (q := 30) dX0_outfits_29 rfl ?_
      refine V_istore (q := 32) (lv' := [(0, _), (1, _), (2, _), (3, _), (4, _)]) dX0_outfits_30 (by decide) rfl rfl ?_
      rw [show (sm (oT S w) k : Nat) = sm (oT S w) k + sm (oB S k w) 0 from rfl]
      refine lp_X0_outfits_32 ho w rw' k (sm (oT S w) k) (by omega) ?_ (sN S + 1) 0 (by omega) (by omega)
      rw [show sm (oT S w) k + sm (oB S k w) (sN S) = sm (oT S w) (k + 1) from rfl]
      refine V_iinc (q := 61) (lv' := [(0, _), (1, _), (2, _), (3, _)]) dX0_outfits_58 3 rfl (rfl) (by decide) rfl rfl ?_
      refine V_goto (tgt := 21) dX0_outfits_61 (by decide) ?_
      exact ih (k + 1) (by omega) (by omega)
theorem yv_X0_outfits : YV yX0_outfits wsX0_outfits 1 := ⟨_, _, _, _, rfl, by decide +kernel, by decide⟩
set_option maxRecDepth 100000 in
set_option maxHeartbeats 4000000 in
theorem c_X0_outfits {a : Nat → Nat} {c : Nat → ClassId} {S : St} {g : Nat → Nat} (ho : Ok S) (w : Int) (rw : -2147483648 ≤ w ∧ w < 2147483648) : CtX yX0_outfits wsX0_outfits (rmX 8) (tyk c) [.ref (a 0), .int (iZ w)] (wkc a c S g) (xE [EIAE] (cOut w)) (iZ (outZ S w)) (wkc a c S g) := by
  refine CtX_of (own := RX0) (by decide) rfl rfl (Nat.le_of_ble_eq_true rfl) ?_
  refine V_lvq (lv' := [(0, _), (1, _)]) rfl ?_
  refine V_iload_n (q := 1) dX0_outfits_0 1 rfl rfl ?_
  refine V_callIs (q := 4) dX0_outfits_1 (c_X0_isOutfitWarmth w rw) yv_X0_isOutfitWarmth rfl gX0_outfits_X0_isOutfitWarmth rfl (Nat.le_of_ble_eq_true rfl) (by decide) ?_
  refine V_if_neB (q := 7) (tgt := 17) dX0_outfits_4 (by decide) (fun c4 => ?_) (fun c4 => ?_)
  · skip
    rw [show cOut w = 0 by simp only [cOut, inZ, c4]; rfl]
    refine V_iconst (q := 18) dX0_outfits_17 rfl ?_
    refine V_istore_n (q := 19) (lv' := [(0, _), (1, _), (2, _)]) dX0_outfits_18 (by decide) rfl rfl ?_
    refine V_iconst (q := 20) dX0_outfits_19 rfl ?_
    refine V_istore_n (q := 21) (lv' := [(0, _), (1, _), (2, _), (3, _)]) dX0_outfits_20 (by decide) rfl rfl ?_
    exact lp_X0_outfits_21 ho w rw (sN S + 1) 0 (by omega) (by omega)
  · skip
    exact V_throw (text := "the warmth is out of range") (cls := EIAE) dX0_outfits_7 dX0_outfits_10 dX0_outfits_11 dX0_outfits_13 dX0_outfits_16 (by decide +kernel) xn_ok (by decide +kernel) (by decide +kernel) (by decide +kernel) xf_IAE xg_IAE rfl (by decide +kernel) (by rw [show (cOut w : Nat) = 1 by simp only [cOut, inZ, c4]; rfl]; rfl) (by decide +kernel) (by decide) (by decide)
theorem hin_X0_adds : ∀ w ∈ wsX00, w ∈ wsX0_adds := by decide +kernel
theorem f_X0_adds_52 : Cond.fieldLink RX0 52 (TX0 6).1 (TX0 6).2.1 (TX0 6).2.2.1 ∈ wsX0_adds := by decide +kernel
set_option maxRecDepth 100000 in
set_option maxHeartbeats 4000000 in
theorem lp_X0_adds_52 {a : Nat → Nat} {c : Nat → ClassId} {S : St} {g : Nat → Nat} (ho : Ok S) (x w : Int) (rx : -2147483648 ≤ x ∧ x < 2147483648) (rw : -2147483648 ≤ w ∧ w < 2147483648) (T M : Nat) (hT : T < sN S) (kk : V RX0 cX0_adds 6 (some .int) wsX0_adds (rmX 8) vXT (tyk c) (qX (tyk c) (wkc a c S g) (wkc a c S g) "" (iZ (addZ S x w))) 0 0 (wkc a c S g) 110 [(0, .ref (a 0)), (1, .int (iZ x)), (2, .int (iZ w)), (3, .int (iZ (M + sm (aB S T x w) (sN S) : Nat))), (4, .int (iZ T))] []) : ∀ (m k : Nat), k ≤ sN S → sN S + 1 ≤ k + m → V RX0 cX0_adds 6 (some .int) wsX0_adds (rmX 8) vXT (tyk c) (qX (tyk c) (wkc a c S g) (wkc a c S g) "" (iZ (addZ S x w))) 0 0 (wkc a c S g) 52 [(0, .ref (a 0)), (1, .int (iZ x)), (2, .int (iZ w)), (3, .int (iZ (M + sm (aB S T x w) k : Nat))), (4, .int (iZ T)), (5, .int (iZ k))] [] := by
  intro m
  induction m with
  | zero => intro k  h1 h2 ; exact absurd h2 (by omega)
  | succ m ih =>
    intro k  h1 h2 
    have hn := ho.1
    have rw' := rw
    refine V_iload (q := 54) dX0_adds_52 5 rfl rfl ?_
    refine V_aload_n (q := 55) dX0_adds_54 0 rfl rfl ?_
    refine V_get (q := 58) dX0_adds_55 hin_X0_adds 0 rfl rfl 6 (by decide) f_X0_adds_52 rfl rfl ?_
    refine V_icmp_ge (q := 61) (tgt := 110) dX0_adds_58 (by omega) (by omega) (by decide) (fun c58 => ?_) (fun c58 => ?_)
    · skip
      refine V_loc (lv' := [(0, _), (1, _), (2, _), (3, _), (4, _)]) [0, 1, 2, 3, 4] rfl ?_
      obtain rfl : k = sN S := by omega
      exact kk
    · skip
      refine V_iload (q := 63) dX0_adds_61 4 rfl rfl ?_
      refine V_iload_n (q := 64) dX0_adds_63 1 rfl rfl ?_
      refine V_icmp_eq (q := 67) (tgt := 73) dX0_adds_64 (by omega) (by omega) (by decide) (fun c64 => ?_) (fun c64 => ?_)
      · skip
        refine V_iload_n (q := 74) dX0_adds_73 3 rfl rfl ?_
        refine V_aload_n (q := 75) dX0_adds_74 0 rfl rfl ?_
        refine V_iload (q := 77) dX0_adds_75 4 rfl rfl ?_
        refine V_iload (q := 79) dX0_adds_77 5 rfl rfl ?_
        refine V_iload_n (q := 80) dX0_adds_79 2 rfl rfl ?_
        refine V_callIv (q := 83) dX0_adds_80 (c_X0_countOutfitsOf ho T k w (by omega) (by omega) rw') yv_X0_countOutfitsOf rfl gX0_adds_X0_countOutfitsOf rfl 0 rfl rfl rfl rfl (Nat.le_of_ble_eq_true rfl) (by decide) ?_
        refine V_iadd (q := 84) dX0_adds_83 rfl ?_
        refine V_top (y := iZ (M + sm (aB S T x w) (k + 1) : Nat)) (by congr 1; show _ = ((M + (sm (aB S T x w) k + aB S T x w k) : Nat) : Int); rw [show aB S T x w k = coZ S (T : Int) (k : Int) w from if_pos (by first | exact Or.inl c64 | exact Or.inr c70)]; omega) ?_
        refine V_istore_n (q := 85) (lv' := [(0, _), (1, _), (2, _), (3, _), (4, _), (5, _)]) dX0_adds_84 (by decide) rfl rfl ?_
        refine V_goto (tgt := 104) dX0_adds_85 (by decide) ?_
        refine V_iinc (q := 107) (lv' := [(0, _), (1, _), (2, _), (3, _), (4, _), (5, _)]) dX0_adds_104 5 rfl (rfl) (by decide) rfl rfl ?_
        refine V_goto (tgt := 52) dX0_adds_107 (by decide) ?_
        exact ih (k + 1) (by omega) (by omega)
      · skip
        refine V_iload (q := 69) dX0_adds_67 5 rfl rfl ?_
        refine V_iload_n (q := 70) dX0_adds_69 1 rfl rfl ?_
        refine V_icmp_ne (q := 73) (tgt := 88) dX0_adds_70 (by omega) (by omega) (by decide) (fun c70 => ?_) (fun c70 => ?_)
        · skip
          refine V_aload_n (q := 89) dX0_adds_88 0 rfl rfl ?_
          refine V_iload (q := 91) dX0_adds_89 4 rfl rfl ?_
          refine V_iload (q := 93) dX0_adds_91 5 rfl rfl ?_
          refine V_iload_n (q := 94) dX0_adds_93 1 rfl rfl ?_
          refine V_iload_n (q := 95) dX0_adds_94 2 rfl rfl ?_
          refine V_callIv (q := 98) dX0_adds_95 (c_X0_isWarmOutfit ho T k x w (by omega) (by omega) rx rw') yv_X0_isWarmOutfit rfl gX0_adds_X0_isWarmOutfit rfl 0 rfl rfl rfl rfl (Nat.le_of_ble_eq_true rfl) (by decide) ?_
          refine V_if_eqB (q := 101) (tgt := 104) dX0_adds_98 (by decide) (fun c98 => ?_) (fun c98 => ?_)
          · skip
            rw [show sm (aB S T x w) k = sm (aB S T x w) (k + 1) by show _ = sm (aB S T x w) k + aB S T x w k; rw [show aB S T x w k = 0 by unfold aB; rw [if_neg (by omega), if_neg (by rw [c98]; decide)]]; rfl]
            refine V_iinc (q := 107) (lv' := [(0, _), (1, _), (2, _), (3, _), (4, _), (5, _)]) dX0_adds_104 5 rfl (rfl) (by decide) rfl rfl ?_
            refine V_goto (tgt := 52) dX0_adds_107 (by decide) ?_
            exact ih (k + 1) (by omega) (by omega)
          · skip
            refine V_iinc (q := 104) (y := ((M + sm (aB S T x w) (k + 1) : Nat) : Int)) (lv' := [(0, _), (1, _), (2, _), (3, _), (4, _), (5, _)]) dX0_adds_101 3 rfl (by show _ = ((M + (sm (aB S T x w) k + aB S T x w k) : Nat) : Int); rw [show aB S T x w k = 1 by unfold aB; rw [if_neg (by omega), if_pos c98]]; omega) (by decide) rfl rfl ?_
            refine V_iinc (q := 107) (lv' := [(0, _), (1, _), (2, _), (3, _), (4, _), (5, _)]) dX0_adds_104 5 rfl (rfl) (by decide) rfl rfl ?_
            refine V_goto (tgt := 52) dX0_adds_107 (by decide) ?_
            exact ih (k + 1) (by omega) (by omega)
        · skip
          refine V_iload_n (q := 74) dX0_adds_73 3 rfl rfl ?_
          refine V_aload_n (q := 75) dX0_adds_74 0 rfl rfl ?_
          refine V_iload (q := 77) dX0_adds_75 4 rfl rfl ?_
          refine V_iload (q := 79) dX0_adds_77 5 rfl rfl ?_
          refine V_iload_n (q := 80) dX0_adds_79 2 rfl rfl ?_
          refine V_callIv (q := 83) dX0_adds_80 (c_X0_countOutfitsOf ho T k w (by omega) (by omega) rw') yv_X0_countOutfitsOf rfl gX0_adds_X0_countOutfitsOf rfl 0 rfl rfl rfl rfl (Nat.le_of_ble_eq_true rfl) (by decide) ?_
          refine V_iadd (q := 84) dX0_adds_83 rfl ?_
          refine V_top (y := iZ (M + sm (aB S T x w) (k + 1) : Nat)) (by congr 1; show _ = ((M + (sm (aB S T x w) k + aB S T x w k) : Nat) : Int); rw [show aB S T x w k = coZ S (T : Int) (k : Int) w from if_pos (by first | exact Or.inl c64 | exact Or.inr c70)]; omega) ?_
          refine V_istore_n (q := 85) (lv' := [(0, _), (1, _), (2, _), (3, _), (4, _), (5, _)]) dX0_adds_84 (by decide) rfl rfl ?_
          refine V_goto (tgt := 104) dX0_adds_85 (by decide) ?_
          refine V_iinc (q := 107) (lv' := [(0, _), (1, _), (2, _), (3, _), (4, _), (5, _)]) dX0_adds_104 5 rfl (rfl) (by decide) rfl rfl ?_
          refine V_goto (tgt := 52) dX0_adds_107 (by decide) ?_
          exact ih (k + 1) (by omega) (by omega)
set_option maxRecDepth 100000 in
set_option maxHeartbeats 4000000 in
theorem lp_X0_adds_40 {a : Nat → Nat} {c : Nat → ClassId} {S : St} {g : Nat → Nat} (ho : Ok S) (x w : Int) (rx : -2147483648 ≤ x ∧ x < 2147483648) (rw : -2147483648 ≤ w ∧ w < 2147483648) : ∀ (m k : Nat), k ≤ sN S → sN S + 1 ≤ k + m → V RX0 cX0_adds 6 (some .int) wsX0_adds (rmX 8) vXT (tyk c) (qX (tyk c) (wkc a c S g) (wkc a c S g) "" (iZ (addZ S x w))) 0 0 (wkc a c S g) 40 [(0, .ref (a 0)), (1, .int (iZ x)), (2, .int (iZ w)), (3, .int (iZ (sm (aT S x w) k : Nat))), (4, .int (iZ k))] [] := by
  intro m
  induction m with
  | zero => intro k  h1 h2 ; exact absurd h2 (by omega)
  | succ m ih =>
    intro k  h1 h2 
    have hn := ho.1
    have rw' := rw
    refine V_iload (q := 42) dX0_adds_40 4 rfl rfl ?_
    refine V_aload_n (q := 43) dX0_adds_42 0 rfl rfl ?_
    refine V_get (q := 46) dX0_adds_43 hin_X0_adds 0 rfl rfl 6 (by decide) f_X0_adds_52 rfl rfl ?_
    refine V_icmp_ge (q := 49) (tgt := 116) dX0_adds_46 (by omega) (by omega) (by decide) (fun c46 => ?_) (fun c46 => ?_)
    · skip
      refine V_iload_n (q := 117) dX0_adds_116 3 rfl rfl ?_
      exact V_iretX dX0_adds_117 rfl (by rw [show k = sN S by omega]; rfl) (rfl) (rfl)
    · skip
      refine V_iconst (q := 50) dX0_adds_49 rfl ?_
      refine V_istore (q := 52) (lv' := [(0, _), (1, _), (2, _), (3, _), (4, _), (5, _)]) dX0_adds_50 (by decide) rfl rfl ?_
      rw [show (sm (aT S x w) k : Nat) = sm (aT S x w) k + sm (aB S k x w) 0 from rfl]
      refine lp_X0_adds_52 ho x w rx rw' k (sm (aT S x w) k) (by omega) ?_ (sN S + 1) 0 (by omega) (by omega)
      rw [show sm (aT S x w) k + sm (aB S k x w) (sN S) = sm (aT S x w) (k + 1) from rfl]
      refine V_iinc (q := 113) (lv' := [(0, _), (1, _), (2, _), (3, _), (4, _)]) dX0_adds_110 4 rfl (rfl) (by decide) rfl rfl ?_
      refine V_goto (tgt := 40) dX0_adds_113 (by decide) ?_
      exact ih (k + 1) (by omega) (by omega)
theorem yv_X0_adds : YV yX0_adds wsX0_adds 2 := ⟨_, _, _, _, rfl, by decide +kernel, by decide⟩
set_option maxRecDepth 100000 in
set_option maxHeartbeats 4000000 in
theorem c_X0_adds {a : Nat → Nat} {c : Nat → ClassId} {S : St} {g : Nat → Nat} (ho : Ok S) (x w : Int) (rx : -2147483648 ≤ x ∧ x < 2147483648) (rw : -2147483648 ≤ w ∧ w < 2147483648) : CtX yX0_adds wsX0_adds (rmX 8) (tyk c) [.ref (a 0), .int (iZ x), .int (iZ w)] (wkc a c S g) (xE [EIOB, EIAE] (cAdds S x w)) (iZ (addZ S x w)) (wkc a c S g) := by
  refine CtX_of (own := RX0) (by decide) rfl rfl (Nat.le_of_ble_eq_true rfl) ?_
  refine V_lvq (lv' := [(0, _), (1, _), (2, _)]) rfl ?_
  have rw' := rw
  refine V_aload_n (q := 1) dX0_adds_0 0 rfl rfl ?_
  refine V_iload_n (q := 2) dX0_adds_1 1 rfl rfl ?_
  refine V_callIv (q := 5) dX0_adds_2 (c_X0_isThing ho x rx) yv_X0_isThing rfl gX0_adds_X0_isThing rfl 0 rfl rfl rfl rfl (Nat.le_of_ble_eq_true rfl) (by decide) ?_
  refine V_if_neB (q := 8) (tgt := 18) dX0_adds_5 (by decide) (fun c5 => ?_) (fun c5 => ?_)
  · skip
    refine V_iload_n (q := 19) dX0_adds_18 2 rfl rfl ?_
    refine V_callIs (q := 22) dX0_adds_19 (c_X0_isOutfitWarmth w rw') yv_X0_isOutfitWarmth rfl gX0_adds_X0_isOutfitWarmth rfl (Nat.le_of_ble_eq_true rfl) (by decide) ?_
    refine V_if_neB (q := 25) (tgt := 35) dX0_adds_22 (by decide) (fun c22 => ?_) (fun c22 => ?_)
    · skip
      rw [show cAdds S x w = 0 by simp only [cAdds, inZ, c5, c22]; rfl]
      refine V_iconst (q := 36) dX0_adds_35 rfl ?_
      refine V_istore_n (q := 37) (lv' := [(0, _), (1, _), (2, _), (3, _)]) dX0_adds_36 (by decide) rfl rfl ?_
      refine V_iconst (q := 38) dX0_adds_37 rfl ?_
      refine V_istore (q := 40) (lv' := [(0, _), (1, _), (2, _), (3, _), (4, _)]) dX0_adds_38 (by decide) rfl rfl ?_
      exact lp_X0_adds_40 ho x w rx rw' (sN S + 1) 0 (by omega) (by omega)
    · skip
      exact V_throw (text := "the warmth is out of range") (cls := EIAE) dX0_adds_25 dX0_adds_28 dX0_adds_29 dX0_adds_31 dX0_adds_34 (by decide +kernel) xn_ok (by decide +kernel) (by decide +kernel) (by decide +kernel) xf_IAE xg_IAE rfl (by decide +kernel) (by rw [show (cAdds S x w : Nat) = 2 by simp only [cAdds, inZ, c5]; first | rfl | (simp only [c22]; rfl)]; rfl) (by decide +kernel) (by decide) (by decide)
  · skip
    exact V_throw (text := "no such thing") (cls := EIOB) dX0_adds_8 dX0_adds_11 dX0_adds_12 dX0_adds_14 dX0_adds_17 (by decide +kernel) xn_ok (by decide +kernel) (by decide +kernel) (by decide +kernel) xf_IOB xg_IOB rfl (by decide +kernel) (by rw [show (cAdds S x w : Nat) = 1 by simp only [cAdds, inZ, c5]; first | rfl | (simp only [c22]; rfl)]; rfl) (by decide +kernel) (by decide) (by decide)
theorem mtS_le {S : St} (ho : Ok S) : ∀ k, (mtS S k).2 ≤ 12
  | 0 => Nat.zero_le _
  | k + 1 => by
    have ih := mtS_le ho k
    have h1 := ho.1
    have h2 := cnt_le (cbP S k) (sN S)
    show (if (mtS S k).2 < cnt (cbP S k) (sN S) then (k, cnt (cbP S k) (sN S)) else mtS S k).2 ≤ 12
    split
    · show cnt (cbP S k) (sN S) ≤ 12
      omega
    · exact ih
set_option maxRecDepth 100000 in
set_option maxHeartbeats 4000000 in
theorem lp_X0_missingTop {a : Nat → Nat} {c : Nat → ClassId} {S : St} {g : Nat → Nat} (ho : Ok S)  : ∀ (m k : Nat), k ≤ 8 → 8 + 1 ≤ k + m → V RX0 cX0_missingTop 5 (some .int) wsX0_missingTop (rmD 5) vX0 (tyk c) (qI (tyk c) (wkc a c S g) (iZ (mtS S 8).1) 0 0) 0 0 (wkc a c S g) 6 [(0, .ref (a 0)), (1, .int (iZ (mtS S k).1)), (2, .int (iZ (mtS S k).2)), (3, .int (iZ k))] [] := by
  intro m
  induction m with
  | zero => intro k  h1 h2 ; exact absurd h2 (by omega)
  | succ m ih =>
    intro k  h1 h2 
    have hn := ho.1
    refine V_iload_n (q := 7) dX0_missingTop_6 3 rfl rfl ?_
    refine V_bipush (q := 9) dX0_missingTop_7 (by decide) rfl ?_
    refine V_icmp_ge (q := 12) (tgt := 36) dX0_missingTop_9 (by omega) (by omega) (by decide) (fun c9 => ?_) (fun c9 => ?_)
    · skip
      refine V_iload_n (q := 37) dX0_missingTop_36 1 rfl rfl ?_
      exact V_iret dX0_missingTop_37 rfl (by rw [show k = 8 by omega]) (rfl)
    · skip
      refine V_aload_n (q := 13) dX0_missingTop_12 0 rfl rfl ?_
      refine V_iload_n (q := 14) dX0_missingTop_13 3 rfl rfl ?_
      refine V_callIv (q := 17) dX0_missingTop_14 (c_X0_countBottomsFor ho k (by omega)) yv_X0_countBottomsFor rfl gX0_missingTop_X0_countBottomsFor rfl 0 rfl rfl rfl rfl (Nat.le_of_ble_eq_true rfl) (by decide) ?_
      refine V_istore (q := 19) (lv' := [(0, _), (1, _), (2, _), (3, _), (4, _)]) dX0_missingTop_17 (by decide) rfl rfl ?_
      refine V_iload (q := 21) dX0_missingTop_19 4 rfl rfl ?_
      refine V_iload_n (q := 22) dX0_missingTop_21 2 rfl rfl ?_
      refine V_icmp_le (q := 25) (tgt := 30) dX0_missingTop_22 (by have h8 := cnt_le (cbP S k) (sN S); omega) (by have h8 := mtS_le ho k; omega) (by decide) (fun c22 => ?_) (fun c22 => ?_)
      · skip
        rw [show mtS S k = mtS S (k + 1) from (if_neg (by omega)).symm]
        refine V_loc (lv' := [(0, _), (1, _), (2, _), (3, _)]) [0, 1, 2, 3] rfl ?_
        refine V_iinc (q := 33) (lv' := [(0, _), (1, _), (2, _), (3, _)]) dX0_missingTop_30 3 rfl (rfl) (by decide) rfl rfl ?_
        refine V_goto (tgt := 6) dX0_missingTop_33 (by decide) ?_
        first | exact ih (k + 1) (by omega) (by omega) | (have i9 := ih (k + 1) (by omega) (by omega); rw [em] at i9; exact i9)
      · skip
        have em : mtS S (k + 1) = (k, cnt (cbP S k) (sN S)) := if_pos (by omega)
        refine V_iload_n (q := 26) dX0_missingTop_25 3 rfl rfl ?_
        refine V_istore_n (q := 27) (lv' := [(0, _), (1, _), (2, _), (3, _), (4, _)]) dX0_missingTop_26 (by decide) rfl rfl ?_
        refine V_iload (q := 29) dX0_missingTop_27 4 rfl rfl ?_
        refine V_istore_n (q := 30) (lv' := [(0, _), (1, _), (2, _), (3, _), (4, _)]) dX0_missingTop_29 (by decide) rfl rfl ?_
        refine V_loc (lv' := [(0, _), (1, _), (2, _), (3, _)]) [0, 1, 2, 3] rfl ?_
        refine V_iinc (q := 33) (lv' := [(0, _), (1, _), (2, _), (3, _)]) dX0_missingTop_30 3 rfl (rfl) (by decide) rfl rfl ?_
        refine V_goto (tgt := 6) dX0_missingTop_33 (by decide) ?_
        first | exact ih (k + 1) (by omega) (by omega) | (have i9 := ih (k + 1) (by omega) (by omega); rw [em] at i9; exact i9)
theorem yv_X0_missingTop : YV yX0_missingTop wsX0_missingTop 0 := ⟨_, _, _, _, rfl, by decide +kernel, by decide⟩
set_option maxRecDepth 100000 in
set_option maxHeartbeats 4000000 in
theorem c_X0_missingTop {a : Nat → Nat} {c : Nat → ClassId} {S : St} {g : Nat → Nat} (ho : Ok S)  : CtI yX0_missingTop wsX0_missingTop (rmD 5) (tyk c) [.ref (a 0)] (wkc a c S g) (iZ (mtS S 8).1) (wkc a c S g) := by
  refine CtI_of (own := RX0) (by decide) rfl rfl (Nat.le_of_ble_eq_true rfl) ?_
  refine V_lvq (lv' := [(0, _)]) rfl ?_
  refine V_iconst (q := 1) dX0_missingTop_0 rfl ?_
  refine V_istore_n (q := 2) (lv' := [(0, _), (1, _)]) dX0_missingTop_1 (by decide) rfl rfl ?_
  refine V_iconst (q := 3) dX0_missingTop_2 rfl ?_
  refine V_istore_n (q := 4) (lv' := [(0, _), (1, _), (2, _)]) dX0_missingTop_3 (by decide) rfl rfl ?_
  refine V_iconst (q := 5) dX0_missingTop_4 rfl ?_
  refine V_istore_n (q := 6) (lv' := [(0, _), (1, _), (2, _), (3, _)]) dX0_missingTop_5 (by decide) rfl rfl ?_
  exact lp_X0_missingTop ho 9 0 (by omega) (by omega)
