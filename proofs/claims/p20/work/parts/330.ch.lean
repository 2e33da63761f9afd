/-! the law's checks: that they end, and what they make at the least -/
def Iv (S : St) (F : Nat → Nat → Int32) (m0 : Nat) : Prop := Ok S ∧ sN S = m0 ∧ m0 ≤ 4 ∧ F 4 0 = iZ (m0 : Int) ∧ (∀ k, k < m0 → sG S k = false) ∧ ∀ k, k < m0 → ∃ z : Nat, z < 8 ∧ F 0 (5 * k + 1) = iZ (z : Int)
theorem iv_has {S : St} {F : Nat → Nat → Int32} {m0 : Nat} (h : Iv S F m0) {k : Nat} (hk : k < m0) : hasZ S (k : Int) = true := by
  obtain ⟨ho, hn, hm4, hM0, hG, hC⟩ := h
  rw [hasZ_nat]
  unfold hasT
  rw [hG k hk, hn]
  simp [hk]
theorem iv_no {S : St} {F : Nat → Nat → Int32} {m0 : Nat} (h : Iv S F m0) {x : Int} (hx : x < 0 ∨ (m0 : Int) ≤ x) : hasZ S x = false := by
  obtain ⟨ho, hn, hm4, hM0, hG, hC⟩ := h
  cases hh : hasZ S x with
  | false => rfl
  | true =>
    have q := hasZ_lt ho hh
    omega
theorem cCare_in {r : Nat} (h : r ≤ 2) : cCare (r : Int) = 0 := by
  unfold cCare
  rw [if_pos (by simp [inZ]; omega)]
theorem mt8 (S : St) : (mtS S 8).1 < 8 := by
  have key : ∀ k, (mtS S (k + 1)).1 < k + 1 := by
    intro k
    induction k with
    | zero =>
      show (if (mtS S 0).2 < cnt (cbP S 0) (sN S) then (0, cnt (cbP S 0) (sN S)) else mtS S 0).1 < 1
      split
      · exact Nat.lt_succ_self 0
      · exact Nat.lt_succ_self 0
    | succ k ih =>
      show (if (mtS S (k + 1)).2 < cnt (cbP S (k + 1)) (sN S) then (k + 1, cnt (cbP S (k + 1)) (sN S)) else mtS S (k + 1)).1 < k + 1 + 1
      split
      · exact Nat.lt_succ_self _
      · exact Nat.lt_succ_of_lt ih
  exact key 7
/-- the outfit's number: none, or in its bounds -/
def ofR (z : Int) : Prop := z = -1 ∨ ∃ q : Nat, z = (q : Int) ∧ q / 10000 < 12 ∧ q / 100 % 100 < 12 ∧ q % 100 ≤ 12
theorem ofK_r {S : St} {w : Int} {t b : Nat} (ht : t < 12) (hb : b < 12) {z : Int × Nat} (hz : ofR z.1) : ∀ k, k ≤ 13 → ofR (ofK S w t b z k).1
  | 0, _ => hz
  | k + 1, hk => by
    have ih := ofK_r (S := S) (w := w) ht hb hz k (by omega)
    show ofR (of1 S w t b k (ofK S w t b z k)).1
    unfold of1
    split
    · refine Or.inr ⟨10000 * t + 100 * b + k, ?_, ?_, ?_, ?_⟩
      · dsimp only
        omega
      · omega
      · omega
      · omega
    · exact ih
theorem ofB_r {S : St} (ho : Ok S) {w : Int} {p t : Nat} (ht : t < 12) {z : Int × Nat} (hz : ofR z.1) : ∀ b, b ≤ 12 → ofR (ofB S w p t z b).1
  | 0, _ => hz
  | b + 1, hb => by
    have ih := ofB_r ho (w := w) (p := p) ht hz b (by omega)
    show ofR (if ofC S p t b then ofK S w t b (ofB S w p t z b) (sN S + 1) else ofB S w p t z b).1
    split
    · exact ofK_r ht (by omega) ih _ (by have := ho.1; omega)
    · exact ih
theorem ofT_r {S : St} (ho : Ok S) {w : Int} {p : Nat} : ∀ t, t ≤ 12 → ofR (ofT S w p t).1
  | 0, _ => Or.inl rfl
  | t + 1, ht => ofB_r ho (by omega) (ofT_r ho t (by omega)) _ ho.1
theorem ofR_z {z : Int} (h : ofR z) : -1 ≤ z ∧ z < 200000 := by
  rcases h with h | ⟨q, h, h1, h2, h3⟩
  · omega
  · omega
set_option maxRecDepth 100000 in
set_option maxHeartbeats 8000000 in
theorem yv_L_isThing : YV yL_isThing wsL_isThing 3 := ⟨_, _, _, _, rfl, by decide +kernel, by decide⟩
set_option maxRecDepth 100000 in
set_option maxHeartbeats 8000000 in
theorem yv_L_doClash : YV yL_doClash wsL_doClash 4 := ⟨_, _, _, _, rfl, by decide +kernel, by decide⟩
set_option maxRecDepth 100000 in
set_option maxHeartbeats 8000000 in
theorem yv_L_warmthOf : YV yL_warmthOf wsL_warmthOf 2 := ⟨_, _, _, _, rfl, by decide +kernel, by decide⟩
set_option maxRecDepth 100000 in
set_option maxHeartbeats 8000000 in
theorem yv_L_bits : YV yL_bits wsL_bits 1 := ⟨_, _, _, _, rfl, by decide +kernel, by decide⟩
set_option maxRecDepth 100000 in
set_option maxHeartbeats 8000000 in
theorem yv_L_all : YV yL_all wsL_all 2 := ⟨_, _, _, _, rfl, by decide +kernel, by decide⟩
set_option maxRecDepth 100000 in
set_option maxHeartbeats 8000000 in
theorem yv_L_areThings : YV yL_areThings wsL_areThings 4 := ⟨_, _, _, _, rfl, by decide +kernel, by decide⟩
set_option maxRecDepth 100000 in
set_option maxHeartbeats 8000000 in
theorem yv_L_areOutfits : YV yL_areOutfits wsL_areOutfits 7 := ⟨_, _, _, _, rfl, by decide +kernel, by decide⟩
set_option maxRecDepth 100000 in
set_option maxHeartbeats 8000000 in
theorem yv_L_isMissing : YV yL_isMissing wsL_isMissing 5 := ⟨_, _, _, _, rfl, by decide +kernel, by decide⟩
set_option maxRecDepth 100000 in
set_option maxHeartbeats 8000000 in
theorem yv_L_isBag : YV yL_isBag wsL_isBag 7 := ⟨_, _, _, _, rfl, by decide +kernel, by decide⟩
set_option maxRecDepth 100000 in
set_option maxHeartbeats 8000000 in
theorem yv_L_isWrong : YV yL_isWrong wsL_isWrong 6 := ⟨_, _, _, _, rfl, by decide +kernel, by decide⟩
set_option maxRecDepth 100000 in
set_option maxHeartbeats 8000000 in
theorem yv_L_isRefused : YV yL_isRefused wsL_isRefused 3 := ⟨_, _, _, _, rfl, by decide +kernel, by decide⟩
set_option maxRecDepth 100000 in
set_option maxHeartbeats 8000000 in
theorem u_isThing {a : Nat → Nat} {c : Nat → ClassId} {S : St} {b : Nat → Nat} {d : Nat → ClassId} {F : Nat → Nat → Int32} {g : Nat → Nat} {m0 : Nat} (hI : Iv S F m0) (hg : ∀ j, g j < 4096) : CtU yL_isThing wsL_isThing (rmU 1 0) (tyl c d) [.ref (b 0), .ref (b 4), .int (iZ 0)] (wal a c S b d F g) (wal a c S b d F) (fun _ => True) (fun _ => 0) 0 := by
  obtain ⟨ho, hn, hm4, hM0, hG, hC⟩ := id hI
  refine CtU_of (own := RL) (by decide) rfl rfl (Nat.le_of_ble_eq_true rfl) ?_
  refine VB_lvq (lv' := [(0, _), (1, _), (2, _)]) rfl ?_
  refine VB_iload_n (q := 1) dL_isThing_0 2 rfl rfl ?_
  refine VB_if_lt (q := 4) (tgt := 23) dL_isThing_1 (by decide) (by decide) (fun hc => absurd hc (by decide)) (fun _ => ?_)
  refine VB_iload_n (q := 5) dL_isThing_4 2 rfl rfl ?_
  refine VB_aload_n (q := 6) dL_isThing_5 1 rfl rfl ?_
  refine VB_iconst (q := 7) dL_isThing_6 rfl ?_
  refine VB_iald (q := 8) (v := (iZ ((m0 : Nat) : Int))) dL_isThing_7 13 12 rfl rfl (0) (by omega) (by omega) (by decide) (hM0) rfl ?_
  have J24 : ∀ (j24_s0 : Bool), VB 0 RL cL_isThing 3 (some .boolean) wsL_isThing (rmU 1 0) vXU (tyl c d) (qU (wal a c S b d F) (tyl c d) (fun _ => True) (fun _ => 0) 0 (6 * 0)) (0) (0) (wal a c S b d F g) 24 [(0, .ref (b 0)), (1, .ref (b 4)), (2, .int (iZ 0))] [.int (iZ (bZ j24_s0))] := by
    intro j24_s0
    exact VB_widen (k' := 0) (n' := 6 * 0) (by omega) (by omega) (VB_zretU dL_isThing_24 rfl (by cases j24_s0 <;> rfl) trivial (Nat.zero_le _) hg rfl)
  have J23 : VB 0 RL cL_isThing 3 (some .boolean) wsL_isThing (rmU 1 0) vXU (tyl c d) (qU (wal a c S b d F) (tyl c d) (fun _ => True) (fun _ => 0) 0 (6 * 0)) (0) (0) (wal a c S b d F g) 23 [(0, .ref (b 0)), (1, .ref (b 4)), (2, .int (iZ 0))] [] := by
    refine VB_iconst (q := 24) dL_isThing_23 rfl ?_
    exact VB_widen (by omega) (by omega) (J24 false)
  refine VB_icmp_ge (q := 11) (tgt := 23) dL_isThing_8 (by omega) (by omega) (by decide) (fun t8 => ?_) (fun t8 => ?_)
  · skip
    exact VB_widen (by omega) (by omega) J23
  · skip
    refine VB_aload_n (q := 12) dL_isThing_11 0 rfl rfl ?_
    refine VB_iconst (q := 13) dL_isThing_12 rfl ?_
    refine VB_iload_n (q := 14) dL_isThing_13 2 rfl rfl ?_
    refine VB_imul (q := 15) dL_isThing_14 rfl ?_
    refine VB_top (y := iZ 0) rfl ?_
    refine VB_iald (q := 16) dL_isThing_15 9 8 rfl rfl (0) (by omega) (by omega) (by decide) rfl rfl ?_
    refine VB_uany (fun u15 => ?_)
    refine VB_uif_lt (q := 19) (tgt := 23) dL_isThing_16 (by decide) ?_ ?_
    · skip
      exact VB_widen (by omega) (by omega) J23
    · skip
      refine VB_iconst (q := 20) dL_isThing_19 rfl ?_
      refine VB_goto (tgt := 24) dL_isThing_20 (by decide) ?_
      exact VB_widen (by omega) (by omega) (J24 true)
set_option maxRecDepth 100000 in
set_option maxHeartbeats 8000000 in
theorem u_doClash {a : Nat → Nat} {c : Nat → ClassId} {S : St} {b : Nat → Nat} {d : Nat → ClassId} {F : Nat → Nat → Int32} {g : Nat → Nat} {m0 : Nat} (hI : Iv S F m0) (x y : Nat) (hx : x < m0) (hy : y < m0) (hg : ∀ j, g j < 4096) : CtU yL_doClash wsL_doClash (rmU 1 0) (tyl c d) [.ref (b 0), .ref (b 2), .int (iZ ((x : Nat) : Int)), .int (iZ ((y : Nat) : Int))] (wal a c S b d F g) (wal a c S b d F) (fun _ => True) (fun _ => 0) 0 := by
  obtain ⟨ho, hn, hm4, hM0, hG, hC⟩ := id hI
  obtain ⟨cx, hcx, ecx⟩ := hC x hx
  refine CtU_of (own := RL) (by decide) rfl rfl (Nat.le_of_ble_eq_true rfl) ?_
  refine VB_lvq (lv' := [(0, _), (1, _), (2, _), (3, _)]) rfl ?_
  refine VB_aload_n (q := 1) dL_doClash_0 1 rfl rfl ?_
  refine VB_aload_n (q := 2) dL_doClash_1 0 rfl rfl ?_
  refine VB_iconst (q := 3) dL_doClash_2 rfl ?_
  refine VB_iload_n (q := 4) dL_doClash_3 2 rfl rfl ?_
  refine VB_imul (q := 5) dL_doClash_4 rfl ?_
  refine VB_iconst (q := 6) dL_doClash_5 rfl ?_
  refine VB_iadd (q := 7) dL_doClash_6 rfl ?_
  refine VB_iald (q := 8) (v := (iZ ((cx : Nat) : Int))) dL_doClash_7 9 8 rfl rfl (((5 * x) + 1)) (by omega) (by omega) (by decide) (ecx) rfl ?_
  refine VB_iald (q := 9) dL_doClash_8 11 10 rfl rfl (cx) (by omega) (by omega) (by decide) rfl rfl ?_
  refine VB_uany (fun u8 => ?_)
  refine VB_aload_n (q := 10) dL_doClash_9 0 rfl rfl ?_
  refine VB_iconst (q := 11) dL_doClash_10 rfl ?_
  refine VB_iload_n (q := 12) dL_doClash_11 3 rfl rfl ?_
  refine VB_imul (q := 13) dL_doClash_12 rfl ?_
  refine VB_iconst (q := 14) dL_doClash_13 rfl ?_
  refine VB_iadd (q := 15) dL_doClash_14 rfl ?_
  refine VB_iald (q := 16) dL_doClash_15 9 8 rfl rfl (((5 * y) + 1)) (by omega) (by omega) (by decide) rfl rfl ?_
  refine VB_uany (fun u15 => ?_)
  refine VB_uishr (q := 17) dL_doClash_16 rfl (fun u16 => ?_)
  refine VB_iconst (q := 18) dL_doClash_17 rfl ?_
  refine VB_uiand (q := 19) dL_doClash_18 rfl (fun u18 => ?_)
  refine VB_iconst (q := 20) dL_doClash_19 rfl ?_
  have J28 : ∀ (j28_s0 : Bool), VB 0 RL cL_doClash 4 (some .boolean) wsL_doClash (rmU 1 0) vXU (tyl c d) (qU (wal a c S b d F) (tyl c d) (fun _ => True) (fun _ => 0) 0 (6 * 0)) (0) (0) (wal a c S b d F g) 28 [(0, .ref (b 0)), (1, .ref (b 2)), (2, .int (iZ ((x : Nat) : Int))), (3, .int (iZ ((y : Nat) : Int)))] [.int (iZ (bZ j28_s0))] := by
    intro j28_s0
    exact VB_widen (k' := 0) (n' := 6 * 0) (by omega) (by omega) (VB_zretU dL_doClash_28 rfl (by cases j28_s0 <;> rfl) trivial (Nat.zero_le _) hg rfl)
  refine VB_uicmp_ne (q := 23) (tgt := 27) dL_doClash_20 (by decide) ?_ ?_
  · skip
    refine VB_iconst (q := 28) dL_doClash_27 rfl ?_
    exact VB_widen (by omega) (by omega) (J28 false)
  · skip
    refine VB_iconst (q := 24) dL_doClash_23 rfl ?_
    refine VB_goto (tgt := 28) dL_doClash_24 (by decide) ?_
    exact VB_widen (by omega) (by omega) (J28 true)
set_option maxRecDepth 100000 in
set_option maxHeartbeats 8000000 in
theorem u_warmthOf {a : Nat → Nat} {c : Nat → ClassId} {S : St} {b : Nat → Nat} {d : Nat → ClassId} {F : Nat → Nat → Int32} {g : Nat → Nat} (q : Nat) (hq : q / 10000 < 12 ∧ q / 100 % 100 < 12 ∧ q % 100 ≤ 12) (hg : ∀ j, g j < 4096) : CtU yL_warmthOf wsL_warmthOf (rmU 1 0) (tyl c d) [.ref (b 0), .int (iZ ((q : Nat) : Int))] (wal a c S b d F g) (wal a c S b d F) (fun _ => True) (fun _ => 0) 0 := by
  obtain ⟨hq1, hq2, hq3⟩ := hq
  refine CtU_of (own := RL) (by decide) rfl rfl (Nat.le_of_ble_eq_true rfl) ?_
  refine VB_lvq (lv' := [(0, _), (1, _)]) rfl ?_
  refine VB_iload_n (q := 1) dL_warmthOf_0 1 rfl rfl ?_
  refine VB_bipush (q := 3) dL_warmthOf_1 (by decide) rfl ?_
  refine VB_irem (q := 4) (a := q) (b := 100) dL_warmthOf_3 (by omega) (by decide) (by decide) rfl ?_
  refine VB_iconst (q := 5) dL_warmthOf_4 rfl ?_
  refine VB_isub (q := 6) dL_warmthOf_5 rfl ?_
  refine VB_istore_n (q := 7) (lv' := [(0, _), (1, _), (2, _)]) dL_warmthOf_6 (by decide) rfl rfl ?_
  refine VB_aload_n (q := 8) dL_warmthOf_7 0 rfl rfl ?_
  refine VB_iconst (q := 9) dL_warmthOf_8 rfl ?_
  refine VB_iload_n (q := 10) dL_warmthOf_9 1 rfl rfl ?_
  refine VB_sipush (q := 13) dL_warmthOf_10 (by decide) rfl ?_
  refine VB_idiv (q := 14) (a := q) (b := 10000) dL_warmthOf_13 (by omega) (by decide) (by decide) rfl ?_
  refine VB_imul (q := 15) dL_warmthOf_14 rfl ?_
  refine VB_iconst (q := 16) dL_warmthOf_15 rfl ?_
  refine VB_iadd (q := 17) dL_warmthOf_16 rfl ?_
  refine VB_iald (q := 18) dL_warmthOf_17 9 8 rfl rfl (((5 * (q / 10000)) + 2)) (by omega) (by omega) (by decide) rfl rfl ?_
  refine VB_uany (fun u17 => ?_)
  refine VB_aload_n (q := 19) dL_warmthOf_18 0 rfl rfl ?_
  refine VB_iconst (q := 20) dL_warmthOf_19 rfl ?_
  refine VB_iload_n (q := 21) dL_warmthOf_20 1 rfl rfl ?_
  refine VB_bipush (q := 23) dL_warmthOf_21 (by decide) rfl ?_
  refine VB_idiv (q := 24) (a := q) (b := 100) dL_warmthOf_23 (by omega) (by decide) (by decide) rfl ?_
  refine VB_bipush (q := 26) dL_warmthOf_24 (by decide) rfl ?_
  refine VB_irem (q := 27) (a := (q / 100)) (b := 100) dL_warmthOf_26 (by omega) (by decide) (by decide) rfl ?_
  refine VB_imul (q := 28) dL_warmthOf_27 rfl ?_
  refine VB_iconst (q := 29) dL_warmthOf_28 rfl ?_
  refine VB_iadd (q := 30) dL_warmthOf_29 rfl ?_
  refine VB_iald (q := 31) dL_warmthOf_30 9 8 rfl rfl (((5 * ((q / 100) % 100)) + 2)) (by omega) (by omega) (by decide) rfl rfl ?_
  refine VB_uany (fun u30 => ?_)
  refine VB_uiadd (q := 32) dL_warmthOf_31 rfl (fun u31 => ?_)
  refine VB_iload_n (q := 33) dL_warmthOf_32 2 rfl rfl ?_
  have J47 : ∀ (j47_s0 : Int32), VB 0 RL cL_warmthOf 3 (some .int) wsL_warmthOf (rmU 1 0) vXU (tyl c d) (qU (wal a c S b d F) (tyl c d) (fun _ => True) (fun _ => 0) 0 (6 * 0)) (0) (0) (wal a c S b d F g) 47 [(0, .ref (b 0)), (1, .int (iZ ((q : Nat) : Int))), (2, .int (iZ (((q % 100 : Nat) : Int) - 1)))] [.int j47_s0, .int u31] := by
    intro j47_s0
    refine VB_uiadd (q := 48) dL_warmthOf_47 rfl (fun u47 => ?_)
    exact VB_widen (k' := 0) (n' := 6 * 0) (by omega) (by omega) (VB_iretU dL_warmthOf_48 rfl trivial (Nat.zero_le _) hg rfl)
  refine VB_if_ge (q := 36) (tgt := 40) dL_warmthOf_33 (by omega) (by decide) (fun t33 => ?_) (fun t33 => ?_)
  · skip
    refine VB_aload_n (q := 41) dL_warmthOf_40 0 rfl rfl ?_
    refine VB_iconst (q := 42) dL_warmthOf_41 rfl ?_
    refine VB_iload_n (q := 43) dL_warmthOf_42 2 rfl rfl ?_
    refine VB_imul (q := 44) dL_warmthOf_43 rfl ?_
    refine VB_iconst (q := 45) dL_warmthOf_44 rfl ?_
    refine VB_iadd (q := 46) dL_warmthOf_45 rfl ?_
    refine VB_iald (q := 47) dL_warmthOf_46 9 8 rfl rfl (((5 * ((q % 100) - 1)) + 2)) (by omega) (by omega) (by decide) rfl rfl ?_
    refine VB_uany (fun u46 => ?_)
    exact VB_widen (by omega) (by omega) (J47 u46)
  · skip
    refine VB_iconst (q := 37) dL_warmthOf_36 rfl ?_
    refine VB_goto (tgt := 47) dL_warmthOf_37 (by decide) ?_
    exact VB_widen (by omega) (by omega) (J47 (iZ 0))
set_option maxRecDepth 100000 in
set_option maxHeartbeats 8000000 in
theorem u_bits {a : Nat → Nat} {c : Nat → ClassId} {S : St} {b : Nat → Nat} {d : Nat → ClassId} {F : Nat → Nat → Int32} {g : Nat → Nat} (x : Int32) (hg : ∀ j, g j < 4096) : CtU yL_bits wsL_bits (rmU 1 0) (tyl c d) [.int x] (wal a c S b d F g) (wal a c S b d F) (fun _ => True) (fun _ => 0) 0 := by
  refine CtU_of (own := RL) (by decide) rfl rfl (Nat.le_of_ble_eq_true rfl) ?_
  refine VB_lvq (lv' := [(0, _)]) rfl ?_
  refine VB_iconst (q := 1) dL_bits_0 rfl ?_
  refine VB_istore_n (q := 2) (lv' := [(0, _), (1, _)]) dL_bits_1 (by decide) rfl rfl ?_
  refine VB_iconst (q := 3) dL_bits_2 rfl ?_
  have J4 : ∀ (zkA kA : Nat) (j4_1 : Int32), kA ≤ 12 → 12 + 1 ≤ kA + zkA → VB 0 RL cL_bits 3 (some .int) wsL_bits (rmU 1 0) vXU (tyl c d) (qU (wal a c S b d F) (tyl c d) (fun _ => True) (fun _ => 0) 0 (6 * 0)) (0) (0) (wal a c S b d F g) 4 [(0, .int x), (1, .int j4_1), (2, .int (iZ ((kA : Nat) : Int)))] [] := by
    intro zkA
    induction zkA with
    | zero => intro kA j4_1 hkA1 hkA2; exact absurd hkA2 (by omega)
    | succ zkA ihkA =>
      intro kA j4_1 hkA1 hkA2
      refine VB_iload_n (q := 5) dL_bits_4 2 rfl rfl ?_
      refine VB_bipush (q := 7) dL_bits_5 (by decide) rfl ?_
      refine VB_icmp_ge (q := 10) (tgt := 24) dL_bits_7 (by omega) (by omega) (by decide) (fun t7 => ?_) (fun t7 => ?_)
      · skip
        refine VB_iload_n (q := 25) dL_bits_24 1 rfl rfl ?_
        exact VB_widen (k' := 0) (n' := 6 * 0) (by omega) (by omega) (VB_iretU dL_bits_25 rfl trivial (Nat.zero_le _) hg rfl)
      · skip
        refine VB_iload_n (q := 11) dL_bits_10 1 rfl rfl ?_
        refine VB_iload_n (q := 12) dL_bits_11 0 rfl rfl ?_
        refine VB_iload_n (q := 13) dL_bits_12 2 rfl rfl ?_
        refine VB_uishr (q := 14) dL_bits_13 rfl (fun u13 => ?_)
        refine VB_iconst (q := 15) dL_bits_14 rfl ?_
        refine VB_uiand (q := 16) dL_bits_15 rfl (fun u15 => ?_)
        refine VB_uiadd (q := 17) dL_bits_16 rfl (fun u16 => ?_)
        refine VB_istore_n (q := 18) (lv' := [(0, _), (1, _), (2, _)]) dL_bits_17 (by decide) rfl rfl ?_
        refine VB_iinc (q := 21) (y := ((kA + 1 : Nat) : Int)) (lv' := [(0, _), (1, _), (2, _)]) dL_bits_18 2 rfl (by omega) (by decide) rfl rfl ?_
        refine VB_goto (tgt := 4) dL_bits_21 (by decide) ?_
        exact VB_widen (by omega) (by omega) (ihkA (kA + 1) u16 (by omega) (by omega))
  refine VB_istore_n (q := 4) (lv' := [(0, _), (1, _), (2, _)]) dL_bits_3 (by decide) rfl rfl ?_
  exact VB_widen (by omega) (by omega) (J4 (12 + 1) 0 (iZ 0) (by omega) (by omega))
set_option maxRecDepth 100000 in
set_option maxHeartbeats 8000000 in
theorem u_all {a : Nat → Nat} {c : Nat → ClassId} {S : St} {b : Nat → Nat} {d : Nat → ClassId} {F : Nat → Nat → Int32} {g : Nat → Nat} {m0 : Nat} (hI : Iv S F m0) (hg : ∀ j, g j < 4096) : CtUL yL_all wsL_all (rmU 10 8) (tyl c d) [.ref (a 0), .ref (b 4)] (wal a c S b d F g) (wal a c S b d F) 8 := by
  obtain ⟨ho, hn, hm4, hM0, hG, hC⟩ := id hI
  refine CtUL_of (own := RL) (by decide) rfl rfl (Nat.le_of_ble_eq_true rfl) ?_
  refine VB_lvq (lv' := [(0, _), (1, _)]) rfl ?_
  refine VB_aload_n (q := 1) dL_all_0 0 rfl rfl ?_
  refine VB_callIf (q := 4) (w1 := []) (w2 := [(b 0, .inl (d 0, 60, .inl (F 0))), (b 1, .inl (d 1, 12, .inl (F 1))), (b 2, .inl (d 2, 8, .inl (F 2))), (b 3, .inl (d 3, 4, .inl (F 3))), (b 4, .inl (d 4, 2, .inl (F 4)))]) (ws' := wal a c S b d F g) dL_all_1 (c_X0_things (a := a) (c := c) (S := S) (g := g) ) yv_X0_things rfl gL_all_X0_things rfl 0 rfl rfl rfl rfl (Nat.le_of_ble_eq_true rfl) (by decide) ⟨by show _ ≤ 8; omega, by show _ ≤ 6 * 8; omega⟩ rfl rfl rfl (tyl_in c d) ?_
  refine VB_uany (fun u1 => ?_)
  refine VB_i2l (q := 5) dL_all_4 rfl ?_
  refine VB_uanyL (fun l4 => ?_)
  refine VB_ldc2 (q := 8) (v := 31) dL_all_5 (by decide +kernel) rfl ?_
  refine VB_uanyL (fun l5 => ?_)
  refine VB_aload_n (q := 9) dL_all_8 0 rfl rfl ?_
  refine VB_iconst (q := 10) dL_all_9 rfl ?_
  refine VB_callX0 (q := 13) (w1 := []) (w2 := [(b 0, .inl (d 0, 60, .inl (F 0))), (b 1, .inl (d 1, 12, .inl (F 1))), (b 2, .inl (d 2, 8, .inl (F 2))), (b 3, .inl (d 3, 4, .inl (F 3))), (b 4, .inl (d 4, 2, .inl (F 4)))]) (ws' := wal a c S b d F g) dL_all_10 (c_X0_outfits (a := a) (c := c) (S := S) (g := g) ho 0 (by omega)) (rfl) yv_X0_outfits rfl gL_all_X0_outfits rfl 0 rfl rfl rfl rfl (Nat.le_of_ble_eq_true rfl) (by decide) ⟨by show _ ≤ 8; omega, by show _ ≤ 6 * 8; omega⟩ rfl xU_U rfl rfl (tyl_in c d) ?_
  refine VB_uany (fun u10 => ?_)
  refine VB_i2l (q := 14) dL_all_13 rfl ?_
  refine VB_uanyL (fun l13 => ?_)
  refine VB_ulmul (q := 15) dL_all_14 rfl (fun l14 => ?_)
  refine VB_uladd (q := 16) dL_all_15 rfl (fun l15 => ?_)
  refine VB_ldc2 (q := 19) (v := 257) dL_all_16 (by decide +kernel) rfl ?_
  refine VB_uanyL (fun l16 => ?_)
  refine VB_aload_n (q := 20) dL_all_19 0 rfl rfl ?_
  refine VB_bipush (q := 22) dL_all_20 (by decide) rfl ?_
  refine VB_callX0 (q := 25) (w1 := []) (w2 := [(b 0, .inl (d 0, 60, .inl (F 0))), (b 1, .inl (d 1, 12, .inl (F 1))), (b 2, .inl (d 2, 8, .inl (F 2))), (b 3, .inl (d 3, 4, .inl (F 3))), (b 4, .inl (d 4, 2, .inl (F 4)))]) (ws' := wal a c S b d F g) dL_all_22 (c_X0_outfits (a := a) (c := c) (S := S) (g := g) ho 9 (by omega)) (rfl) yv_X0_outfits rfl gL_all_X0_outfits rfl 0 rfl rfl rfl rfl (Nat.le_of_ble_eq_true rfl) (by decide) ⟨by show _ ≤ 8; omega, by show _ ≤ 6 * 8; omega⟩ rfl xU_U rfl rfl (tyl_in c d) ?_
  refine VB_uany (fun u22 => ?_)
  refine VB_i2l (q := 26) dL_all_25 rfl ?_
  refine VB_uanyL (fun l25 => ?_)
  refine VB_ulmul (q := 27) dL_all_26 rfl (fun l26 => ?_)
  refine VB_uladd (q := 28) dL_all_27 rfl (fun l27 => ?_)
  refine VB_ldc2 (q := 31) (v := 65537) dL_all_28 (by decide +kernel) rfl ?_
  refine VB_uanyL (fun l28 => ?_)
  refine VB_aload_n (q := 32) dL_all_31 0 rfl rfl ?_
  refine VB_iconst (q := 33) dL_all_32 rfl ?_
  refine VB_sipush (q := 36) dL_all_33 (by decide) rfl ?_
  refine VB_callX0 (q := 39) (w1 := []) (w2 := [(b 0, .inl (d 0, 60, .inl (F 0))), (b 1, .inl (d 1, 12, .inl (F 1))), (b 2, .inl (d 2, 8, .inl (F 2))), (b 3, .inl (d 3, 4, .inl (F 3))), (b 4, .inl (d 4, 2, .inl (F 4)))]) (ws' := wal a c S b d F g) dL_all_36 (c_X0_outfitFor (a := a) (c := c) (S := S) (g := g) ho 0 255 (by omega) (by omega)) (rfl) yv_X0_outfitFor rfl gL_all_X0_outfitFor rfl 0 rfl rfl rfl rfl (Nat.le_of_ble_eq_true rfl) (by decide) ⟨by show _ ≤ 8; omega, by show _ ≤ 6 * 8; omega⟩ rfl xU_U rfl rfl (tyl_in c d) ?_
  refine VB_uany (fun u36 => ?_)
  refine VB_i2l (q := 40) dL_all_39 rfl ?_
  refine VB_uanyL (fun l39 => ?_)
  refine VB_ulmul (q := 41) dL_all_40 rfl (fun l40 => ?_)
  refine VB_uladd (q := 42) dL_all_41 rfl (fun l41 => ?_)
  refine VB_lstore_n (q := 43) (lv' := [(0, _), (1, _), (2, _)]) dL_all_42 (by decide) rfl rfl ?_
  refine VB_iconst (q := 44) dL_all_43 rfl ?_
  have J46 : ∀ (zkA kA : Nat) (j46_2 : Int64) (gj46 : Nat → Nat), (∀ j, gj46 j < 4096) → kA ≤ m0 → m0 + 1 ≤ kA + zkA → VB 0 RL cL_all 5 (some .long) wsL_all (rmU 10 8) vXU (tyl c d) (qUL (wal a c S b d F) (tyl c d) 8 (6 * 8)) (1 * kA + 3) (6 * kA + 18) (wal a c S b d F gj46) 46 [(0, .ref (a 0)), (1, .ref (b 4)), (2, .long j46_2), (4, .int (iZ ((kA : Nat) : Int)))] [] := by
    intro zkA
    induction zkA with
    | zero => intro kA j46_2 gj46 hgj46 hkA1 hkA2; exact absurd hkA2 (by omega)
    | succ zkA ihkA =>
      intro kA j46_2 gj46 hgj46 hkA1 hkA2
      refine VB_iload (q := 48) dL_all_46 3 rfl rfl ?_
      refine VB_aload_n (q := 49) dL_all_48 1 rfl rfl ?_
      refine VB_iconst (q := 50) dL_all_49 rfl ?_
      refine VB_iald (q := 51) (v := (iZ ((m0 : Nat) : Int))) dL_all_50 13 12 rfl rfl (0) (by omega) (by omega) (by decide) (hM0) rfl ?_
      refine VB_icmp_ge (q := 54) (tgt := 76) dL_all_51 (by omega) (by omega) (by decide) (fun t51 => ?_) (fun t51 => ?_)
      · skip
        refine VB_lload_n (q := 77) dL_all_76 2 rfl rfl ?_
        exact VB_widen (k' := 8) (n' := 6 * 8) (by omega) (by omega) (VB_lretU dL_all_77 rfl hgj46 rfl)
      · skip
        refine VB_ldc2 (q := 57) (v := 1000003) dL_all_54 (by decide +kernel) rfl ?_
        refine VB_uanyL (fun l54 => ?_)
        refine VB_lload_n (q := 58) dL_all_57 2 rfl rfl ?_
        refine VB_ulmul (q := 59) dL_all_58 rfl (fun l58 => ?_)
        refine VB_aload_n (q := 60) dL_all_59 0 rfl rfl ?_
        refine VB_iconst (q := 61) dL_all_60 rfl ?_
        refine VB_iload (q := 63) dL_all_61 3 rfl rfl ?_
        refine VB_iconst (q := 64) dL_all_63 rfl ?_
        refine VB_callUW (q := 67) dL_all_64 (u_of1 (a := a) (c := c) (S := S) (b := b) (d := d) (F := F) ho hgj46 ((kA : Nat) : Int) 0 (by omega) (by omega)) yw_of rfl gL_all_L_of xU_U rfl (Nat.le_of_ble_eq_true rfl) (by decide) ⟨by show _ ≤ 8; omega, by show _ ≤ 6 * 8; omega⟩ (fun x64 g64 hP64 hg64 => ?_)
        refine VB_lo (lo' := 0) (by show 0 ≤ 0 + 0; omega) ?_
        refine VB_i2l (q := 68) dL_all_67 rfl ?_
        refine VB_uanyL (fun l67 => ?_)
        refine VB_uladd (q := 69) dL_all_68 rfl (fun l68 => ?_)
        refine VB_lstore_n (q := 70) (lv' := [(0, _), (1, _), (2, _), (4, _)]) dL_all_69 (by decide) rfl rfl ?_
        refine VB_iinc (q := 73) (y := ((kA + 1 : Nat) : Int)) (lv' := [(0, _), (1, _), (2, _), (4, _)]) dL_all_70 3 rfl (by omega) (by decide) rfl rfl ?_
        refine VB_goto (tgt := 46) dL_all_73 (by decide) ?_
        exact VB_widen (by omega) (by omega) (ihkA (kA + 1) l68 g64 hg64 (by omega) (by omega))
  refine VB_istore (q := 46) (lv' := [(0, _), (1, _), (2, _), (4, _)]) dL_all_44 (by decide) rfl rfl ?_
  exact VB_widen (by omega) (by omega) (J46 (m0 + 1) 0 l41 g hg (by omega) (by omega))
