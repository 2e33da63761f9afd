/-! the law's catching methods: a call of the class, its answer into the row of one long -/
def lwx (o : Nat) (co : ClassId) (fo : Nat → Int64) (a : Nat → Nat) (c : Nat → ClassId) (S : St) (g : Nat → Nat) : va_W := (o, .inl (co, 1, .inr (.inl fo))) :: wkc a c S g
def tyx (co : ClassId) (c : Nat → ClassId) : List (ClassId × FieldType) := (co, .long) :: tyk c
theorem tyx_in (co : ClassId) (c : Nat → ClassId) : ∀ z ∈ tyk c, z ∈ tyx co c := fun _ h => List.mem_cons_of_mem _ h
def bL (b : Bool) : Int64 := if b then Int64.ofNat 1 else Int64.ofNat 0
theorem cAdd_c (S : St) (k c w m r : Int) : cAdd S k c w m r = 0 ∨ cAdd S k c w m r = 1 ∨ cAdd S k c w m r = 2 := by
  unfold cAdd
  split
  · split
    · exact Or.inr (Or.inr rfl)
    · exact Or.inl rfl
  · exact Or.inr (Or.inl rfl)
theorem cHas_c (S : St) (x : Int) : cHas S x = 0 ∨ cHas S x = 1 := by
  unfold cHas
  split
  · exact Or.inl rfl
  · exact Or.inr rfl
theorem cClash_c (x y : Int) : cClash x y = 0 ∨ cClash x y = 1 := by
  unfold cClash
  split
  · exact Or.inl rfl
  · exact Or.inr rfl
theorem wrZ_c (S : St) (t b d : Int) : wrZ S t b d = 0 ∨ wrZ S t b d = 1 ∨ wrZ S t b d = 2 := by
  unfold wrZ
  split
  · split
    · exact Or.inl rfl
    · exact Or.inr (Or.inr rfl)
  · exact Or.inr (Or.inl rfl)
theorem cSoon_c (S : St) (t b p : Int) : cSoon S t b p = 0 ∨ cSoon S t b p = 1 ∨ cSoon S t b p = 2 := by
  unfold cSoon
  split
  · split
    · exact Or.inl rfl
    · exact Or.inr (Or.inr rfl)
  · exact wrZ_c S t b (-1)
theorem cWear_c (S : St) (t b d p : Int) : cWear S t b d p = 0 ∨ cWear S t b d p = 1 ∨ cWear S t b d p = 2 ∨ cWear S t b d p = 3 := by
  unfold cWear
  split
  · split
    · split
      · exact Or.inl rfl
      · exact Or.inr (Or.inr (Or.inr rfl))
    · exact Or.inr (Or.inr (Or.inl rfl))
  · rcases wrZ_c S t b d with h | h | h
    · exact Or.inl h
    · exact Or.inr (Or.inl h)
    · exact Or.inr (Or.inr (Or.inl h))
theorem cOut_c (w : Int) : cOut w = 0 ∨ cOut w = 1 := by
  unfold cOut
  split
  · exact Or.inl rfl
  · exact Or.inr rfl
theorem cAdds_c (S : St) (x w : Int) : cAdds S x w = 0 ∨ cAdds S x w = 1 ∨ cAdds S x w = 2 := by
  unfold cAdds
  split
  · split
    · exact Or.inl rfl
    · exact Or.inr (Or.inr rfl)
  · exact Or.inr (Or.inl rfl)
theorem cFor_c (w p : Int) : cFor w p = 0 ∨ cFor w p = 1 := by
  unfold cFor
  split
  · exact Or.inl rfl
  · exact Or.inr rfl
theorem cCare_c (r : Int) : cCare r = 0 ∨ cCare r = 1 := by
  unfold cCare
  split
  · exact Or.inl rfl
  · exact Or.inr rfl
theorem cPass_c (S : St) (d : Int) : cPass S d = 0 ∨ cPass S d = 1 ∨ cPass S d = 2 := by
  unfold cPass
  split
  · split
    · exact Or.inl rfl
    · exact Or.inr (Or.inr rfl)
  · exact Or.inr (Or.inl rfl)
theorem cEn_c (S : St) (x : Int32) (d w : Int) : cEn S x d w = 0 ∨ cEn S x d w = 1 := by
  unfold cEn
  split
  · exact Or.inl rfl
  · exact Or.inr rfl
theorem cBag_c (d w : Int) : cBag d w = 0 ∨ cBag d w = 1 := by
  unfold cBag
  split
  · exact Or.inl rfl
  · exact Or.inr rfl
set_option maxRecDepth 100000 in
set_option maxHeartbeats 4000000 in
theorem yw_add : YW yL_add wsL_add 7 := ⟨_, _, _, _, _, rfl, by decide +kernel, by decide⟩
set_option maxRecDepth 100000 in
set_option maxHeartbeats 4000000 in
theorem w_add {a : Nat → Nat} {c : Nat → ClassId} {S : St} {g : Nat → Nat} {o : Nat} {co : ClassId} {fo : Nat → Int64} (ho : Ok S) (k d w m r : Int) (rk : -2147483648 ≤ k ∧ k < 2147483648) (rd : -2147483648 ≤ d ∧ d < 2147483648) (rw' : -2147483648 ≤ w ∧ w < 2147483648) (rm : -2147483648 ≤ m ∧ m < 2147483648) (rr : -2147483648 ≤ r ∧ r < 2147483648) : CtW yL_add wsL_add (tyx co c) [.ref (a 0), .int (iZ k), .int (iZ d), .int (iZ w), .int (iZ m), .int (iZ r), .ref o] (lwx o co fo a c S g) (iZ (cAdd S k d w m r : Nat)) (lwx o co (if cAdd S k d w m r = 0 then vp_updL fo 0 ((iZ (sN S)).toInt64) else fo) a c (if cAdd S k d w m r = 0 then uA S k.toNat d.toNat w.toNat m.toNat r.toNat else S) (if cAdd S k d w m r = 0 then g else g)) := by
  refine CtW_of (own := RL) (by decide) rfl rfl (Nat.le_of_ble_eq_true rfl) ?_
  refine V_lvq (lv' := [(0, _), (1, _), (2, _), (3, _), (4, _), (5, _), (6, _)]) rfl ?_
  have hM := c_X0_add (a := a) (c := c) (g := g) ho k d w m r rk rd rw' rm rr
  rcases cAdd_c S k d w m r with e | e | e
  · skip
    refine V_aload (q := 2) dL_add_0 6 rfl rfl ?_
    refine V_iconst (q := 3) dL_add_2 rfl ?_
    refine V_aload_n (q := 4) dL_add_3 0 rfl rfl ?_
    refine V_iload_n (q := 5) dL_add_4 1 rfl rfl ?_
    refine V_iload_n (q := 6) dL_add_5 2 rfl rfl ?_
    refine V_iload_n (q := 7) dL_add_6 3 rfl rfl ?_
    refine V_iload (q := 9) dL_add_7 4 rfl rfl ?_
    refine V_iload (q := 11) dL_add_9 5 rfl rfl ?_
    refine V_callX0 (q := 14) (w1 := [(o, .inl (co, 1, .inr (.inl fo)))]) (w2 := []) (ws' := lwx o co fo a c (uA S k.toNat d.toNat w.toNat m.toNat r.toNat) (g)) dL_add_11 hM (by rw [e]; rfl) yv_X0_add rfl gL_add_X0_add rfl 0 rfl rfl rfl rfl (Nat.le_of_ble_eq_true rfl) (by decide) rfl rfl rfl (tyx_in co c) ?_
    refine V_i2l (q := 15) dL_add_14 rfl ?_
    refine V_last (q := 16) (ws' := lwx o co (vp_updL fo 0 ((iZ (sN S)).toInt64)) a c (uA S k.toNat d.toNat w.toNat m.toNat r.toNat) (g)) dL_add_15 0 0 rfl rfl 0 rfl (by decide) (by decide) (rfl) rfl ?_
    refine V_goto (tgt := 27) dL_add_16 (by decide) ?_
    refine V_iconst (q := 28) dL_add_27 rfl ?_
    exact V_iret dL_add_28 rfl (by rw [e]; rfl) (by rw [if_pos e, if_pos e, if_pos e])
  · rw [e] at hM
    refine V_aload (q := 2) dL_add_0 6 rfl rfl ?_
    refine V_iconst (q := 3) dL_add_2 rfl ?_
    refine V_aload_n (q := 4) dL_add_3 0 rfl rfl ?_
    refine V_iload_n (q := 5) dL_add_4 1 rfl rfl ?_
    refine V_iload_n (q := 6) dL_add_5 2 rfl rfl ?_
    refine V_iload_n (q := 7) dL_add_6 3 rfl rfl ?_
    refine V_iload (q := 9) dL_add_7 4 rfl rfl ?_
    refine V_iload (q := 11) dL_add_9 5 rfl rfl ?_
    refine V_callX1 (q := 14) (E := "java/lang/IllegalArgumentException") (w1 := [(o, .inl (co, 1, .inr (.inl fo)))]) (w2 := []) dL_add_11 hM (by decide +kernel) yv_X0_add rfl gL_add_X0_add rfl 0 rfl rfl rfl rfl (Nat.le_of_ble_eq_true rfl) (by decide) rfl (tyx_in co c) [] ⟨0, 16, 19, 13⟩ [⟨0, 16, 23, 15⟩] rfl (fun z hz => nomatch hz) (by decide) (by decide) (by decide +kernel) (by decide +kernel) (fun q9 => ?_)
    refine V_st (st' := [.ref q9]) rfl ?_
    refine V_astore (q := 21) (lv' := [(0, _), (1, _), (2, _), (3, _), (4, _), (5, _), (6, _), (7, _)]) dL_add_19 (by decide) rfl rfl ?_
    refine V_iconst (q := 22) dL_add_21 rfl ?_
    exact V_iret dL_add_22 rfl (by rw [e]; rfl) (by rw [if_neg (by rw [e]; decide), if_neg (by rw [e]; decide), if_neg (by rw [e]; decide)])
  · rw [e] at hM
    refine V_aload (q := 2) dL_add_0 6 rfl rfl ?_
    refine V_iconst (q := 3) dL_add_2 rfl ?_
    refine V_aload_n (q := 4) dL_add_3 0 rfl rfl ?_
    refine V_iload_n (q := 5) dL_add_4 1 rfl rfl ?_
    refine V_iload_n (q := 6) dL_add_5 2 rfl rfl ?_
    refine V_iload_n (q := 7) dL_add_6 3 rfl rfl ?_
    refine V_iload (q := 9) dL_add_7 4 rfl rfl ?_
    refine V_iload (q := 11) dL_add_9 5 rfl rfl ?_
    refine V_callX1 (q := 14) (E := "java/lang/IllegalStateException") (w1 := [(o, .inl (co, 1, .inr (.inl fo)))]) (w2 := []) dL_add_11 hM (by decide +kernel) yv_X0_add rfl gL_add_X0_add rfl 0 rfl rfl rfl rfl (Nat.le_of_ble_eq_true rfl) (by decide) rfl (tyx_in co c) [⟨0, 16, 19, 13⟩] ⟨0, 16, 23, 15⟩ [] rfl (by intro z hz; simp only [List.mem_cons, List.not_mem_nil, or_false] at hz; subst hz; exact ⟨by decide, "java/lang/IllegalArgumentException", by decide +kernel, by decide +kernel⟩) (by decide) (by decide) (by decide +kernel) (by decide +kernel) (fun q9 => ?_)
    refine V_st (st' := [.ref q9]) rfl ?_
    refine V_astore (q := 25) (lv' := [(0, _), (1, _), (2, _), (3, _), (4, _), (5, _), (6, _), (7, _)]) dL_add_23 (by decide) rfl rfl ?_
    refine V_iconst (q := 26) dL_add_25 rfl ?_
    exact V_iret dL_add_26 rfl (by rw [e]; rfl) (by rw [if_neg (by rw [e]; decide), if_neg (by rw [e]; decide), if_neg (by rw [e]; decide)])
set_option maxRecDepth 100000 in
set_option maxHeartbeats 4000000 in
theorem yw_giveAway : YW yL_giveAway wsL_giveAway 3 := ⟨_, _, _, _, _, rfl, by decide +kernel, by decide⟩
set_option maxRecDepth 100000 in
set_option maxHeartbeats 4000000 in
theorem w_giveAway {a : Nat → Nat} {c : Nat → ClassId} {S : St} {g : Nat → Nat} {o : Nat} {co : ClassId} {fo : Nat → Int64} (ho : Ok S) (x : Int) (rx : -2147483648 ≤ x ∧ x < 2147483648) : CtW yL_giveAway wsL_giveAway (tyx co c) [.ref (a 0), .int (iZ x), .ref o] (lwx o co fo a c S g) (iZ (cHas S x : Nat)) (lwx o co (if cHas S x = 0 then vp_updL fo 0 ((iZ ((cnt (hasT (gvS S x)) 12 : Nat))).toInt64) else fo) a c (if cHas S x = 0 then gvS S x else S) (if cHas S x = 0 then g else g)) := by
  refine CtW_of (own := RL) (by decide) rfl rfl (Nat.le_of_ble_eq_true rfl) ?_
  refine V_lvq (lv' := [(0, _), (1, _), (2, _)]) rfl ?_
  have hM := c_X0_giveAway (a := a) (c := c) (g := g) ho x rx
  rcases cHas_c S x with e | e
  · skip
    refine V_aload_n (q := 1) dL_giveAway_0 2 rfl rfl ?_
    refine V_iconst (q := 2) dL_giveAway_1 rfl ?_
    refine V_aload_n (q := 3) dL_giveAway_2 0 rfl rfl ?_
    refine V_iload_n (q := 4) dL_giveAway_3 1 rfl rfl ?_
    refine V_callX0 (q := 7) (w1 := [(o, .inl (co, 1, .inr (.inl fo)))]) (w2 := []) (ws' := lwx o co fo a c (gvS S x) (g)) dL_giveAway_4 hM (by rw [e]; rfl) yv_X0_giveAway rfl gL_giveAway_X0_giveAway rfl 0 rfl rfl rfl rfl (Nat.le_of_ble_eq_true rfl) (by decide) rfl rfl rfl (tyx_in co c) ?_
    refine V_i2l (q := 8) dL_giveAway_7 rfl ?_
    refine V_last (q := 9) (ws' := lwx o co (vp_updL fo 0 ((iZ ((cnt (hasT (gvS S x)) 12 : Nat))).toInt64)) a c (gvS S x) (g)) dL_giveAway_8 0 0 rfl rfl 0 rfl (by decide) (by decide) (rfl) rfl ?_
    refine V_goto (tgt := 15) dL_giveAway_9 (by decide) ?_
    refine V_iconst (q := 16) dL_giveAway_15 rfl ?_
    exact V_iret dL_giveAway_16 rfl (by rw [e]; rfl) (by rw [if_pos e, if_pos e, if_pos e])
  · rw [e] at hM
    refine V_aload_n (q := 1) dL_giveAway_0 2 rfl rfl ?_
    refine V_iconst (q := 2) dL_giveAway_1 rfl ?_
    refine V_aload_n (q := 3) dL_giveAway_2 0 rfl rfl ?_
    refine V_iload_n (q := 4) dL_giveAway_3 1 rfl rfl ?_
    refine V_callX1 (q := 7) (E := "java/lang/IndexOutOfBoundsException") (w1 := [(o, .inl (co, 1, .inr (.inl fo)))]) (w2 := []) dL_giveAway_4 hM (by decide +kernel) yv_X0_giveAway rfl gL_giveAway_X0_giveAway rfl 0 rfl rfl rfl rfl (Nat.le_of_ble_eq_true rfl) (by decide) rfl (tyx_in co c) [] ⟨0, 9, 12, 21⟩ [] rfl (fun z hz => nomatch hz) (by decide) (by decide) (by decide +kernel) (by decide +kernel) (fun q9 => ?_)
    refine V_st (st' := [.ref q9]) rfl ?_
    refine V_astore_n (q := 13) (lv' := [(0, _), (1, _), (2, _), (3, _)]) dL_giveAway_12 (by decide) rfl rfl ?_
    refine V_iconst (q := 14) dL_giveAway_13 rfl ?_
    exact V_iret dL_giveAway_14 rfl (by rw [e]; rfl) (by rw [if_neg (by rw [e]; decide), if_neg (by rw [e]; decide), if_neg (by rw [e]; decide)])
set_option maxRecDepth 100000 in
set_option maxHeartbeats 4000000 in
theorem yw_setClash : YW yL_setClash wsL_setClash 5 := ⟨_, _, _, _, _, rfl, by decide +kernel, by decide⟩
set_option maxRecDepth 100000 in
set_option maxHeartbeats 4000000 in
theorem w_setClash {a : Nat → Nat} {c : Nat → ClassId} {S : St} {g : Nat → Nat} {o : Nat} {co : ClassId} {fo : Nat → Int64} (ho : Ok S) (x y : Int) (v : Bool) (rx : -2147483648 ≤ x ∧ x < 2147483648) (ry : -2147483648 ≤ y ∧ y < 2147483648) : CtW yL_setClash wsL_setClash (tyx co c) [.ref (a 0), .int (iZ x), .int (iZ y), .int (iZ (bZ v)), .ref o] (lwx o co fo a c S g) (iZ (cClash x y : Nat)) (lwx o co (if cClash x y = 0 then vp_updL fo 0 (bL (sX S (8 * x.toNat + y.toNat))) else fo) a c (if cClash x y = 0 then clS S x y v else S) (if cClash x y = 0 then g else g)) := by
  refine CtW_of (own := RL) (by decide) rfl rfl (Nat.le_of_ble_eq_true rfl) ?_
  refine V_lvq (lv' := [(0, _), (1, _), (2, _), (3, _), (4, _)]) rfl ?_
  have hM := c_X0_setClash (a := a) (c := c) (g := g) ho x y v rx ry
  rcases cClash_c x y with e | e
  · skip
    refine V_aload (q := 2) dL_setClash_0 4 rfl rfl ?_
    refine V_iconst (q := 3) dL_setClash_2 rfl ?_
    refine V_aload_n (q := 4) dL_setClash_3 0 rfl rfl ?_
    refine V_iload_n (q := 5) dL_setClash_4 1 rfl rfl ?_
    refine V_iload_n (q := 6) dL_setClash_5 2 rfl rfl ?_
    refine V_iload_n (q := 7) dL_setClash_6 3 rfl rfl ?_
    refine V_callX0 (q := 10) (w1 := [(o, .inl (co, 1, .inr (.inl fo)))]) (w2 := []) (ws' := lwx o co fo a c (clS S x y v) (g)) dL_setClash_7 hM (by rw [e]; rfl) yv_X0_setClash rfl gL_setClash_X0_setClash rfl 0 rfl rfl rfl rfl (Nat.le_of_ble_eq_true rfl) (by decide) rfl rfl rfl (tyx_in co c) ?_
    refine V_if_eqB (q := 13) (tgt := 17) dL_setClash_10 (by decide) (fun cb => ?_) (fun cb => ?_)
    · skip
      refine V_lconst (q := 18) dL_setClash_17 rfl rfl ?_
      refine V_last (q := 19) (ws' := lwx o co (vp_updL fo 0 (bL (sX S (8 * x.toNat + y.toNat)))) a c (clS S x y v) (g)) dL_setClash_18 0 0 rfl rfl 0 rfl (by decide) (by decide) (by rw [cb]; rfl) rfl ?_
      refine V_goto (tgt := 26) dL_setClash_19 (by decide) ?_
      refine V_iconst (q := 27) dL_setClash_26 rfl ?_
      exact V_iret dL_setClash_27 rfl (by rw [e]; rfl) (by rw [if_pos e, if_pos e, if_pos e])
    · skip
      refine V_lconst (q := 14) dL_setClash_13 rfl rfl ?_
      refine V_goto (tgt := 18) dL_setClash_14 (by decide) ?_
      refine V_last (q := 19) (ws' := lwx o co (vp_updL fo 0 (bL (sX S (8 * x.toNat + y.toNat)))) a c (clS S x y v) (g)) dL_setClash_18 0 0 rfl rfl 0 rfl (by decide) (by decide) (by rw [cb]; rfl) rfl ?_
      refine V_goto (tgt := 26) dL_setClash_19 (by decide) ?_
      refine V_iconst (q := 27) dL_setClash_26 rfl ?_
      exact V_iret dL_setClash_27 rfl (by rw [e]; rfl) (by rw [if_pos e, if_pos e, if_pos e])
  · rw [e] at hM
    refine V_aload (q := 2) dL_setClash_0 4 rfl rfl ?_
    refine V_iconst (q := 3) dL_setClash_2 rfl ?_
    refine V_aload_n (q := 4) dL_setClash_3 0 rfl rfl ?_
    refine V_iload_n (q := 5) dL_setClash_4 1 rfl rfl ?_
    refine V_iload_n (q := 6) dL_setClash_5 2 rfl rfl ?_
    refine V_iload_n (q := 7) dL_setClash_6 3 rfl rfl ?_
    refine V_callX1 (q := 10) (E := "java/lang/IllegalArgumentException") (w1 := [(o, .inl (co, 1, .inr (.inl fo)))]) (w2 := []) dL_setClash_7 hM (by decide +kernel) yv_X0_setClash rfl gL_setClash_X0_setClash rfl 0 rfl rfl rfl rfl (Nat.le_of_ble_eq_true rfl) (by decide) rfl (tyx_in co c) [] ⟨0, 19, 22, 13⟩ [] rfl (fun z hz => nomatch hz) (by decide) (by decide) (by decide +kernel) (by decide +kernel) (fun q9 => ?_)
    refine V_st (st' := [.ref q9]) rfl ?_
    refine V_astore (q := 24) (lv' := [(0, _), (1, _), (2, _), (3, _), (4, _), (5, _)]) dL_setClash_22 (by decide) rfl rfl ?_
    refine V_iconst (q := 25) dL_setClash_24 rfl ?_
    exact V_iret dL_setClash_25 rfl (by rw [e]; rfl) (by rw [if_neg (by rw [e]; decide), if_neg (by rw [e]; decide), if_neg (by rw [e]; decide)])
set_option maxRecDepth 100000 in
set_option maxHeartbeats 4000000 in
theorem yw_left : YW yL_left wsL_left 3 := ⟨_, _, _, _, _, rfl, by decide +kernel, by decide⟩
set_option maxRecDepth 100000 in
set_option maxHeartbeats 4000000 in
theorem w_left {a : Nat → Nat} {c : Nat → ClassId} {S : St} {g : Nat → Nat} {o : Nat} {co : ClassId} {fo : Nat → Int64} (ho : Ok S) (x : Int) (rx : -2147483648 ≤ x ∧ x < 2147483648) : CtW yL_left wsL_left (tyx co c) [.ref (a 0), .int (iZ x), .ref o] (lwx o co fo a c S g) (iZ (cHas S x : Nat)) (lwx o co (if cHas S x = 0 then vp_updL fo 0 ((iZ (sL S x.toNat)).toInt64) else fo) a c (if cHas S x = 0 then S else S) (if cHas S x = 0 then g else g)) := by
  refine CtW_of (own := RL) (by decide) rfl rfl (Nat.le_of_ble_eq_true rfl) ?_
  refine V_lvq (lv' := [(0, _), (1, _), (2, _)]) rfl ?_
  have hM := c_X0_left (a := a) (c := c) (g := g) ho x rx
  rcases cHas_c S x with e | e
  · skip
    refine V_aload_n (q := 1) dL_left_0 2 rfl rfl ?_
    refine V_iconst (q := 2) dL_left_1 rfl ?_
    refine V_aload_n (q := 3) dL_left_2 0 rfl rfl ?_
    refine V_iload_n (q := 4) dL_left_3 1 rfl rfl ?_
    refine V_callX0 (q := 7) (w1 := [(o, .inl (co, 1, .inr (.inl fo)))]) (w2 := []) (ws' := lwx o co fo a c (S) (g)) dL_left_4 hM (by rw [e]; rfl) yv_X0_left rfl gL_left_X0_left rfl 0 rfl rfl rfl rfl (Nat.le_of_ble_eq_true rfl) (by decide) rfl rfl rfl (tyx_in co c) ?_
    refine V_i2l (q := 8) dL_left_7 rfl ?_
    refine V_last (q := 9) (ws' := lwx o co (vp_updL fo 0 ((iZ (sL S x.toNat)).toInt64)) a c (S) (g)) dL_left_8 0 0 rfl rfl 0 rfl (by decide) (by decide) (rfl) rfl ?_
    refine V_goto (tgt := 15) dL_left_9 (by decide) ?_
    refine V_iconst (q := 16) dL_left_15 rfl ?_
    exact V_iret dL_left_16 rfl (by rw [e]; rfl) (by rw [if_pos e, if_pos e, if_pos e])
  · rw [e] at hM
    refine V_aload_n (q := 1) dL_left_0 2 rfl rfl ?_
    refine V_iconst (q := 2) dL_left_1 rfl ?_
    refine V_aload_n (q := 3) dL_left_2 0 rfl rfl ?_
    refine V_iload_n (q := 4) dL_left_3 1 rfl rfl ?_
    refine V_callX1 (q := 7) (E := "java/lang/IndexOutOfBoundsException") (w1 := [(o, .inl (co, 1, .inr (.inl fo)))]) (w2 := []) dL_left_4 hM (by decide +kernel) yv_X0_left rfl gL_left_X0_left rfl 0 rfl rfl rfl rfl (Nat.le_of_ble_eq_true rfl) (by decide) rfl (tyx_in co c) [] ⟨0, 9, 12, 21⟩ [] rfl (fun z hz => nomatch hz) (by decide) (by decide) (by decide +kernel) (by decide +kernel) (fun q9 => ?_)
    refine V_st (st' := [.ref q9]) rfl ?_
    refine V_astore_n (q := 13) (lv' := [(0, _), (1, _), (2, _), (3, _)]) dL_left_12 (by decide) rfl rfl ?_
    refine V_iconst (q := 14) dL_left_13 rfl ?_
    exact V_iret dL_left_14 rfl (by rw [e]; rfl) (by rw [if_neg (by rw [e]; decide), if_neg (by rw [e]; decide), if_neg (by rw [e]; decide)])
set_option maxRecDepth 100000 in
set_option maxHeartbeats 4000000 in
theorem yw_isPossible : YW yL_isPossible wsL_isPossible 5 := ⟨_, _, _, _, _, rfl, by decide +kernel, by decide⟩
set_option maxRecDepth 100000 in
set_option maxHeartbeats 4000000 in
theorem w_isPossible {a : Nat → Nat} {c : Nat → ClassId} {S : St} {g : Nat → Nat} {o : Nat} {co : ClassId} {fo : Nat → Int64} (ho : Ok S) (t b d : Int) (rt : -2147483648 ≤ t ∧ t < 2147483648) (rb : -2147483648 ≤ b ∧ b < 2147483648) (rd : -2147483648 ≤ d ∧ d < 2147483648) : CtW yL_isPossible wsL_isPossible (tyx co c) [.ref (a 0), .int (iZ t), .int (iZ b), .int (iZ d), .ref o] (lwx o co fo a c S g) (iZ (wrZ S t b d : Nat)) (lwx o co (if wrZ S t b d = 0 then vp_updL fo 0 (bL (canZ S t b d)) else fo) a c (if wrZ S t b d = 0 then S else S) (if wrZ S t b d = 0 then g else g)) := by
  refine CtW_of (own := RL) (by decide) rfl rfl (Nat.le_of_ble_eq_true rfl) ?_
  refine V_lvq (lv' := [(0, _), (1, _), (2, _), (3, _), (4, _)]) rfl ?_
  have hM := c_X0_isPossible (a := a) (c := c) (g := g) ho t b d rt rb rd
  rcases wrZ_c S t b d with e | e | e
  · skip
    refine V_aload (q := 2) dL_isPossible_0 4 rfl rfl ?_
    refine V_iconst (q := 3) dL_isPossible_2 rfl ?_
    refine V_aload_n (q := 4) dL_isPossible_3 0 rfl rfl ?_
    refine V_iload_n (q := 5) dL_isPossible_4 1 rfl rfl ?_
    refine V_iload_n (q := 6) dL_isPossible_5 2 rfl rfl ?_
    refine V_iload_n (q := 7) dL_isPossible_6 3 rfl rfl ?_
    refine V_callX0 (q := 10) (w1 := [(o, .inl (co, 1, .inr (.inl fo)))]) (w2 := []) (ws' := lwx o co fo a c (S) (g)) dL_isPossible_7 hM (by rw [e]; rfl) yv_X0_isPossible rfl gL_isPossible_X0_isPossible rfl 0 rfl rfl rfl rfl (Nat.le_of_ble_eq_true rfl) (by decide) rfl rfl rfl (tyx_in co c) ?_
    refine V_if_eqB (q := 13) (tgt := 17) dL_isPossible_10 (by decide) (fun cb => ?_) (fun cb => ?_)
    · skip
      refine V_lconst (q := 18) dL_isPossible_17 rfl rfl ?_
      refine V_last (q := 19) (ws' := lwx o co (vp_updL fo 0 (bL (canZ S t b d))) a c (S) (g)) dL_isPossible_18 0 0 rfl rfl 0 rfl (by decide) (by decide) (by rw [cb]; rfl) rfl ?_
      refine V_goto (tgt := 30) dL_isPossible_19 (by decide) ?_
      refine V_iconst (q := 31) dL_isPossible_30 rfl ?_
      exact V_iret dL_isPossible_31 rfl (by rw [e]; rfl) (by rw [if_pos e, if_pos e, if_pos e])
    · skip
      refine V_lconst (q := 14) dL_isPossible_13 rfl rfl ?_
      refine V_goto (tgt := 18) dL_isPossible_14 (by decide) ?_
      refine V_last (q := 19) (ws' := lwx o co (vp_updL fo 0 (bL (canZ S t b d))) a c (S) (g)) dL_isPossible_18 0 0 rfl rfl 0 rfl (by decide) (by decide) (by rw [cb]; rfl) rfl ?_
      refine V_goto (tgt := 30) dL_isPossible_19 (by decide) ?_
      refine V_iconst (q := 31) dL_isPossible_30 rfl ?_
      exact V_iret dL_isPossible_31 rfl (by rw [e]; rfl) (by rw [if_pos e, if_pos e, if_pos e])
  · rw [e] at hM
    refine V_aload (q := 2) dL_isPossible_0 4 rfl rfl ?_
    refine V_iconst (q := 3) dL_isPossible_2 rfl ?_
    refine V_aload_n (q := 4) dL_isPossible_3 0 rfl rfl ?_
    refine V_iload_n (q := 5) dL_isPossible_4 1 rfl rfl ?_
    refine V_iload_n (q := 6) dL_isPossible_5 2 rfl rfl ?_
    refine V_iload_n (q := 7) dL_isPossible_6 3 rfl rfl ?_
    refine V_callX1 (q := 10) (E := "java/lang/IndexOutOfBoundsException") (w1 := [(o, .inl (co, 1, .inr (.inl fo)))]) (w2 := []) dL_isPossible_7 hM (by decide +kernel) yv_X0_isPossible rfl gL_isPossible_X0_isPossible rfl 0 rfl rfl rfl rfl (Nat.le_of_ble_eq_true rfl) (by decide) rfl (tyx_in co c) [] ⟨0, 19, 22, 21⟩ [⟨0, 19, 26, 13⟩] rfl (fun z hz => nomatch hz) (by decide) (by decide) (by decide +kernel) (by decide +kernel) (fun q9 => ?_)
    refine V_st (st' := [.ref q9]) rfl ?_
    refine V_astore (q := 24) (lv' := [(0, _), (1, _), (2, _), (3, _), (4, _), (5, _)]) dL_isPossible_22 (by decide) rfl rfl ?_
    refine V_iconst (q := 25) dL_isPossible_24 rfl ?_
    exact V_iret dL_isPossible_25 rfl (by rw [e]; rfl) (by rw [if_neg (by rw [e]; decide), if_neg (by rw [e]; decide), if_neg (by rw [e]; decide)])
  · rw [e] at hM
    refine V_aload (q := 2) dL_isPossible_0 4 rfl rfl ?_
    refine V_iconst (q := 3) dL_isPossible_2 rfl ?_
    refine V_aload_n (q := 4) dL_isPossible_3 0 rfl rfl ?_
    refine V_iload_n (q := 5) dL_isPossible_4 1 rfl rfl ?_
    refine V_iload_n (q := 6) dL_isPossible_5 2 rfl rfl ?_
    refine V_iload_n (q := 7) dL_isPossible_6 3 rfl rfl ?_
    refine V_callX1 (q := 10) (E := "java/lang/IllegalArgumentException") (w1 := [(o, .inl (co, 1, .inr (.inl fo)))]) (w2 := []) dL_isPossible_7 hM (by decide +kernel) yv_X0_isPossible rfl gL_isPossible_X0_isPossible rfl 0 rfl rfl rfl rfl (Nat.le_of_ble_eq_true rfl) (by decide) rfl (tyx_in co c) [⟨0, 19, 22, 21⟩] ⟨0, 19, 26, 13⟩ [] rfl (by intro z hz; simp only [List.mem_cons, List.not_mem_nil, or_false] at hz; subst hz; exact ⟨by decide, "java/lang/IndexOutOfBoundsException", by decide +kernel, by decide +kernel⟩) (by decide) (by decide) (by decide +kernel) (by decide +kernel) (fun q9 => ?_)
    refine V_st (st' := [.ref q9]) rfl ?_
    refine V_astore (q := 28) (lv' := [(0, _), (1, _), (2, _), (3, _), (4, _), (5, _)]) dL_isPossible_26 (by decide) rfl rfl ?_
    refine V_iconst (q := 29) dL_isPossible_28 rfl ?_
    exact V_iret dL_isPossible_29 rfl (by rw [e]; rfl) (by rw [if_neg (by rw [e]; decide), if_neg (by rw [e]; decide), if_neg (by rw [e]; decide)])
set_option maxRecDepth 100000 in
set_option maxHeartbeats 4000000 in
theorem yw_isTooSoon : YW yL_isTooSoon wsL_isTooSoon 5 := ⟨_, _, _, _, _, rfl, by decide +kernel, by decide⟩
set_option maxRecDepth 100000 in
set_option maxHeartbeats 4000000 in
theorem w_isTooSoon {a : Nat → Nat} {c : Nat → ClassId} {S : St} {g : Nat → Nat} {o : Nat} {co : ClassId} {fo : Nat → Int64} (ho : Ok S) (t b p : Int) (rt : -2147483648 ≤ t ∧ t < 2147483648) (rb : -2147483648 ≤ b ∧ b < 2147483648) (rp : -2147483648 ≤ p ∧ p < 2147483648) : CtW yL_isTooSoon wsL_isTooSoon (tyx co c) [.ref (a 0), .int (iZ t), .int (iZ b), .int (iZ p), .ref o] (lwx o co fo a c S g) (iZ (cSoon S t b p : Nat)) (lwx o co (if cSoon S t b p = 0 then vp_updL fo 0 (bL (seenZ S t b p.toNat)) else fo) a c (if cSoon S t b p = 0 then S else S) (if cSoon S t b p = 0 then g else g)) := by
  refine CtW_of (own := RL) (by decide) rfl rfl (Nat.le_of_ble_eq_true rfl) ?_
  refine V_lvq (lv' := [(0, _), (1, _), (2, _), (3, _), (4, _)]) rfl ?_
  have hM := c_X0_isTooSoon (a := a) (c := c) (g := g) ho t b p rt rb rp
  rcases cSoon_c S t b p with e | e | e
  · skip
    refine V_aload (q := 2) dL_isTooSoon_0 4 rfl rfl ?_
    refine V_iconst (q := 3) dL_isTooSoon_2 rfl ?_
    refine V_aload_n (q := 4) dL_isTooSoon_3 0 rfl rfl ?_
    refine V_iload_n (q := 5) dL_isTooSoon_4 1 rfl rfl ?_
    refine V_iload_n (q := 6) dL_isTooSoon_5 2 rfl rfl ?_
    refine V_iload_n (q := 7) dL_isTooSoon_6 3 rfl rfl ?_
    refine V_callX0 (q := 10) (w1 := [(o, .inl (co, 1, .inr (.inl fo)))]) (w2 := []) (ws' := lwx o co fo a c (S) (g)) dL_isTooSoon_7 hM (by rw [e]; rfl) yv_X0_isTooSoon rfl gL_isTooSoon_X0_isTooSoon rfl 0 rfl rfl rfl rfl (Nat.le_of_ble_eq_true rfl) (by decide) rfl rfl rfl (tyx_in co c) ?_
    refine V_if_eqB (q := 13) (tgt := 17) dL_isTooSoon_10 (by decide) (fun cb => ?_) (fun cb => ?_)
    · skip
      refine V_lconst (q := 18) dL_isTooSoon_17 rfl rfl ?_
      refine V_last (q := 19) (ws' := lwx o co (vp_updL fo 0 (bL (seenZ S t b p.toNat))) a c (S) (g)) dL_isTooSoon_18 0 0 rfl rfl 0 rfl (by decide) (by decide) (by rw [cb]; rfl) rfl ?_
      refine V_goto (tgt := 30) dL_isTooSoon_19 (by decide) ?_
      refine V_iconst (q := 31) dL_isTooSoon_30 rfl ?_
      exact V_iret dL_isTooSoon_31 rfl (by rw [e]; rfl) (by rw [if_pos e, if_pos e, if_pos e])
    · skip
      refine V_lconst (q := 14) dL_isTooSoon_13 rfl rfl ?_
      refine V_goto (tgt := 18) dL_isTooSoon_14 (by decide) ?_
      refine V_last (q := 19) (ws' := lwx o co (vp_updL fo 0 (bL (seenZ S t b p.toNat))) a c (S) (g)) dL_isTooSoon_18 0 0 rfl rfl 0 rfl (by decide) (by decide) (by rw [cb]; rfl) rfl ?_
      refine V_goto (tgt := 30) dL_isTooSoon_19 (by decide) ?_
      refine V_iconst (q := 31) dL_isTooSoon_30 rfl ?_
      exact V_iret dL_isTooSoon_31 rfl (by rw [e]; rfl) (by rw [if_pos e, if_pos e, if_pos e])
  · rw [e] at hM
    refine V_aload (q := 2) dL_isTooSoon_0 4 rfl rfl ?_
    refine V_iconst (q := 3) dL_isTooSoon_2 rfl ?_
    refine V_aload_n (q := 4) dL_isTooSoon_3 0 rfl rfl ?_
    refine V_iload_n (q := 5) dL_isTooSoon_4 1 rfl rfl ?_
    refine V_iload_n (q := 6) dL_isTooSoon_5 2 rfl rfl ?_
    refine V_iload_n (q := 7) dL_isTooSoon_6 3 rfl rfl ?_
    refine V_callX1 (q := 10) (E := "java/lang/IndexOutOfBoundsException") (w1 := [(o, .inl (co, 1, .inr (.inl fo)))]) (w2 := []) dL_isTooSoon_7 hM (by decide +kernel) yv_X0_isTooSoon rfl gL_isTooSoon_X0_isTooSoon rfl 0 rfl rfl rfl rfl (Nat.le_of_ble_eq_true rfl) (by decide) rfl (tyx_in co c) [] ⟨0, 19, 22, 21⟩ [⟨0, 19, 26, 13⟩] rfl (fun z hz => nomatch hz) (by decide) (by decide) (by decide +kernel) (by decide +kernel) (fun q9 => ?_)
    refine V_st (st' := [.ref q9]) rfl ?_
    refine V_astore (q := 24) (lv' := [(0, _), (1, _), (2, _), (3, _), (4, _), (5, _)]) dL_isTooSoon_22 (by decide) rfl rfl ?_
    refine V_iconst (q := 25) dL_isTooSoon_24 rfl ?_
    exact V_iret dL_isTooSoon_25 rfl (by rw [e]; rfl) (by rw [if_neg (by rw [e]; decide), if_neg (by rw [e]; decide), if_neg (by rw [e]; decide)])
  · rw [e] at hM
    refine V_aload (q := 2) dL_isTooSoon_0 4 rfl rfl ?_
    refine V_iconst (q := 3) dL_isTooSoon_2 rfl ?_
    refine V_aload_n (q := 4) dL_isTooSoon_3 0 rfl rfl ?_
    refine V_iload_n (q := 5) dL_isTooSoon_4 1 rfl rfl ?_
    refine V_iload_n (q := 6) dL_isTooSoon_5 2 rfl rfl ?_
    refine V_iload_n (q := 7) dL_isTooSoon_6 3 rfl rfl ?_
    refine V_callX1 (q := 10) (E := "java/lang/IllegalArgumentException") (w1 := [(o, .inl (co, 1, .inr (.inl fo)))]) (w2 := []) dL_isTooSoon_7 hM (by decide +kernel) yv_X0_isTooSoon rfl gL_isTooSoon_X0_isTooSoon rfl 0 rfl rfl rfl rfl (Nat.le_of_ble_eq_true rfl) (by decide) rfl (tyx_in co c) [⟨0, 19, 22, 21⟩] ⟨0, 19, 26, 13⟩ [] rfl (by intro z hz; simp only [List.mem_cons, List.not_mem_nil, or_false] at hz; subst hz; exact ⟨by decide, "java/lang/IndexOutOfBoundsException", by decide +kernel, by decide +kernel⟩) (by decide) (by decide) (by decide +kernel) (by decide +kernel) (fun q9 => ?_)
    refine V_st (st' := [.ref q9]) rfl ?_
    refine V_astore (q := 28) (lv' := [(0, _), (1, _), (2, _), (3, _), (4, _), (5, _)]) dL_isTooSoon_26 (by decide) rfl rfl ?_
    refine V_iconst (q := 29) dL_isTooSoon_28 rfl ?_
    exact V_iret dL_isTooSoon_29 rfl (by rw [e]; rfl) (by rw [if_neg (by rw [e]; decide), if_neg (by rw [e]; decide), if_neg (by rw [e]; decide)])
set_option maxRecDepth 100000 in
set_option maxHeartbeats 4000000 in
theorem yw_wear : YW yL_wear wsL_wear 6 := ⟨_, _, _, _, _, rfl, by decide +kernel, by decide⟩
set_option maxRecDepth 100000 in
set_option maxHeartbeats 4000000 in
theorem w_wear {a : Nat → Nat} {c : Nat → ClassId} {S : St} {g : Nat → Nat} {o : Nat} {co : ClassId} {fo : Nat → Int64} (ho : Ok S) (t b d p : Int) (rt : -2147483648 ≤ t ∧ t < 2147483648) (rb : -2147483648 ≤ b ∧ b < 2147483648) (rd : -2147483648 ≤ d ∧ d < 2147483648) (rp : -2147483648 ≤ p ∧ p < 2147483648) : CtW yL_wear wsL_wear (tyx co c) [.ref (a 0), .int (iZ t), .int (iZ b), .int (iZ d), .int (iZ p), .ref o] (lwx o co fo a c S g) (iZ (cWear S t b d p : Nat)) (lwx o co (if cWear S t b d p = 0 then vp_updL fo 0 ((iZ (owZ S t b d)).toInt64) else fo) a c (if cWear S t b d p = 0 then wrS S t b d p.toNat else S) (if cWear S t b d p = 0 then g else g)) := by
  refine CtW_of (own := RL) (by decide) rfl rfl (Nat.le_of_ble_eq_true rfl) ?_
  refine V_lvq (lv' := [(0, _), (1, _), (2, _), (3, _), (4, _), (5, _)]) rfl ?_
  have hM := c_X0_wear (a := a) (c := c) (g := g) ho t b d p rt rb rd rp
  rcases cWear_c S t b d p with e | e | e | e
  · skip
    refine V_aload (q := 2) dL_wear_0 5 rfl rfl ?_
    refine V_iconst (q := 3) dL_wear_2 rfl ?_
    refine V_aload_n (q := 4) dL_wear_3 0 rfl rfl ?_
    refine V_iload_n (q := 5) dL_wear_4 1 rfl rfl ?_
    refine V_iload_n (q := 6) dL_wear_5 2 rfl rfl ?_
    refine V_iload_n (q := 7) dL_wear_6 3 rfl rfl ?_
    refine V_iload (q := 9) dL_wear_7 4 rfl rfl ?_
    refine V_callX0 (q := 12) (w1 := [(o, .inl (co, 1, .inr (.inl fo)))]) (w2 := []) (ws' := lwx o co fo a c (wrS S t b d p.toNat) (g)) dL_wear_9 hM (by rw [e]; rfl) yv_X0_wear rfl gL_wear_X0_wear rfl 0 rfl rfl rfl rfl (Nat.le_of_ble_eq_true rfl) (by decide) rfl rfl rfl (tyx_in co c) ?_
    refine V_i2l (q := 13) dL_wear_12 rfl ?_
    refine V_last (q := 14) (ws' := lwx o co (vp_updL fo 0 ((iZ (owZ S t b d)).toInt64)) a c (wrS S t b d p.toNat) (g)) dL_wear_13 0 0 rfl rfl 0 rfl (by decide) (by decide) (rfl) rfl ?_
    refine V_goto (tgt := 29) dL_wear_14 (by decide) ?_
    refine V_iconst (q := 30) dL_wear_29 rfl ?_
    exact V_iret dL_wear_30 rfl (by rw [e]; rfl) (by rw [if_pos e, if_pos e, if_pos e])
  · rw [e] at hM
    refine V_aload (q := 2) dL_wear_0 5 rfl rfl ?_
    refine V_iconst (q := 3) dL_wear_2 rfl ?_
    refine V_aload_n (q := 4) dL_wear_3 0 rfl rfl ?_
    refine V_iload_n (q := 5) dL_wear_4 1 rfl rfl ?_
    refine V_iload_n (q := 6) dL_wear_5 2 rfl rfl ?_
    refine V_iload_n (q := 7) dL_wear_6 3 rfl rfl ?_
    refine V_iload (q := 9) dL_wear_7 4 rfl rfl ?_
    refine V_callX1 (q := 12) (E := "java/lang/IndexOutOfBoundsException") (w1 := [(o, .inl (co, 1, .inr (.inl fo)))]) (w2 := []) dL_wear_9 hM (by decide +kernel) yv_X0_wear rfl gL_wear_X0_wear rfl 0 rfl rfl rfl rfl (Nat.le_of_ble_eq_true rfl) (by decide) rfl (tyx_in co c) [] ⟨0, 14, 17, 21⟩ [⟨0, 14, 21, 13⟩, ⟨0, 14, 25, 15⟩] rfl (fun z hz => nomatch hz) (by decide) (by decide) (by decide +kernel) (by decide +kernel) (fun q9 => ?_)
    refine V_st (st' := [.ref q9]) rfl ?_
    refine V_astore (q := 19) (lv' := [(0, _), (1, _), (2, _), (3, _), (4, _), (5, _), (6, _)]) dL_wear_17 (by decide) rfl rfl ?_
    refine V_iconst (q := 20) dL_wear_19 rfl ?_
    exact V_iret dL_wear_20 rfl (by rw [e]; rfl) (by rw [if_neg (by rw [e]; decide), if_neg (by rw [e]; decide), if_neg (by rw [e]; decide)])
  · rw [e] at hM
    refine V_aload (q := 2) dL_wear_0 5 rfl rfl ?_
    refine V_iconst (q := 3) dL_wear_2 rfl ?_
    refine V_aload_n (q := 4) dL_wear_3 0 rfl rfl ?_
    refine V_iload_n (q := 5) dL_wear_4 1 rfl rfl ?_
    refine V_iload_n (q := 6) dL_wear_5 2 rfl rfl ?_
    refine V_iload_n (q := 7) dL_wear_6 3 rfl rfl ?_
    refine V_iload (q := 9) dL_wear_7 4 rfl rfl ?_
    refine V_callX1 (q := 12) (E := "java/lang/IllegalArgumentException") (w1 := [(o, .inl (co, 1, .inr (.inl fo)))]) (w2 := []) dL_wear_9 hM (by decide +kernel) yv_X0_wear rfl gL_wear_X0_wear rfl 0 rfl rfl rfl rfl (Nat.le_of_ble_eq_true rfl) (by decide) rfl (tyx_in co c) [⟨0, 14, 17, 21⟩] ⟨0, 14, 21, 13⟩ [⟨0, 14, 25, 15⟩] rfl (by intro z hz; simp only [List.mem_cons, List.not_mem_nil, or_false] at hz; subst hz; exact ⟨by decide, "java/lang/IndexOutOfBoundsException", by decide +kernel, by decide +kernel⟩) (by decide) (by decide) (by decide +kernel) (by decide +kernel) (fun q9 => ?_)
    refine V_st (st' := [.ref q9]) rfl ?_
    refine V_astore (q := 23) (lv' := [(0, _), (1, _), (2, _), (3, _), (4, _), (5, _), (6, _)]) dL_wear_21 (by decide) rfl rfl ?_
    refine V_iconst (q := 24) dL_wear_23 rfl ?_
    exact V_iret dL_wear_24 rfl (by rw [e]; rfl) (by rw [if_neg (by rw [e]; decide), if_neg (by rw [e]; decide), if_neg (by rw [e]; decide)])
  · rw [e] at hM
    refine V_aload (q := 2) dL_wear_0 5 rfl rfl ?_
    refine V_iconst (q := 3) dL_wear_2 rfl ?_
    refine V_aload_n (q := 4) dL_wear_3 0 rfl rfl ?_
    refine V_iload_n (q := 5) dL_wear_4 1 rfl rfl ?_
    refine V_iload_n (q := 6) dL_wear_5 2 rfl rfl ?_
    refine V_iload_n (q := 7) dL_wear_6 3 rfl rfl ?_
    refine V_iload (q := 9) dL_wear_7 4 rfl rfl ?_
    refine V_callX1 (q := 12) (E := "java/lang/IllegalStateException") (w1 := [(o, .inl (co, 1, .inr (.inl fo)))]) (w2 := []) dL_wear_9 hM (by decide +kernel) yv_X0_wear rfl gL_wear_X0_wear rfl 0 rfl rfl rfl rfl (Nat.le_of_ble_eq_true rfl) (by decide) rfl (tyx_in co c) [⟨0, 14, 17, 21⟩, ⟨0, 14, 21, 13⟩] ⟨0, 14, 25, 15⟩ [] rfl (by intro z hz; simp only [List.mem_cons, List.not_mem_nil, or_false] at hz; rcases hz with rfl | rfl; exact ⟨by decide, "java/lang/IndexOutOfBoundsException", by decide +kernel, by decide +kernel⟩; exact ⟨by decide, "java/lang/IllegalArgumentException", by decide +kernel, by decide +kernel⟩) (by decide) (by decide) (by decide +kernel) (by decide +kernel) (fun q9 => ?_)
    refine V_st (st' := [.ref q9]) rfl ?_
    refine V_astore (q := 27) (lv' := [(0, _), (1, _), (2, _), (3, _), (4, _), (5, _), (6, _)]) dL_wear_25 (by decide) rfl rfl ?_
    refine V_iconst (q := 28) dL_wear_27 rfl ?_
    exact V_iret dL_wear_28 rfl (by rw [e]; rfl) (by rw [if_neg (by rw [e]; decide), if_neg (by rw [e]; decide), if_neg (by rw [e]; decide)])
set_option maxRecDepth 100000 in
set_option maxHeartbeats 4000000 in
theorem yw_outfits : YW yL_outfits wsL_outfits 3 := ⟨_, _, _, _, _, rfl, by decide +kernel, by decide⟩
set_option maxRecDepth 100000 in
set_option maxHeartbeats 4000000 in
theorem w_outfits {a : Nat → Nat} {c : Nat → ClassId} {S : St} {g : Nat → Nat} {o : Nat} {co : ClassId} {fo : Nat → Int64} (ho : Ok S) (w : Int) (rw' : -2147483648 ≤ w ∧ w < 2147483648) : CtW yL_outfits wsL_outfits (tyx co c) [.ref (a 0), .int (iZ w), .ref o] (lwx o co fo a c S g) (iZ (cOut w : Nat)) (lwx o co (if cOut w = 0 then vp_updL fo 0 ((iZ (outZ S w)).toInt64) else fo) a c (if cOut w = 0 then S else S) (if cOut w = 0 then g else g)) := by
  refine CtW_of (own := RL) (by decide) rfl rfl (Nat.le_of_ble_eq_true rfl) ?_
  refine V_lvq (lv' := [(0, _), (1, _), (2, _)]) rfl ?_
  have hM := c_X0_outfits (a := a) (c := c) (g := g) ho w rw'
  rcases cOut_c w with e | e
  · skip
    refine V_aload_n (q := 1) dL_outfits_0 2 rfl rfl ?_
    refine V_iconst (q := 2) dL_outfits_1 rfl ?_
    refine V_aload_n (q := 3) dL_outfits_2 0 rfl rfl ?_
    refine V_iload_n (q := 4) dL_outfits_3 1 rfl rfl ?_
    refine V_callX0 (q := 7) (w1 := [(o, .inl (co, 1, .inr (.inl fo)))]) (w2 := []) (ws' := lwx o co fo a c (S) (g)) dL_outfits_4 hM (by rw [e]; rfl) yv_X0_outfits rfl gL_outfits_X0_outfits rfl 0 rfl rfl rfl rfl (Nat.le_of_ble_eq_true rfl) (by decide) rfl rfl rfl (tyx_in co c) ?_
    refine V_i2l (q := 8) dL_outfits_7 rfl ?_
    refine V_last (q := 9) (ws' := lwx o co (vp_updL fo 0 ((iZ (outZ S w)).toInt64)) a c (S) (g)) dL_outfits_8 0 0 rfl rfl 0 rfl (by decide) (by decide) (rfl) rfl ?_
    refine V_goto (tgt := 15) dL_outfits_9 (by decide) ?_
    refine V_iconst (q := 16) dL_outfits_15 rfl ?_
    exact V_iret dL_outfits_16 rfl (by rw [e]; rfl) (by rw [if_pos e, if_pos e, if_pos e])
  · rw [e] at hM
    refine V_aload_n (q := 1) dL_outfits_0 2 rfl rfl ?_
    refine V_iconst (q := 2) dL_outfits_1 rfl ?_
    refine V_aload_n (q := 3) dL_outfits_2 0 rfl rfl ?_
    refine V_iload_n (q := 4) dL_outfits_3 1 rfl rfl ?_
    refine V_callX1 (q := 7) (E := "java/lang/IllegalArgumentException") (w1 := [(o, .inl (co, 1, .inr (.inl fo)))]) (w2 := []) dL_outfits_4 hM (by decide +kernel) yv_X0_outfits rfl gL_outfits_X0_outfits rfl 0 rfl rfl rfl rfl (Nat.le_of_ble_eq_true rfl) (by decide) rfl (tyx_in co c) [] ⟨0, 9, 12, 13⟩ [] rfl (fun z hz => nomatch hz) (by decide) (by decide) (by decide +kernel) (by decide +kernel) (fun q9 => ?_)
    refine V_st (st' := [.ref q9]) rfl ?_
    refine V_astore_n (q := 13) (lv' := [(0, _), (1, _), (2, _), (3, _)]) dL_outfits_12 (by decide) rfl rfl ?_
    refine V_iconst (q := 14) dL_outfits_13 rfl ?_
    exact V_iret dL_outfits_14 rfl (by rw [e]; rfl) (by rw [if_neg (by rw [e]; decide), if_neg (by rw [e]; decide), if_neg (by rw [e]; decide)])
set_option maxRecDepth 100000 in
set_option maxHeartbeats 4000000 in
theorem yw_adds : YW yL_adds wsL_adds 4 := ⟨_, _, _, _, _, rfl, by decide +kernel, by decide⟩
set_option maxRecDepth 100000 in
set_option maxHeartbeats 4000000 in
theorem w_adds {a : Nat → Nat} {c : Nat → ClassId} {S : St} {g : Nat → Nat} {o : Nat} {co : ClassId} {fo : Nat → Int64} (ho : Ok S) (x w : Int) (rx : -2147483648 ≤ x ∧ x < 2147483648) (rw' : -2147483648 ≤ w ∧ w < 2147483648) : CtW yL_adds wsL_adds (tyx co c) [.ref (a 0), .int (iZ x), .int (iZ w), .ref o] (lwx o co fo a c S g) (iZ (cAdds S x w : Nat)) (lwx o co (if cAdds S x w = 0 then vp_updL fo 0 ((iZ (addZ S x w)).toInt64) else fo) a c (if cAdds S x w = 0 then S else S) (if cAdds S x w = 0 then g else g)) := by
  refine CtW_of (own := RL) (by decide) rfl rfl (Nat.le_of_ble_eq_true rfl) ?_
  refine V_lvq (lv' := [(0, _), (1, _), (2, _), (3, _)]) rfl ?_
  have hM := c_X0_adds (a := a) (c := c) (g := g) ho x w rx rw'
  rcases cAdds_c S x w with e | e | e
  · skip
    refine V_aload_n (q := 1) dL_adds_0 3 rfl rfl ?_
    refine V_iconst (q := 2) dL_adds_1 rfl ?_
    refine V_aload_n (q := 3) dL_adds_2 0 rfl rfl ?_
    refine V_iload_n (q := 4) dL_adds_3 1 rfl rfl ?_
    refine V_iload_n (q := 5) dL_adds_4 2 rfl rfl ?_
    refine V_callX0 (q := 8) (w1 := [(o, .inl (co, 1, .inr (.inl fo)))]) (w2 := []) (ws' := lwx o co fo a c (S) (g)) dL_adds_5 hM (by rw [e]; rfl) yv_X0_adds rfl gL_adds_X0_adds rfl 0 rfl rfl rfl rfl (Nat.le_of_ble_eq_true rfl) (by decide) rfl rfl rfl (tyx_in co c) ?_
    refine V_i2l (q := 9) dL_adds_8 rfl ?_
    refine V_last (q := 10) (ws' := lwx o co (vp_updL fo 0 ((iZ (addZ S x w)).toInt64)) a c (S) (g)) dL_adds_9 0 0 rfl rfl 0 rfl (by decide) (by decide) (rfl) rfl ?_
    refine V_goto (tgt := 21) dL_adds_10 (by decide) ?_
    refine V_iconst (q := 22) dL_adds_21 rfl ?_
    exact V_iret dL_adds_22 rfl (by rw [e]; rfl) (by rw [if_pos e, if_pos e, if_pos e])
  · rw [e] at hM
    refine V_aload_n (q := 1) dL_adds_0 3 rfl rfl ?_
    refine V_iconst (q := 2) dL_adds_1 rfl ?_
    refine V_aload_n (q := 3) dL_adds_2 0 rfl rfl ?_
    refine V_iload_n (q := 4) dL_adds_3 1 rfl rfl ?_
    refine V_iload_n (q := 5) dL_adds_4 2 rfl rfl ?_
    refine V_callX1 (q := 8) (E := "java/lang/IndexOutOfBoundsException") (w1 := [(o, .inl (co, 1, .inr (.inl fo)))]) (w2 := []) dL_adds_5 hM (by decide +kernel) yv_X0_adds rfl gL_adds_X0_adds rfl 0 rfl rfl rfl rfl (Nat.le_of_ble_eq_true rfl) (by decide) rfl (tyx_in co c) [] ⟨0, 10, 13, 21⟩ [⟨0, 10, 17, 13⟩] rfl (fun z hz => nomatch hz) (by decide) (by decide) (by decide +kernel) (by decide +kernel) (fun q9 => ?_)
    refine V_st (st' := [.ref q9]) rfl ?_
    refine V_astore (q := 15) (lv' := [(0, _), (1, _), (2, _), (3, _), (4, _)]) dL_adds_13 (by decide) rfl rfl ?_
    refine V_iconst (q := 16) dL_adds_15 rfl ?_
    exact V_iret dL_adds_16 rfl (by rw [e]; rfl) (by rw [if_neg (by rw [e]; decide), if_neg (by rw [e]; decide), if_neg (by rw [e]; decide)])
  · rw [e] at hM
    refine V_aload_n (q := 1) dL_adds_0 3 rfl rfl ?_
    refine V_iconst (q := 2) dL_adds_1 rfl ?_
    refine V_aload_n (q := 3) dL_adds_2 0 rfl rfl ?_
    refine V_iload_n (q := 4) dL_adds_3 1 rfl rfl ?_
    refine V_iload_n (q := 5) dL_adds_4 2 rfl rfl ?_
    refine V_callX1 (q := 8) (E := "java/lang/IllegalArgumentException") (w1 := [(o, .inl (co, 1, .inr (.inl fo)))]) (w2 := []) dL_adds_5 hM (by decide +kernel) yv_X0_adds rfl gL_adds_X0_adds rfl 0 rfl rfl rfl rfl (Nat.le_of_ble_eq_true rfl) (by decide) rfl (tyx_in co c) [⟨0, 10, 13, 21⟩] ⟨0, 10, 17, 13⟩ [] rfl (by intro z hz; simp only [List.mem_cons, List.not_mem_nil, or_false] at hz; subst hz; exact ⟨by decide, "java/lang/IndexOutOfBoundsException", by decide +kernel, by decide +kernel⟩) (by decide) (by decide) (by decide +kernel) (by decide +kernel) (fun q9 => ?_)
    refine V_st (st' := [.ref q9]) rfl ?_
    refine V_astore (q := 19) (lv' := [(0, _), (1, _), (2, _), (3, _), (4, _)]) dL_adds_17 (by decide) rfl rfl ?_
    refine V_iconst (q := 20) dL_adds_19 rfl ?_
    exact V_iret dL_adds_20 rfl (by rw [e]; rfl) (by rw [if_neg (by rw [e]; decide), if_neg (by rw [e]; decide), if_neg (by rw [e]; decide)])
set_option maxRecDepth 100000 in
set_option maxHeartbeats 4000000 in
theorem yw_outfitFor : YW yL_outfitFor wsL_outfitFor 4 := ⟨_, _, _, _, _, rfl, by decide +kernel, by decide⟩
set_option maxRecDepth 100000 in
set_option maxHeartbeats 4000000 in
theorem w_outfitFor {a : Nat → Nat} {c : Nat → ClassId} {S : St} {g : Nat → Nat} {o : Nat} {co : ClassId} {fo : Nat → Int64} (ho : Ok S) (w p : Int) (rw' : -2147483648 ≤ w ∧ w < 2147483648) (rp : -2147483648 ≤ p ∧ p < 2147483648) : CtW yL_outfitFor wsL_outfitFor (tyx co c) [.ref (a 0), .int (iZ w), .int (iZ p), .ref o] (lwx o co fo a c S g) (iZ (cFor w p : Nat)) (lwx o co (if cFor w p = 0 then vp_updL fo 0 ((iZ ((ofT S w p.toNat (sN S)).1)).toInt64) else fo) a c (if cFor w p = 0 then S else S) (if cFor w p = 0 then g else g)) := by
  refine CtW_of (own := RL) (by decide) rfl rfl (Nat.le_of_ble_eq_true rfl) ?_
  refine V_lvq (lv' := [(0, _), (1, _), (2, _), (3, _)]) rfl ?_
  have hM := c_X0_outfitFor (a := a) (c := c) (g := g) ho w p rw' rp
  rcases cFor_c w p with e | e
  · skip
    refine V_aload_n (q := 1) dL_outfitFor_0 3 rfl rfl ?_
    refine V_iconst (q := 2) dL_outfitFor_1 rfl ?_
    refine V_aload_n (q := 3) dL_outfitFor_2 0 rfl rfl ?_
    refine V_iload_n (q := 4) dL_outfitFor_3 1 rfl rfl ?_
    refine V_iload_n (q := 5) dL_outfitFor_4 2 rfl rfl ?_
    refine V_callX0 (q := 8) (w1 := [(o, .inl (co, 1, .inr (.inl fo)))]) (w2 := []) (ws' := lwx o co fo a c (S) (g)) dL_outfitFor_5 hM (by rw [e]; rfl) yv_X0_outfitFor rfl gL_outfitFor_X0_outfitFor rfl 0 rfl rfl rfl rfl (Nat.le_of_ble_eq_true rfl) (by decide) rfl rfl rfl (tyx_in co c) ?_
    refine V_i2l (q := 9) dL_outfitFor_8 rfl ?_
    refine V_last (q := 10) (ws' := lwx o co (vp_updL fo 0 ((iZ ((ofT S w p.toNat (sN S)).1)).toInt64)) a c (S) (g)) dL_outfitFor_9 0 0 rfl rfl 0 rfl (by decide) (by decide) (rfl) rfl ?_
    refine V_goto (tgt := 17) dL_outfitFor_10 (by decide) ?_
    refine V_iconst (q := 18) dL_outfitFor_17 rfl ?_
    exact V_iret dL_outfitFor_18 rfl (by rw [e]; rfl) (by rw [if_pos e, if_pos e, if_pos e])
  · rw [e] at hM
    refine V_aload_n (q := 1) dL_outfitFor_0 3 rfl rfl ?_
    refine V_iconst (q := 2) dL_outfitFor_1 rfl ?_
    refine V_aload_n (q := 3) dL_outfitFor_2 0 rfl rfl ?_
    refine V_iload_n (q := 4) dL_outfitFor_3 1 rfl rfl ?_
    refine V_iload_n (q := 5) dL_outfitFor_4 2 rfl rfl ?_
    refine V_callX1 (q := 8) (E := "java/lang/IllegalArgumentException") (w1 := [(o, .inl (co, 1, .inr (.inl fo)))]) (w2 := []) dL_outfitFor_5 hM (by decide +kernel) yv_X0_outfitFor rfl gL_outfitFor_X0_outfitFor rfl 0 rfl rfl rfl rfl (Nat.le_of_ble_eq_true rfl) (by decide) rfl (tyx_in co c) [] ⟨0, 10, 13, 13⟩ [] rfl (fun z hz => nomatch hz) (by decide) (by decide) (by decide +kernel) (by decide +kernel) (fun q9 => ?_)
    refine V_st (st' := [.ref q9]) rfl ?_
    refine V_astore (q := 15) (lv' := [(0, _), (1, _), (2, _), (3, _), (4, _)]) dL_outfitFor_13 (by decide) rfl rfl ?_
    refine V_iconst (q := 16) dL_outfitFor_15 rfl ?_
    exact V_iret dL_outfitFor_16 rfl (by rw [e]; rfl) (by rw [if_neg (by rw [e]; decide), if_neg (by rw [e]; decide), if_neg (by rw [e]; decide)])
set_option maxRecDepth 100000 in
set_option maxHeartbeats 4000000 in
theorem yw_load : YW yL_load wsL_load 4 := ⟨_, _, _, _, _, rfl, by decide +kernel, by decide⟩
set_option maxRecDepth 100000 in
set_option maxHeartbeats 4000000 in
theorem w_load {a : Nat → Nat} {c : Nat → ClassId} {S : St} {g : Nat → Nat} {o : Nat} {co : ClassId} {fo : Nat → Int64} (ho : Ok S) (r : Int) (dk : Bool) (rr : -2147483648 ≤ r ∧ r < 2147483648) : CtW yL_load wsL_load (tyx co c) [.ref (a 0), .int (iZ r), .int (iZ (bZ dk)), .ref o] (lwx o co fo a c S g) (iZ (cCare r : Nat)) (lwx o co (if cCare r = 0 then vp_updL fo 0 ((iZ ((cnt (ldP S r dk) (sN S) : Nat))).toInt64) else fo) a c (if cCare r = 0 then S else S) (if cCare r = 0 then g else g)) := by
  refine CtW_of (own := RL) (by decide) rfl rfl (Nat.le_of_ble_eq_true rfl) ?_
  refine V_lvq (lv' := [(0, _), (1, _), (2, _), (3, _)]) rfl ?_
  have hM := c_X0_load (a := a) (c := c) (g := g) ho r dk rr
  rcases cCare_c r with e | e
  · skip
    refine V_aload_n (q := 1) dL_load_0 3 rfl rfl ?_
    refine V_iconst (q := 2) dL_load_1 rfl ?_
    refine V_aload_n (q := 3) dL_load_2 0 rfl rfl ?_
    refine V_iload_n (q := 4) dL_load_3 1 rfl rfl ?_
    refine V_iload_n (q := 5) dL_load_4 2 rfl rfl ?_
    refine V_callX0 (q := 8) (w1 := [(o, .inl (co, 1, .inr (.inl fo)))]) (w2 := []) (ws' := lwx o co fo a c (S) (g)) dL_load_5 hM (by rw [e]; rfl) yv_X0_load rfl gL_load_X0_load rfl 0 rfl rfl rfl rfl (Nat.le_of_ble_eq_true rfl) (by decide) rfl rfl rfl (tyx_in co c) ?_
    refine V_i2l (q := 9) dL_load_8 rfl ?_
    refine V_last (q := 10) (ws' := lwx o co (vp_updL fo 0 ((iZ ((cnt (ldP S r dk) (sN S) : Nat))).toInt64)) a c (S) (g)) dL_load_9 0 0 rfl rfl 0 rfl (by decide) (by decide) (rfl) rfl ?_
    refine V_goto (tgt := 17) dL_load_10 (by decide) ?_
    refine V_iconst (q := 18) dL_load_17 rfl ?_
    exact V_iret dL_load_18 rfl (by rw [e]; rfl) (by rw [if_pos e, if_pos e, if_pos e])
  · rw [e] at hM
    refine V_aload_n (q := 1) dL_load_0 3 rfl rfl ?_
    refine V_iconst (q := 2) dL_load_1 rfl ?_
    refine V_aload_n (q := 3) dL_load_2 0 rfl rfl ?_
    refine V_iload_n (q := 4) dL_load_3 1 rfl rfl ?_
    refine V_iload_n (q := 5) dL_load_4 2 rfl rfl ?_
    refine V_callX1 (q := 8) (E := "java/lang/IllegalArgumentException") (w1 := [(o, .inl (co, 1, .inr (.inl fo)))]) (w2 := []) dL_load_5 hM (by decide +kernel) yv_X0_load rfl gL_load_X0_load rfl 0 rfl rfl rfl rfl (Nat.le_of_ble_eq_true rfl) (by decide) rfl (tyx_in co c) [] ⟨0, 10, 13, 13⟩ [] rfl (fun z hz => nomatch hz) (by decide) (by decide) (by decide +kernel) (by decide +kernel) (fun q9 => ?_)
    refine V_st (st' := [.ref q9]) rfl ?_
    refine V_astore (q := 15) (lv' := [(0, _), (1, _), (2, _), (3, _), (4, _)]) dL_load_13 (by decide) rfl rfl ?_
    refine V_iconst (q := 16) dL_load_15 rfl ?_
    exact V_iret dL_load_16 rfl (by rw [e]; rfl) (by rw [if_neg (by rw [e]; decide), if_neg (by rw [e]; decide), if_neg (by rw [e]; decide)])
set_option maxRecDepth 100000 in
set_option maxHeartbeats 4000000 in
theorem yw_wash : YW yL_wash wsL_wash 4 := ⟨_, _, _, _, _, rfl, by decide +kernel, by decide⟩
set_option maxRecDepth 100000 in
set_option maxHeartbeats 4000000 in
theorem w_wash {a : Nat → Nat} {c : Nat → ClassId} {S : St} {g : Nat → Nat} {o : Nat} {co : ClassId} {fo : Nat → Int64} (ho : Ok S) (r : Int) (dk : Bool) (rr : -2147483648 ≤ r ∧ r < 2147483648) : CtW yL_wash wsL_wash (tyx co c) [.ref (a 0), .int (iZ r), .int (iZ (bZ dk)), .ref o] (lwx o co fo a c S g) (iZ (cCare r : Nat)) (lwx o co (if cCare r = 0 then vp_updL fo 0 ((iZ ((wst S r dk 5).2)).toInt64) else fo) a c (if cCare r = 0 then (wst S r dk 5).1 else S) (if cCare r = 0 then g else g)) := by
  refine CtW_of (own := RL) (by decide) rfl rfl (Nat.le_of_ble_eq_true rfl) ?_
  refine V_lvq (lv' := [(0, _), (1, _), (2, _), (3, _)]) rfl ?_
  have hM := c_X0_wash (a := a) (c := c) (g := g) ho r dk rr
  rcases cCare_c r with e | e
  · skip
    refine V_aload_n (q := 1) dL_wash_0 3 rfl rfl ?_
    refine V_iconst (q := 2) dL_wash_1 rfl ?_
    refine V_aload_n (q := 3) dL_wash_2 0 rfl rfl ?_
    refine V_iload_n (q := 4) dL_wash_3 1 rfl rfl ?_
    refine V_iload_n (q := 5) dL_wash_4 2 rfl rfl ?_
    refine V_callX0 (q := 8) (w1 := [(o, .inl (co, 1, .inr (.inl fo)))]) (w2 := []) (ws' := lwx o co fo a c ((wst S r dk 5).1) (g)) dL_wash_5 hM (by rw [e]; rfl) yv_X0_wash rfl gL_wash_X0_wash rfl 0 rfl rfl rfl rfl (Nat.le_of_ble_eq_true rfl) (by decide) rfl rfl rfl (tyx_in co c) ?_
    refine V_i2l (q := 9) dL_wash_8 rfl ?_
    refine V_last (q := 10) (ws' := lwx o co (vp_updL fo 0 ((iZ ((wst S r dk 5).2)).toInt64)) a c ((wst S r dk 5).1) (g)) dL_wash_9 0 0 rfl rfl 0 rfl (by decide) (by decide) (rfl) rfl ?_
    refine V_goto (tgt := 17) dL_wash_10 (by decide) ?_
    refine V_iconst (q := 18) dL_wash_17 rfl ?_
    exact V_iret dL_wash_18 rfl (by rw [e]; rfl) (by rw [if_pos e, if_pos e, if_pos e])
  · rw [e] at hM
    refine V_aload_n (q := 1) dL_wash_0 3 rfl rfl ?_
    refine V_iconst (q := 2) dL_wash_1 rfl ?_
    refine V_aload_n (q := 3) dL_wash_2 0 rfl rfl ?_
    refine V_iload_n (q := 4) dL_wash_3 1 rfl rfl ?_
    refine V_iload_n (q := 5) dL_wash_4 2 rfl rfl ?_
    refine V_callX1 (q := 8) (E := "java/lang/IllegalArgumentException") (w1 := [(o, .inl (co, 1, .inr (.inl fo)))]) (w2 := []) dL_wash_5 hM (by decide +kernel) yv_X0_wash rfl gL_wash_X0_wash rfl 0 rfl rfl rfl rfl (Nat.le_of_ble_eq_true rfl) (by decide) rfl (tyx_in co c) [] ⟨0, 10, 13, 13⟩ [] rfl (fun z hz => nomatch hz) (by decide) (by decide) (by decide +kernel) (by decide +kernel) (fun q9 => ?_)
    refine V_st (st' := [.ref q9]) rfl ?_
    refine V_astore (q := 15) (lv' := [(0, _), (1, _), (2, _), (3, _), (4, _)]) dL_wash_13 (by decide) rfl rfl ?_
    refine V_iconst (q := 16) dL_wash_15 rfl ?_
    exact V_iret dL_wash_16 rfl (by rw [e]; rfl) (by rw [if_neg (by rw [e]; decide), if_neg (by rw [e]; decide), if_neg (by rw [e]; decide)])
set_option maxRecDepth 100000 in
set_option maxHeartbeats 4000000 in
theorem yw_pass : YW yL_pass wsL_pass 3 := ⟨_, _, _, _, _, rfl, by decide +kernel, by decide⟩
set_option maxRecDepth 100000 in
set_option maxHeartbeats 4000000 in
theorem w_pass {a : Nat → Nat} {c : Nat → ClassId} {S : St} {g : Nat → Nat} {o : Nat} {co : ClassId} {fo : Nat → Int64} (ho : Ok S) (d : Int) (rd : -2147483648 ≤ d ∧ d < 2147483648) : CtW yL_pass wsL_pass (tyx co c) [.ref (a 0), .int (iZ d), .ref o] (lwx o co fo a c S g) (iZ (cPass S d : Nat)) (lwx o co (if cPass S d = 0 then vp_updL fo 0 ((iZ (((sT S + d.toNat : Nat) : Int))).toInt64) else fo) a c (if cPass S d = 0 then uT S (sT S + d.toNat) else S) (if cPass S d = 0 then g else g)) := by
  refine CtW_of (own := RL) (by decide) rfl rfl (Nat.le_of_ble_eq_true rfl) ?_
  refine V_lvq (lv' := [(0, _), (1, _), (2, _)]) rfl ?_
  have hM := c_X0_pass (a := a) (c := c) (g := g) ho d rd
  rcases cPass_c S d with e | e | e
  · skip
    refine V_aload_n (q := 1) dL_pass_0 2 rfl rfl ?_
    refine V_iconst (q := 2) dL_pass_1 rfl ?_
    refine V_aload_n (q := 3) dL_pass_2 0 rfl rfl ?_
    refine V_iload_n (q := 4) dL_pass_3 1 rfl rfl ?_
    refine V_callX0 (q := 7) (w1 := [(o, .inl (co, 1, .inr (.inl fo)))]) (w2 := []) (ws' := lwx o co fo a c (uT S (sT S + d.toNat)) (g)) dL_pass_4 hM (by rw [e]; rfl) yv_X0_pass rfl gL_pass_X0_pass rfl 0 rfl rfl rfl rfl (Nat.le_of_ble_eq_true rfl) (by decide) rfl rfl rfl (tyx_in co c) ?_
    refine V_i2l (q := 8) dL_pass_7 rfl ?_
    refine V_last (q := 9) (ws' := lwx o co (vp_updL fo 0 ((iZ (((sT S + d.toNat : Nat) : Int))).toInt64)) a c (uT S (sT S + d.toNat)) (g)) dL_pass_8 0 0 rfl rfl 0 rfl (by decide) (by decide) (rfl) rfl ?_
    refine V_goto (tgt := 18) dL_pass_9 (by decide) ?_
    refine V_iconst (q := 19) dL_pass_18 rfl ?_
    exact V_iret dL_pass_19 rfl (by rw [e]; rfl) (by rw [if_pos e, if_pos e, if_pos e])
  · rw [e] at hM
    refine V_aload_n (q := 1) dL_pass_0 2 rfl rfl ?_
    refine V_iconst (q := 2) dL_pass_1 rfl ?_
    refine V_aload_n (q := 3) dL_pass_2 0 rfl rfl ?_
    refine V_iload_n (q := 4) dL_pass_3 1 rfl rfl ?_
    refine V_callX1 (q := 7) (E := "java/lang/IllegalArgumentException") (w1 := [(o, .inl (co, 1, .inr (.inl fo)))]) (w2 := []) dL_pass_4 hM (by decide +kernel) yv_X0_pass rfl gL_pass_X0_pass rfl 0 rfl rfl rfl rfl (Nat.le_of_ble_eq_true rfl) (by decide) rfl (tyx_in co c) [] ⟨0, 9, 12, 13⟩ [⟨0, 9, 15, 15⟩] rfl (fun z hz => nomatch hz) (by decide) (by decide) (by decide +kernel) (by decide +kernel) (fun q9 => ?_)
    refine V_st (st' := [.ref q9]) rfl ?_
    refine V_astore_n (q := 13) (lv' := [(0, _), (1, _), (2, _), (3, _)]) dL_pass_12 (by decide) rfl rfl ?_
    refine V_iconst (q := 14) dL_pass_13 rfl ?_
    exact V_iret dL_pass_14 rfl (by rw [e]; rfl) (by rw [if_neg (by rw [e]; decide), if_neg (by rw [e]; decide), if_neg (by rw [e]; decide)])
  · rw [e] at hM
    refine V_aload_n (q := 1) dL_pass_0 2 rfl rfl ?_
    refine V_iconst (q := 2) dL_pass_1 rfl ?_
    refine V_aload_n (q := 3) dL_pass_2 0 rfl rfl ?_
    refine V_iload_n (q := 4) dL_pass_3 1 rfl rfl ?_
    refine V_callX1 (q := 7) (E := "java/lang/IllegalStateException") (w1 := [(o, .inl (co, 1, .inr (.inl fo)))]) (w2 := []) dL_pass_4 hM (by decide +kernel) yv_X0_pass rfl gL_pass_X0_pass rfl 0 rfl rfl rfl rfl (Nat.le_of_ble_eq_true rfl) (by decide) rfl (tyx_in co c) [⟨0, 9, 12, 13⟩] ⟨0, 9, 15, 15⟩ [] rfl (by intro z hz; simp only [List.mem_cons, List.not_mem_nil, or_false] at hz; subst hz; exact ⟨by decide, "java/lang/IllegalArgumentException", by decide +kernel, by decide +kernel⟩) (by decide) (by decide) (by decide +kernel) (by decide +kernel) (fun q9 => ?_)
    refine V_st (st' := [.ref q9]) rfl ?_
    refine V_astore_n (q := 16) (lv' := [(0, _), (1, _), (2, _), (3, _)]) dL_pass_15 (by decide) rfl rfl ?_
    refine V_iconst (q := 17) dL_pass_16 rfl ?_
    exact V_iret dL_pass_17 rfl (by rw [e]; rfl) (by rw [if_neg (by rw [e]; decide), if_neg (by rw [e]; decide), if_neg (by rw [e]; decide)])
set_option maxRecDepth 100000 in
set_option maxHeartbeats 4000000 in
theorem yw_isEnough : YW yL_isEnough wsL_isEnough 5 := ⟨_, _, _, _, _, rfl, by decide +kernel, by decide⟩
set_option maxRecDepth 100000 in
set_option maxHeartbeats 4000000 in
theorem w_isEnough {a : Nat → Nat} {c : Nat → ClassId} {S : St} {g : Nat → Nat} {o : Nat} {co : ClassId} {fo : Nat → Int64} (ho : Ok S) (x : Int32) (d w : Int) (hg : ∀ j, g j < 4096) (rd : -2147483648 ≤ d ∧ d < 2147483648) (rw' : -2147483648 ≤ w ∧ w < 2147483648) : CtW yL_isEnough wsL_isEnough (tyx co c) [.ref (a 0), .int x, .int (iZ d), .int (iZ w), .ref o] (lwx o co fo a c S g) (iZ (cEn S x d w : Nat)) (lwx o co (if cEn S x d w = 0 then vp_updL fo 0 (bL (enZ S (gF S w g) x.toBitVec.toNat d)) else fo) a c (if cEn S x d w = 0 then S else S) (if cEn S x d w = 0 then gF S w g else g)) := by
  refine CtW_of (own := RL) (by decide) rfl rfl (Nat.le_of_ble_eq_true rfl) ?_
  refine V_lvq (lv' := [(0, _), (1, _), (2, _), (3, _), (4, _)]) rfl ?_
  have hM := c_X0_isEnough (a := a) (c := c) (g := g) ho x d w hg rd rw'
  rcases cEn_c S x d w with e | e
  · skip
    refine V_aload (q := 2) dL_isEnough_0 4 rfl rfl ?_
    refine V_iconst (q := 3) dL_isEnough_2 rfl ?_
    refine V_aload_n (q := 4) dL_isEnough_3 0 rfl rfl ?_
    refine V_iload_n (q := 5) dL_isEnough_4 1 rfl rfl ?_
    refine V_iload_n (q := 6) dL_isEnough_5 2 rfl rfl ?_
    refine V_iload_n (q := 7) dL_isEnough_6 3 rfl rfl ?_
    refine V_callX0 (q := 10) (w1 := [(o, .inl (co, 1, .inr (.inl fo)))]) (w2 := []) (ws' := lwx o co fo a c (S) (gF S w g)) dL_isEnough_7 hM (by rw [e]; rfl) yv_X0_isEnough rfl gL_isEnough_X0_isEnough rfl 0 rfl rfl rfl rfl (Nat.le_of_ble_eq_true rfl) (by decide) rfl rfl rfl (tyx_in co c) ?_
    refine V_if_eqB (q := 13) (tgt := 17) dL_isEnough_10 (by decide) (fun cb => ?_) (fun cb => ?_)
    · skip
      refine V_lconst (q := 18) dL_isEnough_17 rfl rfl ?_
      refine V_last (q := 19) (ws' := lwx o co (vp_updL fo 0 (bL (enZ S (gF S w g) x.toBitVec.toNat d))) a c (S) (gF S w g)) dL_isEnough_18 0 0 rfl rfl 0 rfl (by decide) (by decide) (by rw [cb]; rfl) rfl ?_
      refine V_goto (tgt := 26) dL_isEnough_19 (by decide) ?_
      refine V_iconst (q := 27) dL_isEnough_26 rfl ?_
      exact V_iret dL_isEnough_27 rfl (by rw [e]; rfl) (by rw [if_pos e, if_pos e, if_pos e])
    · skip
      refine V_lconst (q := 14) dL_isEnough_13 rfl rfl ?_
      refine V_goto (tgt := 18) dL_isEnough_14 (by decide) ?_
      refine V_last (q := 19) (ws' := lwx o co (vp_updL fo 0 (bL (enZ S (gF S w g) x.toBitVec.toNat d))) a c (S) (gF S w g)) dL_isEnough_18 0 0 rfl rfl 0 rfl (by decide) (by decide) (by rw [cb]; rfl) rfl ?_
      refine V_goto (tgt := 26) dL_isEnough_19 (by decide) ?_
      refine V_iconst (q := 27) dL_isEnough_26 rfl ?_
      exact V_iret dL_isEnough_27 rfl (by rw [e]; rfl) (by rw [if_pos e, if_pos e, if_pos e])
  · rw [e] at hM
    refine V_aload (q := 2) dL_isEnough_0 4 rfl rfl ?_
    refine V_iconst (q := 3) dL_isEnough_2 rfl ?_
    refine V_aload_n (q := 4) dL_isEnough_3 0 rfl rfl ?_
    refine V_iload_n (q := 5) dL_isEnough_4 1 rfl rfl ?_
    refine V_iload_n (q := 6) dL_isEnough_5 2 rfl rfl ?_
    refine V_iload_n (q := 7) dL_isEnough_6 3 rfl rfl ?_
    refine V_callX1 (q := 10) (E := "java/lang/IllegalArgumentException") (w1 := [(o, .inl (co, 1, .inr (.inl fo)))]) (w2 := []) dL_isEnough_7 hM (by decide +kernel) yv_X0_isEnough rfl gL_isEnough_X0_isEnough rfl 0 rfl rfl rfl rfl (Nat.le_of_ble_eq_true rfl) (by decide) rfl (tyx_in co c) [] ⟨0, 19, 22, 13⟩ [] rfl (fun z hz => nomatch hz) (by decide) (by decide) (by decide +kernel) (by decide +kernel) (fun q9 => ?_)
    refine V_st (st' := [.ref q9]) rfl ?_
    refine V_astore (q := 24) (lv' := [(0, _), (1, _), (2, _), (3, _), (4, _), (5, _)]) dL_isEnough_22 (by decide) rfl rfl ?_
    refine V_iconst (q := 25) dL_isEnough_24 rfl ?_
    exact V_iret dL_isEnough_25 rfl (by rw [e]; rfl) (by rw [if_neg (by rw [e]; decide), if_neg (by rw [e]; decide), if_neg (by rw [e]; decide)])
set_option maxRecDepth 100000 in
set_option maxHeartbeats 4000000 in
theorem yw_bag : YW yL_bag wsL_bag 4 := ⟨_, _, _, _, _, rfl, by decide +kernel, by decide⟩
set_option maxRecDepth 100000 in
set_option maxHeartbeats 4000000 in
theorem w_bag {a : Nat → Nat} {c : Nat → ClassId} {S : St} {g : Nat → Nat} {o : Nat} {co : ClassId} {fo : Nat → Int64} (ho : Ok S) (d w : Int) (hg : ∀ j, g j < 4096) (rd : -2147483648 ≤ d ∧ d < 2147483648) (rw' : -2147483648 ≤ w ∧ w < 2147483648) : CtW yL_bag wsL_bag (tyx co c) [.ref (a 0), .int (iZ d), .int (iZ w), .ref o] (lwx o co fo a c S g) (iZ (cBag d w : Nat)) (lwx o co (if cBag d w = 0 then vp_updL fo 0 ((iZ ((bagZ S (gF S w g) d : Nat))).toInt64) else fo) a c (if cBag d w = 0 then S else S) (if cBag d w = 0 then gF S w g else g)) := by
  refine CtW_of (own := RL) (by decide) rfl rfl (Nat.le_of_ble_eq_true rfl) ?_
  refine V_lvq (lv' := [(0, _), (1, _), (2, _), (3, _)]) rfl ?_
  have hM := c_X0_bag (a := a) (c := c) (g := g) ho d w hg rd rw'
  rcases cBag_c d w with e | e
  · skip
    refine V_aload_n (q := 1) dL_bag_0 3 rfl rfl ?_
    refine V_iconst (q := 2) dL_bag_1 rfl ?_
    refine V_aload_n (q := 3) dL_bag_2 0 rfl rfl ?_
    refine V_iload_n (q := 4) dL_bag_3 1 rfl rfl ?_
    refine V_iload_n (q := 5) dL_bag_4 2 rfl rfl ?_
    refine V_callX0 (q := 8) (w1 := [(o, .inl (co, 1, .inr (.inl fo)))]) (w2 := []) (ws' := lwx o co fo a c (S) (gF S w g)) dL_bag_5 hM (by rw [e]; rfl) yv_X0_bag rfl gL_bag_X0_bag rfl 0 rfl rfl rfl rfl (Nat.le_of_ble_eq_true rfl) (by decide) rfl rfl rfl (tyx_in co c) ?_
    refine V_i2l (q := 9) dL_bag_8 rfl ?_
    refine V_last (q := 10) (ws' := lwx o co (vp_updL fo 0 ((iZ ((bagZ S (gF S w g) d : Nat))).toInt64)) a c (S) (gF S w g)) dL_bag_9 0 0 rfl rfl 0 rfl (by decide) (by decide) (rfl) rfl ?_
    refine V_goto (tgt := 17) dL_bag_10 (by decide) ?_
    refine V_iconst (q := 18) dL_bag_17 rfl ?_
    exact V_iret dL_bag_18 rfl (by rw [e]; rfl) (by rw [if_pos e, if_pos e, if_pos e])
  · rw [e] at hM
    refine V_aload_n (q := 1) dL_bag_0 3 rfl rfl ?_
    refine V_iconst (q := 2) dL_bag_1 rfl ?_
    refine V_aload_n (q := 3) dL_bag_2 0 rfl rfl ?_
    refine V_iload_n (q := 4) dL_bag_3 1 rfl rfl ?_
    refine V_iload_n (q := 5) dL_bag_4 2 rfl rfl ?_
    refine V_callX1 (q := 8) (E := "java/lang/IllegalArgumentException") (w1 := [(o, .inl (co, 1, .inr (.inl fo)))]) (w2 := []) dL_bag_5 hM (by decide +kernel) yv_X0_bag rfl gL_bag_X0_bag rfl 0 rfl rfl rfl rfl (Nat.le_of_ble_eq_true rfl) (by decide) rfl (tyx_in co c) [] ⟨0, 10, 13, 13⟩ [] rfl (fun z hz => nomatch hz) (by decide) (by decide) (by decide +kernel) (by decide +kernel) (fun q9 => ?_)
    refine V_st (st' := [.ref q9]) rfl ?_
    refine V_astore (q := 15) (lv' := [(0, _), (1, _), (2, _), (3, _), (4, _)]) dL_bag_13 (by decide) rfl rfl ?_
    refine V_iconst (q := 16) dL_bag_15 rfl ?_
    exact V_iret dL_bag_16 rfl (by rw [e]; rfl) (by rw [if_neg (by rw [e]; decide), if_neg (by rw [e]; decide), if_neg (by rw [e]; decide)])
