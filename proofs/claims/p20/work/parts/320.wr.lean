/-! what a call may end with; the catching methods of the law, by what they are asked -/
theorem cAdd_c (S : St) (k c w m r : Int) : cAdd S k c w m r = 0 ∨ cAdd S k c w m r = 1 ∨ cAdd S k c w m r = 2 := by
  unfold cAdd
  split
  · split
    · exact Or.inr (Or.inr rfl)
    · exact Or.inl rfl
  · exact Or.inr (Or.inl rfl)
theorem cHas_c (S : St) (x : Int) : cHas S x = 0 ∨ cHas S x = 1 := by
  unfold cHas
  split
  · exact Or.inl rfl
  · exact Or.inr rfl
theorem cClash_c (x y : Int) : cClash x y = 0 ∨ cClash x y = 1 := by
  unfold cClash
  split
  · exact Or.inl rfl
  · exact Or.inr rfl
theorem wrZ_c (S : St) (t b d : Int) : wrZ S t b d = 0 ∨ wrZ S t b d = 1 ∨ wrZ S t b d = 2 := by
  unfold wrZ
  split
  · split
    · exact Or.inl rfl
    · exact Or.inr (Or.inr rfl)
  · exact Or.inr (Or.inl rfl)
theorem cSoon_c (S : St) (t b p : Int) : cSoon S t b p = 0 ∨ cSoon S t b p = 1 ∨ cSoon S t b p = 2 := by
  unfold cSoon
  split
  · split
    · exact Or.inl rfl
    · exact Or.inr (Or.inr rfl)
  · exact wrZ_c S t b (-1)
theorem cWear_c (S : St) (t b d p : Int) : cWear S t b d p = 0 ∨ cWear S t b d p = 1 ∨ cWear S t b d p = 2 ∨ cWear S t b d p = 3 := by
  unfold cWear
  split
  · split
    · split
      · exact Or.inl rfl
      · exact Or.inr (Or.inr (Or.inr rfl))
    · exact Or.inr (Or.inr (Or.inl rfl))
  · rcases wrZ_c S t b d with h | h | h
    · exact Or.inl h
    · exact Or.inr (Or.inl h)
    · exact Or.inr (Or.inr (Or.inl h))
theorem cOut_c (w : Int) : cOut w = 0 ∨ cOut w = 1 := by
  unfold cOut
  split
  · exact Or.inl rfl
  · exact Or.inr rfl
theorem cAdds_c (S : St) (x w : Int) : cAdds S x w = 0 ∨ cAdds S x w = 1 ∨ cAdds S x w = 2 := by
  unfold cAdds
  split
  · split
    · exact Or.inl rfl
    · exact Or.inr (Or.inr rfl)
  · exact Or.inr (Or.inl rfl)
theorem cFor_c (w p : Int) : cFor w p = 0 ∨ cFor w p = 1 := by
  unfold cFor
  split
  · exact Or.inl rfl
  · exact Or.inr rfl
theorem cCare_c (r : Int) : cCare r = 0 ∨ cCare r = 1 := by
  unfold cCare
  split
  · exact Or.inl rfl
  · exact Or.inr rfl
theorem cPass_c (S : St) (d : Int) : cPass S d = 0 ∨ cPass S d = 1 ∨ cPass S d = 2 := by
  unfold cPass
  split
  · split
    · exact Or.inl rfl
    · exact Or.inr (Or.inr rfl)
  · exact Or.inr (Or.inl rfl)
theorem cEn_c (S : St) (x : Int32) (d w : Int) : cEn S x d w = 0 ∨ cEn S x d w = 1 := by
  unfold cEn
  split
  · exact Or.inl rfl
  · exact Or.inr rfl
theorem cBag_c (d w : Int) : cBag d w = 0 ∨ cBag d w = 1 := by
  unfold cBag
  split
  · exact Or.inl rfl
  · exact Or.inr rfl
set_option maxRecDepth 100000 in
set_option maxHeartbeats 8000000 in
theorem yw_add : YW yL_add wsL_add 6 := ⟨_, _, _, _, _, rfl, by decide +kernel, by decide⟩
set_option maxRecDepth 100000 in
set_option maxHeartbeats 8000000 in
theorem yw_outfit : YW yL_outfit wsL_outfit 6 := ⟨_, _, _, _, _, rfl, by decide +kernel, by decide⟩
set_option maxRecDepth 100000 in
set_option maxHeartbeats 8000000 in
theorem yw_of : YW yL_of wsL_of 4 := ⟨_, _, _, _, _, rfl, by decide +kernel, by decide⟩
set_option maxRecDepth 100000 in
set_option maxHeartbeats 8000000 in
theorem yw_yes : YW yL_yes wsL_yes 5 := ⟨_, _, _, _, _, rfl, by decide +kernel, by decide⟩
set_option maxRecDepth 100000 in
set_option maxHeartbeats 8000000 in
theorem u_add_no {a : Nat → Nat} {c : Nat → ClassId} {S : St} {b : Nat → Nat} {d : Nat → ClassId} {F : Nat → Nat → Int32} {g : Nat → Nat} (ho : Ok S) (hg : ∀ j, g j < 4096) (k p w m r : Int) (rk9 : -2147483648 ≤ k ∧ k < 2147483648) (rp9 : -2147483648 ≤ p ∧ p < 2147483648) (rw9 : -2147483648 ≤ w ∧ w < 2147483648) (rm9 : -2147483648 ≤ m ∧ m < 2147483648) (rr9 : -2147483648 ≤ r ∧ r < 2147483648) (e : cAdd S k p w m r = 1) : CtU yL_add wsL_add rmW (tyl c d) [.ref (a 0), .int (iZ k), .int (iZ p), .int (iZ w), .int (iZ m), .int (iZ r)] (wal a c S b d F g) (wal a c S b d F) (fun x => x = iZ (-982)) (fun _ => 1) 1 := by
  refine CtUW_of (own := RL) (by decide) rfl rfl (Nat.le_of_ble_eq_true rfl) ?_
  refine VB_lvq (lv' := [(0, _), (1, _), (2, _), (3, _), (4, _), (5, _)]) rfl ?_
  have hM := c_X0_add (a := a) (c := c) (g := g) ho k p w m r rk9 rp9 rw9 rm9 rr9
  rw [e] at hM
  refine VB_aload_n (q := 1) dL_add_0 0 rfl rfl ?_
  refine VB_iload_n (q := 2) dL_add_1 1 rfl rfl ?_
  refine VB_iload_n (q := 3) dL_add_2 2 rfl rfl ?_
  refine VB_iload_n (q := 4) dL_add_3 3 rfl rfl ?_
  refine VB_iload (q := 6) dL_add_4 4 rfl rfl ?_
  refine VB_iload (q := 8) dL_add_6 5 rfl rfl ?_
  refine VB_callX1 (q := 0) (E := "java/lang/IllegalArgumentException") (w1 := []) (w2 := [(b 0, .inl (d 0, 60, .inl (F 0))), (b 1, .inl (d 1, 12, .inl (F 1))), (b 2, .inl (d 2, 8, .inl (F 2))), (b 3, .inl (d 3, 4, .inl (F 3))), (b 4, .inl (d 4, 2, .inl (F 4)))]) dL_add_8 hM (by decide +kernel) yv_X0_add rfl gL_add_X0_add rfl 0 rfl rfl rfl rfl (Nat.le_of_ble_eq_true rfl) (by decide) (by decide) rfl (tyl_in c d) [] ⟨0, 11, 12, 15⟩ [⟨0, 11, 18, 17⟩] rfl (fun z hz => nomatch hz) (by decide) (by decide) (by decide +kernel) (by decide +kernel) (fun q9 => ?_)
  refine VB_st (st' := [.ref q9]) rfl ?_
  refine VB_astore (q := 14) (lv' := [(0, _), (1, _), (2, _), (3, _), (4, _), (5, _), (6, _)]) dL_add_12 (by decide) rfl rfl ?_
  refine VB_sipush (q := 17) dL_add_14 (by decide) rfl ?_
  exact VB_iretU dL_add_17 rfl (rfl) (Nat.le_refl _) hg rfl
set_option maxRecDepth 100000 in
set_option maxHeartbeats 8000000 in
theorem u_add {a : Nat → Nat} {c : Nat → ClassId} {S : St} {b : Nat → Nat} {d : Nat → ClassId} {F : Nat → Nat → Int32} {g : Nat → Nat} (ho : Ok S) (hg : ∀ j, g j < 4096) (k p w m r : Int) (rk9 : -2147483648 ≤ k ∧ k < 2147483648) (rp9 : -2147483648 ≤ p ∧ p < 2147483648) (rw9 : -2147483648 ≤ w ∧ w < 2147483648) (rm9 : -2147483648 ≤ m ∧ m < 2147483648) (rr9 : -2147483648 ≤ r ∧ r < 2147483648) (e : cAdd S k p w m r = 0) : CtU yL_add wsL_add rmW (tyl c d) [.ref (a 0), .int (iZ k), .int (iZ p), .int (iZ w), .int (iZ m), .int (iZ r)] (wal a c S b d F g) (wal a c (uA S k.toNat p.toNat w.toNat m.toNat r.toNat) b d F) (fun x => x = (iZ (sN S))) (fun _ => 0) 1 := by
  refine CtUW_of (own := RL) (by decide) rfl rfl (Nat.le_of_ble_eq_true rfl) ?_
  refine VB_lvq (lv' := [(0, _), (1, _), (2, _), (3, _), (4, _), (5, _)]) rfl ?_
  have hM := c_X0_add (a := a) (c := c) (g := g) ho k p w m r rk9 rp9 rw9 rm9 rr9
  refine VB_aload_n (q := 1) dL_add_0 0 rfl rfl ?_
  refine VB_iload_n (q := 2) dL_add_1 1 rfl rfl ?_
  refine VB_iload_n (q := 3) dL_add_2 2 rfl rfl ?_
  refine VB_iload_n (q := 4) dL_add_3 3 rfl rfl ?_
  refine VB_iload (q := 6) dL_add_4 4 rfl rfl ?_
  refine VB_iload (q := 8) dL_add_6 5 rfl rfl ?_
  refine VB_callX0 (q := 11) (w1 := []) (w2 := [(b 0, .inl (d 0, 60, .inl (F 0))), (b 1, .inl (d 1, 12, .inl (F 1))), (b 2, .inl (d 2, 8, .inl (F 2))), (b 3, .inl (d 3, 4, .inl (F 3))), (b 4, .inl (d 4, 2, .inl (F 4)))]) (ws' := wal a c (uA S k.toNat p.toNat w.toNat m.toNat r.toNat) b d F g) dL_add_8 hM (by rw [e]; rfl) yv_X0_add rfl gL_add_X0_add rfl 0 rfl rfl rfl rfl (Nat.le_of_ble_eq_true rfl) (by decide) (by decide) rfl xU_W rfl rfl (tyl_in c d) ?_
  exact VB_iretU dL_add_11 rfl (rfl) (Nat.zero_le _) hg rfl
set_option maxRecDepth 100000 in
set_option maxHeartbeats 8000000 in
theorem u_of0_no {a : Nat → Nat} {c : Nat → ClassId} {S : St} {b : Nat → Nat} {d : Nat → ClassId} {F : Nat → Nat → Int32} {g : Nat → Nat} (ho : Ok S) (hg : ∀ j, g j < 4096) (x y : Int) (rx9 : -2147483648 ≤ x ∧ x < 2147483648) (ry9 : -2147483648 ≤ y ∧ y < 2147483648) (e : cHas S x = 1) : CtU yL_of wsL_of rmW (tyl c d) [.ref (a 0), .int (iZ 0), .int (iZ x), .int (iZ y)] (wal a c S b d F g) (wal a c S b d F) (fun x => x = iZ (-981)) (fun _ => 1) 1 := by
  refine CtUW_of (own := RL) (by decide) rfl rfl (Nat.le_of_ble_eq_true rfl) ?_
  refine VB_lvq (lv' := [(0, _), (1, _), (2, _), (3, _)]) rfl ?_
  have hM := c_X0_giveAway (a := a) (c := c) (g := g) ho x rx9
  rw [e] at hM
  refine VB_iload_n (q := 1) dL_of_0 1 rfl rfl ?_
  refine VB_if_ne (q := 4) (tgt := 12) dL_of_1 (by decide) (by decide) (fun hc => absurd hc (by decide)) (fun _ => ?_)
  refine VB_aload_n (q := 5) dL_of_4 0 rfl rfl ?_
  refine VB_iload_n (q := 6) dL_of_5 2 rfl rfl ?_
  refine VB_callX1 (q := 0) (E := "java/lang/IndexOutOfBoundsException") (w1 := []) (w2 := [(b 0, .inl (d 0, 60, .inl (F 0))), (b 1, .inl (d 1, 12, .inl (F 1))), (b 2, .inl (d 2, 8, .inl (F 2))), (b 3, .inl (d 3, 4, .inl (F 3))), (b 4, .inl (d 4, 2, .inl (F 4)))]) dL_of_6 hM (by decide +kernel) yv_X0_giveAway rfl gL_of_X0_giveAway rfl 0 rfl rfl rfl rfl (Nat.le_of_ble_eq_true rfl) (by decide) (by decide) rfl (tyl_in c d) [] ⟨0, 133, 134, 30⟩ [⟨0, 133, 140, 15⟩, ⟨0, 133, 146, 17⟩] rfl (fun z hz => nomatch hz) (by decide) (by decide) (by decide +kernel) (by decide +kernel) (fun q9 => ?_)
  refine VB_st (st' := [.ref q9]) rfl ?_
  refine VB_astore (q := 136) (lv' := [(0, _), (1, _), (2, _), (3, _), (4, _)]) dL_of_134 (by decide) rfl rfl ?_
  refine VB_sipush (q := 139) dL_of_136 (by decide) rfl ?_
  exact VB_iretU dL_of_139 rfl (rfl) (Nat.le_refl _) hg rfl
set_option maxRecDepth 100000 in
set_option maxHeartbeats 8000000 in
theorem u_of1_no {a : Nat → Nat} {c : Nat → ClassId} {S : St} {b : Nat → Nat} {d : Nat → ClassId} {F : Nat → Nat → Int32} {g : Nat → Nat} (ho : Ok S) (hg : ∀ j, g j < 4096) (x y : Int) (rx9 : -2147483648 ≤ x ∧ x < 2147483648) (ry9 : -2147483648 ≤ y ∧ y < 2147483648) (e : cHas S x = 1) : CtU yL_of wsL_of rmW (tyl c d) [.ref (a 0), .int (iZ 1), .int (iZ x), .int (iZ y)] (wal a c S b d F g) (wal a c S b d F) (fun x => x = iZ (-981)) (fun _ => 1) 1 := by
  refine CtUW_of (own := RL) (by decide) rfl rfl (Nat.le_of_ble_eq_true rfl) ?_
  refine VB_lvq (lv' := [(0, _), (1, _), (2, _), (3, _)]) rfl ?_
  have hM := c_X0_left (a := a) (c := c) (g := g) ho x rx9
  rw [e] at hM
  refine VB_iload_n (q := 1) dL_of_0 1 rfl rfl ?_
  refine VB_if_ne (q := 4) (tgt := 12) dL_of_1 (by decide) (by decide) (fun _ => ?_) (fun hc => absurd hc (by decide))
  refine VB_iload_n (q := 13) dL_of_12 1 rfl rfl ?_
  refine VB_iconst (q := 14) dL_of_13 rfl ?_
  refine VB_icmp_ne (q := 17) (tgt := 25) dL_of_14 (by decide) (by decide) (by decide) (fun hc => absurd hc (by decide)) (fun _ => ?_)
  refine VB_aload_n (q := 18) dL_of_17 0 rfl rfl ?_
  refine VB_iload_n (q := 19) dL_of_18 2 rfl rfl ?_
  refine VB_callX1 (q := 0) (E := "java/lang/IndexOutOfBoundsException") (w1 := []) (w2 := [(b 0, .inl (d 0, 60, .inl (F 0))), (b 1, .inl (d 1, 12, .inl (F 1))), (b 2, .inl (d 2, 8, .inl (F 2))), (b 3, .inl (d 3, 4, .inl (F 3))), (b 4, .inl (d 4, 2, .inl (F 4)))]) dL_of_19 hM (by decide +kernel) yv_X0_left rfl gL_of_X0_left rfl 0 rfl rfl rfl rfl (Nat.le_of_ble_eq_true rfl) (by decide) (by decide) rfl (tyl_in c d) [] ⟨0, 133, 134, 30⟩ [⟨0, 133, 140, 15⟩, ⟨0, 133, 146, 17⟩] rfl (fun z hz => nomatch hz) (by decide) (by decide) (by decide +kernel) (by decide +kernel) (fun q9 => ?_)
  refine VB_st (st' := [.ref q9]) rfl ?_
  refine VB_astore (q := 136) (lv' := [(0, _), (1, _), (2, _), (3, _), (4, _)]) dL_of_134 (by decide) rfl rfl ?_
  refine VB_sipush (q := 139) dL_of_136 (by decide) rfl ?_
  exact VB_iretU dL_of_139 rfl (rfl) (Nat.le_refl _) hg rfl
set_option maxRecDepth 100000 in
set_option maxHeartbeats 8000000 in
theorem u_of1 {a : Nat → Nat} {c : Nat → ClassId} {S : St} {b : Nat → Nat} {d : Nat → ClassId} {F : Nat → Nat → Int32} {g : Nat → Nat} (ho : Ok S) (hg : ∀ j, g j < 4096) (x y : Int) (rx9 : -2147483648 ≤ x ∧ x < 2147483648) (ry9 : -2147483648 ≤ y ∧ y < 2147483648) : CtU yL_of wsL_of rmW (tyl c d) [.ref (a 0), .int (iZ 1), .int (iZ x), .int (iZ y)] (wal a c S b d F g) (wal a c S b d F) (fun _ => True) (fun _ => 0) 1 := by
  refine CtUW_of (own := RL) (by decide) rfl rfl (Nat.le_of_ble_eq_true rfl) ?_
  refine VB_lvq (lv' := [(0, _), (1, _), (2, _), (3, _)]) rfl ?_
  have hM := c_X0_left (a := a) (c := c) (g := g) ho x rx9
  rcases cHas_c S x with e | e
  · skip
    refine VB_iload_n (q := 1) dL_of_0 1 rfl rfl ?_
    refine VB_if_ne (q := 4) (tgt := 12) dL_of_1 (by decide) (by decide) (fun _ => ?_) (fun hc => absurd hc (by decide))
    refine VB_iload_n (q := 13) dL_of_12 1 rfl rfl ?_
    refine VB_iconst (q := 14) dL_of_13 rfl ?_
    refine VB_icmp_ne (q := 17) (tgt := 25) dL_of_14 (by decide) (by decide) (by decide) (fun hc => absurd hc (by decide)) (fun _ => ?_)
    refine VB_aload_n (q := 18) dL_of_17 0 rfl rfl ?_
    refine VB_iload_n (q := 19) dL_of_18 2 rfl rfl ?_
    refine VB_callX0 (q := 22) (w1 := []) (w2 := [(b 0, .inl (d 0, 60, .inl (F 0))), (b 1, .inl (d 1, 12, .inl (F 1))), (b 2, .inl (d 2, 8, .inl (F 2))), (b 3, .inl (d 3, 4, .inl (F 3))), (b 4, .inl (d 4, 2, .inl (F 4)))]) (ws' := wal a c S b d F g) dL_of_19 hM (by rw [e]; rfl) yv_X0_left rfl gL_of_X0_left rfl 0 rfl rfl rfl rfl (Nat.le_of_ble_eq_true rfl) (by decide) (by decide) rfl xU_W rfl rfl (tyl_in c d) ?_
    refine VB_uany (fun u19 => ?_)
    refine VB_goto (tgt := 133) dL_of_22 (by decide) ?_
    exact VB_iretU dL_of_133 rfl (trivial) (Nat.zero_le _) hg rfl
  · rw [e] at hM
    refine VB_iload_n (q := 1) dL_of_0 1 rfl rfl ?_
    refine VB_if_ne (q := 4) (tgt := 12) dL_of_1 (by decide) (by decide) (fun _ => ?_) (fun hc => absurd hc (by decide))
    refine VB_iload_n (q := 13) dL_of_12 1 rfl rfl ?_
    refine VB_iconst (q := 14) dL_of_13 rfl ?_
    refine VB_icmp_ne (q := 17) (tgt := 25) dL_of_14 (by decide) (by decide) (by decide) (fun hc => absurd hc (by decide)) (fun _ => ?_)
    refine VB_aload_n (q := 18) dL_of_17 0 rfl rfl ?_
    refine VB_iload_n (q := 19) dL_of_18 2 rfl rfl ?_
    refine VB_callX1 (q := 0) (E := "java/lang/IndexOutOfBoundsException") (w1 := []) (w2 := [(b 0, .inl (d 0, 60, .inl (F 0))), (b 1, .inl (d 1, 12, .inl (F 1))), (b 2, .inl (d 2, 8, .inl (F 2))), (b 3, .inl (d 3, 4, .inl (F 3))), (b 4, .inl (d 4, 2, .inl (F 4)))]) dL_of_19 hM (by decide +kernel) yv_X0_left rfl gL_of_X0_left rfl 0 rfl rfl rfl rfl (Nat.le_of_ble_eq_true rfl) (by decide) (by decide) rfl (tyl_in c d) [] ⟨0, 133, 134, 30⟩ [⟨0, 133, 140, 15⟩, ⟨0, 133, 146, 17⟩] rfl (fun z hz => nomatch hz) (by decide) (by decide) (by decide +kernel) (by decide +kernel) (fun q9 => ?_)
    refine VB_st (st' := [.ref q9]) rfl ?_
    refine VB_astore (q := 136) (lv' := [(0, _), (1, _), (2, _), (3, _), (4, _)]) dL_of_134 (by decide) rfl rfl ?_
    refine VB_sipush (q := 139) dL_of_136 (by decide) rfl ?_
    exact VB_iretU dL_of_139 rfl (trivial) (Nat.zero_le _) hg rfl
set_option maxRecDepth 100000 in
set_option maxHeartbeats 8000000 in
theorem u_of2_no {a : Nat → Nat} {c : Nat → ClassId} {S : St} {b : Nat → Nat} {d : Nat → ClassId} {F : Nat → Nat → Int32} {g : Nat → Nat} (ho : Ok S) (hg : ∀ j, g j < 4096) (x y : Int) (rx9 : -2147483648 ≤ x ∧ x < 2147483648) (ry9 : -2147483648 ≤ y ∧ y < 2147483648) (e : cOut x = 1) : CtU yL_of wsL_of rmW (tyl c d) [.ref (a 0), .int (iZ 2), .int (iZ x), .int (iZ y)] (wal a c S b d F g) (wal a c S b d F) (fun x => x = iZ (-982)) (fun _ => 1) 1 := by
  refine CtUW_of (own := RL) (by decide) rfl rfl (Nat.le_of_ble_eq_true rfl) ?_
  refine VB_lvq (lv' := [(0, _), (1, _), (2, _), (3, _)]) rfl ?_
  have hM := c_X0_outfits (a := a) (c := c) (g := g) ho x rx9
  rw [e] at hM
  refine VB_iload_n (q := 1) dL_of_0 1 rfl rfl ?_
  refine VB_if_ne (q := 4) (tgt := 12) dL_of_1 (by decide) (by decide) (fun _ => ?_) (fun hc => absurd hc (by decide))
  refine VB_iload_n (q := 13) dL_of_12 1 rfl rfl ?_
  refine VB_iconst (q := 14) dL_of_13 rfl ?_
  refine VB_icmp_ne (q := 17) (tgt := 25) dL_of_14 (by decide) (by decide) (by decide) (fun _ => ?_) (fun hc => absurd hc (by decide))
  refine VB_iload_n (q := 26) dL_of_25 1 rfl rfl ?_
  refine VB_iconst (q := 27) dL_of_26 rfl ?_
  refine VB_icmp_ne (q := 30) (tgt := 38) dL_of_27 (by decide) (by decide) (by decide) (fun hc => absurd hc (by decide)) (fun _ => ?_)
  refine VB_aload_n (q := 31) dL_of_30 0 rfl rfl ?_
  refine VB_iload_n (q := 32) dL_of_31 2 rfl rfl ?_
  refine VB_callX1 (q := 0) (E := "java/lang/IllegalArgumentException") (w1 := []) (w2 := [(b 0, .inl (d 0, 60, .inl (F 0))), (b 1, .inl (d 1, 12, .inl (F 1))), (b 2, .inl (d 2, 8, .inl (F 2))), (b 3, .inl (d 3, 4, .inl (F 3))), (b 4, .inl (d 4, 2, .inl (F 4)))]) dL_of_32 hM (by decide +kernel) yv_X0_outfits rfl gL_of_X0_outfits rfl 0 rfl rfl rfl rfl (Nat.le_of_ble_eq_true rfl) (by decide) (by decide) rfl (tyl_in c d) [⟨0, 133, 134, 30⟩] ⟨0, 133, 140, 15⟩ [⟨0, 133, 146, 17⟩] rfl (by intro z hz; simp only [List.mem_cons, List.not_mem_nil, or_false] at hz; subst hz; exact ⟨by decide, "java/lang/IndexOutOfBoundsException", by decide +kernel, by decide +kernel⟩) (by decide) (by decide) (by decide +kernel) (by decide +kernel) (fun q9 => ?_)
  refine VB_st (st' := [.ref q9]) rfl ?_
  refine VB_astore (q := 142) (lv' := [(0, _), (1, _), (2, _), (3, _), (4, _)]) dL_of_140 (by decide) rfl rfl ?_
  refine VB_sipush (q := 145) dL_of_142 (by decide) rfl ?_
  exact VB_iretU dL_of_145 rfl (rfl) (Nat.le_refl _) hg rfl
set_option maxRecDepth 100000 in
set_option maxHeartbeats 8000000 in
theorem u_of3_no {a : Nat → Nat} {c : Nat → ClassId} {S : St} {b : Nat → Nat} {d : Nat → ClassId} {F : Nat → Nat → Int32} {g : Nat → Nat} (ho : Ok S) (hg : ∀ j, g j < 4096) (x y : Int) (rx9 : -2147483648 ≤ x ∧ x < 2147483648) (ry9 : -2147483648 ≤ y ∧ y < 2147483648) (e : cAdds S x y = 1) : CtU yL_of wsL_of rmW (tyl c d) [.ref (a 0), .int (iZ 3), .int (iZ x), .int (iZ y)] (wal a c S b d F g) (wal a c S b d F) (fun x => x = iZ (-981)) (fun _ => 1) 1 := by
  refine CtUW_of (own := RL) (by decide) rfl rfl (Nat.le_of_ble_eq_true rfl) ?_
  refine VB_lvq (lv' := [(0, _), (1, _), (2, _), (3, _)]) rfl ?_
  have hM := c_X0_adds (a := a) (c := c) (g := g) ho x y rx9 ry9
  rw [e] at hM
  refine VB_iload_n (q := 1) dL_of_0 1 rfl rfl ?_
  refine VB_if_ne (q := 4) (tgt := 12) dL_of_1 (by decide) (by decide) (fun _ => ?_) (fun hc => absurd hc (by decide))
  refine VB_iload_n (q := 13) dL_of_12 1 rfl rfl ?_
  refine VB_iconst (q := 14) dL_of_13 rfl ?_
  refine VB_icmp_ne (q := 17) (tgt := 25) dL_of_14 (by decide) (by decide) (by decide) (fun _ => ?_) (fun hc => absurd hc (by decide))
  refine VB_iload_n (q := 26) dL_of_25 1 rfl rfl ?_
  refine VB_iconst (q := 27) dL_of_26 rfl ?_
  refine VB_icmp_ne (q := 30) (tgt := 38) dL_of_27 (by decide) (by decide) (by decide) (fun _ => ?_) (fun hc => absurd hc (by decide))
  refine VB_iload_n (q := 39) dL_of_38 1 rfl rfl ?_
  refine VB_iconst (q := 40) dL_of_39 rfl ?_
  refine VB_icmp_ne (q := 43) (tgt := 52) dL_of_40 (by decide) (by decide) (by decide) (fun hc => absurd hc (by decide)) (fun _ => ?_)
  refine VB_aload_n (q := 44) dL_of_43 0 rfl rfl ?_
  refine VB_iload_n (q := 45) dL_of_44 2 rfl rfl ?_
  refine VB_iload_n (q := 46) dL_of_45 3 rfl rfl ?_
  refine VB_callX1 (q := 0) (E := "java/lang/IndexOutOfBoundsException") (w1 := []) (w2 := [(b 0, .inl (d 0, 60, .inl (F 0))), (b 1, .inl (d 1, 12, .inl (F 1))), (b 2, .inl (d 2, 8, .inl (F 2))), (b 3, .inl (d 3, 4, .inl (F 3))), (b 4, .inl (d 4, 2, .inl (F 4)))]) dL_of_46 hM (by decide +kernel) yv_X0_adds rfl gL_of_X0_adds rfl 0 rfl rfl rfl rfl (Nat.le_of_ble_eq_true rfl) (by decide) (by decide) rfl (tyl_in c d) [] ⟨0, 133, 134, 30⟩ [⟨0, 133, 140, 15⟩, ⟨0, 133, 146, 17⟩] rfl (fun z hz => nomatch hz) (by decide) (by decide) (by decide +kernel) (by decide +kernel) (fun q9 => ?_)
  refine VB_st (st' := [.ref q9]) rfl ?_
  refine VB_astore (q := 136) (lv' := [(0, _), (1, _), (2, _), (3, _), (4, _)]) dL_of_134 (by decide) rfl rfl ?_
  refine VB_sipush (q := 139) dL_of_136 (by decide) rfl ?_
  exact VB_iretU dL_of_139 rfl (rfl) (Nat.le_refl _) hg rfl
set_option maxRecDepth 100000 in
set_option maxHeartbeats 8000000 in
theorem u_of4_no {a : Nat → Nat} {c : Nat → ClassId} {S : St} {b : Nat → Nat} {d : Nat → ClassId} {F : Nat → Nat → Int32} {g : Nat → Nat} (ho : Ok S) (hg : ∀ j, g j < 4096) (x y : Int) (rx9 : -2147483648 ≤ x ∧ x < 2147483648) (ry9 : -2147483648 ≤ y ∧ y < 2147483648) (e : cFor x y = 1) : CtU yL_of wsL_of rmW (tyl c d) [.ref (a 0), .int (iZ 4), .int (iZ x), .int (iZ y)] (wal a c S b d F g) (wal a c S b d F) (fun x => x = iZ (-982)) (fun _ => 1) 1 := by
  refine CtUW_of (own := RL) (by decide) rfl rfl (Nat.le_of_ble_eq_true rfl) ?_
  refine VB_lvq (lv' := [(0, _), (1, _), (2, _), (3, _)]) rfl ?_
  have hM := c_X0_outfitFor (a := a) (c := c) (g := g) ho x y rx9 ry9
  rw [e] at hM
  refine VB_iload_n (q := 1) dL_of_0 1 rfl rfl ?_
  refine VB_if_ne (q := 4) (tgt := 12) dL_of_1 (by decide) (by decide) (fun _ => ?_) (fun hc => absurd hc (by decide))
  refine VB_iload_n (q := 13) dL_of_12 1 rfl rfl ?_
  refine VB_iconst (q := 14) dL_of_13 rfl ?_
  refine VB_icmp_ne (q := 17) (tgt := 25) dL_of_14 (by decide) (by decide) (by decide) (fun _ => ?_) (fun hc => absurd hc (by decide))
  refine VB_iload_n (q := 26) dL_of_25 1 rfl rfl ?_
  refine VB_iconst (q := 27) dL_of_26 rfl ?_
  refine VB_icmp_ne (q := 30) (tgt := 38) dL_of_27 (by decide) (by decide) (by decide) (fun _ => ?_) (fun hc => absurd hc (by decide))
  refine VB_iload_n (q := 39) dL_of_38 1 rfl rfl ?_
  refine VB_iconst (q := 40) dL_of_39 rfl ?_
  refine VB_icmp_ne (q := 43) (tgt := 52) dL_of_40 (by decide) (by decide) (by decide) (fun _ => ?_) (fun hc => absurd hc (by decide))
  refine VB_iload_n (q := 53) dL_of_52 1 rfl rfl ?_
  refine VB_iconst (q := 54) dL_of_53 rfl ?_
  refine VB_icmp_ne (q := 57) (tgt := 66) dL_of_54 (by decide) (by decide) (by decide) (fun hc => absurd hc (by decide)) (fun _ => ?_)
  refine VB_aload_n (q := 58) dL_of_57 0 rfl rfl ?_
  refine VB_iload_n (q := 59) dL_of_58 2 rfl rfl ?_
  refine VB_iload_n (q := 60) dL_of_59 3 rfl rfl ?_
  refine VB_callX1 (q := 0) (E := "java/lang/IllegalArgumentException") (w1 := []) (w2 := [(b 0, .inl (d 0, 60, .inl (F 0))), (b 1, .inl (d 1, 12, .inl (F 1))), (b 2, .inl (d 2, 8, .inl (F 2))), (b 3, .inl (d 3, 4, .inl (F 3))), (b 4, .inl (d 4, 2, .inl (F 4)))]) dL_of_60 hM (by decide +kernel) yv_X0_outfitFor rfl gL_of_X0_outfitFor rfl 0 rfl rfl rfl rfl (Nat.le_of_ble_eq_true rfl) (by decide) (by decide) rfl (tyl_in c d) [⟨0, 133, 134, 30⟩] ⟨0, 133, 140, 15⟩ [⟨0, 133, 146, 17⟩] rfl (by intro z hz; simp only [List.mem_cons, List.not_mem_nil, or_false] at hz; subst hz; exact ⟨by decide, "java/lang/IndexOutOfBoundsException", by decide +kernel, by decide +kernel⟩) (by decide) (by decide) (by decide +kernel) (by decide +kernel) (fun q9 => ?_)
  refine VB_st (st' := [.ref q9]) rfl ?_
  refine VB_astore (q := 142) (lv' := [(0, _), (1, _), (2, _), (3, _), (4, _)]) dL_of_140 (by decide) rfl rfl ?_
  refine VB_sipush (q := 145) dL_of_142 (by decide) rfl ?_
  exact VB_iretU dL_of_145 rfl (rfl) (Nat.le_refl _) hg rfl
set_option maxRecDepth 100000 in
set_option maxHeartbeats 8000000 in
theorem u_of5_no {a : Nat → Nat} {c : Nat → ClassId} {S : St} {b : Nat → Nat} {d : Nat → ClassId} {F : Nat → Nat → Int32} {g : Nat → Nat} (ho : Ok S) (hg : ∀ j, g j < 4096) (x : Int) (rx9 : -2147483648 ≤ x ∧ x < 2147483648) (e : cCare x = 1) : CtU yL_of wsL_of rmW (tyl c d) [.ref (a 0), .int (iZ 5), .int (iZ x), .int (iZ 0)] (wal a c S b d F g) (wal a c S b d F) (fun x => x = iZ (-982)) (fun _ => 1) 1 := by
  refine CtUW_of (own := RL) (by decide) rfl rfl (Nat.le_of_ble_eq_true rfl) ?_
  refine VB_lvq (lv' := [(0, _), (1, _), (2, _), (3, _)]) rfl ?_
  have hM := c_X0_load (a := a) (c := c) (g := g) ho x false rx9
  rw [e] at hM
  refine VB_iload_n (q := 1) dL_of_0 1 rfl rfl ?_
  refine VB_if_ne (q := 4) (tgt := 12) dL_of_1 (by decide) (by decide) (fun _ => ?_) (fun hc => absurd hc (by decide))
  refine VB_iload_n (q := 13) dL_of_12 1 rfl rfl ?_
  refine VB_iconst (q := 14) dL_of_13 rfl ?_
  refine VB_icmp_ne (q := 17) (tgt := 25) dL_of_14 (by decide) (by decide) (by decide) (fun _ => ?_) (fun hc => absurd hc (by decide))
  refine VB_iload_n (q := 26) dL_of_25 1 rfl rfl ?_
  refine VB_iconst (q := 27) dL_of_26 rfl ?_
  refine VB_icmp_ne (q := 30) (tgt := 38) dL_of_27 (by decide) (by decide) (by decide) (fun _ => ?_) (fun hc => absurd hc (by decide))
  refine VB_iload_n (q := 39) dL_of_38 1 rfl rfl ?_
  refine VB_iconst (q := 40) dL_of_39 rfl ?_
  refine VB_icmp_ne (q := 43) (tgt := 52) dL_of_40 (by decide) (by decide) (by decide) (fun _ => ?_) (fun hc => absurd hc (by decide))
  refine VB_iload_n (q := 53) dL_of_52 1 rfl rfl ?_
  refine VB_iconst (q := 54) dL_of_53 rfl ?_
  refine VB_icmp_ne (q := 57) (tgt := 66) dL_of_54 (by decide) (by decide) (by decide) (fun _ => ?_) (fun hc => absurd hc (by decide))
  refine VB_iload_n (q := 67) dL_of_66 1 rfl rfl ?_
  refine VB_iconst (q := 68) dL_of_67 rfl ?_
  refine VB_icmp_ne (q := 71) (tgt := 89) dL_of_68 (by decide) (by decide) (by decide) (fun hc => absurd hc (by decide)) (fun _ => ?_)
  refine VB_aload_n (q := 72) dL_of_71 0 rfl rfl ?_
  refine VB_iload_n (q := 73) dL_of_72 2 rfl rfl ?_
  refine VB_iload_n (q := 74) dL_of_73 3 rfl rfl ?_
  refine VB_iconst (q := 75) dL_of_74 rfl ?_
  refine VB_icmp_ne (q := 78) (tgt := 82) dL_of_75 (by decide) (by decide) (by decide) (fun _ => ?_) (fun hc => absurd hc (by decide))
  refine VB_iconst (q := 83) dL_of_82 rfl ?_
  refine VB_callX1 (q := 0) (E := "java/lang/IllegalArgumentException") (w1 := []) (w2 := [(b 0, .inl (d 0, 60, .inl (F 0))), (b 1, .inl (d 1, 12, .inl (F 1))), (b 2, .inl (d 2, 8, .inl (F 2))), (b 3, .inl (d 3, 4, .inl (F 3))), (b 4, .inl (d 4, 2, .inl (F 4)))]) dL_of_83 hM (by decide +kernel) yv_X0_load rfl gL_of_X0_load rfl 0 rfl rfl rfl rfl (Nat.le_of_ble_eq_true rfl) (by decide) (by decide) rfl (tyl_in c d) [⟨0, 133, 134, 30⟩] ⟨0, 133, 140, 15⟩ [⟨0, 133, 146, 17⟩] rfl (by intro z hz; simp only [List.mem_cons, List.not_mem_nil, or_false] at hz; subst hz; exact ⟨by decide, "java/lang/IndexOutOfBoundsException", by decide +kernel, by decide +kernel⟩) (by decide) (by decide) (by decide +kernel) (by decide +kernel) (fun q9 => ?_)
  refine VB_st (st' := [.ref q9]) rfl ?_
  refine VB_astore (q := 142) (lv' := [(0, _), (1, _), (2, _), (3, _), (4, _)]) dL_of_140 (by decide) rfl rfl ?_
  refine VB_sipush (q := 145) dL_of_142 (by decide) rfl ?_
  exact VB_iretU dL_of_145 rfl (rfl) (Nat.le_refl _) hg rfl
set_option maxRecDepth 100000 in
set_option maxHeartbeats 8000000 in
theorem u_of6_no {a : Nat → Nat} {c : Nat → ClassId} {S : St} {b : Nat → Nat} {d : Nat → ClassId} {F : Nat → Nat → Int32} {g : Nat → Nat} (ho : Ok S) (hg : ∀ j, g j < 4096) (x : Int) (rx9 : -2147483648 ≤ x ∧ x < 2147483648) (e : cCare x = 1) : CtU yL_of wsL_of rmW (tyl c d) [.ref (a 0), .int (iZ 6), .int (iZ x), .int (iZ 0)] (wal a c S b d F g) (wal a c S b d F) (fun x => x = iZ (-982)) (fun _ => 1) 1 := by
  refine CtUW_of (own := RL) (by decide) rfl rfl (Nat.le_of_ble_eq_true rfl) ?_
  refine VB_lvq (lv' := [(0, _), (1, _), (2, _), (3, _)]) rfl ?_
  have hM := c_X0_wash (a := a) (c := c) (g := g) ho x false rx9
  rw [e] at hM
  refine VB_iload_n (q := 1) dL_of_0 1 rfl rfl ?_
  refine VB_if_ne (q := 4) (tgt := 12) dL_of_1 (by decide) (by decide) (fun _ => ?_) (fun hc => absurd hc (by decide))
  refine VB_iload_n (q := 13) dL_of_12 1 rfl rfl ?_
  refine VB_iconst (q := 14) dL_of_13 rfl ?_
  refine VB_icmp_ne (q := 17) (tgt := 25) dL_of_14 (by decide) (by decide) (by decide) (fun _ => ?_) (fun hc => absurd hc (by decide))
  refine VB_iload_n (q := 26) dL_of_25 1 rfl rfl ?_
  refine VB_iconst (q := 27) dL_of_26 rfl ?_
  refine VB_icmp_ne (q := 30) (tgt := 38) dL_of_27 (by decide) (by decide) (by decide) (fun _ => ?_) (fun hc => absurd hc (by decide))
  refine VB_iload_n (q := 39) dL_of_38 1 rfl rfl ?_
  refine VB_iconst (q := 40) dL_of_39 rfl ?_
  refine VB_icmp_ne (q := 43) (tgt := 52) dL_of_40 (by decide) (by decide) (by decide) (fun _ => ?_) (fun hc => absurd hc (by decide))
  refine VB_iload_n (q := 53) dL_of_52 1 rfl rfl ?_
  refine VB_iconst (q := 54) dL_of_53 rfl ?_
  refine VB_icmp_ne (q := 57) (tgt := 66) dL_of_54 (by decide) (by decide) (by decide) (fun _ => ?_) (fun hc => absurd hc (by decide))
  refine VB_iload_n (q := 67) dL_of_66 1 rfl rfl ?_
  refine VB_iconst (q := 68) dL_of_67 rfl ?_
  refine VB_icmp_ne (q := 71) (tgt := 89) dL_of_68 (by decide) (by decide) (by decide) (fun _ => ?_) (fun hc => absurd hc (by decide))
  refine VB_iload_n (q := 90) dL_of_89 1 rfl rfl ?_
  refine VB_bipush (q := 92) dL_of_90 (by decide) rfl ?_
  refine VB_icmp_ne (q := 95) (tgt := 113) dL_of_92 (by decide) (by decide) (by decide) (fun hc => absurd hc (by decide)) (fun _ => ?_)
  refine VB_aload_n (q := 96) dL_of_95 0 rfl rfl ?_
  refine VB_iload_n (q := 97) dL_of_96 2 rfl rfl ?_
  refine VB_iload_n (q := 98) dL_of_97 3 rfl rfl ?_
  refine VB_iconst (q := 99) dL_of_98 rfl ?_
  refine VB_icmp_ne (q := 102) (tgt := 106) dL_of_99 (by decide) (by decide) (by decide) (fun _ => ?_) (fun hc => absurd hc (by decide))
  refine VB_iconst (q := 107) dL_of_106 rfl ?_
  refine VB_callX1 (q := 0) (E := "java/lang/IllegalArgumentException") (w1 := []) (w2 := [(b 0, .inl (d 0, 60, .inl (F 0))), (b 1, .inl (d 1, 12, .inl (F 1))), (b 2, .inl (d 2, 8, .inl (F 2))), (b 3, .inl (d 3, 4, .inl (F 3))), (b 4, .inl (d 4, 2, .inl (F 4)))]) dL_of_107 hM (by decide +kernel) yv_X0_wash rfl gL_of_X0_wash rfl 0 rfl rfl rfl rfl (Nat.le_of_ble_eq_true rfl) (by decide) (by decide) rfl (tyl_in c d) [⟨0, 133, 134, 30⟩] ⟨0, 133, 140, 15⟩ [⟨0, 133, 146, 17⟩] rfl (by intro z hz; simp only [List.mem_cons, List.not_mem_nil, or_false] at hz; subst hz; exact ⟨by decide, "java/lang/IndexOutOfBoundsException", by decide +kernel, by decide +kernel⟩) (by decide) (by decide) (by decide +kernel) (by decide +kernel) (fun q9 => ?_)
  refine VB_st (st' := [.ref q9]) rfl ?_
  refine VB_astore (q := 142) (lv' := [(0, _), (1, _), (2, _), (3, _), (4, _)]) dL_of_140 (by decide) rfl rfl ?_
  refine VB_sipush (q := 145) dL_of_142 (by decide) rfl ?_
  exact VB_iretU dL_of_145 rfl (rfl) (Nat.le_refl _) hg rfl
set_option maxRecDepth 100000 in
set_option maxHeartbeats 8000000 in
theorem u_of7_no {a : Nat → Nat} {c : Nat → ClassId} {S : St} {b : Nat → Nat} {d : Nat → ClassId} {F : Nat → Nat → Int32} {g : Nat → Nat} (ho : Ok S) (hg : ∀ j, g j < 4096) (x y : Int) (rx9 : -2147483648 ≤ x ∧ x < 2147483648) (ry9 : -2147483648 ≤ y ∧ y < 2147483648) (e : cPass S x = 1) : CtU yL_of wsL_of rmW (tyl c d) [.ref (a 0), .int (iZ 7), .int (iZ x), .int (iZ y)] (wal a c S b d F g) (wal a c S b d F) (fun x => x = iZ (-982)) (fun _ => 1) 1 := by
  refine CtUW_of (own := RL) (by decide) rfl rfl (Nat.le_of_ble_eq_true rfl) ?_
  refine VB_lvq (lv' := [(0, _), (1, _), (2, _), (3, _)]) rfl ?_
  have hM := c_X0_pass (a := a) (c := c) (g := g) ho x rx9
  rw [e] at hM
  refine VB_iload_n (q := 1) dL_of_0 1 rfl rfl ?_
  refine VB_if_ne (q := 4) (tgt := 12) dL_of_1 (by decide) (by decide) (fun _ => ?_) (fun hc => absurd hc (by decide))
  refine VB_iload_n (q := 13) dL_of_12 1 rfl rfl ?_
  refine VB_iconst (q := 14) dL_of_13 rfl ?_
  refine VB_icmp_ne (q := 17) (tgt := 25) dL_of_14 (by decide) (by decide) (by decide) (fun _ => ?_) (fun hc => absurd hc (by decide))
  refine VB_iload_n (q := 26) dL_of_25 1 rfl rfl ?_
  refine VB_iconst (q := 27) dL_of_26 rfl ?_
  refine VB_icmp_ne (q := 30) (tgt := 38) dL_of_27 (by decide) (by decide) (by decide) (fun _ => ?_) (fun hc => absurd hc (by decide))
  refine VB_iload_n (q := 39) dL_of_38 1 rfl rfl ?_
  refine VB_iconst (q := 40) dL_of_39 rfl ?_
  refine VB_icmp_ne (q := 43) (tgt := 52) dL_of_40 (by decide) (by decide) (by decide) (fun _ => ?_) (fun hc => absurd hc (by decide))
  refine VB_iload_n (q := 53) dL_of_52 1 rfl rfl ?_
  refine VB_iconst (q := 54) dL_of_53 rfl ?_
  refine VB_icmp_ne (q := 57) (tgt := 66) dL_of_54 (by decide) (by decide) (by decide) (fun _ => ?_) (fun hc => absurd hc (by decide))
  refine VB_iload_n (q := 67) dL_of_66 1 rfl rfl ?_
  refine VB_iconst (q := 68) dL_of_67 rfl ?_
  refine VB_icmp_ne (q := 71) (tgt := 89) dL_of_68 (by decide) (by decide) (by decide) (fun _ => ?_) (fun hc => absurd hc (by decide))
  refine VB_iload_n (q := 90) dL_of_89 1 rfl rfl ?_
  refine VB_bipush (q := 92) dL_of_90 (by decide) rfl ?_
  refine VB_icmp_ne (q := 95) (tgt := 113) dL_of_92 (by decide) (by decide) (by decide) (fun _ => ?_) (fun hc => absurd hc (by decide))
  refine VB_iload_n (q := 114) dL_of_113 1 rfl rfl ?_
  refine VB_bipush (q := 116) dL_of_114 (by decide) rfl ?_
  refine VB_icmp_ne (q := 119) (tgt := 127) dL_of_116 (by decide) (by decide) (by decide) (fun hc => absurd hc (by decide)) (fun _ => ?_)
  refine VB_aload_n (q := 120) dL_of_119 0 rfl rfl ?_
  refine VB_iload_n (q := 121) dL_of_120 2 rfl rfl ?_
  refine VB_callX1 (q := 0) (E := "java/lang/IllegalArgumentException") (w1 := []) (w2 := [(b 0, .inl (d 0, 60, .inl (F 0))), (b 1, .inl (d 1, 12, .inl (F 1))), (b 2, .inl (d 2, 8, .inl (F 2))), (b 3, .inl (d 3, 4, .inl (F 3))), (b 4, .inl (d 4, 2, .inl (F 4)))]) dL_of_121 hM (by decide +kernel) yv_X0_pass rfl gL_of_X0_pass rfl 0 rfl rfl rfl rfl (Nat.le_of_ble_eq_true rfl) (by decide) (by decide) rfl (tyl_in c d) [⟨0, 133, 134, 30⟩] ⟨0, 133, 140, 15⟩ [⟨0, 133, 146, 17⟩] rfl (by intro z hz; simp only [List.mem_cons, List.not_mem_nil, or_false] at hz; subst hz; exact ⟨by decide, "java/lang/IndexOutOfBoundsException", by decide +kernel, by decide +kernel⟩) (by decide) (by decide) (by decide +kernel) (by decide +kernel) (fun q9 => ?_)
  refine VB_st (st' := [.ref q9]) rfl ?_
  refine VB_astore (q := 142) (lv' := [(0, _), (1, _), (2, _), (3, _), (4, _)]) dL_of_140 (by decide) rfl rfl ?_
  refine VB_sipush (q := 145) dL_of_142 (by decide) rfl ?_
  exact VB_iretU dL_of_145 rfl (rfl) (Nat.le_refl _) hg rfl
set_option maxRecDepth 100000 in
set_option maxHeartbeats 8000000 in
theorem u_of8_no {a : Nat → Nat} {c : Nat → ClassId} {S : St} {b : Nat → Nat} {d : Nat → ClassId} {F : Nat → Nat → Int32} {g : Nat → Nat} (ho : Ok S) (hg : ∀ j, g j < 4096) (x y : Int) (rx9 : -2147483648 ≤ x ∧ x < 2147483648) (ry9 : -2147483648 ≤ y ∧ y < 2147483648) (e : cBag x y = 1) : CtU yL_of wsL_of rmW (tyl c d) [.ref (a 0), .int (iZ 8), .int (iZ x), .int (iZ y)] (wal a c S b d F g) (wal a c S b d F) (fun x => x = iZ (-982)) (fun _ => 1) 1 := by
  refine CtUW_of (own := RL) (by decide) rfl rfl (Nat.le_of_ble_eq_true rfl) ?_
  refine VB_lvq (lv' := [(0, _), (1, _), (2, _), (3, _)]) rfl ?_
  have hM := c_X0_bag (a := a) (c := c) (g := g) ho x y hg rx9 ry9
  rw [e] at hM
  refine VB_iload_n (q := 1) dL_of_0 1 rfl rfl ?_
  refine VB_if_ne (q := 4) (tgt := 12) dL_of_1 (by decide) (by decide) (fun _ => ?_) (fun hc => absurd hc (by decide))
  refine VB_iload_n (q := 13) dL_of_12 1 rfl rfl ?_
  refine VB_iconst (q := 14) dL_of_13 rfl ?_
  refine VB_icmp_ne (q := 17) (tgt := 25) dL_of_14 (by decide) (by decide) (by decide) (fun _ => ?_) (fun hc => absurd hc (by decide))
  refine VB_iload_n (q := 26) dL_of_25 1 rfl rfl ?_
  refine VB_iconst (q := 27) dL_of_26 rfl ?_
  refine VB_icmp_ne (q := 30) (tgt := 38) dL_of_27 (by decide) (by decide) (by decide) (fun _ => ?_) (fun hc => absurd hc (by decide))
  refine VB_iload_n (q := 39) dL_of_38 1 rfl rfl ?_
  refine VB_iconst (q := 40) dL_of_39 rfl ?_
  refine VB_icmp_ne (q := 43) (tgt := 52) dL_of_40 (by decide) (by decide) (by decide) (fun _ => ?_) (fun hc => absurd hc (by decide))
  refine VB_iload_n (q := 53) dL_of_52 1 rfl rfl ?_
  refine VB_iconst (q := 54) dL_of_53 rfl ?_
  refine VB_icmp_ne (q := 57) (tgt := 66) dL_of_54 (by decide) (by decide) (by decide) (fun _ => ?_) (fun hc => absurd hc (by decide))
  refine VB_iload_n (q := 67) dL_of_66 1 rfl rfl ?_
  refine VB_iconst (q := 68) dL_of_67 rfl ?_
  refine VB_icmp_ne (q := 71) (tgt := 89) dL_of_68 (by decide) (by decide) (by decide) (fun _ => ?_) (fun hc => absurd hc (by decide))
  refine VB_iload_n (q := 90) dL_of_89 1 rfl rfl ?_
  refine VB_bipush (q := 92) dL_of_90 (by decide) rfl ?_
  refine VB_icmp_ne (q := 95) (tgt := 113) dL_of_92 (by decide) (by decide) (by decide) (fun _ => ?_) (fun hc => absurd hc (by decide))
  refine VB_iload_n (q := 114) dL_of_113 1 rfl rfl ?_
  refine VB_bipush (q := 116) dL_of_114 (by decide) rfl ?_
  refine VB_icmp_ne (q := 119) (tgt := 127) dL_of_116 (by decide) (by decide) (by decide) (fun _ => ?_) (fun hc => absurd hc (by decide))
  refine VB_aload_n (q := 128) dL_of_127 0 rfl rfl ?_
  refine VB_iload_n (q := 129) dL_of_128 2 rfl rfl ?_
  refine VB_iload_n (q := 130) dL_of_129 3 rfl rfl ?_
  refine VB_callX1 (q := 0) (E := "java/lang/IllegalArgumentException") (w1 := []) (w2 := [(b 0, .inl (d 0, 60, .inl (F 0))), (b 1, .inl (d 1, 12, .inl (F 1))), (b 2, .inl (d 2, 8, .inl (F 2))), (b 3, .inl (d 3, 4, .inl (F 3))), (b 4, .inl (d 4, 2, .inl (F 4)))]) dL_of_130 hM (by decide +kernel) yv_X0_bag rfl gL_of_X0_bag rfl 0 rfl rfl rfl rfl (Nat.le_of_ble_eq_true rfl) (by decide) (by decide) rfl (tyl_in c d) [⟨0, 133, 134, 30⟩] ⟨0, 133, 140, 15⟩ [⟨0, 133, 146, 17⟩] rfl (by intro z hz; simp only [List.mem_cons, List.not_mem_nil, or_false] at hz; subst hz; exact ⟨by decide, "java/lang/IndexOutOfBoundsException", by decide +kernel, by decide +kernel⟩) (by decide) (by decide) (by decide +kernel) (by decide +kernel) (fun q9 => ?_)
  refine VB_st (st' := [.ref q9]) rfl ?_
  refine VB_astore (q := 142) (lv' := [(0, _), (1, _), (2, _), (3, _), (4, _)]) dL_of_140 (by decide) rfl rfl ?_
  refine VB_sipush (q := 145) dL_of_142 (by decide) rfl ?_
  exact VB_iretU dL_of_145 rfl (rfl) (Nat.le_refl _) hg rfl
set_option maxRecDepth 100000 in
set_option maxHeartbeats 8000000 in
theorem u_yes0_no {a : Nat → Nat} {c : Nat → ClassId} {S : St} {b : Nat → Nat} {d : Nat → ClassId} {F : Nat → Nat → Int32} {g : Nat → Nat} (ho : Ok S) (hg : ∀ j, g j < 4096) (x y : Int) (rx9 : -2147483648 ≤ x ∧ x < 2147483648) (ry9 : -2147483648 ≤ y ∧ y < 2147483648) (e : cClash x y = 1) : CtU yL_yes wsL_yes rmW (tyl c d) [.ref (a 0), .int (iZ 0), .int (iZ x), .int (iZ y), .int (iZ 1)] (wal a c S b d F g) (wal a c S b d F) (fun x => x = iZ (-982)) (fun _ => 1) 1 := by
  refine CtUW_of (own := RL) (by decide) rfl rfl (Nat.le_of_ble_eq_true rfl) ?_
  refine VB_lvq (lv' := [(0, _), (1, _), (2, _), (3, _), (4, _)]) rfl ?_
  have hM := c_X0_setClash (a := a) (c := c) (g := g) ho x y true rx9 ry9
  rw [e] at hM
  refine VB_iload_n (q := 1) dL_yes_0 1 rfl rfl ?_
  refine VB_if_ne (q := 4) (tgt := 27) dL_yes_1 (by decide) (by decide) (fun hc => absurd hc (by decide)) (fun _ => ?_)
  refine VB_aload_n (q := 5) dL_yes_4 0 rfl rfl ?_
  refine VB_iload_n (q := 6) dL_yes_5 2 rfl rfl ?_
  refine VB_iload_n (q := 7) dL_yes_6 3 rfl rfl ?_
  refine VB_iload (q := 9) dL_yes_7 4 rfl rfl ?_
  refine VB_iconst (q := 10) dL_yes_9 rfl ?_
  refine VB_icmp_ne (q := 13) (tgt := 17) dL_yes_10 (by decide) (by decide) (by decide) (fun hc => absurd hc (by decide)) (fun _ => ?_)
  refine VB_iconst (q := 14) dL_yes_13 rfl ?_
  refine VB_goto (tgt := 18) dL_yes_14 (by decide) ?_
  refine VB_callX1 (q := 0) (E := "java/lang/IllegalArgumentException") (w1 := []) (w2 := [(b 0, .inl (d 0, 60, .inl (F 0))), (b 1, .inl (d 1, 12, .inl (F 1))), (b 2, .inl (d 2, 8, .inl (F 2))), (b 3, .inl (d 3, 4, .inl (F 3))), (b 4, .inl (d 4, 2, .inl (F 4)))]) dL_yes_18 hM (by decide +kernel) yv_X0_setClash rfl gL_yes_X0_setClash rfl 0 rfl rfl rfl rfl (Nat.le_of_ble_eq_true rfl) (by decide) (by decide) rfl (tyl_in c d) [] ⟨0, 43, 44, 15⟩ [] rfl (fun z hz => nomatch hz) (by decide) (by decide) (by decide +kernel) (by decide +kernel) (fun q9 => ?_)
  refine VB_st (st' := [.ref q9]) rfl ?_
  refine VB_astore (q := 46) (lv' := [(0, _), (1, _), (2, _), (3, _), (4, _), (5, _)]) dL_yes_44 (by decide) rfl rfl ?_
  refine VB_sipush (q := 49) dL_yes_46 (by decide) rfl ?_
  exact VB_iretU dL_yes_49 rfl (rfl) (Nat.le_refl _) hg rfl
set_option maxRecDepth 100000 in
set_option maxHeartbeats 8000000 in
theorem u_yes1_no {a : Nat → Nat} {c : Nat → ClassId} {S : St} {b : Nat → Nat} {d : Nat → ClassId} {F : Nat → Nat → Int32} {g : Nat → Nat} (ho : Ok S) (hg : ∀ j, g j < 4096) (x : Int32) (y z : Int) (ry9 : -2147483648 ≤ y ∧ y < 2147483648) (rz9 : -2147483648 ≤ z ∧ z < 2147483648) (e : cEn S x y z = 1) : CtU yL_yes wsL_yes rmW (tyl c d) [.ref (a 0), .int (iZ 1), .int x, .int (iZ y), .int (iZ z)] (wal a c S b d F g) (wal a c S b d F) (fun x => x = iZ (-982)) (fun _ => 1) 1 := by
  refine CtUW_of (own := RL) (by decide) rfl rfl (Nat.le_of_ble_eq_true rfl) ?_
  refine VB_lvq (lv' := [(0, _), (1, _), (2, _), (3, _), (4, _)]) rfl ?_
  have hM := c_X0_isEnough (a := a) (c := c) (g := g) ho x y z hg ry9 rz9
  rw [e] at hM
  refine VB_iload_n (q := 1) dL_yes_0 1 rfl rfl ?_
  refine VB_if_ne (q := 4) (tgt := 27) dL_yes_1 (by decide) (by decide) (fun _ => ?_) (fun hc => absurd hc (by decide))
  refine VB_aload_n (q := 28) dL_yes_27 0 rfl rfl ?_
  refine VB_iload_n (q := 29) dL_yes_28 2 rfl rfl ?_
  refine VB_iload_n (q := 30) dL_yes_29 3 rfl rfl ?_
  refine VB_iload (q := 32) dL_yes_30 4 rfl rfl ?_
  refine VB_callX1 (q := 0) (E := "java/lang/IllegalArgumentException") (w1 := []) (w2 := [(b 0, .inl (d 0, 60, .inl (F 0))), (b 1, .inl (d 1, 12, .inl (F 1))), (b 2, .inl (d 2, 8, .inl (F 2))), (b 3, .inl (d 3, 4, .inl (F 3))), (b 4, .inl (d 4, 2, .inl (F 4)))]) dL_yes_32 hM (by decide +kernel) yv_X0_isEnough rfl gL_yes_X0_isEnough rfl 0 rfl rfl rfl rfl (Nat.le_of_ble_eq_true rfl) (by decide) (by decide) rfl (tyl_in c d) [] ⟨0, 43, 44, 15⟩ [] rfl (fun z hz => nomatch hz) (by decide) (by decide) (by decide +kernel) (by decide +kernel) (fun q9 => ?_)
  refine VB_st (st' := [.ref q9]) rfl ?_
  refine VB_astore (q := 46) (lv' := [(0, _), (1, _), (2, _), (3, _), (4, _), (5, _)]) dL_yes_44 (by decide) rfl rfl ?_
  refine VB_sipush (q := 49) dL_yes_46 (by decide) rfl ?_
  exact VB_iretU dL_yes_49 rfl (rfl) (Nat.le_refl _) hg rfl
set_option maxRecDepth 100000 in
set_option maxHeartbeats 8000000 in
theorem u_yes1 {a : Nat → Nat} {c : Nat → ClassId} {S : St} {b : Nat → Nat} {d : Nat → ClassId} {F : Nat → Nat → Int32} {g : Nat → Nat} (ho : Ok S) (hg : ∀ j, g j < 4096) (x : Int32) (y z : Int) (ry9 : -2147483648 ≤ y ∧ y < 2147483648) (rz9 : -2147483648 ≤ z ∧ z < 2147483648) : CtU yL_yes wsL_yes rmW (tyl c d) [.ref (a 0), .int (iZ 1), .int x, .int (iZ y), .int (iZ z)] (wal a c S b d F g) (wal a c S b d F) (fun _ => True) (fun _ => 0) 1 := by
  refine CtUW_of (own := RL) (by decide) rfl rfl (Nat.le_of_ble_eq_true rfl) ?_
  refine VB_lvq (lv' := [(0, _), (1, _), (2, _), (3, _), (4, _)]) rfl ?_
  have hM := c_X0_isEnough (a := a) (c := c) (g := g) ho x y z hg ry9 rz9
  rcases cEn_c S x y z with e | e
  · skip
    refine VB_iload_n (q := 1) dL_yes_0 1 rfl rfl ?_
    refine VB_if_ne (q := 4) (tgt := 27) dL_yes_1 (by decide) (by decide) (fun _ => ?_) (fun hc => absurd hc (by decide))
    refine VB_aload_n (q := 28) dL_yes_27 0 rfl rfl ?_
    refine VB_iload_n (q := 29) dL_yes_28 2 rfl rfl ?_
    refine VB_iload_n (q := 30) dL_yes_29 3 rfl rfl ?_
    refine VB_iload (q := 32) dL_yes_30 4 rfl rfl ?_
    refine VB_callX0 (q := 35) (w1 := []) (w2 := [(b 0, .inl (d 0, 60, .inl (F 0))), (b 1, .inl (d 1, 12, .inl (F 1))), (b 2, .inl (d 2, 8, .inl (F 2))), (b 3, .inl (d 3, 4, .inl (F 3))), (b 4, .inl (d 4, 2, .inl (F 4)))]) (ws' := wal a c S b d F (gF S z g)) dL_yes_32 hM (by rw [e]; rfl) yv_X0_isEnough rfl gL_yes_X0_isEnough rfl 0 rfl rfl rfl rfl (Nat.le_of_ble_eq_true rfl) (by decide) (by decide) rfl xU_W rfl rfl (tyl_in c d) ?_
    refine VB_uany (fun u32 => ?_)
    have J43 : ∀ (j43_s0 : Bool), VB 0 RL cL_yes 6 (some .int) wsL_yes rmW (vXW [(0, 43, 44, 15)]) (tyl c d) (qU (wal a c S b d F) (tyl c d) (fun _ => True) (fun _ => 0) 1 (6 * 1)) (1) (6) (wal a c S b d F (gF S z g)) 43 [(0, .ref (a 0)), (1, .int (iZ 1)), (2, .int x), (3, .int (iZ y)), (4, .int (iZ z))] [.int (iZ (bZ j43_s0))] := by
      intro j43_s0
      exact VB_iretU dL_yes_43 rfl (trivial) (Nat.zero_le _) (gF_lt hg) rfl
    refine VB_uif_eq (q := 38) (tgt := 42) dL_yes_35 (by decide) ?_ ?_
    · skip
      refine VB_iconst (q := 43) dL_yes_42 rfl ?_
      exact VB_widen (by omega) (by omega) (J43 false)
    · skip
      refine VB_iconst (q := 39) dL_yes_38 rfl ?_
      refine VB_goto (tgt := 43) dL_yes_39 (by decide) ?_
      exact VB_widen (by omega) (by omega) (J43 true)
  · rw [e] at hM
    refine VB_iload_n (q := 1) dL_yes_0 1 rfl rfl ?_
    refine VB_if_ne (q := 4) (tgt := 27) dL_yes_1 (by decide) (by decide) (fun _ => ?_) (fun hc => absurd hc (by decide))
    refine VB_aload_n (q := 28) dL_yes_27 0 rfl rfl ?_
    refine VB_iload_n (q := 29) dL_yes_28 2 rfl rfl ?_
    refine VB_iload_n (q := 30) dL_yes_29 3 rfl rfl ?_
    refine VB_iload (q := 32) dL_yes_30 4 rfl rfl ?_
    refine VB_callX1 (q := 0) (E := "java/lang/IllegalArgumentException") (w1 := []) (w2 := [(b 0, .inl (d 0, 60, .inl (F 0))), (b 1, .inl (d 1, 12, .inl (F 1))), (b 2, .inl (d 2, 8, .inl (F 2))), (b 3, .inl (d 3, 4, .inl (F 3))), (b 4, .inl (d 4, 2, .inl (F 4)))]) dL_yes_32 hM (by decide +kernel) yv_X0_isEnough rfl gL_yes_X0_isEnough rfl 0 rfl rfl rfl rfl (Nat.le_of_ble_eq_true rfl) (by decide) (by decide) rfl (tyl_in c d) [] ⟨0, 43, 44, 15⟩ [] rfl (fun z hz => nomatch hz) (by decide) (by decide) (by decide +kernel) (by decide +kernel) (fun q9 => ?_)
    refine VB_st (st' := [.ref q9]) rfl ?_
    refine VB_astore (q := 46) (lv' := [(0, _), (1, _), (2, _), (3, _), (4, _), (5, _)]) dL_yes_44 (by decide) rfl rfl ?_
    refine VB_sipush (q := 49) dL_yes_46 (by decide) rfl ?_
    exact VB_iretU dL_yes_49 rfl (trivial) (Nat.zero_le _) hg rfl
set_option maxRecDepth 100000 in
set_option maxHeartbeats 8000000 in
theorem u_out0 {a : Nat → Nat} {c : Nat → ClassId} {S : St} {b : Nat → Nat} {d : Nat → ClassId} {F : Nat → Nat → Int32} {g : Nat → Nat} (ho : Ok S) (hg : ∀ j, g j < 4096) (t p q y : Int) (rt9 : -2147483648 ≤ t ∧ t < 2147483648) (rp9 : -2147483648 ≤ p ∧ p < 2147483648) (rq9 : -2147483648 ≤ q ∧ q < 2147483648) (ry9 : -2147483648 ≤ y ∧ y < 2147483648) : CtU yL_outfit wsL_outfit rmW (tyl c d) [.ref (a 0), .int (iZ 0), .int (iZ t), .int (iZ p), .int (iZ q), .int (iZ y)] (wal a c S b d F g) (wal a c S b d F) (fun _ => True) (fun _ => 0) 1 := by
  refine CtUW_of (own := RL) (by decide) rfl rfl (Nat.le_of_ble_eq_true rfl) ?_
  refine VB_lvq (lv' := [(0, _), (1, _), (2, _), (3, _), (4, _), (5, _)]) rfl ?_
  have hM := c_X0_isPossible (a := a) (c := c) (g := g) ho t p q rt9 rp9 rq9
  rcases wrZ_c S t p q with e | e | e
  · skip
    refine VB_iload_n (q := 1) dL_outfit_0 1 rfl rfl ?_
    refine VB_if_ne (q := 4) (tgt := 23) dL_outfit_1 (by decide) (by decide) (fun hc => absurd hc (by decide)) (fun _ => ?_)
    refine VB_aload_n (q := 5) dL_outfit_4 0 rfl rfl ?_
    refine VB_iload_n (q := 6) dL_outfit_5 2 rfl rfl ?_
    refine VB_iload_n (q := 7) dL_outfit_6 3 rfl rfl ?_
    refine VB_iload (q := 9) dL_outfit_7 4 rfl rfl ?_
    refine VB_callX0 (q := 12) (w1 := []) (w2 := [(b 0, .inl (d 0, 60, .inl (F 0))), (b 1, .inl (d 1, 12, .inl (F 1))), (b 2, .inl (d 2, 8, .inl (F 2))), (b 3, .inl (d 3, 4, .inl (F 3))), (b 4, .inl (d 4, 2, .inl (F 4)))]) (ws' := wal a c S b d F g) dL_outfit_9 hM (by rw [e]; rfl) yv_X0_isPossible rfl gL_outfit_X0_isPossible rfl 0 rfl rfl rfl rfl (Nat.le_of_ble_eq_true rfl) (by decide) (by decide) rfl xU_W rfl rfl (tyl_in c d) ?_
    refine VB_uany (fun u9 => ?_)
    have J57 : ∀ (j57_s0 : Bool), VB 0 RL cL_outfit 7 (some .int) wsL_outfit rmW (vXW [(0, 57, 58, 30), (0, 57, 64, 15), (0, 57, 70, 17)]) (tyl c d) (qU (wal a c S b d F) (tyl c d) (fun _ => True) (fun _ => 0) 1 (6 * 1)) (1) (6) (wal a c S b d F g) 57 [(0, .ref (a 0)), (1, .int (iZ 0)), (2, .int (iZ t)), (3, .int (iZ p)), (4, .int (iZ q)), (5, .int (iZ y))] [.int (iZ (bZ j57_s0))] := by
      intro j57_s0
      exact VB_iretU dL_outfit_57 rfl (trivial) (Nat.zero_le _) hg rfl
    refine VB_uif_eq (q := 15) (tgt := 19) dL_outfit_12 (by decide) ?_ ?_
    · skip
      refine VB_iconst (q := 20) dL_outfit_19 rfl ?_
      refine VB_goto (tgt := 57) dL_outfit_20 (by decide) ?_
      exact VB_widen (by omega) (by omega) (J57 false)
    · skip
      refine VB_iconst (q := 16) dL_outfit_15 rfl ?_
      refine VB_goto (tgt := 57) dL_outfit_16 (by decide) ?_
      exact VB_widen (by omega) (by omega) (J57 true)
  · rw [e] at hM
    refine VB_iload_n (q := 1) dL_outfit_0 1 rfl rfl ?_
    refine VB_if_ne (q := 4) (tgt := 23) dL_outfit_1 (by decide) (by decide) (fun hc => absurd hc (by decide)) (fun _ => ?_)
    refine VB_aload_n (q := 5) dL_outfit_4 0 rfl rfl ?_
    refine VB_iload_n (q := 6) dL_outfit_5 2 rfl rfl ?_
    refine VB_iload_n (q := 7) dL_outfit_6 3 rfl rfl ?_
    refine VB_iload (q := 9) dL_outfit_7 4 rfl rfl ?_
    refine VB_callX1 (q := 0) (E := "java/lang/IndexOutOfBoundsException") (w1 := []) (w2 := [(b 0, .inl (d 0, 60, .inl (F 0))), (b 1, .inl (d 1, 12, .inl (F 1))), (b 2, .inl (d 2, 8, .inl (F 2))), (b 3, .inl (d 3, 4, .inl (F 3))), (b 4, .inl (d 4, 2, .inl (F 4)))]) dL_outfit_9 hM (by decide +kernel) yv_X0_isPossible rfl gL_outfit_X0_isPossible rfl 0 rfl rfl rfl rfl (Nat.le_of_ble_eq_true rfl) (by decide) (by decide) rfl (tyl_in c d) [] ⟨0, 57, 58, 30⟩ [⟨0, 57, 64, 15⟩, ⟨0, 57, 70, 17⟩] rfl (fun z hz => nomatch hz) (by decide) (by decide) (by decide +kernel) (by decide +kernel) (fun q9 => ?_)
    refine VB_st (st' := [.ref q9]) rfl ?_
    refine VB_astore (q := 60) (lv' := [(0, _), (1, _), (2, _), (3, _), (4, _), (5, _), (6, _)]) dL_outfit_58 (by decide) rfl rfl ?_
    refine VB_sipush (q := 63) dL_outfit_60 (by decide) rfl ?_
    exact VB_iretU dL_outfit_63 rfl (trivial) (Nat.zero_le _) hg rfl
  · rw [e] at hM
    refine VB_iload_n (q := 1) dL_outfit_0 1 rfl rfl ?_
    refine VB_if_ne (q := 4) (tgt := 23) dL_outfit_1 (by decide) (by decide) (fun hc => absurd hc (by decide)) (fun _ => ?_)
    refine VB_aload_n (q := 5) dL_outfit_4 0 rfl rfl ?_
    refine VB_iload_n (q := 6) dL_outfit_5 2 rfl rfl ?_
    refine VB_iload_n (q := 7) dL_outfit_6 3 rfl rfl ?_
    refine VB_iload (q := 9) dL_outfit_7 4 rfl rfl ?_
    refine VB_callX1 (q := 0) (E := "java/lang/IllegalArgumentException") (w1 := []) (w2 := [(b 0, .inl (d 0, 60, .inl (F 0))), (b 1, .inl (d 1, 12, .inl (F 1))), (b 2, .inl (d 2, 8, .inl (F 2))), (b 3, .inl (d 3, 4, .inl (F 3))), (b 4, .inl (d 4, 2, .inl (F 4)))]) dL_outfit_9 hM (by decide +kernel) yv_X0_isPossible rfl gL_outfit_X0_isPossible rfl 0 rfl rfl rfl rfl (Nat.le_of_ble_eq_true rfl) (by decide) (by decide) rfl (tyl_in c d) [⟨0, 57, 58, 30⟩] ⟨0, 57, 64, 15⟩ [⟨0, 57, 70, 17⟩] rfl (by intro z hz; simp only [List.mem_cons, List.not_mem_nil, or_false] at hz; subst hz; exact ⟨by decide, "java/lang/IndexOutOfBoundsException", by decide +kernel, by decide +kernel⟩) (by decide) (by decide) (by decide +kernel) (by decide +kernel) (fun q9 => ?_)
    refine VB_st (st' := [.ref q9]) rfl ?_
    refine VB_astore (q := 66) (lv' := [(0, _), (1, _), (2, _), (3, _), (4, _), (5, _), (6, _)]) dL_outfit_64 (by decide) rfl rfl ?_
    refine VB_sipush (q := 69) dL_outfit_66 (by decide) rfl ?_
    exact VB_iretU dL_outfit_69 rfl (trivial) (Nat.zero_le _) hg rfl
set_option maxRecDepth 100000 in
set_option maxHeartbeats 8000000 in
theorem u_out1 {a : Nat → Nat} {c : Nat → ClassId} {S : St} {b : Nat → Nat} {d : Nat → ClassId} {F : Nat → Nat → Int32} {g : Nat → Nat} (ho : Ok S) (hg : ∀ j, g j < 4096) (t p q y : Int) (rt9 : -2147483648 ≤ t ∧ t < 2147483648) (rp9 : -2147483648 ≤ p ∧ p < 2147483648) (rq9 : -2147483648 ≤ q ∧ q < 2147483648) (ry9 : -2147483648 ≤ y ∧ y < 2147483648) : CtU yL_outfit wsL_outfit rmW (tyl c d) [.ref (a 0), .int (iZ 1), .int (iZ t), .int (iZ p), .int (iZ q), .int (iZ y)] (wal a c S b d F g) (wal a c S b d F) (fun _ => True) (fun _ => 0) 1 := by
  refine CtUW_of (own := RL) (by decide) rfl rfl (Nat.le_of_ble_eq_true rfl) ?_
  refine VB_lvq (lv' := [(0, _), (1, _), (2, _), (3, _), (4, _), (5, _)]) rfl ?_
  have hM := c_X0_isTooSoon (a := a) (c := c) (g := g) ho t p y rt9 rp9 ry9
  rcases cSoon_c S t p y with e | e | e
  · skip
    refine VB_iload_n (q := 1) dL_outfit_0 1 rfl rfl ?_
    refine VB_if_ne (q := 4) (tgt := 23) dL_outfit_1 (by decide) (by decide) (fun _ => ?_) (fun hc => absurd hc (by decide))
    refine VB_iload_n (q := 24) dL_outfit_23 1 rfl rfl ?_
    refine VB_iconst (q := 25) dL_outfit_24 rfl ?_
    refine VB_icmp_ne (q := 28) (tgt := 47) dL_outfit_25 (by decide) (by decide) (by decide) (fun hc => absurd hc (by decide)) (fun _ => ?_)
    refine VB_aload_n (q := 29) dL_outfit_28 0 rfl rfl ?_
    refine VB_iload_n (q := 30) dL_outfit_29 2 rfl rfl ?_
    refine VB_iload_n (q := 31) dL_outfit_30 3 rfl rfl ?_
    refine VB_iload (q := 33) dL_outfit_31 5 rfl rfl ?_
    refine VB_callX0 (q := 36) (w1 := []) (w2 := [(b 0, .inl (d 0, 60, .inl (F 0))), (b 1, .inl (d 1, 12, .inl (F 1))), (b 2, .inl (d 2, 8, .inl (F 2))), (b 3, .inl (d 3, 4, .inl (F 3))), (b 4, .inl (d 4, 2, .inl (F 4)))]) (ws' := wal a c S b d F g) dL_outfit_33 hM (by rw [e]; rfl) yv_X0_isTooSoon rfl gL_outfit_X0_isTooSoon rfl 0 rfl rfl rfl rfl (Nat.le_of_ble_eq_true rfl) (by decide) (by decide) rfl xU_W rfl rfl (tyl_in c d) ?_
    refine VB_uany (fun u33 => ?_)
    have J57 : ∀ (j57_s0 : Bool), VB 0 RL cL_outfit 7 (some .int) wsL_outfit rmW (vXW [(0, 57, 58, 30), (0, 57, 64, 15), (0, 57, 70, 17)]) (tyl c d) (qU (wal a c S b d F) (tyl c d) (fun _ => True) (fun _ => 0) 1 (6 * 1)) (1) (6) (wal a c S b d F g) 57 [(0, .ref (a 0)), (1, .int (iZ 1)), (2, .int (iZ t)), (3, .int (iZ p)), (4, .int (iZ q)), (5, .int (iZ y))] [.int (iZ (bZ j57_s0))] := by
      intro j57_s0
      exact VB_iretU dL_outfit_57 rfl (trivial) (Nat.zero_le _) hg rfl
    refine VB_uif_eq (q := 39) (tgt := 43) dL_outfit_36 (by decide) ?_ ?_
    · skip
      refine VB_iconst (q := 44) dL_outfit_43 rfl ?_
      refine VB_goto (tgt := 57) dL_outfit_44 (by decide) ?_
      exact VB_widen (by omega) (by omega) (J57 false)
    · skip
      refine VB_iconst (q := 40) dL_outfit_39 rfl ?_
      refine VB_goto (tgt := 57) dL_outfit_40 (by decide) ?_
      exact VB_widen (by omega) (by omega) (J57 true)
  · rw [e] at hM
    refine VB_iload_n (q := 1) dL_outfit_0 1 rfl rfl ?_
    refine VB_if_ne (q := 4) (tgt := 23) dL_outfit_1 (by decide) (by decide) (fun _ => ?_) (fun hc => absurd hc (by decide))
    refine VB_iload_n (q := 24) dL_outfit_23 1 rfl rfl ?_
    refine VB_iconst (q := 25) dL_outfit_24 rfl ?_
    refine VB_icmp_ne (q := 28) (tgt := 47) dL_outfit_25 (by decide) (by decide) (by decide) (fun hc => absurd hc (by decide)) (fun _ => ?_)
    refine VB_aload_n (q := 29) dL_outfit_28 0 rfl rfl ?_
    refine VB_iload_n (q := 30) dL_outfit_29 2 rfl rfl ?_
    refine VB_iload_n (q := 31) dL_outfit_30 3 rfl rfl ?_
    refine VB_iload (q := 33) dL_outfit_31 5 rfl rfl ?_
    refine VB_callX1 (q := 0) (E := "java/lang/IndexOutOfBoundsException") (w1 := []) (w2 := [(b 0, .inl (d 0, 60, .inl (F 0))), (b 1, .inl (d 1, 12, .inl (F 1))), (b 2, .inl (d 2, 8, .inl (F 2))), (b 3, .inl (d 3, 4, .inl (F 3))), (b 4, .inl (d 4, 2, .inl (F 4)))]) dL_outfit_33 hM (by decide +kernel) yv_X0_isTooSoon rfl gL_outfit_X0_isTooSoon rfl 0 rfl rfl rfl rfl (Nat.le_of_ble_eq_true rfl) (by decide) (by decide) rfl (tyl_in c d) [] ⟨0, 57, 58, 30⟩ [⟨0, 57, 64, 15⟩, ⟨0, 57, 70, 17⟩] rfl (fun z hz => nomatch hz) (by decide) (by decide) (by decide +kernel) (by decide +kernel) (fun q9 => ?_)
    refine VB_st (st' := [.ref q9]) rfl ?_
    refine VB_astore (q := 60) (lv' := [(0, _), (1, _), (2, _), (3, _), (4, _), (5, _), (6, _)]) dL_outfit_58 (by decide) rfl rfl ?_
    refine VB_sipush (q := 63) dL_outfit_60 (by decide) rfl ?_
    exact VB_iretU dL_outfit_63 rfl (trivial) (Nat.zero_le _) hg rfl
  · rw [e] at hM
    refine VB_iload_n (q := 1) dL_outfit_0 1 rfl rfl ?_
    refine VB_if_ne (q := 4) (tgt := 23) dL_outfit_1 (by decide) (by decide) (fun _ => ?_) (fun hc => absurd hc (by decide))
    refine VB_iload_n (q := 24) dL_outfit_23 1 rfl rfl ?_
    refine VB_iconst (q := 25) dL_outfit_24 rfl ?_
    refine VB_icmp_ne (q := 28) (tgt := 47) dL_outfit_25 (by decide) (by decide) (by decide) (fun hc => absurd hc (by decide)) (fun _ => ?_)
    refine VB_aload_n (q := 29) dL_outfit_28 0 rfl rfl ?_
    refine VB_iload_n (q := 30) dL_outfit_29 2 rfl rfl ?_
    refine VB_iload_n (q := 31) dL_outfit_30 3 rfl rfl ?_
    refine VB_iload (q := 33) dL_outfit_31 5 rfl rfl ?_
    refine VB_callX1 (q := 0) (E := "java/lang/IllegalArgumentException") (w1 := []) (w2 := [(b 0, .inl (d 0, 60, .inl (F 0))), (b 1, .inl (d 1, 12, .inl (F 1))), (b 2, .inl (d 2, 8, .inl (F 2))), (b 3, .inl (d 3, 4, .inl (F 3))), (b 4, .inl (d 4, 2, .inl (F 4)))]) dL_outfit_33 hM (by decide +kernel) yv_X0_isTooSoon rfl gL_outfit_X0_isTooSoon rfl 0 rfl rfl rfl rfl (Nat.le_of_ble_eq_true rfl) (by decide) (by decide) rfl (tyl_in c d) [⟨0, 57, 58, 30⟩] ⟨0, 57, 64, 15⟩ [⟨0, 57, 70, 17⟩] rfl (by intro z hz; simp only [List.mem_cons, List.not_mem_nil, or_false] at hz; subst hz; exact ⟨by decide, "java/lang/IndexOutOfBoundsException", by decide +kernel, by decide +kernel⟩) (by decide) (by decide) (by decide +kernel) (by decide +kernel) (fun q9 => ?_)
    refine VB_st (st' := [.ref q9]) rfl ?_
    refine VB_astore (q := 66) (lv' := [(0, _), (1, _), (2, _), (3, _), (4, _), (5, _), (6, _)]) dL_outfit_64 (by decide) rfl rfl ?_
    refine VB_sipush (q := 69) dL_outfit_66 (by decide) rfl ?_
    exact VB_iretU dL_outfit_69 rfl (trivial) (Nat.zero_le _) hg rfl
set_option maxRecDepth 100000 in
set_option maxHeartbeats 8000000 in
theorem u_out0_nob {a : Nat → Nat} {c : Nat → ClassId} {S : St} {b : Nat → Nat} {d : Nat → ClassId} {F : Nat → Nat → Int32} {g : Nat → Nat} (ho : Ok S) (hg : ∀ j, g j < 4096) (t p q y : Int) (rt9 : -2147483648 ≤ t ∧ t < 2147483648) (rp9 : -2147483648 ≤ p ∧ p < 2147483648) (rq9 : -2147483648 ≤ q ∧ q < 2147483648) (ry9 : -2147483648 ≤ y ∧ y < 2147483648) (e : wrZ S t p q = 1) : CtU yL_outfit wsL_outfit rmW (tyl c d) [.ref (a 0), .int (iZ 0), .int (iZ t), .int (iZ p), .int (iZ q), .int (iZ y)] (wal a c S b d F g) (wal a c S b d F) (fun x => x = iZ (-981)) (fun _ => 1) 1 := by
  refine CtUW_of (own := RL) (by decide) rfl rfl (Nat.le_of_ble_eq_true rfl) ?_
  refine VB_lvq (lv' := [(0, _), (1, _), (2, _), (3, _), (4, _), (5, _)]) rfl ?_
  have hM := c_X0_isPossible (a := a) (c := c) (g := g) ho t p q rt9 rp9 rq9
  rw [e] at hM
  refine VB_iload_n (q := 1) dL_outfit_0 1 rfl rfl ?_
  refine VB_if_ne (q := 4) (tgt := 23) dL_outfit_1 (by decide) (by decide) (fun hc => absurd hc (by decide)) (fun _ => ?_)
  refine VB_aload_n (q := 5) dL_outfit_4 0 rfl rfl ?_
  refine VB_iload_n (q := 6) dL_outfit_5 2 rfl rfl ?_
  refine VB_iload_n (q := 7) dL_outfit_6 3 rfl rfl ?_
  refine VB_iload (q := 9) dL_outfit_7 4 rfl rfl ?_
  refine VB_callX1 (q := 0) (E := "java/lang/IndexOutOfBoundsException") (w1 := []) (w2 := [(b 0, .inl (d 0, 60, .inl (F 0))), (b 1, .inl (d 1, 12, .inl (F 1))), (b 2, .inl (d 2, 8, .inl (F 2))), (b 3, .inl (d 3, 4, .inl (F 3))), (b 4, .inl (d 4, 2, .inl (F 4)))]) dL_outfit_9 hM (by decide +kernel) yv_X0_isPossible rfl gL_outfit_X0_isPossible rfl 0 rfl rfl rfl rfl (Nat.le_of_ble_eq_true rfl) (by decide) (by decide) rfl (tyl_in c d) [] ⟨0, 57, 58, 30⟩ [⟨0, 57, 64, 15⟩, ⟨0, 57, 70, 17⟩] rfl (fun z hz => nomatch hz) (by decide) (by decide) (by decide +kernel) (by decide +kernel) (fun q9 => ?_)
  refine VB_st (st' := [.ref q9]) rfl ?_
  refine VB_astore (q := 60) (lv' := [(0, _), (1, _), (2, _), (3, _), (4, _), (5, _), (6, _)]) dL_outfit_58 (by decide) rfl rfl ?_
  refine VB_sipush (q := 63) dL_outfit_60 (by decide) rfl ?_
  exact VB_iretU dL_outfit_63 rfl (rfl) (Nat.le_refl _) hg rfl
set_option maxRecDepth 100000 in
set_option maxHeartbeats 8000000 in
theorem u_out1_nob {a : Nat → Nat} {c : Nat → ClassId} {S : St} {b : Nat → Nat} {d : Nat → ClassId} {F : Nat → Nat → Int32} {g : Nat → Nat} (ho : Ok S) (hg : ∀ j, g j < 4096) (t p q y : Int) (rt9 : -2147483648 ≤ t ∧ t < 2147483648) (rp9 : -2147483648 ≤ p ∧ p < 2147483648) (rq9 : -2147483648 ≤ q ∧ q < 2147483648) (ry9 : -2147483648 ≤ y ∧ y < 2147483648) (e : cSoon S t p y = 1) : CtU yL_outfit wsL_outfit rmW (tyl c d) [.ref (a 0), .int (iZ 1), .int (iZ t), .int (iZ p), .int (iZ q), .int (iZ y)] (wal a c S b d F g) (wal a c S b d F) (fun x => x = iZ (-981)) (fun _ => 1) 1 := by
  refine CtUW_of (own := RL) (by decide) rfl rfl (Nat.le_of_ble_eq_true rfl) ?_
  refine VB_lvq (lv' := [(0, _), (1, _), (2, _), (3, _), (4, _), (5, _)]) rfl ?_
  have hM := c_X0_isTooSoon (a := a) (c := c) (g := g) ho t p y rt9 rp9 ry9
  rw [e] at hM
  refine VB_iload_n (q := 1) dL_outfit_0 1 rfl rfl ?_
  refine VB_if_ne (q := 4) (tgt := 23) dL_outfit_1 (by decide) (by decide) (fun _ => ?_) (fun hc => absurd hc (by decide))
  refine VB_iload_n (q := 24) dL_outfit_23 1 rfl rfl ?_
  refine VB_iconst (q := 25) dL_outfit_24 rfl ?_
  refine VB_icmp_ne (q := 28) (tgt := 47) dL_outfit_25 (by decide) (by decide) (by decide) (fun hc => absurd hc (by decide)) (fun _ => ?_)
  refine VB_aload_n (q := 29) dL_outfit_28 0 rfl rfl ?_
  refine VB_iload_n (q := 30) dL_outfit_29 2 rfl rfl ?_
  refine VB_iload_n (q := 31) dL_outfit_30 3 rfl rfl ?_
  refine VB_iload (q := 33) dL_outfit_31 5 rfl rfl ?_
  refine VB_callX1 (q := 0) (E := "java/lang/IndexOutOfBoundsException") (w1 := []) (w2 := [(b 0, .inl (d 0, 60, .inl (F 0))), (b 1, .inl (d 1, 12, .inl (F 1))), (b 2, .inl (d 2, 8, .inl (F 2))), (b 3, .inl (d 3, 4, .inl (F 3))), (b 4, .inl (d 4, 2, .inl (F 4)))]) dL_outfit_33 hM (by decide +kernel) yv_X0_isTooSoon rfl gL_outfit_X0_isTooSoon rfl 0 rfl rfl rfl rfl (Nat.le_of_ble_eq_true rfl) (by decide) (by decide) rfl (tyl_in c d) [] ⟨0, 57, 58, 30⟩ [⟨0, 57, 64, 15⟩, ⟨0, 57, 70, 17⟩] rfl (fun z hz => nomatch hz) (by decide) (by decide) (by decide +kernel) (by decide +kernel) (fun q9 => ?_)
  refine VB_st (st' := [.ref q9]) rfl ?_
  refine VB_astore (q := 60) (lv' := [(0, _), (1, _), (2, _), (3, _), (4, _), (5, _), (6, _)]) dL_outfit_58 (by decide) rfl rfl ?_
  refine VB_sipush (q := 63) dL_outfit_60 (by decide) rfl ?_
  exact VB_iretU dL_outfit_63 rfl (rfl) (Nat.le_refl _) hg rfl
set_option maxRecDepth 100000 in
set_option maxHeartbeats 8000000 in
theorem u_out2_nob {a : Nat → Nat} {c : Nat → ClassId} {S : St} {b : Nat → Nat} {d : Nat → ClassId} {F : Nat → Nat → Int32} {g : Nat → Nat} (ho : Ok S) (hg : ∀ j, g j < 4096) (t p q y : Int) (rt9 : -2147483648 ≤ t ∧ t < 2147483648) (rp9 : -2147483648 ≤ p ∧ p < 2147483648) (rq9 : -2147483648 ≤ q ∧ q < 2147483648) (ry9 : -2147483648 ≤ y ∧ y < 2147483648) (e : cWear S t p q y = 1) : CtU yL_outfit wsL_outfit rmW (tyl c d) [.ref (a 0), .int (iZ 2), .int (iZ t), .int (iZ p), .int (iZ q), .int (iZ y)] (wal a c S b d F g) (wal a c S b d F) (fun x => x = iZ (-981)) (fun _ => 1) 1 := by
  refine CtUW_of (own := RL) (by decide) rfl rfl (Nat.le_of_ble_eq_true rfl) ?_
  refine VB_lvq (lv' := [(0, _), (1, _), (2, _), (3, _), (4, _), (5, _)]) rfl ?_
  have hM := c_X0_wear (a := a) (c := c) (g := g) ho t p q y rt9 rp9 rq9 ry9
  rw [e] at hM
  refine VB_iload_n (q := 1) dL_outfit_0 1 rfl rfl ?_
  refine VB_if_ne (q := 4) (tgt := 23) dL_outfit_1 (by decide) (by decide) (fun _ => ?_) (fun hc => absurd hc (by decide))
  refine VB_iload_n (q := 24) dL_outfit_23 1 rfl rfl ?_
  refine VB_iconst (q := 25) dL_outfit_24 rfl ?_
  refine VB_icmp_ne (q := 28) (tgt := 47) dL_outfit_25 (by decide) (by decide) (by decide) (fun _ => ?_) (fun hc => absurd hc (by decide))
  refine VB_aload_n (q := 48) dL_outfit_47 0 rfl rfl ?_
  refine VB_iload_n (q := 49) dL_outfit_48 2 rfl rfl ?_
  refine VB_iload_n (q := 50) dL_outfit_49 3 rfl rfl ?_
  refine VB_iload (q := 52) dL_outfit_50 4 rfl rfl ?_
  refine VB_iload (q := 54) dL_outfit_52 5 rfl rfl ?_
  refine VB_callX1 (q := 0) (E := "java/lang/IndexOutOfBoundsException") (w1 := []) (w2 := [(b 0, .inl (d 0, 60, .inl (F 0))), (b 1, .inl (d 1, 12, .inl (F 1))), (b 2, .inl (d 2, 8, .inl (F 2))), (b 3, .inl (d 3, 4, .inl (F 3))), (b 4, .inl (d 4, 2, .inl (F 4)))]) dL_outfit_54 hM (by decide +kernel) yv_X0_wear rfl gL_outfit_X0_wear rfl 0 rfl rfl rfl rfl (Nat.le_of_ble_eq_true rfl) (by decide) (by decide) rfl (tyl_in c d) [] ⟨0, 57, 58, 30⟩ [⟨0, 57, 64, 15⟩, ⟨0, 57, 70, 17⟩] rfl (fun z hz => nomatch hz) (by decide) (by decide) (by decide +kernel) (by decide +kernel) (fun q9 => ?_)
  refine VB_st (st' := [.ref q9]) rfl ?_
  refine VB_astore (q := 60) (lv' := [(0, _), (1, _), (2, _), (3, _), (4, _), (5, _), (6, _)]) dL_outfit_58 (by decide) rfl rfl ?_
  refine VB_sipush (q := 63) dL_outfit_60 (by decide) rfl ?_
  exact VB_iretU dL_outfit_63 rfl (rfl) (Nat.le_refl _) hg rfl
set_option maxRecDepth 100000 in
set_option maxHeartbeats 8000000 in
theorem u_out0_noa {a : Nat → Nat} {c : Nat → ClassId} {S : St} {b : Nat → Nat} {d : Nat → ClassId} {F : Nat → Nat → Int32} {g : Nat → Nat} (ho : Ok S) (hg : ∀ j, g j < 4096) (t p q y : Int) (rt9 : -2147483648 ≤ t ∧ t < 2147483648) (rp9 : -2147483648 ≤ p ∧ p < 2147483648) (rq9 : -2147483648 ≤ q ∧ q < 2147483648) (ry9 : -2147483648 ≤ y ∧ y < 2147483648) (e : wrZ S t p q = 2) : CtU yL_outfit wsL_outfit rmW (tyl c d) [.ref (a 0), .int (iZ 0), .int (iZ t), .int (iZ p), .int (iZ q), .int (iZ y)] (wal a c S b d F g) (wal a c S b d F) (fun x => x = iZ (-982)) (fun _ => 1) 1 := by
  refine CtUW_of (own := RL) (by decide) rfl rfl (Nat.le_of_ble_eq_true rfl) ?_
  refine VB_lvq (lv' := [(0, _), (1, _), (2, _), (3, _), (4, _), (5, _)]) rfl ?_
  have hM := c_X0_isPossible (a := a) (c := c) (g := g) ho t p q rt9 rp9 rq9
  rw [e] at hM
  refine VB_iload_n (q := 1) dL_outfit_0 1 rfl rfl ?_
  refine VB_if_ne (q := 4) (tgt := 23) dL_outfit_1 (by decide) (by decide) (fun hc => absurd hc (by decide)) (fun _ => ?_)
  refine VB_aload_n (q := 5) dL_outfit_4 0 rfl rfl ?_
  refine VB_iload_n (q := 6) dL_outfit_5 2 rfl rfl ?_
  refine VB_iload_n (q := 7) dL_outfit_6 3 rfl rfl ?_
  refine VB_iload (q := 9) dL_outfit_7 4 rfl rfl ?_
  refine VB_callX1 (q := 0) (E := "java/lang/IllegalArgumentException") (w1 := []) (w2 := [(b 0, .inl (d 0, 60, .inl (F 0))), (b 1, .inl (d 1, 12, .inl (F 1))), (b 2, .inl (d 2, 8, .inl (F 2))), (b 3, .inl (d 3, 4, .inl (F 3))), (b 4, .inl (d 4, 2, .inl (F 4)))]) dL_outfit_9 hM (by decide +kernel) yv_X0_isPossible rfl gL_outfit_X0_isPossible rfl 0 rfl rfl rfl rfl (Nat.le_of_ble_eq_true rfl) (by decide) (by decide) rfl (tyl_in c d) [⟨0, 57, 58, 30⟩] ⟨0, 57, 64, 15⟩ [⟨0, 57, 70, 17⟩] rfl (by intro z hz; simp only [List.mem_cons, List.not_mem_nil, or_false] at hz; subst hz; exact ⟨by decide, "java/lang/IndexOutOfBoundsException", by decide +kernel, by decide +kernel⟩) (by decide) (by decide) (by decide +kernel) (by decide +kernel) (fun q9 => ?_)
  refine VB_st (st' := [.ref q9]) rfl ?_
  refine VB_astore (q := 66) (lv' := [(0, _), (1, _), (2, _), (3, _), (4, _), (5, _), (6, _)]) dL_outfit_64 (by decide) rfl rfl ?_
  refine VB_sipush (q := 69) dL_outfit_66 (by decide) rfl ?_
  exact VB_iretU dL_outfit_69 rfl (rfl) (Nat.le_refl _) hg rfl
set_option maxRecDepth 100000 in
set_option maxHeartbeats 8000000 in
theorem u_out1_noa {a : Nat → Nat} {c : Nat → ClassId} {S : St} {b : Nat → Nat} {d : Nat → ClassId} {F : Nat → Nat → Int32} {g : Nat → Nat} (ho : Ok S) (hg : ∀ j, g j < 4096) (t p q y : Int) (rt9 : -2147483648 ≤ t ∧ t < 2147483648) (rp9 : -2147483648 ≤ p ∧ p < 2147483648) (rq9 : -2147483648 ≤ q ∧ q < 2147483648) (ry9 : -2147483648 ≤ y ∧ y < 2147483648) (e : cSoon S t p y = 2) : CtU yL_outfit wsL_outfit rmW (tyl c d) [.ref (a 0), .int (iZ 1), .int (iZ t), .int (iZ p), .int (iZ q), .int (iZ y)] (wal a c S b d F g) (wal a c S b d F) (fun x => x = iZ (-982)) (fun _ => 1) 1 := by
  refine CtUW_of (own := RL) (by decide) rfl rfl (Nat.le_of_ble_eq_true rfl) ?_
  refine VB_lvq (lv' := [(0, _), (1, _), (2, _), (3, _), (4, _), (5, _)]) rfl ?_
  have hM := c_X0_isTooSoon (a := a) (c := c) (g := g) ho t p y rt9 rp9 ry9
  rw [e] at hM
  refine VB_iload_n (q := 1) dL_outfit_0 1 rfl rfl ?_
  refine VB_if_ne (q := 4) (tgt := 23) dL_outfit_1 (by decide) (by decide) (fun _ => ?_) (fun hc => absurd hc (by decide))
  refine VB_iload_n (q := 24) dL_outfit_23 1 rfl rfl ?_
  refine VB_iconst (q := 25) dL_outfit_24 rfl ?_
  refine VB_icmp_ne (q := 28) (tgt := 47) dL_outfit_25 (by decide) (by decide) (by decide) (fun hc => absurd hc (by decide)) (fun _ => ?_)
  refine VB_aload_n (q := 29) dL_outfit_28 0 rfl rfl ?_
  refine VB_iload_n (q := 30) dL_outfit_29 2 rfl rfl ?_
  refine VB_iload_n (q := 31) dL_outfit_30 3 rfl rfl ?_
  refine VB_iload (q := 33) dL_outfit_31 5 rfl rfl ?_
  refine VB_callX1 (q := 0) (E := "java/lang/IllegalArgumentException") (w1 := []) (w2 := [(b 0, .inl (d 0, 60, .inl (F 0))), (b 1, .inl (d 1, 12, .inl (F 1))), (b 2, .inl (d 2, 8, .inl (F 2))), (b 3, .inl (d 3, 4, .inl (F 3))), (b 4, .inl (d 4, 2, .inl (F 4)))]) dL_outfit_33 hM (by decide +kernel) yv_X0_isTooSoon rfl gL_outfit_X0_isTooSoon rfl 0 rfl rfl rfl rfl (Nat.le_of_ble_eq_true rfl) (by decide) (by decide) rfl (tyl_in c d) [⟨0, 57, 58, 30⟩] ⟨0, 57, 64, 15⟩ [⟨0, 57, 70, 17⟩] rfl (by intro z hz; simp only [List.mem_cons, List.not_mem_nil, or_false] at hz; subst hz; exact ⟨by decide, "java/lang/IndexOutOfBoundsException", by decide +kernel, by decide +kernel⟩) (by decide) (by decide) (by decide +kernel) (by decide +kernel) (fun q9 => ?_)
  refine VB_st (st' := [.ref q9]) rfl ?_
  refine VB_astore (q := 66) (lv' := [(0, _), (1, _), (2, _), (3, _), (4, _), (5, _), (6, _)]) dL_outfit_64 (by decide) rfl rfl ?_
  refine VB_sipush (q := 69) dL_outfit_66 (by decide) rfl ?_
  exact VB_iretU dL_outfit_69 rfl (rfl) (Nat.le_refl _) hg rfl
set_option maxRecDepth 100000 in
set_option maxHeartbeats 8000000 in
theorem u_out2_noa {a : Nat → Nat} {c : Nat → ClassId} {S : St} {b : Nat → Nat} {d : Nat → ClassId} {F : Nat → Nat → Int32} {g : Nat → Nat} (ho : Ok S) (hg : ∀ j, g j < 4096) (t p q y : Int) (rt9 : -2147483648 ≤ t ∧ t < 2147483648) (rp9 : -2147483648 ≤ p ∧ p < 2147483648) (rq9 : -2147483648 ≤ q ∧ q < 2147483648) (ry9 : -2147483648 ≤ y ∧ y < 2147483648) (e : cWear S t p q y = 2) : CtU yL_outfit wsL_outfit rmW (tyl c d) [.ref (a 0), .int (iZ 2), .int (iZ t), .int (iZ p), .int (iZ q), .int (iZ y)] (wal a c S b d F g) (wal a c S b d F) (fun x => x = iZ (-982)) (fun _ => 1) 1 := by
  refine CtUW_of (own := RL) (by decide) rfl rfl (Nat.le_of_ble_eq_true rfl) ?_
  refine VB_lvq (lv' := [(0, _), (1, _), (2, _), (3, _), (4, _), (5, _)]) rfl ?_
  have hM := c_X0_wear (a := a) (c := c) (g := g) ho t p q y rt9 rp9 rq9 ry9
  rw [e] at hM
  refine VB_iload_n (q := 1) dL_outfit_0 1 rfl rfl ?_
  refine VB_if_ne (q := 4) (tgt := 23) dL_outfit_1 (by decide) (by decide) (fun _ => ?_) (fun hc => absurd hc (by decide))
  refine VB_iload_n (q := 24) dL_outfit_23 1 rfl rfl ?_
  refine VB_iconst (q := 25) dL_outfit_24 rfl ?_
  refine VB_icmp_ne (q := 28) (tgt := 47) dL_outfit_25 (by decide) (by decide) (by decide) (fun _ => ?_) (fun hc => absurd hc (by decide))
  refine VB_aload_n (q := 48) dL_outfit_47 0 rfl rfl ?_
  refine VB_iload_n (q := 49) dL_outfit_48 2 rfl rfl ?_
  refine VB_iload_n (q := 50) dL_outfit_49 3 rfl rfl ?_
  refine VB_iload (q := 52) dL_outfit_50 4 rfl rfl ?_
  refine VB_iload (q := 54) dL_outfit_52 5 rfl rfl ?_
  refine VB_callX1 (q := 0) (E := "java/lang/IllegalArgumentException") (w1 := []) (w2 := [(b 0, .inl (d 0, 60, .inl (F 0))), (b 1, .inl (d 1, 12, .inl (F 1))), (b 2, .inl (d 2, 8, .inl (F 2))), (b 3, .inl (d 3, 4, .inl (F 3))), (b 4, .inl (d 4, 2, .inl (F 4)))]) dL_outfit_54 hM (by decide +kernel) yv_X0_wear rfl gL_outfit_X0_wear rfl 0 rfl rfl rfl rfl (Nat.le_of_ble_eq_true rfl) (by decide) (by decide) rfl (tyl_in c d) [⟨0, 57, 58, 30⟩] ⟨0, 57, 64, 15⟩ [⟨0, 57, 70, 17⟩] rfl (by intro z hz; simp only [List.mem_cons, List.not_mem_nil, or_false] at hz; subst hz; exact ⟨by decide, "java/lang/IndexOutOfBoundsException", by decide +kernel, by decide +kernel⟩) (by decide) (by decide) (by decide +kernel) (by decide +kernel) (fun q9 => ?_)
  refine VB_st (st' := [.ref q9]) rfl ?_
  refine VB_astore (q := 66) (lv' := [(0, _), (1, _), (2, _), (3, _), (4, _), (5, _), (6, _)]) dL_outfit_64 (by decide) rfl rfl ?_
  refine VB_sipush (q := 69) dL_outfit_66 (by decide) rfl ?_
  exact VB_iretU dL_outfit_69 rfl (rfl) (Nat.le_refl _) hg rfl
