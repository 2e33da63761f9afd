/-! the law from its entry: new objects, the walk over the script, its end -/
def qLaw : VQ := fun _ _ args s below => lw_Z below args s
theorem V_law {tys : List (ClassId × FieldType)} {k n : Nat} {ws : va_W} {lv : List (Nat × Value)} {s0 L : Nat} {xs : Nat → Int32} (hk : k ≤ 1067) (hn : n ≤ 10898) : V RL cL_law 7 ret wsL_law room_1 (vXL s0 L xs) tys qLaw k n ws 1313 lv [.int (iZ 1)] := by
  intro p l e s m args below meth c D A H locs ls hx hb hr hm ho ht hk9 hX hK hA hP hD hS hl
  obtain ⟨-, -, -, rfl, -, -, -, hAq⟩ := hX
  exact va_forget (fun q hq => hAq _ (hS.2.2 q hq)) (W.widen hk hn (lw_ret hx hb hr hk9 dL_law_1313))
set_option maxRecDepth 100000 in
set_option maxHeartbeats 4000000 in
theorem law_loop {s0 L : Nat} {xs : Nat → Int32} {o : Nat} {co : ClassId} {a : Nat → Nat} {c : Nat → ClassId} {b : Nat → Nat} {d : Nat → ClassId} (hL : L ≤ 3072) : ∀ (m j : Nat) (S : St) (g1 g2 : Nat → Nat) (th : Nat) (fo : Nat → Int64), L + 1 ≤ 6 * j + m → 6 * j ≤ 3072 → Ok S → (∀ i, g1 i < 4096) → (∀ i, g2 i < 4096) → V RL cL_law 7 ret wsL_law room_1 (vXL s0 L xs) (tyz co c d) qLaw (21 + j) (2574 + 6 * j) (lwz o co fo a c b d S g1 g2 th) 23 [(0, .ref s0), (1, .ref (a 0)), (2, .ref (b 0)), (3, .ref o), (4, .int (iZ (6 * j : Nat)))] [] := by
  intro m
  induction m with
  | zero =>
    intro j S g1 g2 th fo hm hj ho hg1 hg2
    refine V_iload (q := 25) dL_law_23 4 rfl rfl ?_
    refine V_aload_n (q := 26) dL_law_25 0 rfl rfl ?_
    refine V_slen dL_law_26 (show 26 + 1 = 27 from rfl) ?_
    refine V_bipush (q := 29) dL_law_27 (by decide) rfl ?_
    refine V_isub (q := 30) dL_law_29 rfl ?_
    refine V_icmp_gt (q := 33) (tgt := 1312) dL_law_30 (by omega) (by omega) (by decide) (fun _ => ?_) (fun h => absurd h (by omega))
    refine V_iconst (q := 1313) dL_law_1312 rfl ?_
    exact V_law (by omega) (by omega)
  | succ m ih =>
    intro j S g1 g2 th fo hm hj ho hg1 hg2
    refine V_iload (q := 25) dL_law_23 4 rfl rfl ?_
    refine V_aload_n (q := 26) dL_law_25 0 rfl rfl ?_
    refine V_slen dL_law_26 (show 26 + 1 = 27 from rfl) ?_
    refine V_bipush (q := 29) dL_law_27 (by decide) rfl ?_
    refine V_isub (q := 30) dL_law_29 rfl ?_
    refine V_icmp_gt (q := 33) (tgt := 1312) dL_law_30 (by omega) (by omega) (by decide) (fun _ => ?_) (fun hle => ?_)
    · skip
      refine V_iconst (q := 1313) dL_law_1312 rfl ?_
      exact V_law (by omega) (by omega)
    have hi : 6 * j + 6 ≤ L := by omega
    have hkn : (21 + j) + 1 ≤ 1067 ∧ (2574 + 6 * j) + 6 ≤ 10898 := by omega
    have K : ∀ (S' : St) (g1' g2' : Nat → Nat) (th' : Nat) (fo' : Nat → Int64), Ok S' → (∀ j, g1' j < 4096) → (∀ j, g2' j < 4096) → V RL cL_law 7 ret wsL_law room_1 (vXL s0 L xs) (tyz co c d) qLaw ((21 + j) + 1) ((2574 + 6 * j) + 6) (lwz o co fo' a c b d S' g1' g2' th') 1306 [(0, .ref s0), (1, .ref (a 0)), (2, .ref (b 0)), (3, .ref o), (4, .int (iZ (6 * j : Nat)))] [] := by
      intro S' g1' g2' th' fo' ho' hg1' hg2'
      refine V_iinc (q := 1309) (y := ((6 * (j + 1) : Nat) : Int)) (lv' := [(0, _), (1, _), (2, _), (3, _), (4, _)]) dL_law_1306 4 rfl (by omega) (by decide) rfl rfl ?_
      refine V_goto (tgt := 23) dL_law_1309 (by decide) ?_
      exact ih (j + 1) S' g1' g2' th' fo' (by omega) (by omega) ho' hg1' hg2'
    refine V_aload_n (q := 34) dL_law_33 0 rfl rfl ?_
    refine V_iload (q := 36) dL_law_34 4 rfl rfl ?_
    refine V_sld dL_law_36 (6 * j) rfl (by omega) (by omega) (show 36 + 1 = 37 from rfl) ?_
    refine V_bipush (q := 39) dL_law_37 (by decide) rfl ?_
    refine V_iand (q := 40) dL_law_39 rfl ?_
    obtain ⟨v, hv, ev⟩ := and31 (xs (6 * j))
    refine V_top ev ?_
    rcases Nat.lt_or_ge v 17 with h17 | h17
    · have hc : v = 0 ∨ v = 1 ∨ v = 2 ∨ v = 3 ∨ v = 4 ∨ v = 5 ∨ v = 6 ∨ v = 7 ∨ v = 8 ∨ v = 9 ∨ v = 10 ∨ v = 11 ∨ v = 12 ∨ v = 13 ∨ v = 14 ∨ v = 15 ∨ v = 16 := by omega
      rcases hc with rfl | rfl | rfl | rfl | rfl | rfl | rfl | rfl | rfl | rfl | rfl | rfl | rfl | rfl | rfl | rfl | rfl
      · exact V_tabIn (tgt := 124) dL_law_40 (by decide) (by decide) (by decide) rfl (by decide) (law_add ho hg1 hg2 hi hL hkn K)
      · exact V_tabIn (tgt := 228) dL_law_40 (by decide) (by decide) (by decide) rfl (by decide) (law_giveAway ho hg1 hg2 hi hL hkn K)
      · exact V_tabIn (tgt := 284) dL_law_40 (by decide) (by decide) (by decide) rfl (by decide) (law_setClash ho hg1 hg2 hi hL hkn K)
      · exact V_tabIn (tgt := 387) dL_law_40 (by decide) (by decide) (by decide) rfl (by decide) (law_things ho hg1 hg2 hi hL hkn K)
      · exact V_tabIn (tgt := 400) dL_law_40 (by decide) (by decide) (by decide) rfl (by decide) (law_left ho hg1 hg2 hi hL hkn K)
      · exact V_tabIn (tgt := 456) dL_law_40 (by decide) (by decide) (by decide) rfl (by decide) (law_isPossible ho hg1 hg2 hi hL hkn K)
      · exact V_tabIn (tgt := 543) dL_law_40 (by decide) (by decide) (by decide) rfl (by decide) (law_isTooSoon ho hg1 hg2 hi hL hkn K)
      · exact V_tabIn (tgt := 630) dL_law_40 (by decide) (by decide) (by decide) rfl (by decide) (law_wear ho hg1 hg2 hi hL hkn K)
      · exact V_tabIn (tgt := 722) dL_law_40 (by decide) (by decide) (by decide) rfl (by decide) (law_outfits ho hg1 hg2 hi hL hkn K)
      · exact V_tabIn (tgt := 778) dL_law_40 (by decide) (by decide) (by decide) rfl (by decide) (law_adds ho hg1 hg2 hi hL hkn K)
      · exact V_tabIn (tgt := 846) dL_law_40 (by decide) (by decide) (by decide) rfl (by decide) (law_missingTop ho hg1 hg2 hi hL hkn K)
      · exact V_tabIn (tgt := 859) dL_law_40 (by decide) (by decide) (by decide) rfl (by decide) (law_outfitFor ho hg1 hg2 hi hL hkn K)
      · exact V_tabIn (tgt := 927) dL_law_40 (by decide) (by decide) (by decide) rfl (by decide) (law_load ho hg1 hg2 hi hL hkn K)
      · exact V_tabIn (tgt := 1011) dL_law_40 (by decide) (by decide) (by decide) rfl (by decide) (law_wash ho hg1 hg2 hi hL hkn K)
      · exact V_tabIn (tgt := 1095) dL_law_40 (by decide) (by decide) (by decide) rfl (by decide) (law_pass ho hg1 hg2 hi hL hkn K)
      · exact V_tabIn (tgt := 1151) dL_law_40 (by decide) (by decide) (by decide) rfl (by decide) (law_isEnough ho hg1 hg2 hi hL hkn K)
      · exact V_tabIn (tgt := 1238) dL_law_40 (by decide) (by decide) (by decide) rfl (by decide) (law_bag ho hg1 hg2 hi hL hkn K)
    · exact V_tabOut (tgt := 1306) dL_law_40 (by omega) (Or.inr (by omega)) (by decide) (V_widen (Nat.le_add_right _ 1) (Nat.le_add_right _ 6) (K S g1 g2 th fo ho hg1 hg2))
theorem yn_X0 : ∃ (bytes : ByteArray) (maxL : Nat) (wy' : List Cond), wsX0_init = Cond.code yX0_init bytes maxL none :: wy' ∧ (yX0_init.cls ≠ "java/lang/invoke/MethodHandle" ∧ yX0_init.cls ≠ "java/lang/invoke/VarHandle" ∧ (parseMethodDescriptor yX0_init.desc).map (fun d => d.parameters.length) = some 0) ∧ maxL ≤ 21 := ⟨_, _, _, rfl, by decide +kernel, by decide⟩
theorem yn_X1 : ∃ (bytes : ByteArray) (maxL : Nat) (wy' : List Cond), wsX1_init = Cond.code yX1_init bytes maxL none :: wy' ∧ (yX1_init.cls ≠ "java/lang/invoke/MethodHandle" ∧ yX1_init.cls ≠ "java/lang/invoke/VarHandle" ∧ (parseMethodDescriptor yX1_init.desc).map (fun d => d.parameters.length) = some 0) ∧ maxL ≤ 21 := ⟨_, _, _, rfl, by decide +kernel, by decide⟩
theorem in_r1 : ∀ w ∈ wsL_law0_r1, w ∈ wsL_law := fun w h => by
  unfold wsL_law wsL_law0
  simp only [List.mem_append]
  exact Or.inl (Or.inl (Or.inl (Or.inl (Or.inl (Or.inl (Or.inl h))))))
set_option maxRecDepth 100000 in
set_option maxHeartbeats 4000000 in
theorem law_all {s0 L : Nat} {xs : Nat → Int32} (hL : L ≤ 3072) : V RL cL_law 7 ret wsL_law room_1 (vXL s0 L xs) [] qLaw 0 0 [] 0 [(0, .ref s0)] [] := by
  refine V_new (q := 3) (ci := 0) (fs := blX0) dL_law_0 inlX0 tyX0 tyX0_ok (in_r1 _ (by decide +kernel)) (in_r1 _ (by decide +kernel)) (in_r1 _ (by decide +kernel)) rfl (fun j hj => by rcases (show j = 0 ∨ j = 1 ∨ j = 2 ∨ j = 3 ∨ j = 4 ∨ j = 5 ∨ j = 6 ∨ j = 7 ∨ j = 8 ∨ j = 9 ∨ j = 10 ∨ j = 11 by omega) with rfl | rfl | rfl | rfl | rfl | rfl | rfl | rfl | rfl | rfl | rfl | rfl <;> rfl) (by decide) (by decide) rfl (fun q1 => ?_)
  refine V_dup (q := 4) dL_law_3 rfl rfl ?_
  refine V_callN (q := 7) (wr := []) (wc := [(q1, .inr (0, blX0))]) (B := B0) dL_law_4 (c_X0_init q1) yn_X0 rfl gL_law_X0_init (in_r1 _ (by decide +kernel)) (in_r1 _ (by decide +kernel)) (in_r1 _ (by decide +kernel)) [0] [] rfl rfl rfl rfl rfl (by decide) (Nat.le_of_ble_eq_true rfl) (by decide) (by decide) rfl (fun z1 hz1 => ?_)
  refine V_astore_n (q := 8) (lv' := [(0, _), (1, _)]) dL_law_7 (by decide) rfl rfl ?_
  refine V_new (q := 11) (ci := 1) (fs := blX1) dL_law_8 inlX1 tyX1 tyX1_ok (in_r1 _ (by decide +kernel)) (in_r1 _ (by decide +kernel)) (in_r1 _ (by decide +kernel)) rfl (fun j hj => by rcases (show j = 0 ∨ j = 1 ∨ j = 2 ∨ j = 3 ∨ j = 4 ∨ j = 5 ∨ j = 6 ∨ j = 7 ∨ j = 8 ∨ j = 9 ∨ j = 10 ∨ j = 11 ∨ j = 12 by omega) with rfl | rfl | rfl | rfl | rfl | rfl | rfl | rfl | rfl | rfl | rfl | rfl | rfl <;> rfl) (by decide) (by decide) rfl (fun q2 => ?_)
  refine V_dup (q := 12) dL_law_11 rfl rfl ?_
  refine V_callN (q := 15) (wr := wkc z1.1 z1.2 S0 (fun _ => 0)) (wc := [(q2, .inr (1, blX1))]) (B := B1) dL_law_12 (c_X1_init q2) yn_X1 rfl gL_law_X1_init (in_r1 _ (by decide +kernel)) (in_r1 _ (by decide +kernel)) (in_r1 _ (by decide +kernel)) [9] [0, 1, 2, 3, 4, 5, 6, 7, 8] rfl rfl rfl rfl rfl (by decide) (Nat.le_of_ble_eq_true rfl) (by decide) (by decide) rfl (fun z2 hz2 => ?_)
  refine V_astore_n (q := 16) (lv' := [(0, _), (1, _), (2, _)]) dL_law_15 (by decide) rfl rfl ?_
  refine V_iconst (q := 17) dL_law_16 rfl ?_
  refine V_newa (q := 19) (ty := .long) (N' := 1) (a0 := (1, .inr (.inl (fun _ => 0)))) dL_law_17 (in_r1 _ (by decide +kernel)) rfl (fun _ => rfl) rfl (by decide) (by decide) (by decide) (by decide) rfl (fun o co => ?_)
  refine V_astore_n (q := 20) (lv' := [(0, _), (1, _), (2, _), (3, _)]) dL_law_19 (by decide) rfl rfl ?_
  refine V_iconst (q := 21) dL_law_20 rfl ?_
  refine V_istore (q := 23) (lv' := [(0, _), (1, _), (2, _), (3, _), (4, _)]) dL_law_21 (by decide) rfl rfl ?_
  refine V_perm (tys' := tyz co z1.2 z2.2) (ws' := lwz o co (fun _ => 0) z1.1 z1.2 z2.1 z2.2 S0 (fun _ => 0) (fun _ => 0) 0) [18, 0, 1, 2, 3, 4, 5, 6, 7, 8, 9, 10, 11, 12, 13, 14, 15, 16, 17] [20, 0, 1, 2, 3, 4, 5, 6, 7, 8, 9, 10, 11, 12, 13, 14, 15, 16, 17, 18, 19] rfl rfl rfl rfl ?_
  subst hz1 hz2
  exact law_loop hL (L + 1) 0 S0 (fun _ => 0) (fun _ => 0) 0 (fun _ => 0) (by omega) (by omega) S0_ok (fun _ => by decide) (fun _ => by decide)

