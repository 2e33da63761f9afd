/-! the bags -/
set_option maxRecDepth 100000 in
set_option maxHeartbeats 8000000 in
theorem u_isBag {a : Nat → Nat} {c : Nat → ClassId} {S : St} {b : Nat → Nat} {d : Nat → ClassId} {F : Nat → Nat → Int32} {g : Nat → Nat} {m0 : Nat} (hI : Iv S F m0) (hg : ∀ j, g j < 4096) : CtU yL_isBag wsL_isBag (rmU 10 16) (tyl c d) [.ref (a 0), .ref (b 0), .ref (b 1), .ref (b 4), .int (iZ 0), .int (iZ 1), .int (iZ 0)] (wal a c S b d F g) (wal a c S b d F) (fun _ => True) (fun _ => 0) 16 := by
  obtain ⟨ho, hn, hm4, hM0, hG, hC⟩ := id hI
  refine CtU_of (own := RL) (by decide) rfl rfl (Nat.le_of_ble_eq_true rfl) ?_
  refine VB_lvq (lv' := [(0, _), (1, _), (2, _), (3, _), (4, _), (5, _), (6, _)]) rfl ?_
  refine VB_iconst (q := 1) dL_isBag_0 rfl ?_
  refine VB_istore (q := 3) (lv' := [(0, _), (1, _), (2, _), (3, _), (4, _), (5, _), (6, _), (7, _)]) dL_isBag_1 (by decide) rfl rfl ?_
  refine VB_iconst (q := 4) dL_isBag_3 rfl ?_
  refine VB_istore (q := 6) (lv' := [(0, _), (1, _), (2, _), (3, _), (4, _), (5, _), (6, _), (7, _), (8, _)]) dL_isBag_4 (by decide) rfl rfl ?_
  refine VB_iconst (q := 7) dL_isBag_6 rfl ?_
  have J9 : ∀ (zkA kA : Nat) (j9_7 : Int32) (j9_8 : Int32), kA ≤ m0 → m0 + 1 ≤ kA + zkA → VB 0 RL cL_isBag 17 (some .boolean) wsL_isBag (rmU 10 16) vXU (tyl c d) (qU (wal a c S b d F) (tyl c d) (fun _ => True) (fun _ => 0) 16 (6 * 16)) (0) (0) (wal a c S b d F g) 9 [(0, .ref (a 0)), (1, .ref (b 0)), (2, .ref (b 1)), (3, .ref (b 4)), (4, .int (iZ 0)), (5, .int (iZ 1)), (6, .int (iZ 0)), (7, .int j9_7), (8, .int j9_8), (9, .int (iZ ((kA : Nat) : Int)))] [] := by
    intro zkA
    induction zkA with
    | zero => intro kA j9_7 j9_8 hkA1 hkA2; exact absurd hkA2 (by omega)
    | succ zkA ihkA =>
      intro kA j9_7 j9_8 hkA1 hkA2
      refine VB_iload (q := 11) dL_isBag_9 9 rfl rfl ?_
      refine VB_aload_n (q := 12) dL_isBag_11 3 rfl rfl ?_
      refine VB_iconst (q := 13) dL_isBag_12 rfl ?_
      refine VB_iald (q := 14) (v := (iZ ((m0 : Nat) : Int))) dL_isBag_13 13 12 rfl rfl (0) (by omega) (by omega) (by decide) (hM0) rfl ?_
      refine VB_icmp_ge (q := 17) (tgt := 68) dL_isBag_14 (by omega) (by omega) (by decide) (fun t14 => ?_) (fun t14 => ?_)
      · skip
        refine VB_aload_n (q := 69) dL_isBag_68 0 rfl rfl ?_
        refine VB_iload (q := 71) dL_isBag_69 5 rfl rfl ?_
        refine VB_iload (q := 73) dL_isBag_71 6 rfl rfl ?_
        refine VB_callX0 (q := 76) (w1 := []) (w2 := [(b 0, .inl (d 0, 60, .inl (F 0))), (b 1, .inl (d 1, 12, .inl (F 1))), (b 2, .inl (d 2, 8, .inl (F 2))), (b 3, .inl (d 3, 4, .inl (F 3))), (b 4, .inl (d 4, 2, .inl (F 4)))]) (ws' := wal a c S b d F (gF S 0 g)) dL_isBag_73 (c_X0_bag (a := a) (c := c) (S := S) (g := g) ho 1 0 hg (by omega) (by omega)) (rfl) yv_X0_bag rfl gL_isBag_X0_bag rfl 0 rfl rfl rfl rfl (Nat.le_of_ble_eq_true rfl) (by decide) ⟨by show _ ≤ 16; omega, by show _ ≤ 6 * 16; omega⟩ rfl xU_U rfl rfl (tyl_in c d) ?_
        refine VB_uany (fun u73 => ?_)
        have hg73 : ∀ j, (gF S 0 g) j < 4096 := gF_lt hg
        generalize gF S 0 g = g73 at hg73 ⊢
        refine VB_istore (q := 78) (lv' := [(0, _), (1, _), (2, _), (3, _), (4, _), (5, _), (6, _), (7, _), (8, _), (9, _)]) dL_isBag_76 (by decide) rfl rfl ?_
        refine VB_iload (q := 80) dL_isBag_78 4 rfl rfl ?_
        refine VB_iload (q := 82) dL_isBag_80 7 rfl rfl ?_
        refine VB_uiand (q := 83) dL_isBag_82 rfl (fun u82 => ?_)
        refine VB_istore (q := 85) (lv' := [(0, _), (1, _), (2, _), (3, _), (4, _), (5, _), (6, _), (7, _), (8, _), (9, _), (10, _)]) dL_isBag_83 (by decide) rfl rfl ?_
        refine VB_aload_n (q := 86) dL_isBag_85 0 rfl rfl ?_
        refine VB_iconst (q := 87) dL_isBag_86 rfl ?_
        refine VB_iload (q := 89) dL_isBag_87 7 rfl rfl ?_
        refine VB_iload (q := 91) dL_isBag_89 5 rfl rfl ?_
        refine VB_iload (q := 93) dL_isBag_91 6 rfl rfl ?_
        refine VB_callUW (q := 96) dL_isBag_93 (u_yes1 (a := a) (c := c) (S := S) (b := b) (d := d) (F := F) ho hg73 j9_7 1 0 (by omega) (by omega)) yw_yes rfl gL_isBag_L_yes xU_U rfl (Nat.le_of_ble_eq_true rfl) (by decide) ⟨by show _ ≤ 16; omega, by show _ ≤ 6 * 16; omega⟩ (fun x93 g93 hP93 hg93 => ?_)
        refine VB_lo (lo' := 0) (by show 0 ≤ 0 + 0; omega) ?_
        refine VB_iconst (q := 97) dL_isBag_96 rfl ?_
        have J105 : ∀ (j105_7 : Int32) (j105_8 : Int32) (j105_s0 : Bool), VB 0 RL cL_isBag 17 (some .boolean) wsL_isBag (rmU 10 16) vXU (tyl c d) (qU (wal a c S b d F) (tyl c d) (fun _ => True) (fun _ => 0) 16 (6 * 16)) (2) (12) (wal a c S b d F g93) 105 [(0, .ref (a 0)), (1, .ref (b 0)), (2, .ref (b 1)), (3, .ref (b 4)), (4, .int (iZ 0)), (5, .int (iZ 1)), (6, .int (iZ 0)), (7, .int j105_7), (8, .int j105_8), (9, .int u73), (10, .int u82)] [.int (iZ (bZ j105_s0))] := by
          intro j105_7 j105_8 j105_s0
          refine VB_istore (q := 107) (lv' := [(0, _), (1, _), (2, _), (3, _), (4, _), (5, _), (6, _), (7, _), (8, _), (9, _), (10, _), (11, _)]) dL_isBag_105 (by decide) rfl rfl ?_
          refine VB_iload (q := 109) dL_isBag_107 9 rfl rfl ?_
          have J117 : ∀ (j117_7 : Int32) (j117_8 : Int32) (j117_11 : Bool) (j117_s0 : Bool), VB 0 RL cL_isBag 17 (some .boolean) wsL_isBag (rmU 10 16) vXU (tyl c d) (qU (wal a c S b d F) (tyl c d) (fun _ => True) (fun _ => 0) 16 (6 * 16)) (2) (12) (wal a c S b d F g93) 117 [(0, .ref (a 0)), (1, .ref (b 0)), (2, .ref (b 1)), (3, .ref (b 4)), (4, .int (iZ 0)), (5, .int (iZ 1)), (6, .int (iZ 0)), (7, .int j117_7), (8, .int j117_8), (9, .int u73), (10, .int u82), (11, .int (iZ (bZ j117_11)))] [.int (iZ (bZ j117_s0))] := by
            intro j117_7 j117_8 j117_11 j117_s0
            refine VB_iload (q := 119) dL_isBag_117 11 rfl rfl ?_
            have J188 : ∀ (j188_7 : Int32) (j188_8 : Int32) (j188_11 : Bool) (j188_s0 : Bool) (gj188 : Nat → Nat), (∀ j, gj188 j < 4096) → VB 0 RL cL_isBag 17 (some .boolean) wsL_isBag (rmU 10 16) vXU (tyl c d) (qU (wal a c S b d F) (tyl c d) (fun _ => True) (fun _ => 0) 16 (6 * 16)) (4) (24) (wal a c S b d F gj188) 188 [(0, .ref (a 0)), (1, .ref (b 0)), (2, .ref (b 1)), (3, .ref (b 4)), (4, .int (iZ 0)), (5, .int (iZ 1)), (6, .int (iZ 0)), (7, .int j188_7), (8, .int j188_8), (9, .int u73), (10, .int u82), (11, .int (iZ (bZ j188_11)))] [.int (iZ (bZ j188_s0))] := by
              intro j188_7 j188_8 j188_11 j188_s0 gj188 hgj188
              refine VB_istore (q := 190) (lv' := [(0, _), (1, _), (2, _), (3, _), (4, _), (5, _), (6, _), (7, _), (8, _), (9, _), (10, _), (11, _), (12, _)]) dL_isBag_188 (by decide) rfl rfl ?_
              refine VB_iconst (q := 191) dL_isBag_190 rfl ?_
              refine VB_istore (q := 193) (lv' := [(0, _), (1, _), (2, _), (3, _), (4, _), (5, _), (6, _), (7, _), (8, _), (9, _), (10, _), (11, _), (12, _), (13, _)]) dL_isBag_191 (by decide) rfl rfl ?_
              refine VB_iconst (q := 194) dL_isBag_193 rfl ?_
              refine VB_istore (q := 196) (lv' := [(0, _), (1, _), (2, _), (3, _), (4, _), (5, _), (6, _), (7, _), (8, _), (9, _), (10, _), (11, _), (12, _), (13, _), (14, _)]) dL_isBag_194 (by decide) rfl rfl ?_
              refine VB_iconst (q := 197) dL_isBag_196 rfl ?_
              have J199 : ∀ (zkB kB : Nat) (j199_7 : Int32) (j199_8 : Int32) (j199_11 : Bool) (j199_12 : Bool) (j199_13 : Int32) (j199_14 : Int32) (gj199 : Nat → Nat), (∀ j, gj199 j < 4096) → kB ≤ m0 → m0 + 1 ≤ kB + zkB → VB 0 RL cL_isBag 17 (some .boolean) wsL_isBag (rmU 10 16) vXU (tyl c d) (qU (wal a c S b d F) (tyl c d) (fun _ => True) (fun _ => 0) 16 (6 * 16)) (1 * kB + 4) (6 * kB + 24) (wal a c S b d F gj199) 199 [(0, .ref (a 0)), (1, .ref (b 0)), (2, .ref (b 1)), (3, .ref (b 4)), (4, .int (iZ 0)), (5, .int (iZ 1)), (6, .int (iZ 0)), (7, .int j199_7), (8, .int j199_8), (9, .int u73), (10, .int u82), (11, .int (iZ (bZ j199_11))), (12, .int (iZ (bZ j199_12))), (13, .int j199_13), (14, .int j199_14), (15, .int (iZ ((kB : Nat) : Int)))] [] := by
                intro zkB
                induction zkB with
                | zero => intro kB j199_7 j199_8 j199_11 j199_12 j199_13 j199_14 gj199 hgj199 hkB1 hkB2; exact absurd hkB2 (by omega)
                | succ zkB ihkB =>
                  intro kB j199_7 j199_8 j199_11 j199_12 j199_13 j199_14 gj199 hgj199 hkB1 hkB2
                  refine VB_iload (q := 201) dL_isBag_199 15 rfl rfl ?_
                  refine VB_aload_n (q := 202) dL_isBag_201 3 rfl rfl ?_
                  refine VB_iconst (q := 203) dL_isBag_202 rfl ?_
                  refine VB_iald (q := 204) (v := (iZ ((m0 : Nat) : Int))) dL_isBag_203 13 12 rfl rfl (0) (by omega) (by omega) (by decide) (hM0) rfl ?_
                  have J347 : ∀ (j347_7 : Int32) (j347_8 : Int32) (j347_11 : Bool) (j347_12 : Bool) (j347_13 : Int32) (j347_14 : Int32), VB 0 RL cL_isBag 17 (some .boolean) wsL_isBag (rmU 10 16) vXU (tyl c d) (qU (wal a c S b d F) (tyl c d) (fun _ => True) (fun _ => 0) 16 (6 * 16)) (1 * kB + 4) (6 * kB + 24) (wal a c S b d F gj199) 347 [(0, .ref (a 0)), (1, .ref (b 0)), (2, .ref (b 1)), (3, .ref (b 4)), (4, .int (iZ 0)), (5, .int (iZ 1)), (6, .int (iZ 0)), (7, .int j347_7), (8, .int j347_8), (9, .int u73), (10, .int u82), (11, .int (iZ (bZ j347_11))), (12, .int (iZ (bZ j347_12))), (13, .int j347_13), (14, .int j347_14), (15, .int (iZ ((kB : Nat) : Int)))] [] := by
                    intro j347_7 j347_8 j347_11 j347_12 j347_13 j347_14
                    refine VB_aload_n (q := 348) dL_isBag_347 0 rfl rfl ?_
                    refine VB_iconst (q := 349) dL_isBag_348 rfl ?_
                    refine VB_iload (q := 351) dL_isBag_349 10 rfl rfl ?_
                    refine VB_iload (q := 353) dL_isBag_351 5 rfl rfl ?_
                    refine VB_iload (q := 355) dL_isBag_353 6 rfl rfl ?_
                    refine VB_callUW (q := 358) dL_isBag_355 (u_yes1 (a := a) (c := c) (S := S) (b := b) (d := d) (F := F) ho hgj199 u82 1 0 (by omega) (by omega)) yw_yes rfl gL_isBag_L_yes xU_U rfl (Nat.le_of_ble_eq_true rfl) (by decide) ⟨by show _ ≤ 16; omega, by show _ ≤ 6 * 16; omega⟩ (fun x355 g355 hP355 hg355 => ?_)
                    refine VB_lo (lo' := 0) (by show 0 ≤ 0 + 0; omega) ?_
                    refine VB_iconst (q := 359) dL_isBag_358 rfl ?_
                    have J367 : ∀ (j367_7 : Int32) (j367_8 : Int32) (j367_11 : Bool) (j367_12 : Bool) (j367_13 : Int32) (j367_14 : Int32) (j367_s0 : Bool), VB 0 RL cL_isBag 17 (some .boolean) wsL_isBag (rmU 10 16) vXU (tyl c d) (qU (wal a c S b d F) (tyl c d) (fun _ => True) (fun _ => 0) 16 (6 * 16)) (1 * kB + 5) (6 * kB + 30) (wal a c S b d F g355) 367 [(0, .ref (a 0)), (1, .ref (b 0)), (2, .ref (b 1)), (3, .ref (b 4)), (4, .int (iZ 0)), (5, .int (iZ 1)), (6, .int (iZ 0)), (7, .int j367_7), (8, .int j367_8), (9, .int u73), (10, .int u82), (11, .int (iZ (bZ j367_11))), (12, .int (iZ (bZ j367_12))), (13, .int j367_13), (14, .int j367_14), (15, .int (iZ ((kB : Nat) : Int)))] [.int (iZ (bZ j367_s0))] := by
                      intro j367_7 j367_8 j367_11 j367_12 j367_13 j367_14 j367_s0
                      refine VB_istore (q := 369) (lv' := [(0, _), (1, _), (2, _), (3, _), (4, _), (5, _), (6, _), (7, _), (8, _), (9, _), (10, _), (11, _), (12, _), (13, _), (14, _), (15, _)]) dL_isBag_367 (by decide) rfl rfl ?_
                      refine VB_iload (q := 371) dL_isBag_369 12 rfl rfl ?_
                      have J463 : ∀ (j463_7 : Int32) (j463_8 : Int32) (j463_11 : Bool) (j463_12 : Bool) (j463_13 : Int32) (j463_14 : Int32) (j463_15 : Bool) (j463_s0 : Bool) (gj463 : Nat → Nat), (∀ j, gj463 j < 4096) → VB 0 RL cL_isBag 17 (some .boolean) wsL_isBag (rmU 10 16) vXU (tyl c d) (qU (wal a c S b d F) (tyl c d) (fun _ => True) (fun _ => 0) 16 (6 * 16)) (1 * kB + 7) (6 * kB + 42) (wal a c S b d F gj463) 463 [(0, .ref (a 0)), (1, .ref (b 0)), (2, .ref (b 1)), (3, .ref (b 4)), (4, .int (iZ 0)), (5, .int (iZ 1)), (6, .int (iZ 0)), (7, .int j463_7), (8, .int j463_8), (9, .int u73), (10, .int u82), (11, .int (iZ (bZ j463_11))), (12, .int (iZ (bZ j463_12))), (13, .int j463_13), (14, .int j463_14), (15, .int (iZ (bZ j463_15)))] [.int (iZ (bZ j463_s0))] := by
                        intro j463_7 j463_8 j463_11 j463_12 j463_13 j463_14 j463_15 j463_s0 gj463 hgj463
                        exact VB_widen (k' := 16) (n' := 6 * 16) (by omega) (by omega) (VB_zretU dL_isBag_463 rfl (by cases j463_s0 <;> rfl) trivial (Nat.zero_le _) hgj463 rfl)
                      have J462 : ∀ (j462_7 : Int32) (j462_8 : Int32) (j462_11 : Bool) (j462_12 : Bool) (j462_13 : Int32) (j462_14 : Int32) (j462_15 : Bool) (gj462 : Nat → Nat), (∀ j, gj462 j < 4096) → VB 0 RL cL_isBag 17 (some .boolean) wsL_isBag (rmU 10 16) vXU (tyl c d) (qU (wal a c S b d F) (tyl c d) (fun _ => True) (fun _ => 0) 16 (6 * 16)) (1 * kB + 7) (6 * kB + 42) (wal a c S b d F gj462) 462 [(0, .ref (a 0)), (1, .ref (b 0)), (2, .ref (b 1)), (3, .ref (b 4)), (4, .int (iZ 0)), (5, .int (iZ 1)), (6, .int (iZ 0)), (7, .int j462_7), (8, .int j462_8), (9, .int u73), (10, .int u82), (11, .int (iZ (bZ j462_11))), (12, .int (iZ (bZ j462_12))), (13, .int j462_13), (14, .int j462_14), (15, .int (iZ (bZ j462_15)))] [] := by
                        intro j462_7 j462_8 j462_11 j462_12 j462_13 j462_14 j462_15 gj462 hgj462
                        refine VB_iconst (q := 463) dL_isBag_462 rfl ?_
                        exact VB_widen (by omega) (by omega) (J463 j462_7 j462_8 j462_11 j462_12 j462_13 j462_14 j462_15 false gj462 hgj462)
                      refine VB_uif_eq (q := 374) (tgt := 462) dL_isBag_371 (by decide) ?_ ?_
                      · skip
                        exact VB_widen (by omega) (by omega) (J462 j367_7 j367_8 j367_11 j367_12 j367_13 j367_14 j367_s0 g355 hg355)
                      · skip
                        refine VB_iload (q := 376) dL_isBag_374 15 rfl rfl ?_
                        have J458 : ∀ (j458_7 : Int32) (j458_8 : Int32) (j458_11 : Bool) (j458_13 : Int32) (j458_14 : Int32) (gj458 : Nat → Nat), (∀ j, gj458 j < 4096) → VB 0 RL cL_isBag 17 (some .boolean) wsL_isBag (rmU 10 16) vXU (tyl c d) (qU (wal a c S b d F) (tyl c d) (fun _ => True) (fun _ => 0) 16 (6 * 16)) (1 * kB + 7) (6 * kB + 42) (wal a c S b d F gj458) 458 [(0, .ref (a 0)), (1, .ref (b 0)), (2, .ref (b 1)), (3, .ref (b 4)), (4, .int (iZ 0)), (5, .int (iZ 1)), (6, .int (iZ 0)), (7, .int j458_7), (8, .int j458_8), (9, .int u73), (10, .int u82), (11, .int (iZ (bZ j458_11))), (12, .int (iZ (bZ j367_12))), (13, .int j458_13), (14, .int j458_14), (15, .int (iZ (bZ j367_s0)))] [] := by
                          intro j458_7 j458_8 j458_11 j458_13 j458_14 gj458 hgj458
                          refine VB_iconst (q := 459) dL_isBag_458 rfl ?_
                          refine VB_goto (tgt := 463) dL_isBag_459 (by decide) ?_
                          exact VB_widen (by omega) (by omega) (J463 j458_7 j458_8 j458_11 j367_12 j458_13 j458_14 j367_s0 true gj458 hgj458)
                        refine VB_uif_eq (q := 379) (tgt := 458) dL_isBag_376 (by decide) ?_ ?_
                        · skip
                          exact VB_widen (by omega) (by omega) (J458 j367_7 j367_8 j367_11 j367_13 j367_14 g355 hg355)
                        · skip
                          refine VB_iload (q := 381) dL_isBag_379 13 rfl rfl ?_
                          refine VB_iload (q := 383) dL_isBag_381 5 rfl rfl ?_
                          refine VB_uicmp_lt (q := 386) (tgt := 462) dL_isBag_383 (by decide) ?_ ?_
                          · skip
                            exact VB_widen (by omega) (by omega) (J462 j367_7 j367_8 j367_11 j367_12 j367_13 j367_14 j367_s0 g355 hg355)
                          · skip
                            refine VB_iload (q := 388) dL_isBag_386 14 rfl rfl ?_
                            refine VB_iload (q := 390) dL_isBag_388 5 rfl rfl ?_
                            refine VB_uicmp_lt (q := 393) (tgt := 462) dL_isBag_390 (by decide) ?_ ?_
                            · skip
                              exact VB_widen (by omega) (by omega) (J462 j367_7 j367_8 j367_11 j367_12 j367_13 j367_14 j367_s0 g355 hg355)
                            · skip
                              refine VB_iload (q := 395) dL_isBag_393 11 rfl rfl ?_
                              refine VB_uif_eq (q := 398) (tgt := 462) dL_isBag_395 (by decide) ?_ ?_
                              · skip
                                exact VB_widen (by omega) (by omega) (J462 j367_7 j367_8 j367_11 j367_12 j367_13 j367_14 j367_s0 g355 hg355)
                              · skip
                                refine VB_aload_n (q := 399) dL_isBag_398 0 rfl rfl ?_
                                refine VB_iconst (q := 400) dL_isBag_399 rfl ?_
                                refine VB_iload (q := 402) dL_isBag_400 10 rfl rfl ?_
                                refine VB_iload (q := 404) dL_isBag_402 5 rfl rfl ?_
                                refine VB_iconst (q := 405) dL_isBag_404 rfl ?_
                                refine VB_icmp_le (q := 408) (tgt := 415) dL_isBag_405 (by decide) (by decide) (by decide) (fun _ => ?_) (fun hc => absurd hc (by decide))
                                refine VB_iconst (q := 416) dL_isBag_415 rfl ?_
                                refine VB_iload (q := 418) dL_isBag_416 6 rfl rfl ?_
                                refine VB_iconst (q := 419) dL_isBag_418 rfl ?_
                                refine VB_idiv (q := 420) (a := 0) (b := 2) dL_isBag_419 (by omega) (by decide) (by decide) rfl ?_
                                refine VB_top (y := iZ 0) rfl ?_
                                refine VB_callUW (q := 423) dL_isBag_420 (u_yes1 (a := a) (c := c) (S := S) (b := b) (d := d) (F := F) ho hg355 u82 1 0 (by omega) (by omega)) yw_yes rfl gL_isBag_L_yes xU_U rfl (Nat.le_of_ble_eq_true rfl) (by decide) ⟨by show _ ≤ 16; omega, by show _ ≤ 6 * 16; omega⟩ (fun x420 g420 hP420 hg420 => ?_)
                                refine VB_lo (lo' := 0) (by show 0 ≤ 0 + 0; omega) ?_
                                refine VB_iconst (q := 424) dL_isBag_423 rfl ?_
                                refine VB_uicmp_ne (q := 427) (tgt := 462) dL_isBag_424 (by decide) ?_ ?_
                                · skip
                                  exact VB_widen (by omega) (by omega) (J462 j367_7 j367_8 j367_11 j367_12 j367_13 j367_14 j367_s0 g420 hg420)
                                · skip
                                  refine VB_aload_n (q := 428) dL_isBag_427 0 rfl rfl ?_
                                  refine VB_iconst (q := 429) dL_isBag_428 rfl ?_
                                  refine VB_iload (q := 431) dL_isBag_429 10 rfl rfl ?_
                                  refine VB_iload (q := 433) dL_isBag_431 8 rfl rfl ?_
                                  refine VB_uior (q := 434) dL_isBag_433 rfl (fun u433 => ?_)
                                  refine VB_iload (q := 436) dL_isBag_434 5 rfl rfl ?_
                                  refine VB_iload (q := 438) dL_isBag_436 6 rfl rfl ?_
                                  refine VB_callUW (q := 441) dL_isBag_438 (u_yes1 (a := a) (c := c) (S := S) (b := b) (d := d) (F := F) ho hg420 u433 1 0 (by omega) (by omega)) yw_yes rfl gL_isBag_L_yes xU_U rfl (Nat.le_of_ble_eq_true rfl) (by decide) ⟨by show _ ≤ 16; omega, by show _ ≤ 6 * 16; omega⟩ (fun x438 g438 hP438 hg438 => ?_)
                                  refine VB_lo (lo' := 0) (by show 0 ≤ 0 + 0; omega) ?_
                                  refine VB_iconst (q := 442) dL_isBag_441 rfl ?_
                                  refine VB_uicmp_ne (q := 445) (tgt := 462) dL_isBag_442 (by decide) ?_ ?_
                                  · skip
                                    exact VB_widen (by omega) (by omega) (J462 j367_7 j367_8 j367_11 j367_12 j367_13 j367_14 j367_s0 g438 hg438)
                                  · skip
                                    refine VB_iload (q := 447) dL_isBag_445 9 rfl rfl ?_
                                    refine VB_callU (q := 450) dL_isBag_447 (u_bits (a := a) (c := c) (S := S) (b := b) (d := d) (F := F) u73 hg438) yv_L_bits rfl gL_isBag_L_bits xU_U rfl (Nat.le_of_ble_eq_true rfl) (by decide) ⟨by show _ ≤ 16; omega, by show _ ≤ 6 * 16; omega⟩ (fun x447 g447 hP447 hg447 => ?_)
                                    refine VB_lo (lo' := 0) (Nat.le_add_right _ _) ?_
                                    refine VB_iload (q := 452) dL_isBag_450 10 rfl rfl ?_
                                    refine VB_callU (q := 455) dL_isBag_452 (u_bits (a := a) (c := c) (S := S) (b := b) (d := d) (F := F) u82 hg447) yv_L_bits rfl gL_isBag_L_bits xU_U rfl (Nat.le_of_ble_eq_true rfl) (by decide) ⟨by show _ ≤ 16; omega, by show _ ≤ 6 * 16; omega⟩ (fun x452 g452 hP452 hg452 => ?_)
                                    refine VB_lo (lo' := 0) (Nat.le_add_right _ _) ?_
                                    refine VB_uicmp_gt (q := 458) (tgt := 462) dL_isBag_455 (by decide) ?_ ?_
                                    · skip
                                      exact VB_widen (by omega) (by omega) (J462 j367_7 j367_8 j367_11 j367_12 j367_13 j367_14 j367_s0 g452 hg452)
                                    · skip
                                      exact VB_widen (by omega) (by omega) (J458 j367_7 j367_8 j367_11 j367_13 j367_14 g452 hg452)
                    refine VB_uicmp_ne (q := 362) (tgt := 366) dL_isBag_359 (by decide) ?_ ?_
                    · skip
                      refine VB_iconst (q := 367) dL_isBag_366 rfl ?_
                      exact VB_widen (by omega) (by omega) (J367 j347_7 j347_8 j347_11 j347_12 j347_13 j347_14 false)
                    · skip
                      refine VB_iconst (q := 363) dL_isBag_362 rfl ?_
                      refine VB_goto (tgt := 367) dL_isBag_363 (by decide) ?_
                      exact VB_widen (by omega) (by omega) (J367 j347_7 j347_8 j347_11 j347_12 j347_13 j347_14 true)
                  refine VB_icmp_ge (q := 207) (tgt := 347) dL_isBag_204 (by omega) (by omega) (by decide) (fun t204 => ?_) (fun t204 => ?_)
                  · skip
                    exact VB_widen (by omega) (by omega) (J347 j199_7 j199_8 j199_11 j199_12 j199_13 j199_14)
                  · skip
                    refine VB_iload (q := 209) dL_isBag_207 12 rfl rfl ?_
                    refine VB_uif_eq (q := 212) (tgt := 347) dL_isBag_209 (by decide) ?_ ?_
                    · skip
                      exact VB_widen (by omega) (by omega) (J347 j199_7 j199_8 j199_11 j199_12 j199_13 j199_14)
                    · skip
                      refine VB_iload (q := 214) dL_isBag_212 10 rfl rfl ?_
                      refine VB_iload (q := 216) dL_isBag_214 15 rfl rfl ?_
                      refine VB_uishr (q := 217) dL_isBag_216 rfl (fun u216 => ?_)
                      refine VB_iconst (q := 218) dL_isBag_217 rfl ?_
                      refine VB_uiand (q := 219) dL_isBag_218 rfl (fun u218 => ?_)
                      refine VB_iconst (q := 220) dL_isBag_219 rfl ?_
                      have J228 : ∀ (j228_7 : Int32) (j228_8 : Int32) (j228_11 : Bool) (j228_13 : Int32) (j228_14 : Int32) (j228_s0 : Bool), VB 0 RL cL_isBag 17 (some .boolean) wsL_isBag (rmU 10 16) vXU (tyl c d) (qU (wal a c S b d F) (tyl c d) (fun _ => True) (fun _ => 0) 16 (6 * 16)) (1 * kB + 4) (6 * kB + 24) (wal a c S b d F gj199) 228 [(0, .ref (a 0)), (1, .ref (b 0)), (2, .ref (b 1)), (3, .ref (b 4)), (4, .int (iZ 0)), (5, .int (iZ 1)), (6, .int (iZ 0)), (7, .int j228_7), (8, .int j228_8), (9, .int u73), (10, .int u82), (11, .int (iZ (bZ j228_11))), (12, .int (iZ (bZ j199_12))), (13, .int j228_13), (14, .int j228_14), (15, .int (iZ ((kB : Nat) : Int)))] [.int (iZ (bZ j228_s0))] := by
                        intro j228_7 j228_8 j228_11 j228_13 j228_14 j228_s0
                        refine VB_istore (q := 230) (lv' := [(0, _), (1, _), (2, _), (3, _), (4, _), (5, _), (6, _), (7, _), (8, _), (9, _), (10, _), (11, _), (12, _), (13, _), (14, _), (15, _), (16, _)]) dL_isBag_228 (by decide) rfl rfl ?_
                        refine VB_iload (q := 232) dL_isBag_230 13 rfl rfl ?_
                        refine VB_iload (q := 234) dL_isBag_232 16 rfl rfl ?_
                        have J263 : ∀ (j263_7 : Int32) (j263_8 : Int32) (j263_11 : Bool) (j263_13 : Int32) (j263_14 : Int32) (j263_16 : Bool) (j263_s0 : Int32) (j263_s1 : Int32), VB 0 RL cL_isBag 17 (some .boolean) wsL_isBag (rmU 10 16) vXU (tyl c d) (qU (wal a c S b d F) (tyl c d) (fun _ => True) (fun _ => 0) 16 (6 * 16)) (1 * kB + 4) (6 * kB + 24) (wal a c S b d F gj199) 263 [(0, .ref (a 0)), (1, .ref (b 0)), (2, .ref (b 1)), (3, .ref (b 4)), (4, .int (iZ 0)), (5, .int (iZ 1)), (6, .int (iZ 0)), (7, .int j263_7), (8, .int j263_8), (9, .int u73), (10, .int u82), (11, .int (iZ (bZ j263_11))), (12, .int (iZ (bZ j199_12))), (13, .int j263_13), (14, .int j263_14), (15, .int (iZ ((kB : Nat) : Int))), (16, .int (iZ (bZ j263_16)))] [.int j263_s0, .int j263_s1] := by
                          intro j263_7 j263_8 j263_11 j263_13 j263_14 j263_16 j263_s0 j263_s1
                          refine VB_uiadd (q := 264) dL_isBag_263 rfl (fun u263 => ?_)
                          refine VB_istore (q := 266) (lv' := [(0, _), (1, _), (2, _), (3, _), (4, _), (5, _), (6, _), (7, _), (8, _), (9, _), (10, _), (11, _), (12, _), (13, _), (14, _), (15, _), (16, _)]) dL_isBag_264 (by decide) rfl rfl ?_
                          refine VB_iload (q := 268) dL_isBag_266 14 rfl rfl ?_
                          refine VB_iload (q := 270) dL_isBag_268 16 rfl rfl ?_
                          have J300 : ∀ (j300_7 : Int32) (j300_8 : Int32) (j300_11 : Bool) (j300_13 : Int32) (j300_14 : Int32) (j300_16 : Bool) (j300_s0 : Int32) (j300_s1 : Int32), VB 0 RL cL_isBag 17 (some .boolean) wsL_isBag (rmU 10 16) vXU (tyl c d) (qU (wal a c S b d F) (tyl c d) (fun _ => True) (fun _ => 0) 16 (6 * 16)) (1 * kB + 4) (6 * kB + 24) (wal a c S b d F gj199) 300 [(0, .ref (a 0)), (1, .ref (b 0)), (2, .ref (b 1)), (3, .ref (b 4)), (4, .int (iZ 0)), (5, .int (iZ 1)), (6, .int (iZ 0)), (7, .int j300_7), (8, .int j300_8), (9, .int u73), (10, .int u82), (11, .int (iZ (bZ j300_11))), (12, .int (iZ (bZ j199_12))), (13, .int j300_13), (14, .int j300_14), (15, .int (iZ ((kB : Nat) : Int))), (16, .int (iZ (bZ j300_16)))] [.int j300_s0, .int j300_s1] := by
                            intro j300_7 j300_8 j300_11 j300_13 j300_14 j300_16 j300_s0 j300_s1
                            refine VB_uiadd (q := 301) dL_isBag_300 rfl (fun u300 => ?_)
                            refine VB_istore (q := 303) (lv' := [(0, _), (1, _), (2, _), (3, _), (4, _), (5, _), (6, _), (7, _), (8, _), (9, _), (10, _), (11, _), (12, _), (13, _), (14, _), (15, _), (16, _)]) dL_isBag_301 (by decide) rfl rfl ?_
                            refine VB_iload (q := 305) dL_isBag_303 9 rfl rfl ?_
                            refine VB_iload (q := 307) dL_isBag_305 15 rfl rfl ?_
                            refine VB_uishr (q := 308) dL_isBag_307 rfl (fun u307 => ?_)
                            refine VB_iconst (q := 309) dL_isBag_308 rfl ?_
                            refine VB_uiand (q := 310) dL_isBag_309 rfl (fun u309 => ?_)
                            have J339 : ∀ (j339_7 : Int32) (j339_8 : Int32) (j339_11 : Bool) (j339_13 : Int32) (j339_14 : Int32) (j339_16 : Bool) (j339_s0 : Bool) (gj339 : Nat → Nat), (∀ j, gj339 j < 4096) → VB 0 RL cL_isBag 17 (some .boolean) wsL_isBag (rmU 10 16) vXU (tyl c d) (qU (wal a c S b d F) (tyl c d) (fun _ => True) (fun _ => 0) 16 (6 * 16)) (1 * kB + 5) (6 * kB + 30) (wal a c S b d F gj339) 339 [(0, .ref (a 0)), (1, .ref (b 0)), (2, .ref (b 1)), (3, .ref (b 4)), (4, .int (iZ 0)), (5, .int (iZ 1)), (6, .int (iZ 0)), (7, .int j339_7), (8, .int j339_8), (9, .int u73), (10, .int u82), (11, .int (iZ (bZ j339_11))), (12, .int (iZ (bZ j199_12))), (13, .int j339_13), (14, .int j339_14), (15, .int (iZ ((kB : Nat) : Int))), (16, .int (iZ (bZ j339_16)))] [.int (iZ (bZ j339_s0))] := by
                              intro j339_7 j339_8 j339_11 j339_13 j339_14 j339_16 j339_s0 gj339 hgj339
                              refine VB_istore (q := 341) (lv' := [(0, _), (1, _), (2, _), (3, _), (4, _), (5, _), (6, _), (7, _), (8, _), (9, _), (10, _), (11, _), (12, _), (13, _), (14, _), (15, _), (16, _)]) dL_isBag_339 (by decide) rfl rfl ?_
                              refine VB_iinc (q := 344) (y := ((kB + 1 : Nat) : Int)) (lv' := [(0, _), (1, _), (2, _), (3, _), (4, _), (5, _), (6, _), (7, _), (8, _), (9, _), (10, _), (11, _), (12, _), (13, _), (14, _), (15, _), (16, _)]) dL_isBag_341 15 rfl (by omega) (by decide) rfl rfl ?_
                              refine VB_goto (tgt := 199) dL_isBag_344 (by decide) ?_
                              refine VB_loc (lv' := [(0, _), (1, _), (2, _), (3, _), (4, _), (5, _), (6, _), (7, _), (8, _), (9, _), (10, _), (11, _), (12, _), (13, _), (14, _), (15, _)]) [0, 1, 2, 3, 4, 5, 6, 7, 8, 9, 10, 11, 12, 13, 14, 15] rfl ?_
                              exact VB_widen (by omega) (by omega) (ihkB (kB + 1) j339_7 j339_8 j339_11 j339_s0 j339_13 j339_14 gj339 hgj339 (by omega) (by omega))
                            have J334 : ∀ (j334_7 : Int32) (j334_8 : Int32) (j334_11 : Bool) (j334_13 : Int32) (j334_14 : Int32) (j334_16 : Bool) (gj334 : Nat → Nat), (∀ j, gj334 j < 4096) → VB 0 RL cL_isBag 17 (some .boolean) wsL_isBag (rmU 10 16) vXU (tyl c d) (qU (wal a c S b d F) (tyl c d) (fun _ => True) (fun _ => 0) 16 (6 * 16)) (1 * kB + 5) (6 * kB + 30) (wal a c S b d F gj334) 334 [(0, .ref (a 0)), (1, .ref (b 0)), (2, .ref (b 1)), (3, .ref (b 4)), (4, .int (iZ 0)), (5, .int (iZ 1)), (6, .int (iZ 0)), (7, .int j334_7), (8, .int j334_8), (9, .int u73), (10, .int u82), (11, .int (iZ (bZ j334_11))), (12, .int (iZ (bZ j199_12))), (13, .int j334_13), (14, .int j334_14), (15, .int (iZ ((kB : Nat) : Int))), (16, .int (iZ (bZ j334_16)))] [] := by
                              intro j334_7 j334_8 j334_11 j334_13 j334_14 j334_16 gj334 hgj334
                              refine VB_iconst (q := 335) dL_isBag_334 rfl ?_
                              refine VB_goto (tgt := 339) dL_isBag_335 (by decide) ?_
                              exact VB_widen (by omega) (by omega) (J339 j334_7 j334_8 j334_11 j334_13 j334_14 j334_16 true gj334 hgj334)
                            refine VB_uif_eq (q := 313) (tgt := 334) dL_isBag_310 (by decide) ?_ ?_
                            · skip
                              exact VB_widen (by omega) (by omega) (J334 j300_7 j300_8 j300_11 j300_13 u300 j300_16 gj199 hgj199)
                            · skip
                              refine VB_aload_n (q := 314) dL_isBag_313 0 rfl rfl ?_
                              refine VB_iconst (q := 315) dL_isBag_314 rfl ?_
                              refine VB_iload (q := 317) dL_isBag_315 9 rfl rfl ?_
                              refine VB_iconst (q := 318) dL_isBag_317 rfl ?_
                              refine VB_iload (q := 320) dL_isBag_318 15 rfl rfl ?_
                              refine VB_uishl (q := 321) dL_isBag_320 rfl (fun u320 => ?_)
                              refine VB_iconst (q := 322) dL_isBag_321 rfl ?_
                              refine VB_uixor (q := 323) dL_isBag_322 rfl (fun u322 => ?_)
                              refine VB_uiand (q := 324) dL_isBag_323 rfl (fun u323 => ?_)
                              refine VB_iload (q := 326) dL_isBag_324 5 rfl rfl ?_
                              refine VB_iload (q := 328) dL_isBag_326 6 rfl rfl ?_
                              refine VB_callUW (q := 331) dL_isBag_328 (u_yes1 (a := a) (c := c) (S := S) (b := b) (d := d) (F := F) ho hgj199 u323 1 0 (by omega) (by omega)) yw_yes rfl gL_isBag_L_yes xU_U rfl (Nat.le_of_ble_eq_true rfl) (by decide) ⟨by show _ ≤ 16; omega, by show _ ≤ 6 * 16; omega⟩ (fun x328 g328 hP328 hg328 => ?_)
                              refine VB_lo (lo' := 0) (by show 0 ≤ 0 + 0; omega) ?_
                              refine VB_uif_ne (q := 334) (tgt := 338) dL_isBag_331 (by decide) ?_ ?_
                              · skip
                                refine VB_iconst (q := 339) dL_isBag_338 rfl ?_
                                exact VB_widen (by omega) (by omega) (J339 j300_7 j300_8 j300_11 j300_13 u300 j300_16 false g328 hg328)
                              · skip
                                exact VB_widen (by omega) (by omega) (J334 j300_7 j300_8 j300_11 j300_13 u300 j300_16 g328 hg328)
                          have J299 : ∀ (j299_7 : Int32) (j299_8 : Int32) (j299_11 : Bool) (j299_13 : Int32) (j299_14 : Int32) (j299_16 : Bool) (j299_s0 : Int32), VB 0 RL cL_isBag 17 (some .boolean) wsL_isBag (rmU 10 16) vXU (tyl c d) (qU (wal a c S b d F) (tyl c d) (fun _ => True) (fun _ => 0) 16 (6 * 16)) (1 * kB + 4) (6 * kB + 24) (wal a c S b d F gj199) 299 [(0, .ref (a 0)), (1, .ref (b 0)), (2, .ref (b 1)), (3, .ref (b 4)), (4, .int (iZ 0)), (5, .int (iZ 1)), (6, .int (iZ 0)), (7, .int j299_7), (8, .int j299_8), (9, .int u73), (10, .int u82), (11, .int (iZ (bZ j299_11))), (12, .int (iZ (bZ j199_12))), (13, .int j299_13), (14, .int j299_14), (15, .int (iZ ((kB : Nat) : Int))), (16, .int (iZ (bZ j299_16)))] [.int j299_s0] := by
                            intro j299_7 j299_8 j299_11 j299_13 j299_14 j299_16 j299_s0
                            refine VB_iconst (q := 300) dL_isBag_299 rfl ?_
                            exact VB_widen (by omega) (by omega) (J300 j299_7 j299_8 j299_11 j299_13 j299_14 j299_16 (iZ 0) j299_s0)
                          refine VB_uif_eq (q := 273) (tgt := 299) dL_isBag_270 (by decide) ?_ ?_
                          · skip
                            exact VB_widen (by omega) (by omega) (J299 j263_7 j263_8 j263_11 u263 j263_14 j263_16 j263_14)
                          · skip
                            refine VB_aload_n (q := 274) dL_isBag_273 1 rfl rfl ?_
                            refine VB_iconst (q := 275) dL_isBag_274 rfl ?_
                            refine VB_iload (q := 277) dL_isBag_275 15 rfl rfl ?_
                            refine VB_imul (q := 278) dL_isBag_277 rfl ?_
                            refine VB_iald (q := 279) dL_isBag_278 9 8 rfl rfl ((5 * kB)) (by omega) (by omega) (by decide) rfl rfl ?_
                            refine VB_uany (fun u278 => ?_)
                            refine VB_iconst (q := 280) dL_isBag_279 rfl ?_
                            refine VB_uicmp_ne (q := 283) (tgt := 299) dL_isBag_280 (by decide) ?_ ?_
                            · skip
                              exact VB_widen (by omega) (by omega) (J299 j263_7 j263_8 j263_11 u263 j263_14 j263_16 j263_14)
                            · skip
                              refine VB_aload_n (q := 284) dL_isBag_283 1 rfl rfl ?_
                              refine VB_iconst (q := 285) dL_isBag_284 rfl ?_
                              refine VB_iload (q := 287) dL_isBag_285 15 rfl rfl ?_
                              refine VB_imul (q := 288) dL_isBag_287 rfl ?_
                              refine VB_iconst (q := 289) dL_isBag_288 rfl ?_
                              refine VB_iadd (q := 290) dL_isBag_289 rfl ?_
                              refine VB_iald (q := 291) dL_isBag_290 9 8 rfl rfl (((5 * kB) + 3)) (by omega) (by omega) (by decide) rfl rfl ?_
                              refine VB_uany (fun u290 => ?_)
                              refine VB_aload_n (q := 292) dL_isBag_291 2 rfl rfl ?_
                              refine VB_iload (q := 294) dL_isBag_292 15 rfl rfl ?_
                              refine VB_iald (q := 295) dL_isBag_294 10 9 rfl rfl (kB) (by omega) (by omega) (by decide) rfl rfl ?_
                              refine VB_uany (fun u294 => ?_)
                              refine VB_uisub (q := 296) dL_isBag_295 rfl (fun u295 => ?_)
                              refine VB_goto (tgt := 300) dL_isBag_296 (by decide) ?_
                              exact VB_widen (by omega) (by omega) (J300 j263_7 j263_8 j263_11 u263 j263_14 j263_16 u295 j263_14)
                        have J262 : ∀ (j262_7 : Int32) (j262_8 : Int32) (j262_11 : Bool) (j262_13 : Int32) (j262_14 : Int32) (j262_16 : Bool) (j262_s0 : Int32), VB 0 RL cL_isBag 17 (some .boolean) wsL_isBag (rmU 10 16) vXU (tyl c d) (qU (wal a c S b d F) (tyl c d) (fun _ => True) (fun _ => 0) 16 (6 * 16)) (1 * kB + 4) (6 * kB + 24) (wal a c S b d F gj199) 262 [(0, .ref (a 0)), (1, .ref (b 0)), (2, .ref (b 1)), (3, .ref (b 4)), (4, .int (iZ 0)), (5, .int (iZ 1)), (6, .int (iZ 0)), (7, .int j262_7), (8, .int j262_8), (9, .int u73), (10, .int u82), (11, .int (iZ (bZ j262_11))), (12, .int (iZ (bZ j199_12))), (13, .int j262_13), (14, .int j262_14), (15, .int (iZ ((kB : Nat) : Int))), (16, .int (iZ (bZ j262_16)))] [.int j262_s0] := by
                          intro j262_7 j262_8 j262_11 j262_13 j262_14 j262_16 j262_s0
                          refine VB_iconst (q := 263) dL_isBag_262 rfl ?_
                          exact VB_widen (by omega) (by omega) (J263 j262_7 j262_8 j262_11 j262_13 j262_14 j262_16 (iZ 0) j262_s0)
                        refine VB_uif_eq (q := 237) (tgt := 262) dL_isBag_234 (by decide) ?_ ?_
                        · skip
                          exact VB_widen (by omega) (by omega) (J262 j228_7 j228_8 j228_11 j228_13 j228_14 j228_s0 j228_13)
                        · skip
                          refine VB_aload_n (q := 238) dL_isBag_237 1 rfl rfl ?_
                          refine VB_iconst (q := 239) dL_isBag_238 rfl ?_
                          refine VB_iload (q := 241) dL_isBag_239 15 rfl rfl ?_
                          refine VB_imul (q := 242) dL_isBag_241 rfl ?_
                          refine VB_iald (q := 243) dL_isBag_242 9 8 rfl rfl ((5 * kB)) (by omega) (by omega) (by decide) rfl rfl ?_
                          refine VB_uany (fun u242 => ?_)
                          refine VB_uif_ne (q := 246) (tgt := 262) dL_isBag_243 (by decide) ?_ ?_
                          · skip
                            exact VB_widen (by omega) (by omega) (J262 j228_7 j228_8 j228_11 j228_13 j228_14 j228_s0 j228_13)
                          · skip
                            refine VB_aload_n (q := 247) dL_isBag_246 1 rfl rfl ?_
                            refine VB_iconst (q := 248) dL_isBag_247 rfl ?_
                            refine VB_iload (q := 250) dL_isBag_248 15 rfl rfl ?_
                            refine VB_imul (q := 251) dL_isBag_250 rfl ?_
                            refine VB_iconst (q := 252) dL_isBag_251 rfl ?_
                            refine VB_iadd (q := 253) dL_isBag_252 rfl ?_
                            refine VB_iald (q := 254) dL_isBag_253 9 8 rfl rfl (((5 * kB) + 3)) (by omega) (by omega) (by decide) rfl rfl ?_
                            refine VB_uany (fun u253 => ?_)
                            refine VB_aload_n (q := 255) dL_isBag_254 2 rfl rfl ?_
                            refine VB_iload (q := 257) dL_isBag_255 15 rfl rfl ?_
                            refine VB_iald (q := 258) dL_isBag_257 10 9 rfl rfl (kB) (by omega) (by omega) (by decide) rfl rfl ?_
                            refine VB_uany (fun u257 => ?_)
                            refine VB_uisub (q := 259) dL_isBag_258 rfl (fun u258 => ?_)
                            refine VB_goto (tgt := 263) dL_isBag_259 (by decide) ?_
                            exact VB_widen (by omega) (by omega) (J263 j228_7 j228_8 j228_11 j228_13 j228_14 j228_s0 u258 j228_13)
                      refine VB_uicmp_ne (q := 223) (tgt := 227) dL_isBag_220 (by decide) ?_ ?_
                      · skip
                        refine VB_iconst (q := 228) dL_isBag_227 rfl ?_
                        exact VB_widen (by omega) (by omega) (J228 j199_7 j199_8 j199_11 j199_13 j199_14 false)
                      · skip
                        refine VB_iconst (q := 224) dL_isBag_223 rfl ?_
                        refine VB_goto (tgt := 228) dL_isBag_224 (by decide) ?_
                        exact VB_widen (by omega) (by omega) (J228 j199_7 j199_8 j199_11 j199_13 j199_14 true)
              refine VB_istore (q := 199) (lv' := [(0, _), (1, _), (2, _), (3, _), (4, _), (5, _), (6, _), (7, _), (8, _), (9, _), (10, _), (11, _), (12, _), (13, _), (14, _), (15, _)]) dL_isBag_197 (by decide) rfl rfl ?_
              exact VB_widen (by omega) (by omega) (J199 (m0 + 1) 0 j188_7 j188_8 j188_11 j188_s0 (iZ 0) (iZ 0) gj188 hgj188 (by omega) (by omega))
            have J187 : ∀ (j187_7 : Int32) (j187_8 : Int32) (j187_11 : Bool) (gj187 : Nat → Nat), (∀ j, gj187 j < 4096) → VB 0 RL cL_isBag 17 (some .boolean) wsL_isBag (rmU 10 16) vXU (tyl c d) (qU (wal a c S b d F) (tyl c d) (fun _ => True) (fun _ => 0) 16 (6 * 16)) (4) (24) (wal a c S b d F gj187) 187 [(0, .ref (a 0)), (1, .ref (b 0)), (2, .ref (b 1)), (3, .ref (b 4)), (4, .int (iZ 0)), (5, .int (iZ 1)), (6, .int (iZ 0)), (7, .int j187_7), (8, .int j187_8), (9, .int u73), (10, .int u82), (11, .int (iZ (bZ j187_11)))] [] := by
              intro j187_7 j187_8 j187_11 gj187 hgj187
              refine VB_iconst (q := 188) dL_isBag_187 rfl ?_
              exact VB_widen (by omega) (by omega) (J188 j187_7 j187_8 j187_11 false gj187 hgj187)
            refine VB_uicmp_ne (q := 122) (tgt := 187) dL_isBag_119 (by decide) ?_ ?_
            · skip
              exact VB_widen (by omega) (by omega) (J187 j117_7 j117_8 j117_11 g93 hg93)
            · skip
              refine VB_iload (q := 124) dL_isBag_122 9 rfl rfl ?_
              refine VB_iload (q := 126) dL_isBag_124 7 rfl rfl ?_
              refine VB_iconst (q := 127) dL_isBag_126 rfl ?_
              refine VB_uixor (q := 128) dL_isBag_127 rfl (fun u127 => ?_)
              refine VB_uiand (q := 129) dL_isBag_128 rfl (fun u128 => ?_)
              refine VB_uif_ne (q := 132) (tgt := 187) dL_isBag_129 (by decide) ?_ ?_
              · skip
                exact VB_widen (by omega) (by omega) (J187 j117_7 j117_8 j117_11 g93 hg93)
              · skip
                refine VB_iload (q := 134) dL_isBag_132 9 rfl rfl ?_
                refine VB_iload (q := 136) dL_isBag_134 8 rfl rfl ?_
                refine VB_uiand (q := 137) dL_isBag_136 rfl (fun u136 => ?_)
                refine VB_uif_ne (q := 140) (tgt := 187) dL_isBag_137 (by decide) ?_ ?_
                · skip
                  exact VB_widen (by omega) (by omega) (J187 j117_7 j117_8 j117_11 g93 hg93)
                · skip
                  refine VB_iload (q := 142) dL_isBag_140 11 rfl rfl ?_
                  have J160 : ∀ (j160_7 : Int32) (j160_8 : Int32) (j160_11 : Bool) (gj160 : Nat → Nat), (∀ j, gj160 j < 4096) → VB 0 RL cL_isBag 17 (some .boolean) wsL_isBag (rmU 10 16) vXU (tyl c d) (qU (wal a c S b d F) (tyl c d) (fun _ => True) (fun _ => 0) 16 (6 * 16)) (3) (18) (wal a c S b d F gj160) 160 [(0, .ref (a 0)), (1, .ref (b 0)), (2, .ref (b 1)), (3, .ref (b 4)), (4, .int (iZ 0)), (5, .int (iZ 1)), (6, .int (iZ 0)), (7, .int j160_7), (8, .int j160_8), (9, .int u73), (10, .int u82), (11, .int (iZ (bZ j160_11)))] [] := by
                    intro j160_7 j160_8 j160_11 gj160 hgj160
                    refine VB_iload (q := 162) dL_isBag_160 11 rfl rfl ?_
                    have J183 : ∀ (j183_7 : Int32) (j183_8 : Int32) (j183_11 : Bool) (gj183 : Nat → Nat), (∀ j, gj183 j < 4096) → VB 0 RL cL_isBag 17 (some .boolean) wsL_isBag (rmU 10 16) vXU (tyl c d) (qU (wal a c S b d F) (tyl c d) (fun _ => True) (fun _ => 0) 16 (6 * 16)) (4) (24) (wal a c S b d F gj183) 183 [(0, .ref (a 0)), (1, .ref (b 0)), (2, .ref (b 1)), (3, .ref (b 4)), (4, .int (iZ 0)), (5, .int (iZ 1)), (6, .int (iZ 0)), (7, .int j183_7), (8, .int j183_8), (9, .int u73), (10, .int u82), (11, .int (iZ (bZ j183_11)))] [] := by
                      intro j183_7 j183_8 j183_11 gj183 hgj183
                      refine VB_iconst (q := 184) dL_isBag_183 rfl ?_
                      refine VB_goto (tgt := 188) dL_isBag_184 (by decide) ?_
                      exact VB_widen (by omega) (by omega) (J188 j183_7 j183_8 j183_11 true gj183 hgj183)
                    refine VB_uif_eq (q := 165) (tgt := 183) dL_isBag_162 (by decide) ?_ ?_
                    · skip
                      exact VB_widen (by omega) (by omega) (J183 j160_7 j160_8 j160_11 gj160 hgj160)
                    · skip
                      refine VB_aload_n (q := 166) dL_isBag_165 0 rfl rfl ?_
                      refine VB_iconst (q := 167) dL_isBag_166 rfl ?_
                      refine VB_iload (q := 169) dL_isBag_167 9 rfl rfl ?_
                      refine VB_iload (q := 171) dL_isBag_169 10 rfl rfl ?_
                      refine VB_uior (q := 172) dL_isBag_171 rfl (fun u171 => ?_)
                      refine VB_iload (q := 174) dL_isBag_172 5 rfl rfl ?_
                      refine VB_iload (q := 176) dL_isBag_174 6 rfl rfl ?_
                      refine VB_callUW (q := 179) dL_isBag_176 (u_yes1 (a := a) (c := c) (S := S) (b := b) (d := d) (F := F) ho hgj160 u171 1 0 (by omega) (by omega)) yw_yes rfl gL_isBag_L_yes xU_U rfl (Nat.le_of_ble_eq_true rfl) (by decide) ⟨by show _ ≤ 16; omega, by show _ ≤ 6 * 16; omega⟩ (fun x176 g176 hP176 hg176 => ?_)
                      refine VB_lo (lo' := 0) (by show 0 ≤ 0 + 0; omega) ?_
                      refine VB_iconst (q := 180) dL_isBag_179 rfl ?_
                      refine VB_uicmp_ne (q := 183) (tgt := 187) dL_isBag_180 (by decide) ?_ ?_
                      · skip
                        exact VB_widen (by omega) (by omega) (J187 j160_7 j160_8 j160_11 g176 hg176)
                      · skip
                        exact VB_widen (by omega) (by omega) (J183 j160_7 j160_8 j160_11 g176 hg176)
                  refine VB_uif_eq (q := 145) (tgt := 160) dL_isBag_142 (by decide) ?_ ?_
                  · skip
                    exact VB_widen (by omega) (by omega) (J160 j117_7 j117_8 j117_11 g93 hg93)
                  · skip
                    refine VB_aload_n (q := 146) dL_isBag_145 0 rfl rfl ?_
                    refine VB_iconst (q := 147) dL_isBag_146 rfl ?_
                    refine VB_iload (q := 149) dL_isBag_147 9 rfl rfl ?_
                    refine VB_iload (q := 151) dL_isBag_149 5 rfl rfl ?_
                    refine VB_iload (q := 153) dL_isBag_151 6 rfl rfl ?_
                    refine VB_callUW (q := 156) dL_isBag_153 (u_yes1 (a := a) (c := c) (S := S) (b := b) (d := d) (F := F) ho hg93 u73 1 0 (by omega) (by omega)) yw_yes rfl gL_isBag_L_yes xU_U rfl (Nat.le_of_ble_eq_true rfl) (by decide) ⟨by show _ ≤ 16; omega, by show _ ≤ 6 * 16; omega⟩ (fun x153 g153 hP153 hg153 => ?_)
                    refine VB_lo (lo' := 0) (by show 0 ≤ 0 + 0; omega) ?_
                    refine VB_iconst (q := 157) dL_isBag_156 rfl ?_
                    refine VB_uicmp_ne (q := 160) (tgt := 187) dL_isBag_157 (by decide) ?_ ?_
                    · skip
                      exact VB_widen (by omega) (by omega) (J187 j117_7 j117_8 j117_11 g153 hg153)
                    · skip
                      exact VB_widen (by omega) (by omega) (J160 j117_7 j117_8 j117_11 g153 hg153)
          refine VB_uif_eq (q := 112) (tgt := 116) dL_isBag_109 (by decide) ?_ ?_
          · skip
            refine VB_iconst (q := 117) dL_isBag_116 rfl ?_
            exact VB_widen (by omega) (by omega) (J117 j105_7 j105_8 j105_s0 false)
          · skip
            refine VB_iconst (q := 113) dL_isBag_112 rfl ?_
            refine VB_goto (tgt := 117) dL_isBag_113 (by decide) ?_
            exact VB_widen (by omega) (by omega) (J117 j105_7 j105_8 j105_s0 true)
        refine VB_uicmp_ne (q := 100) (tgt := 104) dL_isBag_97 (by decide) ?_ ?_
        · skip
          refine VB_iconst (q := 105) dL_isBag_104 rfl ?_
          exact VB_widen (by omega) (by omega) (J105 j9_7 j9_8 false)
        · skip
          refine VB_iconst (q := 101) dL_isBag_100 rfl ?_
          refine VB_goto (tgt := 105) dL_isBag_101 (by decide) ?_
          exact VB_widen (by omega) (by omega) (J105 j9_7 j9_8 true)
      · skip
        refine VB_iload (q := 19) dL_isBag_17 7 rfl rfl ?_
        refine VB_aload_n (q := 20) dL_isBag_19 1 rfl rfl ?_
        refine VB_iconst (q := 21) dL_isBag_20 rfl ?_
        refine VB_iload (q := 23) dL_isBag_21 9 rfl rfl ?_
        refine VB_imul (q := 24) dL_isBag_23 rfl ?_
        refine VB_iald (q := 25) dL_isBag_24 9 8 rfl rfl ((5 * kA)) (by omega) (by omega) (by decide) rfl rfl ?_
        refine VB_uany (fun u24 => ?_)
        have J36 : ∀ (j36_7 : Int32) (j36_8 : Int32) (j36_s0 : Int32) (j36_s1 : Int32), VB 0 RL cL_isBag 17 (some .boolean) wsL_isBag (rmU 10 16) vXU (tyl c d) (qU (wal a c S b d F) (tyl c d) (fun _ => True) (fun _ => 0) 16 (6 * 16)) (0) (0) (wal a c S b d F g) 36 [(0, .ref (a 0)), (1, .ref (b 0)), (2, .ref (b 1)), (3, .ref (b 4)), (4, .int (iZ 0)), (5, .int (iZ 1)), (6, .int (iZ 0)), (7, .int j36_7), (8, .int j36_8), (9, .int (iZ ((kA : Nat) : Int)))] [.int j36_s0, .int j36_s1] := by
          intro j36_7 j36_8 j36_s0 j36_s1
          refine VB_uior (q := 37) dL_isBag_36 rfl (fun u36 => ?_)
          refine VB_istore (q := 39) (lv' := [(0, _), (1, _), (2, _), (3, _), (4, _), (5, _), (6, _), (7, _), (8, _), (9, _)]) dL_isBag_37 (by decide) rfl rfl ?_
          refine VB_iload (q := 41) dL_isBag_39 8 rfl rfl ?_
          refine VB_aload_n (q := 42) dL_isBag_41 1 rfl rfl ?_
          refine VB_iconst (q := 43) dL_isBag_42 rfl ?_
          refine VB_iload (q := 45) dL_isBag_43 9 rfl rfl ?_
          refine VB_imul (q := 46) dL_isBag_45 rfl ?_
          refine VB_iald (q := 47) dL_isBag_46 9 8 rfl rfl ((5 * kA)) (by omega) (by omega) (by decide) rfl rfl ?_
          refine VB_uany (fun u46 => ?_)
          refine VB_iconst (q := 48) dL_isBag_47 rfl ?_
          have J59 : ∀ (j59_8 : Int32) (j59_s0 : Int32) (j59_s1 : Int32), VB 0 RL cL_isBag 17 (some .boolean) wsL_isBag (rmU 10 16) vXU (tyl c d) (qU (wal a c S b d F) (tyl c d) (fun _ => True) (fun _ => 0) 16 (6 * 16)) (0) (0) (wal a c S b d F g) 59 [(0, .ref (a 0)), (1, .ref (b 0)), (2, .ref (b 1)), (3, .ref (b 4)), (4, .int (iZ 0)), (5, .int (iZ 1)), (6, .int (iZ 0)), (7, .int u36), (8, .int j59_8), (9, .int (iZ ((kA : Nat) : Int)))] [.int j59_s0, .int j59_s1] := by
            intro j59_8 j59_s0 j59_s1
            refine VB_uior (q := 60) dL_isBag_59 rfl (fun u59 => ?_)
            refine VB_istore (q := 62) (lv' := [(0, _), (1, _), (2, _), (3, _), (4, _), (5, _), (6, _), (7, _), (8, _), (9, _)]) dL_isBag_60 (by decide) rfl rfl ?_
            refine VB_iinc (q := 65) (y := ((kA + 1 : Nat) : Int)) (lv' := [(0, _), (1, _), (2, _), (3, _), (4, _), (5, _), (6, _), (7, _), (8, _), (9, _)]) dL_isBag_62 9 rfl (by omega) (by decide) rfl rfl ?_
            refine VB_goto (tgt := 9) dL_isBag_65 (by decide) ?_
            exact VB_widen (by omega) (by omega) (ihkA (kA + 1) u36 u59 (by omega) (by omega))
          refine VB_uicmp_ne (q := 51) (tgt := 58) dL_isBag_48 (by decide) ?_ ?_
          · skip
            refine VB_iconst (q := 59) dL_isBag_58 rfl ?_
            exact VB_widen (by omega) (by omega) (J59 j36_8 (iZ 0) j36_8)
          · skip
            refine VB_iconst (q := 52) dL_isBag_51 rfl ?_
            refine VB_iload (q := 54) dL_isBag_52 9 rfl rfl ?_
            refine VB_uishl (q := 55) dL_isBag_54 rfl (fun u54 => ?_)
            refine VB_goto (tgt := 59) dL_isBag_55 (by decide) ?_
            exact VB_widen (by omega) (by omega) (J59 j36_8 u54 j36_8)
        refine VB_uif_lt (q := 28) (tgt := 35) dL_isBag_25 (by decide) ?_ ?_
        · skip
          refine VB_iconst (q := 36) dL_isBag_35 rfl ?_
          exact VB_widen (by omega) (by omega) (J36 j9_7 j9_8 (iZ 0) j9_7)
        · skip
          refine VB_iconst (q := 29) dL_isBag_28 rfl ?_
          refine VB_iload (q := 31) dL_isBag_29 9 rfl rfl ?_
          refine VB_uishl (q := 32) dL_isBag_31 rfl (fun u31 => ?_)
          refine VB_goto (tgt := 36) dL_isBag_32 (by decide) ?_
          exact VB_widen (by omega) (by omega) (J36 j9_7 j9_8 u31 j9_7)
  refine VB_istore (q := 9) (lv' := [(0, _), (1, _), (2, _), (3, _), (4, _), (5, _), (6, _), (7, _), (8, _), (9, _)]) dL_isBag_7 (by decide) rfl rfl ?_
  exact VB_widen (by omega) (by omega) (J9 (m0 + 1) 0 (iZ 0) (iZ 0) (by omega) (by omega))
