/-! the outfits -/
theorem cAdds_in {S : St} {F : Nat → Nat → Int32} {m0 : Nat} (hI : Iv S F m0) {k : Nat} (hk : k < m0) : cAdds S (k : Int) 0 = 0 := by
  unfold cAdds
  rw [if_pos (iv_has hI hk)]
  rfl
set_option maxRecDepth 100000 in
set_option maxHeartbeats 8000000 in
theorem u_areOutfits {a : Nat → Nat} {c : Nat → ClassId} {S : St} {b : Nat → Nat} {d : Nat → ClassId} {F : Nat → Nat → Int32} {g : Nat → Nat} {m0 : Nat} (hI : Iv S F m0) (hg : ∀ j, g j < 4096) : CtU yL_areOutfits wsL_areOutfits (rmU 10 200) (tyl c d) [.ref (a 0), .ref (b 0), .ref (b 1), .ref (b 2), .ref (b 4), .int (iZ 0), .int (iZ 0)] (wal a c S b d F g) (wal a c S b d F) (fun _ => True) (fun _ => 0) 200 := by
  obtain ⟨ho, hn, hm4, hM0, hG, hC⟩ := id hI
  obtain ⟨z, ez, hzr⟩ : ∃ z : Int, (ofT S 0 (0 : Int).toNat (sN S)).1 = z ∧ ofR z := ⟨_, rfl, ofT_r ho _ ho.1⟩
  have hz2 := ofR_z hzr
  refine CtU_of (own := RL) (by decide) rfl rfl (Nat.le_of_ble_eq_true rfl) ?_
  refine VB_lvq (lv' := [(0, _), (1, _), (2, _), (3, _), (4, _), (5, _), (6, _)]) rfl ?_
  refine VB_iconst (q := 1) dL_areOutfits_0 rfl ?_
  refine VB_istore (q := 3) (lv' := [(0, _), (1, _), (2, _), (3, _), (4, _), (5, _), (6, _), (7, _)]) dL_areOutfits_1 (by decide) rfl rfl ?_
  refine VB_iconst (q := 4) dL_areOutfits_3 rfl ?_
  refine VB_istore (q := 6) (lv' := [(0, _), (1, _), (2, _), (3, _), (4, _), (5, _), (6, _), (7, _), (8, _)]) dL_areOutfits_4 (by decide) rfl rfl ?_
  refine VB_aload_n (q := 7) dL_areOutfits_6 0 rfl rfl ?_
  refine VB_iload (q := 9) dL_areOutfits_7 5 rfl rfl ?_
  refine VB_iload (q := 11) dL_areOutfits_9 6 rfl rfl ?_
  refine VB_callX0 (q := 14) (w1 := []) (w2 := [(b 0, .inl (d 0, 60, .inl (F 0))), (b 1, .inl (d 1, 12, .inl (F 1))), (b 2, .inl (d 2, 8, .inl (F 2))), (b 3, .inl (d 3, 4, .inl (F 3))), (b 4, .inl (d 4, 2, .inl (F 4)))]) (ws' := wal a c S b d F g) dL_areOutfits_11 (c_X0_outfitFor (a := a) (c := c) (S := S) (g := g) ho 0 0 (by omega) (by omega)) (rfl) yv_X0_outfitFor rfl gL_areOutfits_X0_outfitFor rfl 0 rfl rfl rfl rfl (Nat.le_of_ble_eq_true rfl) (by decide) ⟨by show _ ≤ 200; omega, by show _ ≤ 6 * 200; omega⟩ rfl xU_U rfl rfl (tyl_in c d) ?_
  refine VB_top (y := (iZ z)) (congrArg iZ ez) ?_
  refine VB_istore (q := 16) (lv' := [(0, _), (1, _), (2, _), (3, _), (4, _), (5, _), (6, _), (7, _), (8, _), (9, _)]) dL_areOutfits_14 (by decide) rfl rfl ?_
  refine VB_iload (q := 18) dL_areOutfits_16 9 rfl rfl ?_
  refine VB_iconst (q := 19) dL_areOutfits_18 rfl ?_
  have J27 : ∀ (j27_s0 : Bool), VB 0 RL cL_areOutfits 20 (some .boolean) wsL_areOutfits (rmU 10 200) vXU (tyl c d) (qU (wal a c S b d F) (tyl c d) (fun _ => True) (fun _ => 0) 200 (6 * 200)) (1) (6) (wal a c S b d F g) 27 [(0, .ref (a 0)), (1, .ref (b 0)), (2, .ref (b 1)), (3, .ref (b 2)), (4, .ref (b 4)), (5, .int (iZ 0)), (6, .int (iZ 0)), (7, .int (iZ 0)), (8, .int (iZ 0)), (9, .int (iZ z))] [.int (iZ (bZ j27_s0))] := by
    intro j27_s0
    refine VB_istore (q := 29) (lv' := [(0, _), (1, _), (2, _), (3, _), (4, _), (5, _), (6, _), (7, _), (8, _), (9, _), (10, _)]) dL_areOutfits_27 (by decide) rfl rfl ?_
    refine VB_iconst (q := 30) dL_areOutfits_29 rfl ?_
    refine VB_istore (q := 32) (lv' := [(0, _), (1, _), (2, _), (3, _), (4, _), (5, _), (6, _), (7, _), (8, _), (9, _), (10, _), (11, _)]) dL_areOutfits_30 (by decide) rfl rfl ?_
    refine VB_iconst (q := 33) dL_areOutfits_32 rfl ?_
    have J35 : ∀ (ztA tA : Nat) (j35_7 : Int32) (j35_8 : Int32) (j35_10 : Bool) (j35_11 : Bool) (gj35 : Nat → Nat), (∀ j, gj35 j < 4096) → tA ≤ m0 → m0 + 1 ≤ tA + ztA → VB 0 RL cL_areOutfits 20 (some .boolean) wsL_areOutfits (rmU 10 200) vXU (tyl c d) (qU (wal a c S b d F) (tyl c d) (fun _ => True) (fun _ => 0) 200 (6 * 200)) (40 * tA + 1) (240 * tA + 6) (wal a c S b d F gj35) 35 [(0, .ref (a 0)), (1, .ref (b 0)), (2, .ref (b 1)), (3, .ref (b 2)), (4, .ref (b 4)), (5, .int (iZ 0)), (6, .int (iZ 0)), (7, .int j35_7), (8, .int j35_8), (9, .int (iZ z)), (10, .int (iZ (bZ j35_10))), (11, .int (iZ (bZ j35_11))), (12, .int (iZ ((tA : Nat) : Int)))] [] := by
      intro ztA
      induction ztA with
      | zero => intro tA j35_7 j35_8 j35_10 j35_11 gj35 hgj35 htA1 htA2; exact absurd htA2 (by omega)
      | succ ztA ihtA =>
        intro tA j35_7 j35_8 j35_10 j35_11 gj35 hgj35 htA1 htA2
        refine VB_iload (q := 37) dL_areOutfits_35 12 rfl rfl ?_
        refine VB_aload (q := 39) dL_areOutfits_37 4 rfl rfl ?_
        refine VB_iconst (q := 40) dL_areOutfits_39 rfl ?_
        refine VB_iald (q := 41) (v := (iZ ((m0 : Nat) : Int))) dL_areOutfits_40 13 12 rfl rfl (0) (by omega) (by omega) (by decide) (hM0) rfl ?_
        have J476 : ∀ (j476_7 : Int32) (j476_8 : Int32) (j476_10 : Bool) (j476_11 : Bool), VB 0 RL cL_areOutfits 20 (some .boolean) wsL_areOutfits (rmU 10 200) vXU (tyl c d) (qU (wal a c S b d F) (tyl c d) (fun _ => True) (fun _ => 0) 200 (6 * 200)) (40 * tA + 1) (240 * tA + 6) (wal a c S b d F gj35) 476 [(0, .ref (a 0)), (1, .ref (b 0)), (2, .ref (b 1)), (3, .ref (b 2)), (4, .ref (b 4)), (5, .int (iZ 0)), (6, .int (iZ 0)), (7, .int j476_7), (8, .int j476_8), (9, .int (iZ z)), (10, .int (iZ (bZ j476_10))), (11, .int (iZ (bZ j476_11))), (12, .int (iZ ((tA : Nat) : Int)))] [] := by
          intro j476_7 j476_8 j476_10 j476_11
          refine VB_iconst (q := 477) dL_areOutfits_476 rfl ?_
          refine VB_istore (q := 479) (lv' := [(0, _), (1, _), (2, _), (3, _), (4, _), (5, _), (6, _), (7, _), (8, _), (9, _), (10, _), (11, _), (12, _)]) dL_areOutfits_477 (by decide) rfl rfl ?_
          refine VB_iconst (q := 480) dL_areOutfits_479 rfl ?_
          have J482 : ∀ (zsA sA : Nat) (j482_7 : Int32) (j482_8 : Int32) (j482_10 : Bool) (j482_11 : Bool) (j482_12 : Int32), sA ≤ m0 → m0 + 1 ≤ sA + zsA → VB 0 RL cL_areOutfits 20 (some .boolean) wsL_areOutfits (rmU 10 200) vXU (tyl c d) (qU (wal a c S b d F) (tyl c d) (fun _ => True) (fun _ => 0) 200 (6 * 200)) (1 * sA + 40 * tA + 1) (6 * sA + 240 * tA + 6) (wal a c S b d F gj35) 482 [(0, .ref (a 0)), (1, .ref (b 0)), (2, .ref (b 1)), (3, .ref (b 2)), (4, .ref (b 4)), (5, .int (iZ 0)), (6, .int (iZ 0)), (7, .int j482_7), (8, .int j482_8), (9, .int (iZ z)), (10, .int (iZ (bZ j482_10))), (11, .int (iZ (bZ j482_11))), (12, .int j482_12), (13, .int (iZ ((sA : Nat) : Int)))] [] := by
            intro zsA
            induction zsA with
            | zero => intro sA j482_7 j482_8 j482_10 j482_11 j482_12 hsA1 hsA2; exact absurd hsA2 (by omega)
            | succ zsA ihsA =>
              intro sA j482_7 j482_8 j482_10 j482_11 j482_12 hsA1 hsA2
              refine VB_iload (q := 484) dL_areOutfits_482 13 rfl rfl ?_
              refine VB_aload (q := 486) dL_areOutfits_484 4 rfl rfl ?_
              refine VB_iconst (q := 487) dL_areOutfits_486 rfl ?_
              refine VB_iald (q := 488) (v := (iZ ((m0 : Nat) : Int))) dL_areOutfits_487 13 12 rfl rfl (0) (by omega) (by omega) (by decide) (hM0) rfl ?_
              have J528 : ∀ (j528_7 : Int32) (j528_8 : Int32) (j528_10 : Bool) (j528_11 : Bool) (j528_12 : Int32), VB 0 RL cL_areOutfits 20 (some .boolean) wsL_areOutfits (rmU 10 200) vXU (tyl c d) (qU (wal a c S b d F) (tyl c d) (fun _ => True) (fun _ => 0) 200 (6 * 200)) (1 * sA + 40 * tA + 1) (6 * sA + 240 * tA + 6) (wal a c S b d F gj35) 528 [(0, .ref (a 0)), (1, .ref (b 0)), (2, .ref (b 1)), (3, .ref (b 2)), (4, .ref (b 4)), (5, .int (iZ 0)), (6, .int (iZ 0)), (7, .int j528_7), (8, .int j528_8), (9, .int (iZ z)), (10, .int (iZ (bZ j528_10))), (11, .int (iZ (bZ j528_11))), (12, .int j528_12), (13, .int (iZ ((sA : Nat) : Int)))] [] := by
                intro j528_7 j528_8 j528_10 j528_11 j528_12
                refine VB_iload (q := 530) dL_areOutfits_528 11 rfl rfl ?_
                have J561 : ∀ (j561_7 : Int32) (j561_8 : Int32) (j561_10 : Bool) (j561_11 : Bool) (j561_12 : Int32) (j561_s0 : Bool), VB 0 RL cL_areOutfits 20 (some .boolean) wsL_areOutfits (rmU 10 200) vXU (tyl c d) (qU (wal a c S b d F) (tyl c d) (fun _ => True) (fun _ => 0) 200 (6 * 200)) (1 * sA + 40 * tA + 2) (6 * sA + 240 * tA + 12) (wal a c S b d F gj35) 561 [(0, .ref (a 0)), (1, .ref (b 0)), (2, .ref (b 1)), (3, .ref (b 2)), (4, .ref (b 4)), (5, .int (iZ 0)), (6, .int (iZ 0)), (7, .int j561_7), (8, .int j561_8), (9, .int (iZ z)), (10, .int (iZ (bZ j561_10))), (11, .int (iZ (bZ j561_11))), (12, .int j561_12), (13, .int (iZ ((sA : Nat) : Int)))] [.int (iZ (bZ j561_s0))] := by
                  intro j561_7 j561_8 j561_10 j561_11 j561_12 j561_s0
                  exact VB_widen (k' := 200) (n' := 6 * 200) (by omega) (by omega) (VB_zretU dL_areOutfits_561 rfl (by cases j561_s0 <;> rfl) trivial (Nat.zero_le _) hgj35 rfl)
                have J560 : ∀ (j560_7 : Int32) (j560_8 : Int32) (j560_10 : Bool) (j560_11 : Bool) (j560_12 : Int32), VB 0 RL cL_areOutfits 20 (some .boolean) wsL_areOutfits (rmU 10 200) vXU (tyl c d) (qU (wal a c S b d F) (tyl c d) (fun _ => True) (fun _ => 0) 200 (6 * 200)) (1 * sA + 40 * tA + 2) (6 * sA + 240 * tA + 12) (wal a c S b d F gj35) 560 [(0, .ref (a 0)), (1, .ref (b 0)), (2, .ref (b 1)), (3, .ref (b 2)), (4, .ref (b 4)), (5, .int (iZ 0)), (6, .int (iZ 0)), (7, .int j560_7), (8, .int j560_8), (9, .int (iZ z)), (10, .int (iZ (bZ j560_10))), (11, .int (iZ (bZ j560_11))), (12, .int j560_12), (13, .int (iZ ((sA : Nat) : Int)))] [] := by
                  intro j560_7 j560_8 j560_10 j560_11 j560_12
                  refine VB_iconst (q := 561) dL_areOutfits_560 rfl ?_
                  exact VB_widen (by omega) (by omega) (J561 j560_7 j560_8 j560_10 j560_11 j560_12 false)
                refine VB_uif_eq (q := 533) (tgt := 560) dL_areOutfits_530 (by decide) ?_ ?_
                · skip
                  exact VB_widen (by omega) (by omega) (J560 j528_7 j528_8 j528_10 j528_11 j528_12)
                · skip
                  refine VB_iload (q := 535) dL_areOutfits_533 10 rfl rfl ?_
                  refine VB_uif_eq (q := 538) (tgt := 560) dL_areOutfits_535 (by decide) ?_ ?_
                  · skip
                    exact VB_widen (by omega) (by omega) (J560 j528_7 j528_8 j528_10 j528_11 j528_12)
                  · skip
                    refine VB_aload_n (q := 539) dL_areOutfits_538 0 rfl rfl ?_
                    refine VB_iload (q := 541) dL_areOutfits_539 5 rfl rfl ?_
                    refine VB_callX0 (q := 544) (w1 := []) (w2 := [(b 0, .inl (d 0, 60, .inl (F 0))), (b 1, .inl (d 1, 12, .inl (F 1))), (b 2, .inl (d 2, 8, .inl (F 2))), (b 3, .inl (d 3, 4, .inl (F 3))), (b 4, .inl (d 4, 2, .inl (F 4)))]) (ws' := wal a c S b d F gj35) dL_areOutfits_541 (c_X0_outfits (a := a) (c := c) (S := S) (g := gj35) ho 0 (by omega)) (rfl) yv_X0_outfits rfl gL_areOutfits_X0_outfits rfl 0 rfl rfl rfl rfl (Nat.le_of_ble_eq_true rfl) (by decide) ⟨by show _ ≤ 200; omega, by show _ ≤ 6 * 200; omega⟩ rfl xU_U rfl rfl (tyl_in c d) ?_
                    refine VB_uany (fun u541 => ?_)
                    refine VB_iload (q := 546) dL_areOutfits_544 7 rfl rfl ?_
                    refine VB_uicmp_ne (q := 549) (tgt := 560) dL_areOutfits_546 (by decide) ?_ ?_
                    · skip
                      exact VB_widen (by omega) (by omega) (J560 j528_7 j528_8 j528_10 j528_11 j528_12)
                    · skip
                      refine VB_iload (q := 551) dL_areOutfits_549 12 rfl rfl ?_
                      refine VB_iload (q := 553) dL_areOutfits_551 8 rfl rfl ?_
                      refine VB_uicmp_ne (q := 556) (tgt := 560) dL_areOutfits_553 (by decide) ?_ ?_
                      · skip
                        exact VB_widen (by omega) (by omega) (J560 j528_7 j528_8 j528_10 j528_11 j528_12)
                      · skip
                        refine VB_iconst (q := 557) dL_areOutfits_556 rfl ?_
                        refine VB_goto (tgt := 561) dL_areOutfits_557 (by decide) ?_
                        exact VB_widen (by omega) (by omega) (J561 j528_7 j528_8 j528_10 j528_11 j528_12 true)
              refine VB_icmp_ge (q := 491) (tgt := 528) dL_areOutfits_488 (by omega) (by omega) (by decide) (fun t488 => ?_) (fun t488 => ?_)
              · skip
                exact VB_widen (by omega) (by omega) (J528 j482_7 j482_8 j482_10 j482_11 j482_12)
              · skip
                refine VB_iload (q := 493) dL_areOutfits_491 11 rfl rfl ?_
                refine VB_uif_eq (q := 496) (tgt := 528) dL_areOutfits_493 (by decide) ?_ ?_
                · skip
                  exact VB_widen (by omega) (by omega) (J528 j482_7 j482_8 j482_10 j482_11 j482_12)
                · skip
                  refine VB_iload (q := 498) dL_areOutfits_496 12 rfl rfl ?_
                  refine VB_aload_n (q := 499) dL_areOutfits_498 1 rfl rfl ?_
                  refine VB_iconst (q := 500) dL_areOutfits_499 rfl ?_
                  refine VB_iload (q := 502) dL_areOutfits_500 13 rfl rfl ?_
                  refine VB_imul (q := 503) dL_areOutfits_502 rfl ?_
                  refine VB_iald (q := 504) dL_areOutfits_503 9 8 rfl rfl ((5 * sA)) (by omega) (by omega) (by decide) rfl rfl ?_
                  refine VB_uany (fun u503 => ?_)
                  have J519 : ∀ (j519_7 : Int32) (j519_8 : Int32) (j519_10 : Bool) (j519_11 : Bool) (j519_12 : Int32) (j519_s0 : Int32) (j519_s1 : Int32), VB 0 RL cL_areOutfits 20 (some .boolean) wsL_areOutfits (rmU 10 200) vXU (tyl c d) (qU (wal a c S b d F) (tyl c d) (fun _ => True) (fun _ => 0) 200 (6 * 200)) (1 * sA + 40 * tA + 2) (6 * sA + 240 * tA + 12) (wal a c S b d F gj35) 519 [(0, .ref (a 0)), (1, .ref (b 0)), (2, .ref (b 1)), (3, .ref (b 2)), (4, .ref (b 4)), (5, .int (iZ 0)), (6, .int (iZ 0)), (7, .int j519_7), (8, .int j519_8), (9, .int (iZ z)), (10, .int (iZ (bZ j519_10))), (11, .int (iZ (bZ j519_11))), (12, .int j519_12), (13, .int (iZ ((sA : Nat) : Int)))] [.int j519_s0, .int j519_s1] := by
                    intro j519_7 j519_8 j519_10 j519_11 j519_12 j519_s0 j519_s1
                    refine VB_uiadd (q := 520) dL_areOutfits_519 rfl (fun u519 => ?_)
                    refine VB_istore (q := 522) (lv' := [(0, _), (1, _), (2, _), (3, _), (4, _), (5, _), (6, _), (7, _), (8, _), (9, _), (10, _), (11, _), (12, _), (13, _)]) dL_areOutfits_520 (by decide) rfl rfl ?_
                    refine VB_iinc (q := 525) (y := ((sA + 1 : Nat) : Int)) (lv' := [(0, _), (1, _), (2, _), (3, _), (4, _), (5, _), (6, _), (7, _), (8, _), (9, _), (10, _), (11, _), (12, _), (13, _)]) dL_areOutfits_522 13 rfl (by omega) (by decide) rfl rfl ?_
                    refine VB_goto (tgt := 482) dL_areOutfits_525 (by decide) ?_
                    exact VB_widen (by omega) (by omega) (ihsA (sA + 1) j519_7 j519_8 j519_10 j519_11 u519 (by omega) (by omega))
                  refine VB_uif_ge (q := 507) (tgt := 511) dL_areOutfits_504 (by decide) ?_ ?_
                  · skip
                    refine VB_aload_n (q := 512) dL_areOutfits_511 0 rfl rfl ?_
                    refine VB_iload (q := 514) dL_areOutfits_512 13 rfl rfl ?_
                    refine VB_iload (q := 516) dL_areOutfits_514 5 rfl rfl ?_
                    refine VB_callX0 (q := 519) (w1 := []) (w2 := [(b 0, .inl (d 0, 60, .inl (F 0))), (b 1, .inl (d 1, 12, .inl (F 1))), (b 2, .inl (d 2, 8, .inl (F 2))), (b 3, .inl (d 3, 4, .inl (F 3))), (b 4, .inl (d 4, 2, .inl (F 4)))]) (ws' := wal a c S b d F gj35) dL_areOutfits_516 (c_X0_adds (a := a) (c := c) (S := S) (g := gj35) ho ((sA : Nat) : Int) 0 (by omega) (by omega)) (by rw [show cAdds S ((sA : Nat) : Int) 0 = 0 from cAdds_in hI (by omega)]; rfl) yv_X0_adds rfl gL_areOutfits_X0_adds rfl 0 rfl rfl rfl rfl (Nat.le_of_ble_eq_true rfl) (by decide) ⟨by show _ ≤ 200; omega, by show _ ≤ 6 * 200; omega⟩ rfl xU_U rfl rfl (tyl_in c d) ?_
                    refine VB_uany (fun u516 => ?_)
                    exact VB_widen (by omega) (by omega) (J519 j482_7 j482_8 j482_10 j482_11 j482_12 u516 j482_12)
                  · skip
                    refine VB_iconst (q := 508) dL_areOutfits_507 rfl ?_
                    refine VB_goto (tgt := 519) dL_areOutfits_508 (by decide) ?_
                    exact VB_widen (by omega) (by omega) (J519 j482_7 j482_8 j482_10 j482_11 j482_12 (iZ 0) j482_12)
          refine VB_istore (q := 482) (lv' := [(0, _), (1, _), (2, _), (3, _), (4, _), (5, _), (6, _), (7, _), (8, _), (9, _), (10, _), (11, _), (12, _), (13, _)]) dL_areOutfits_480 (by decide) rfl rfl ?_
          exact VB_widen (by omega) (by omega) (J482 (m0 + 1) 0 j476_7 j476_8 j476_10 j476_11 (iZ 0) (by omega) (by omega))
        refine VB_icmp_ge (q := 44) (tgt := 476) dL_areOutfits_41 (by omega) (by omega) (by decide) (fun t41 => ?_) (fun t41 => ?_)
        · skip
          exact VB_widen (by omega) (by omega) (J476 j35_7 j35_8 j35_10 j35_11)
        · skip
          refine VB_iload (q := 46) dL_areOutfits_44 11 rfl rfl ?_
          refine VB_uif_eq (q := 49) (tgt := 476) dL_areOutfits_46 (by decide) ?_ ?_
          · skip
            exact VB_widen (by omega) (by omega) (J476 j35_7 j35_8 j35_10 j35_11)
          · skip
            refine VB_iconst (q := 50) dL_areOutfits_49 rfl ?_
            have J52 : ∀ (zbA bA : Nat) (j52_7 : Int32) (j52_8 : Int32) (j52_10 : Bool) (j52_11 : Bool) (gj52 : Nat → Nat), (∀ j, gj52 j < 4096) → bA ≤ m0 → m0 + 1 ≤ bA + zbA → VB 0 RL cL_areOutfits 20 (some .boolean) wsL_areOutfits (rmU 10 200) vXU (tyl c d) (qU (wal a c S b d F) (tyl c d) (fun _ => True) (fun _ => 0) 200 (6 * 200)) (10 * bA + 40 * tA + 1) (60 * bA + 240 * tA + 6) (wal a c S b d F gj52) 52 [(0, .ref (a 0)), (1, .ref (b 0)), (2, .ref (b 1)), (3, .ref (b 2)), (4, .ref (b 4)), (5, .int (iZ 0)), (6, .int (iZ 0)), (7, .int j52_7), (8, .int j52_8), (9, .int (iZ z)), (10, .int (iZ (bZ j52_10))), (11, .int (iZ (bZ j52_11))), (12, .int (iZ ((tA : Nat) : Int))), (13, .int (iZ ((bA : Nat) : Int)))] [] := by
              intro zbA
              induction zbA with
              | zero => intro bA j52_7 j52_8 j52_10 j52_11 gj52 hgj52 hbA1 hbA2; exact absurd hbA2 (by omega)
              | succ zbA ihbA =>
                intro bA j52_7 j52_8 j52_10 j52_11 gj52 hgj52 hbA1 hbA2
                refine VB_iload (q := 54) dL_areOutfits_52 13 rfl rfl ?_
                refine VB_aload (q := 56) dL_areOutfits_54 4 rfl rfl ?_
                refine VB_iconst (q := 57) dL_areOutfits_56 rfl ?_
                refine VB_iald (q := 58) (v := (iZ ((m0 : Nat) : Int))) dL_areOutfits_57 13 12 rfl rfl (0) (by omega) (by omega) (by decide) (hM0) rfl ?_
                have J470 : ∀ (j470_7 : Int32) (j470_8 : Int32) (j470_10 : Bool) (j470_11 : Bool), VB 0 RL cL_areOutfits 20 (some .boolean) wsL_areOutfits (rmU 10 200) vXU (tyl c d) (qU (wal a c S b d F) (tyl c d) (fun _ => True) (fun _ => 0) 200 (6 * 200)) (10 * bA + 40 * tA + 1) (60 * bA + 240 * tA + 6) (wal a c S b d F gj52) 470 [(0, .ref (a 0)), (1, .ref (b 0)), (2, .ref (b 1)), (3, .ref (b 2)), (4, .ref (b 4)), (5, .int (iZ 0)), (6, .int (iZ 0)), (7, .int j470_7), (8, .int j470_8), (9, .int (iZ z)), (10, .int (iZ (bZ j470_10))), (11, .int (iZ (bZ j470_11))), (12, .int (iZ ((tA : Nat) : Int))), (13, .int (iZ ((bA : Nat) : Int)))] [] := by
                  intro j470_7 j470_8 j470_10 j470_11
                  refine VB_iinc (q := 473) (y := ((tA + 1 : Nat) : Int)) (lv' := [(0, _), (1, _), (2, _), (3, _), (4, _), (5, _), (6, _), (7, _), (8, _), (9, _), (10, _), (11, _), (12, _), (13, _)]) dL_areOutfits_470 12 rfl (by omega) (by decide) rfl rfl ?_
                  refine VB_goto (tgt := 35) dL_areOutfits_473 (by decide) ?_
                  refine VB_loc (lv' := [(0, _), (1, _), (2, _), (3, _), (4, _), (5, _), (6, _), (7, _), (8, _), (9, _), (10, _), (11, _), (12, _)]) [0, 1, 2, 3, 4, 5, 6, 7, 8, 9, 10, 11, 12] rfl ?_
                  exact VB_widen (by omega) (by omega) (ihtA (tA + 1) j470_7 j470_8 j470_10 j470_11 gj52 hgj52 (by omega) (by omega))
                refine VB_icmp_ge (q := 61) (tgt := 470) dL_areOutfits_58 (by omega) (by omega) (by decide) (fun t58 => ?_) (fun t58 => ?_)
                · skip
                  exact VB_widen (by omega) (by omega) (J470 j52_7 j52_8 j52_10 j52_11)
                · skip
                  refine VB_iload (q := 63) dL_areOutfits_61 11 rfl rfl ?_
                  refine VB_uif_eq (q := 66) (tgt := 470) dL_areOutfits_63 (by decide) ?_ ?_
                  · skip
                    exact VB_widen (by omega) (by omega) (J470 j52_7 j52_8 j52_10 j52_11)
                  · skip
                    refine VB_aload_n (q := 67) dL_areOutfits_66 1 rfl rfl ?_
                    refine VB_iconst (q := 68) dL_areOutfits_67 rfl ?_
                    refine VB_iload (q := 70) dL_areOutfits_68 12 rfl rfl ?_
                    refine VB_imul (q := 71) dL_areOutfits_70 rfl ?_
                    refine VB_iald (q := 72) dL_areOutfits_71 9 8 rfl rfl ((5 * tA)) (by omega) (by omega) (by decide) rfl rfl ?_
                    refine VB_uany (fun u71 => ?_)
                    refine VB_uif_ne (q := 75) (tgt := 470) dL_areOutfits_72 (by decide) ?_ ?_
                    · skip
                      exact VB_widen (by omega) (by omega) (J470 j52_7 j52_8 j52_10 j52_11)
                    · skip
                      refine VB_iconst (q := 76) dL_areOutfits_75 rfl ?_
                      have J78 : ∀ (zcA cA : Nat) (j78_7 : Int32) (j78_8 : Int32) (j78_10 : Bool) (j78_11 : Bool) (gj78 : Nat → Nat), (∀ j, gj78 j < 4096) → cA ≤ (m0 + 1) → (m0 + 1) + 1 ≤ cA + zcA → VB 0 RL cL_areOutfits 20 (some .boolean) wsL_areOutfits (rmU 10 200) vXU (tyl c d) (qU (wal a c S b d F) (tyl c d) (fun _ => True) (fun _ => 0) 200 (6 * 200)) (10 * bA + 2 * cA + 40 * tA + 1) (60 * bA + 12 * cA + 240 * tA + 6) (wal a c S b d F gj78) 78 [(0, .ref (a 0)), (1, .ref (b 0)), (2, .ref (b 1)), (3, .ref (b 2)), (4, .ref (b 4)), (5, .int (iZ 0)), (6, .int (iZ 0)), (7, .int j78_7), (8, .int j78_8), (9, .int (iZ z)), (10, .int (iZ (bZ j78_10))), (11, .int (iZ (bZ j78_11))), (12, .int (iZ ((tA : Nat) : Int))), (13, .int (iZ ((bA : Nat) : Int))), (14, .int (iZ (((cA : Nat) : Int) - 1)))] [] := by
                        intro zcA
                        induction zcA with
                        | zero => intro cA j78_7 j78_8 j78_10 j78_11 gj78 hgj78 hcA1 hcA2; exact absurd hcA2 (by omega)
                        | succ zcA ihcA =>
                          intro cA j78_7 j78_8 j78_10 j78_11 gj78 hgj78 hcA1 hcA2
                          refine VB_iload (q := 80) dL_areOutfits_78 14 rfl rfl ?_
                          refine VB_aload (q := 82) dL_areOutfits_80 4 rfl rfl ?_
                          refine VB_iconst (q := 83) dL_areOutfits_82 rfl ?_
                          refine VB_iald (q := 84) (v := (iZ ((m0 : Nat) : Int))) dL_areOutfits_83 13 12 rfl rfl (0) (by omega) (by omega) (by decide) (hM0) rfl ?_
                          have J464 : ∀ (j464_7 : Int32) (j464_8 : Int32) (j464_10 : Bool) (j464_11 : Bool), VB 0 RL cL_areOutfits 20 (some .boolean) wsL_areOutfits (rmU 10 200) vXU (tyl c d) (qU (wal a c S b d F) (tyl c d) (fun _ => True) (fun _ => 0) 200 (6 * 200)) (10 * bA + 2 * cA + 40 * tA + 1) (60 * bA + 12 * cA + 240 * tA + 6) (wal a c S b d F gj78) 464 [(0, .ref (a 0)), (1, .ref (b 0)), (2, .ref (b 1)), (3, .ref (b 2)), (4, .ref (b 4)), (5, .int (iZ 0)), (6, .int (iZ 0)), (7, .int j464_7), (8, .int j464_8), (9, .int (iZ z)), (10, .int (iZ (bZ j464_10))), (11, .int (iZ (bZ j464_11))), (12, .int (iZ ((tA : Nat) : Int))), (13, .int (iZ ((bA : Nat) : Int))), (14, .int (iZ (((cA : Nat) : Int) - 1)))] [] := by
                            intro j464_7 j464_8 j464_10 j464_11
                            refine VB_iinc (q := 467) (y := ((bA + 1 : Nat) : Int)) (lv' := [(0, _), (1, _), (2, _), (3, _), (4, _), (5, _), (6, _), (7, _), (8, _), (9, _), (10, _), (11, _), (12, _), (13, _), (14, _)]) dL_areOutfits_464 13 rfl (by omega) (by decide) rfl rfl ?_
                            refine VB_goto (tgt := 52) dL_areOutfits_467 (by decide) ?_
                            refine VB_loc (lv' := [(0, _), (1, _), (2, _), (3, _), (4, _), (5, _), (6, _), (7, _), (8, _), (9, _), (10, _), (11, _), (12, _), (13, _)]) [0, 1, 2, 3, 4, 5, 6, 7, 8, 9, 10, 11, 12, 13] rfl ?_
                            exact VB_widen (by omega) (by omega) (ihbA (bA + 1) j464_7 j464_8 j464_10 j464_11 gj78 hgj78 (by omega) (by omega))
                          refine VB_icmp_ge (q := 87) (tgt := 464) dL_areOutfits_84 (by omega) (by omega) (by decide) (fun t84 => ?_) (fun t84 => ?_)
                          · skip
                            exact VB_widen (by omega) (by omega) (J464 j78_7 j78_8 j78_10 j78_11)
                          · skip
                            refine VB_iload (q := 89) dL_areOutfits_87 11 rfl rfl ?_
                            refine VB_uif_eq (q := 92) (tgt := 464) dL_areOutfits_89 (by decide) ?_ ?_
                            · skip
                              exact VB_widen (by omega) (by omega) (J464 j78_7 j78_8 j78_10 j78_11)
                            · skip
                              refine VB_aload_n (q := 93) dL_areOutfits_92 1 rfl rfl ?_
                              refine VB_iconst (q := 94) dL_areOutfits_93 rfl ?_
                              refine VB_iload (q := 96) dL_areOutfits_94 13 rfl rfl ?_
                              refine VB_imul (q := 97) dL_areOutfits_96 rfl ?_
                              refine VB_iald (q := 98) dL_areOutfits_97 9 8 rfl rfl ((5 * bA)) (by omega) (by omega) (by decide) rfl rfl ?_
                              refine VB_uany (fun u97 => ?_)
                              refine VB_iconst (q := 99) dL_areOutfits_98 rfl ?_
                              refine VB_uicmp_ne (q := 102) (tgt := 464) dL_areOutfits_99 (by decide) ?_ ?_
                              · skip
                                exact VB_widen (by omega) (by omega) (J464 j78_7 j78_8 j78_10 j78_11)
                              · skip
                                refine VB_iload (q := 104) dL_areOutfits_102 14 rfl rfl ?_
                                have J458 : ∀ (j458_7 : Int32) (j458_8 : Int32) (j458_10 : Bool) (j458_11 : Bool) (gj458 : Nat → Nat), (∀ j, gj458 j < 4096) → VB 0 RL cL_areOutfits 20 (some .boolean) wsL_areOutfits (rmU 10 200) vXU (tyl c d) (qU (wal a c S b d F) (tyl c d) (fun _ => True) (fun _ => 0) 200 (6 * 200)) (10 * bA + 2 * cA + 40 * tA + 3) (60 * bA + 12 * cA + 240 * tA + 18) (wal a c S b d F gj458) 458 [(0, .ref (a 0)), (1, .ref (b 0)), (2, .ref (b 1)), (3, .ref (b 2)), (4, .ref (b 4)), (5, .int (iZ 0)), (6, .int (iZ 0)), (7, .int j458_7), (8, .int j458_8), (9, .int (iZ z)), (10, .int (iZ (bZ j458_10))), (11, .int (iZ (bZ j458_11))), (12, .int (iZ ((tA : Nat) : Int))), (13, .int (iZ ((bA : Nat) : Int))), (14, .int (iZ (((cA : Nat) : Int) - 1)))] [] := by
                                  intro j458_7 j458_8 j458_10 j458_11 gj458 hgj458
                                  refine VB_iinc (q := 461) (y := (((cA + 1 : Nat) : Int) - 1)) (lv' := [(0, _), (1, _), (2, _), (3, _), (4, _), (5, _), (6, _), (7, _), (8, _), (9, _), (10, _), (11, _), (12, _), (13, _), (14, _)]) dL_areOutfits_458 14 rfl (by omega) (by decide) rfl rfl ?_
                                  refine VB_goto (tgt := 78) dL_areOutfits_461 (by decide) ?_
                                  exact VB_widen (by omega) (by omega) (ihcA (cA + 1) j458_7 j458_8 j458_10 j458_11 gj458 hgj458 (by omega) (by omega))
                                have J117 : ∀ (j117_7 : Int32) (j117_8 : Int32) (j117_10 : Bool) (j117_11 : Bool), VB 0 RL cL_areOutfits 20 (some .boolean) wsL_areOutfits (rmU 10 200) vXU (tyl c d) (qU (wal a c S b d F) (tyl c d) (fun _ => True) (fun _ => 0) 200 (6 * 200)) (10 * bA + 2 * cA + 40 * tA + 1) (60 * bA + 12 * cA + 240 * tA + 6) (wal a c S b d F gj78) 117 [(0, .ref (a 0)), (1, .ref (b 0)), (2, .ref (b 1)), (3, .ref (b 2)), (4, .ref (b 4)), (5, .int (iZ 0)), (6, .int (iZ 0)), (7, .int j117_7), (8, .int j117_8), (9, .int (iZ z)), (10, .int (iZ (bZ j117_10))), (11, .int (iZ (bZ j117_11))), (12, .int (iZ ((tA : Nat) : Int))), (13, .int (iZ ((bA : Nat) : Int))), (14, .int (iZ (((cA : Nat) : Int) - 1)))] [] := by
                                  intro j117_7 j117_8 j117_10 j117_11
                                  refine VB_aload_n (q := 118) dL_areOutfits_117 2 rfl rfl ?_
                                  refine VB_iload (q := 120) dL_areOutfits_118 12 rfl rfl ?_
                                  refine VB_iald (q := 121) dL_areOutfits_120 10 9 rfl rfl (tA) (by omega) (by omega) (by decide) rfl rfl ?_
                                  refine VB_uany (fun u120 => ?_)
                                  refine VB_aload_n (q := 122) dL_areOutfits_121 1 rfl rfl ?_
                                  refine VB_iconst (q := 123) dL_areOutfits_122 rfl ?_
                                  refine VB_iload (q := 125) dL_areOutfits_123 12 rfl rfl ?_
                                  refine VB_imul (q := 126) dL_areOutfits_125 rfl ?_
                                  refine VB_iconst (q := 127) dL_areOutfits_126 rfl ?_
                                  refine VB_iadd (q := 128) dL_areOutfits_127 rfl ?_
                                  refine VB_iald (q := 129) dL_areOutfits_128 9 8 rfl rfl (((5 * tA) + 3)) (by omega) (by omega) (by decide) rfl rfl ?_
                                  refine VB_uany (fun u128 => ?_)
                                  have J208 : ∀ (j208_7 : Int32) (j208_8 : Int32) (j208_10 : Bool) (j208_11 : Bool) (j208_s0 : Bool) (gj208 : Nat → Nat), (∀ j, gj208 j < 4096) → VB 0 RL cL_areOutfits 20 (some .boolean) wsL_areOutfits (rmU 10 200) vXU (tyl c d) (qU (wal a c S b d F) (tyl c d) (fun _ => True) (fun _ => 0) 200 (6 * 200)) (10 * bA + 2 * cA + 40 * tA + 1) (60 * bA + 12 * cA + 240 * tA + 6) (wal a c S b d F gj208) 208 [(0, .ref (a 0)), (1, .ref (b 0)), (2, .ref (b 1)), (3, .ref (b 2)), (4, .ref (b 4)), (5, .int (iZ 0)), (6, .int (iZ 0)), (7, .int j208_7), (8, .int j208_8), (9, .int (iZ z)), (10, .int (iZ (bZ j208_10))), (11, .int (iZ (bZ j208_11))), (12, .int (iZ ((tA : Nat) : Int))), (13, .int (iZ ((bA : Nat) : Int))), (14, .int (iZ (((cA : Nat) : Int) - 1)))] [.int (iZ (bZ j208_s0))] := by
                                    intro j208_7 j208_8 j208_10 j208_11 j208_s0 gj208 hgj208
                                    refine VB_istore (q := 210) (lv' := [(0, _), (1, _), (2, _), (3, _), (4, _), (5, _), (6, _), (7, _), (8, _), (9, _), (10, _), (11, _), (12, _), (13, _), (14, _), (15, _)]) dL_areOutfits_208 (by decide) rfl rfl ?_
                                    refine VB_aload_n (q := 211) dL_areOutfits_210 1 rfl rfl ?_
                                    refine VB_iconst (q := 212) dL_areOutfits_211 rfl ?_
                                    refine VB_iload (q := 214) dL_areOutfits_212 12 rfl rfl ?_
                                    refine VB_imul (q := 215) dL_areOutfits_214 rfl ?_
                                    refine VB_iconst (q := 216) dL_areOutfits_215 rfl ?_
                                    refine VB_iadd (q := 217) dL_areOutfits_216 rfl ?_
                                    refine VB_iald (q := 218) dL_areOutfits_217 9 8 rfl rfl (((5 * tA) + 2)) (by omega) (by omega) (by decide) rfl rfl ?_
                                    refine VB_uany (fun u217 => ?_)
                                    refine VB_aload_n (q := 219) dL_areOutfits_218 1 rfl rfl ?_
                                    refine VB_iconst (q := 220) dL_areOutfits_219 rfl ?_
                                    refine VB_iload (q := 222) dL_areOutfits_220 13 rfl rfl ?_
                                    refine VB_imul (q := 223) dL_areOutfits_222 rfl ?_
                                    refine VB_iconst (q := 224) dL_areOutfits_223 rfl ?_
                                    refine VB_iadd (q := 225) dL_areOutfits_224 rfl ?_
                                    refine VB_iald (q := 226) dL_areOutfits_225 9 8 rfl rfl (((5 * bA) + 2)) (by omega) (by omega) (by decide) rfl rfl ?_
                                    refine VB_uany (fun u225 => ?_)
                                    refine VB_uiadd (q := 227) dL_areOutfits_226 rfl (fun u226 => ?_)
                                    refine VB_iload (q := 229) dL_areOutfits_227 14 rfl rfl ?_
                                    have J244 : ∀ (j244_7 : Int32) (j244_8 : Int32) (j244_10 : Bool) (j244_11 : Bool) (j244_15 : Bool) (j244_s0 : Int32) (gj244 : Nat → Nat), (∀ j, gj244 j < 4096) → VB 0 RL cL_areOutfits 20 (some .boolean) wsL_areOutfits (rmU 10 200) vXU (tyl c d) (qU (wal a c S b d F) (tyl c d) (fun _ => True) (fun _ => 0) 200 (6 * 200)) (10 * bA + 2 * cA + 40 * tA + 1) (60 * bA + 12 * cA + 240 * tA + 6) (wal a c S b d F gj244) 244 [(0, .ref (a 0)), (1, .ref (b 0)), (2, .ref (b 1)), (3, .ref (b 2)), (4, .ref (b 4)), (5, .int (iZ 0)), (6, .int (iZ 0)), (7, .int j244_7), (8, .int j244_8), (9, .int (iZ z)), (10, .int (iZ (bZ j244_10))), (11, .int (iZ (bZ j244_11))), (12, .int (iZ ((tA : Nat) : Int))), (13, .int (iZ ((bA : Nat) : Int))), (14, .int (iZ (((cA : Nat) : Int) - 1))), (15, .int (iZ (bZ j244_15)))] [.int j244_s0, .int u226] := by
                                      intro j244_7 j244_8 j244_10 j244_11 j244_15 j244_s0 gj244 hgj244
                                      refine VB_uiadd (q := 245) dL_areOutfits_244 rfl (fun u244 => ?_)
                                      refine VB_istore (q := 247) (lv' := [(0, _), (1, _), (2, _), (3, _), (4, _), (5, _), (6, _), (7, _), (8, _), (9, _), (10, _), (11, _), (12, _), (13, _), (14, _), (15, _), (16, _)]) dL_areOutfits_245 (by decide) rfl rfl ?_
                                      refine VB_iload (q := 249) dL_areOutfits_247 15 rfl rfl ?_
                                      have J264 : ∀ (j264_7 : Int32) (j264_8 : Int32) (j264_10 : Bool) (j264_11 : Bool) (j264_15 : Bool) (j264_s0 : Bool) (gj264 : Nat → Nat), (∀ j, gj264 j < 4096) → VB 0 RL cL_areOutfits 20 (some .boolean) wsL_areOutfits (rmU 10 200) vXU (tyl c d) (qU (wal a c S b d F) (tyl c d) (fun _ => True) (fun _ => 0) 200 (6 * 200)) (10 * bA + 2 * cA + 40 * tA + 1) (60 * bA + 12 * cA + 240 * tA + 6) (wal a c S b d F gj264) 264 [(0, .ref (a 0)), (1, .ref (b 0)), (2, .ref (b 1)), (3, .ref (b 2)), (4, .ref (b 4)), (5, .int (iZ 0)), (6, .int (iZ 0)), (7, .int j264_7), (8, .int j264_8), (9, .int (iZ z)), (10, .int (iZ (bZ j264_10))), (11, .int (iZ (bZ j264_11))), (12, .int (iZ ((tA : Nat) : Int))), (13, .int (iZ ((bA : Nat) : Int))), (14, .int (iZ (((cA : Nat) : Int) - 1))), (15, .int (iZ (bZ j264_15))), (16, .int u244)] [.int (iZ (bZ j264_s0))] := by
                                        intro j264_7 j264_8 j264_10 j264_11 j264_15 j264_s0 gj264 hgj264
                                        refine VB_istore (q := 266) (lv' := [(0, _), (1, _), (2, _), (3, _), (4, _), (5, _), (6, _), (7, _), (8, _), (9, _), (10, _), (11, _), (12, _), (13, _), (14, _), (15, _), (16, _), (17, _)]) dL_areOutfits_264 (by decide) rfl rfl ?_
                                        refine VB_iload (q := 268) dL_areOutfits_266 7 rfl rfl ?_
                                        refine VB_iload (q := 270) dL_areOutfits_268 17 rfl rfl ?_
                                        have J278 : ∀ (j278_7 : Int32) (j278_8 : Int32) (j278_10 : Bool) (j278_11 : Bool) (j278_15 : Bool) (j278_17 : Bool) (j278_s0 : Bool) (j278_s1 : Int32) (gj278 : Nat → Nat), (∀ j, gj278 j < 4096) → VB 0 RL cL_areOutfits 20 (some .boolean) wsL_areOutfits (rmU 10 200) vXU (tyl c d) (qU (wal a c S b d F) (tyl c d) (fun _ => True) (fun _ => 0) 200 (6 * 200)) (10 * bA + 2 * cA + 40 * tA + 1) (60 * bA + 12 * cA + 240 * tA + 6) (wal a c S b d F gj278) 278 [(0, .ref (a 0)), (1, .ref (b 0)), (2, .ref (b 1)), (3, .ref (b 2)), (4, .ref (b 4)), (5, .int (iZ 0)), (6, .int (iZ 0)), (7, .int j278_7), (8, .int j278_8), (9, .int (iZ z)), (10, .int (iZ (bZ j278_10))), (11, .int (iZ (bZ j278_11))), (12, .int (iZ ((tA : Nat) : Int))), (13, .int (iZ ((bA : Nat) : Int))), (14, .int (iZ (((cA : Nat) : Int) - 1))), (15, .int (iZ (bZ j278_15))), (16, .int u244), (17, .int (iZ (bZ j278_17)))] [.int (iZ (bZ j278_s0)), .int j278_s1] := by
                                          intro j278_7 j278_8 j278_10 j278_11 j278_15 j278_17 j278_s0 j278_s1 gj278 hgj278
                                          refine VB_uiadd (q := 279) dL_areOutfits_278 rfl (fun u278 => ?_)
                                          refine VB_istore (q := 281) (lv' := [(0, _), (1, _), (2, _), (3, _), (4, _), (5, _), (6, _), (7, _), (8, _), (9, _), (10, _), (11, _), (12, _), (13, _), (14, _), (15, _), (16, _), (17, _)]) dL_areOutfits_279 (by decide) rfl rfl ?_
                                          refine VB_iload (q := 283) dL_areOutfits_281 8 rfl rfl ?_
                                          refine VB_iload (q := 285) dL_areOutfits_283 17 rfl rfl ?_
                                          have J302 : ∀ (j302_7 : Int32) (j302_8 : Int32) (j302_10 : Bool) (j302_11 : Bool) (j302_15 : Bool) (j302_17 : Bool) (j302_s0 : Int32) (j302_s1 : Int32) (gj302 : Nat → Nat), (∀ j, gj302 j < 4096) → VB 0 RL cL_areOutfits 20 (some .boolean) wsL_areOutfits (rmU 10 200) vXU (tyl c d) (qU (wal a c S b d F) (tyl c d) (fun _ => True) (fun _ => 0) 200 (6 * 200)) (10 * bA + 2 * cA + 40 * tA + 1) (60 * bA + 12 * cA + 240 * tA + 6) (wal a c S b d F gj302) 302 [(0, .ref (a 0)), (1, .ref (b 0)), (2, .ref (b 1)), (3, .ref (b 2)), (4, .ref (b 4)), (5, .int (iZ 0)), (6, .int (iZ 0)), (7, .int j302_7), (8, .int j302_8), (9, .int (iZ z)), (10, .int (iZ (bZ j302_10))), (11, .int (iZ (bZ j302_11))), (12, .int (iZ ((tA : Nat) : Int))), (13, .int (iZ ((bA : Nat) : Int))), (14, .int (iZ (((cA : Nat) : Int) - 1))), (15, .int (iZ (bZ j302_15))), (16, .int u244), (17, .int (iZ (bZ j302_17)))] [.int j302_s0, .int j302_s1] := by
                                            intro j302_7 j302_8 j302_10 j302_11 j302_15 j302_17 j302_s0 j302_s1 gj302 hgj302
                                            refine VB_uiadd (q := 303) dL_areOutfits_302 rfl (fun u302 => ?_)
                                            refine VB_istore (q := 305) (lv' := [(0, _), (1, _), (2, _), (3, _), (4, _), (5, _), (6, _), (7, _), (8, _), (9, _), (10, _), (11, _), (12, _), (13, _), (14, _), (15, _), (16, _), (17, _)]) dL_areOutfits_303 (by decide) rfl rfl ?_
                                            refine VB_aload_n (q := 306) dL_areOutfits_305 0 rfl rfl ?_
                                            refine VB_iconst (q := 307) dL_areOutfits_306 rfl ?_
                                            refine VB_iload (q := 309) dL_areOutfits_307 12 rfl rfl ?_
                                            refine VB_iload (q := 311) dL_areOutfits_309 13 rfl rfl ?_
                                            refine VB_iload (q := 313) dL_areOutfits_311 14 rfl rfl ?_
                                            refine VB_iconst (q := 314) dL_areOutfits_313 rfl ?_
                                            refine VB_callUW (q := 317) dL_areOutfits_314 (u_out0 (a := a) (c := c) (S := S) (b := b) (d := d) (F := F) ho hgj302 ((tA : Nat) : Int) ((bA : Nat) : Int) (((cA : Nat) : Int) - 1) 0 (by omega) (by omega) (by omega) (by omega)) yw_outfit rfl gL_areOutfits_L_outfit xU_U rfl (Nat.le_of_ble_eq_true rfl) (by decide) ⟨by show _ ≤ 200; omega, by show _ ≤ 6 * 200; omega⟩ (fun x314 g314 hP314 hg314 => ?_)
                                            refine VB_lo (lo' := 0) (by show 0 ≤ 0 + 0; omega) ?_
                                            refine VB_iload (q := 319) dL_areOutfits_317 15 rfl rfl ?_
                                            have J327 : ∀ (j327_7 : Int32) (j327_8 : Int32) (j327_10 : Bool) (j327_11 : Bool) (j327_15 : Bool) (j327_17 : Bool) (j327_s0 : Bool), VB 0 RL cL_areOutfits 20 (some .boolean) wsL_areOutfits (rmU 10 200) vXU (tyl c d) (qU (wal a c S b d F) (tyl c d) (fun _ => True) (fun _ => 0) 200 (6 * 200)) (10 * bA + 2 * cA + 40 * tA + 2) (60 * bA + 12 * cA + 240 * tA + 12) (wal a c S b d F g314) 327 [(0, .ref (a 0)), (1, .ref (b 0)), (2, .ref (b 1)), (3, .ref (b 2)), (4, .ref (b 4)), (5, .int (iZ 0)), (6, .int (iZ 0)), (7, .int j327_7), (8, .int j327_8), (9, .int (iZ z)), (10, .int (iZ (bZ j327_10))), (11, .int (iZ (bZ j327_11))), (12, .int (iZ ((tA : Nat) : Int))), (13, .int (iZ ((bA : Nat) : Int))), (14, .int (iZ (((cA : Nat) : Int) - 1))), (15, .int (iZ (bZ j327_15))), (16, .int u244), (17, .int (iZ (bZ j327_17)))] [.int (iZ (bZ j327_s0)), .int x314] := by
                                              intro j327_7 j327_8 j327_10 j327_11 j327_15 j327_17 j327_s0
                                              have J335 : ∀ (j335_7 : Int32) (j335_8 : Int32) (j335_10 : Bool) (j335_11 : Bool) (j335_15 : Bool) (j335_17 : Bool) (j335_s0 : Bool), VB 0 RL cL_areOutfits 20 (some .boolean) wsL_areOutfits (rmU 10 200) vXU (tyl c d) (qU (wal a c S b d F) (tyl c d) (fun _ => True) (fun _ => 0) 200 (6 * 200)) (10 * bA + 2 * cA + 40 * tA + 2) (60 * bA + 12 * cA + 240 * tA + 12) (wal a c S b d F g314) 335 [(0, .ref (a 0)), (1, .ref (b 0)), (2, .ref (b 1)), (3, .ref (b 2)), (4, .ref (b 4)), (5, .int (iZ 0)), (6, .int (iZ 0)), (7, .int j335_7), (8, .int j335_8), (9, .int (iZ z)), (10, .int (iZ (bZ j335_10))), (11, .int (iZ (bZ j335_11))), (12, .int (iZ ((tA : Nat) : Int))), (13, .int (iZ ((bA : Nat) : Int))), (14, .int (iZ (((cA : Nat) : Int) - 1))), (15, .int (iZ (bZ j335_15))), (16, .int u244), (17, .int (iZ (bZ j335_17)))] [.int (iZ (bZ j335_s0))] := by
                                                intro j335_7 j335_8 j335_10 j335_11 j335_15 j335_17 j335_s0
                                                refine VB_istore (q := 337) (lv' := [(0, _), (1, _), (2, _), (3, _), (4, _), (5, _), (6, _), (7, _), (8, _), (9, _), (10, _), (11, _), (12, _), (13, _), (14, _), (15, _), (16, _), (17, _)]) dL_areOutfits_335 (by decide) rfl rfl ?_
                                                refine VB_iload (q := 339) dL_areOutfits_337 17 rfl rfl ?_
                                                have J362 : ∀ (j362_7 : Int32) (j362_8 : Int32) (j362_10 : Bool) (j362_11 : Bool) (j362_15 : Bool) (j362_17 : Bool) (j362_s0 : Bool) (gj362 : Nat → Nat), (∀ j, gj362 j < 4096) → VB 0 RL cL_areOutfits 20 (some .boolean) wsL_areOutfits (rmU 10 200) vXU (tyl c d) (qU (wal a c S b d F) (tyl c d) (fun _ => True) (fun _ => 0) 200 (6 * 200)) (10 * bA + 2 * cA + 40 * tA + 3) (60 * bA + 12 * cA + 240 * tA + 18) (wal a c S b d F gj362) 362 [(0, .ref (a 0)), (1, .ref (b 0)), (2, .ref (b 1)), (3, .ref (b 2)), (4, .ref (b 4)), (5, .int (iZ 0)), (6, .int (iZ 0)), (7, .int j362_7), (8, .int j362_8), (9, .int (iZ z)), (10, .int (iZ (bZ j362_10))), (11, .int (iZ (bZ j362_11))), (12, .int (iZ ((tA : Nat) : Int))), (13, .int (iZ ((bA : Nat) : Int))), (14, .int (iZ (((cA : Nat) : Int) - 1))), (15, .int (iZ (bZ j362_15))), (16, .int u244), (17, .int (iZ (bZ j362_17)))] [.int (iZ (bZ j362_s0))] := by
                                                  intro j362_7 j362_8 j362_10 j362_11 j362_15 j362_17 j362_s0 gj362 hgj362
                                                  refine VB_istore (q := 364) (lv' := [(0, _), (1, _), (2, _), (3, _), (4, _), (5, _), (6, _), (7, _), (8, _), (9, _), (10, _), (11, _), (12, _), (13, _), (14, _), (15, _), (16, _), (17, _), (18, _)]) dL_areOutfits_362 (by decide) rfl rfl ?_
                                                  refine VB_sipush (q := 367) dL_areOutfits_364 (by decide) rfl ?_
                                                  refine VB_iload (q := 369) dL_areOutfits_367 12 rfl rfl ?_
                                                  refine VB_imul (q := 370) dL_areOutfits_369 rfl ?_
                                                  refine VB_bipush (q := 372) dL_areOutfits_370 (by decide) rfl ?_
                                                  refine VB_iload (q := 374) dL_areOutfits_372 13 rfl rfl ?_
                                                  refine VB_imul (q := 375) dL_areOutfits_374 rfl ?_
                                                  refine VB_iadd (q := 376) dL_areOutfits_375 rfl ?_
                                                  refine VB_iload (q := 378) dL_areOutfits_376 14 rfl rfl ?_
                                                  refine VB_iadd (q := 379) dL_areOutfits_378 rfl ?_
                                                  refine VB_iconst (q := 380) dL_areOutfits_379 rfl ?_
                                                  refine VB_iadd (q := 381) dL_areOutfits_380 rfl ?_
                                                  refine VB_uany (fun f381 => ?_)
                                                  refine VB_istore (q := 383) (lv' := [(0, _), (1, _), (2, _), (3, _), (4, _), (5, _), (6, _), (7, _), (8, _), (9, _), (10, _), (11, _), (12, _), (13, _), (14, _), (15, _), (16, _), (17, _), (18, _), (19, _)]) dL_areOutfits_381 (by decide) rfl rfl ?_
                                                  refine VB_iload (q := 385) dL_areOutfits_383 10 rfl rfl ?_
                                                  have J405 : ∀ (j405_7 : Int32) (j405_8 : Int32) (j405_10 : Bool) (j405_11 : Bool) (j405_15 : Bool) (j405_17 : Bool) (j405_18 : Bool) (j405_s0 : Bool) (gj405 : Nat → Nat), (∀ j, gj405 j < 4096) → VB 0 RL cL_areOutfits 20 (some .boolean) wsL_areOutfits (rmU 10 200) vXU (tyl c d) (qU (wal a c S b d F) (tyl c d) (fun _ => True) (fun _ => 0) 200 (6 * 200)) (10 * bA + 2 * cA + 40 * tA + 3) (60 * bA + 12 * cA + 240 * tA + 18) (wal a c S b d F gj405) 405 [(0, .ref (a 0)), (1, .ref (b 0)), (2, .ref (b 1)), (3, .ref (b 2)), (4, .ref (b 4)), (5, .int (iZ 0)), (6, .int (iZ 0)), (7, .int j405_7), (8, .int j405_8), (9, .int (iZ z)), (10, .int (iZ (bZ j405_10))), (11, .int (iZ (bZ j405_11))), (12, .int (iZ ((tA : Nat) : Int))), (13, .int (iZ ((bA : Nat) : Int))), (14, .int (iZ (((cA : Nat) : Int) - 1))), (15, .int (iZ (bZ j405_15))), (16, .int u244), (17, .int (iZ (bZ j405_17))), (18, .int (iZ (bZ j405_18))), (19, .int f381)] [.int (iZ (bZ j405_s0))] := by
                                                    intro j405_7 j405_8 j405_10 j405_11 j405_15 j405_17 j405_18 j405_s0 gj405 hgj405
                                                    refine VB_istore (q := 407) (lv' := [(0, _), (1, _), (2, _), (3, _), (4, _), (5, _), (6, _), (7, _), (8, _), (9, _), (10, _), (11, _), (12, _), (13, _), (14, _), (15, _), (16, _), (17, _), (18, _), (19, _)]) dL_areOutfits_405 (by decide) rfl rfl ?_
                                                    refine VB_iload (q := 409) dL_areOutfits_407 11 rfl rfl ?_
                                                    have J456 : ∀ (j456_7 : Int32) (j456_8 : Int32) (j456_10 : Bool) (j456_11 : Bool) (j456_15 : Bool) (j456_17 : Bool) (j456_18 : Bool) (j456_s0 : Bool) (gj456 : Nat → Nat), (∀ j, gj456 j < 4096) → VB 0 RL cL_areOutfits 20 (some .boolean) wsL_areOutfits (rmU 10 200) vXU (tyl c d) (qU (wal a c S b d F) (tyl c d) (fun _ => True) (fun _ => 0) 200 (6 * 200)) (10 * bA + 2 * cA + 40 * tA + 3) (60 * bA + 12 * cA + 240 * tA + 18) (wal a c S b d F gj456) 456 [(0, .ref (a 0)), (1, .ref (b 0)), (2, .ref (b 1)), (3, .ref (b 2)), (4, .ref (b 4)), (5, .int (iZ 0)), (6, .int (iZ 0)), (7, .int j456_7), (8, .int j456_8), (9, .int (iZ z)), (10, .int (iZ (bZ j456_10))), (11, .int (iZ (bZ j456_11))), (12, .int (iZ ((tA : Nat) : Int))), (13, .int (iZ ((bA : Nat) : Int))), (14, .int (iZ (((cA : Nat) : Int) - 1))), (15, .int (iZ (bZ j456_15))), (16, .int u244), (17, .int (iZ (bZ j456_17))), (18, .int (iZ (bZ j456_18))), (19, .int f381)] [.int (iZ (bZ j456_s0))] := by
                                                      intro j456_7 j456_8 j456_10 j456_11 j456_15 j456_17 j456_18 j456_s0 gj456 hgj456
                                                      refine VB_istore (q := 458) (lv' := [(0, _), (1, _), (2, _), (3, _), (4, _), (5, _), (6, _), (7, _), (8, _), (9, _), (10, _), (11, _), (12, _), (13, _), (14, _), (15, _), (16, _), (17, _), (18, _), (19, _)]) dL_areOutfits_456 (by decide) rfl rfl ?_
                                                      refine VB_loc (lv' := [(0, _), (1, _), (2, _), (3, _), (4, _), (5, _), (6, _), (7, _), (8, _), (9, _), (10, _), (11, _), (12, _), (13, _), (14, _)]) [0, 1, 2, 3, 4, 5, 6, 7, 8, 9, 10, 11, 12, 13, 14] rfl ?_
                                                      exact VB_widen (by omega) (by omega) (J458 j456_7 j456_8 j456_10 j456_s0 gj456 hgj456)
                                                    have J455 : ∀ (j455_7 : Int32) (j455_8 : Int32) (j455_10 : Bool) (j455_11 : Bool) (j455_15 : Bool) (j455_17 : Bool) (j455_18 : Bool) (gj455 : Nat → Nat), (∀ j, gj455 j < 4096) → VB 0 RL cL_areOutfits 20 (some .boolean) wsL_areOutfits (rmU 10 200) vXU (tyl c d) (qU (wal a c S b d F) (tyl c d) (fun _ => True) (fun _ => 0) 200 (6 * 200)) (10 * bA + 2 * cA + 40 * tA + 3) (60 * bA + 12 * cA + 240 * tA + 18) (wal a c S b d F gj455) 455 [(0, .ref (a 0)), (1, .ref (b 0)), (2, .ref (b 1)), (3, .ref (b 2)), (4, .ref (b 4)), (5, .int (iZ 0)), (6, .int (iZ 0)), (7, .int j455_7), (8, .int j455_8), (9, .int (iZ z)), (10, .int (iZ (bZ j455_10))), (11, .int (iZ (bZ j455_11))), (12, .int (iZ ((tA : Nat) : Int))), (13, .int (iZ ((bA : Nat) : Int))), (14, .int (iZ (((cA : Nat) : Int) - 1))), (15, .int (iZ (bZ j455_15))), (16, .int u244), (17, .int (iZ (bZ j455_17))), (18, .int (iZ (bZ j455_18))), (19, .int f381)] [] := by
                                                      intro j455_7 j455_8 j455_10 j455_11 j455_15 j455_17 j455_18 gj455 hgj455
                                                      refine VB_iconst (q := 456) dL_areOutfits_455 rfl ?_
                                                      exact VB_widen (by omega) (by omega) (J456 j455_7 j455_8 j455_10 j455_11 j455_15 j455_17 j455_18 false gj455 hgj455)
                                                    refine VB_uif_eq (q := 412) (tgt := 455) dL_areOutfits_409 (by decide) ?_ ?_
                                                    · skip
                                                      exact VB_widen (by omega) (by omega) (J455 j405_7 j405_8 j405_s0 j405_11 j405_15 j405_17 j405_18 gj405 hgj405)
                                                    · skip
                                                      refine VB_iload (q := 414) dL_areOutfits_412 18 rfl rfl ?_
                                                      have J451 : ∀ (j451_7 : Int32) (j451_8 : Int32) (j451_10 : Bool) (j451_15 : Bool) (j451_17 : Bool) (j451_18 : Bool) (gj451 : Nat → Nat), (∀ j, gj451 j < 4096) → VB 0 RL cL_areOutfits 20 (some .boolean) wsL_areOutfits (rmU 10 200) vXU (tyl c d) (qU (wal a c S b d F) (tyl c d) (fun _ => True) (fun _ => 0) 200 (6 * 200)) (10 * bA + 2 * cA + 40 * tA + 3) (60 * bA + 12 * cA + 240 * tA + 18) (wal a c S b d F gj451) 451 [(0, .ref (a 0)), (1, .ref (b 0)), (2, .ref (b 1)), (3, .ref (b 2)), (4, .ref (b 4)), (5, .int (iZ 0)), (6, .int (iZ 0)), (7, .int j451_7), (8, .int j451_8), (9, .int (iZ z)), (10, .int (iZ (bZ j451_10))), (11, .int (iZ (bZ j405_11))), (12, .int (iZ ((tA : Nat) : Int))), (13, .int (iZ ((bA : Nat) : Int))), (14, .int (iZ (((cA : Nat) : Int) - 1))), (15, .int (iZ (bZ j451_15))), (16, .int u244), (17, .int (iZ (bZ j451_17))), (18, .int (iZ (bZ j451_18))), (19, .int f381)] [] := by
                                                        intro j451_7 j451_8 j451_10 j451_15 j451_17 j451_18 gj451 hgj451
                                                        refine VB_iconst (q := 452) dL_areOutfits_451 rfl ?_
                                                        refine VB_goto (tgt := 456) dL_areOutfits_452 (by decide) ?_
                                                        exact VB_widen (by omega) (by omega) (J456 j451_7 j451_8 j451_10 j405_11 j451_15 j451_17 j451_18 true gj451 hgj451)
                                                      refine VB_uif_eq (q := 417) (tgt := 451) dL_areOutfits_414 (by decide) ?_ ?_
                                                      · skip
                                                        exact VB_widen (by omega) (by omega) (J451 j405_7 j405_8 j405_s0 j405_15 j405_17 j405_18 gj405 hgj405)
                                                      · skip
                                                        refine VB_iload (q := 419) dL_areOutfits_417 9 rfl rfl ?_
                                                        refine VB_if_lt (q := 422) (tgt := 455) dL_areOutfits_419 (by omega) (by decide) (fun t419 => ?_) (fun t419 => ?_)
                                                        · skip
                                                          exact VB_widen (by omega) (by omega) (J455 j405_7 j405_8 j405_s0 j405_11 j405_15 j405_17 j405_18 gj405 hgj405)
                                                        · skip
                                                          refine VB_iload (q := 424) dL_areOutfits_422 16 rfl rfl ?_
                                                          refine VB_aload_n (q := 425) dL_areOutfits_424 1 rfl rfl ?_
                                                          refine VB_iload (q := 427) dL_areOutfits_425 9 rfl rfl ?_
                                                          obtain ⟨q427, e427, b427⟩ : ∃ q : Nat, z = (q : Int) ∧ q / 10000 < 12 ∧ q / 100 % 100 < 12 ∧ q % 100 ≤ 12 := hzr.elim (fun h => absurd h (by omega)) id
                                                          refine VB_st (st' := [.int (iZ ((q427 : Nat) : Int)), .ref (b 0), .int u244]) (by rw [← e427]) ?_
                                                          refine VB_callU (q := 430) dL_areOutfits_427 (u_warmthOf (a := a) (c := c) (S := S) (b := b) (d := d) (F := F) q427 b427 hgj405) yv_L_warmthOf rfl gL_areOutfits_L_warmthOf xU_U rfl (Nat.le_of_ble_eq_true rfl) (by decide) ⟨by show _ ≤ 200; omega, by show _ ≤ 6 * 200; omega⟩ (fun x427 g427 hP427 hg427 => ?_)
                                                          refine VB_lo (lo' := 0) (Nat.le_add_right _ _) ?_
                                                          refine VB_uicmp_gt (q := 433) (tgt := 451) dL_areOutfits_430 (by decide) ?_ ?_
                                                          · skip
                                                            exact VB_widen (by omega) (by omega) (J451 j405_7 j405_8 j405_s0 j405_15 j405_17 j405_18 g427 hg427)
                                                          · skip
                                                            refine VB_iload (q := 435) dL_areOutfits_433 16 rfl rfl ?_
                                                            refine VB_aload_n (q := 436) dL_areOutfits_435 1 rfl rfl ?_
                                                            refine VB_iload (q := 438) dL_areOutfits_436 9 rfl rfl ?_
                                                            obtain ⟨q438, e438, b438⟩ : ∃ q : Nat, z = (q : Int) ∧ q / 10000 < 12 ∧ q / 100 % 100 < 12 ∧ q % 100 ≤ 12 := hzr.elim (fun h => absurd h (by omega)) id
                                                            refine VB_st (st' := [.int (iZ ((q438 : Nat) : Int)), .ref (b 0), .int u244]) (by rw [← e438]) ?_
                                                            refine VB_callU (q := 441) dL_areOutfits_438 (u_warmthOf (a := a) (c := c) (S := S) (b := b) (d := d) (F := F) q438 b438 hg427) yv_L_warmthOf rfl gL_areOutfits_L_warmthOf xU_U rfl (Nat.le_of_ble_eq_true rfl) (by decide) ⟨by show _ ≤ 200; omega, by show _ ≤ 6 * 200; omega⟩ (fun x438 g438 hP438 hg438 => ?_)
                                                            refine VB_lo (lo' := 0) (Nat.le_add_right _ _) ?_
                                                            refine VB_uicmp_ne (q := 444) (tgt := 455) dL_areOutfits_441 (by decide) ?_ ?_
                                                            · skip
                                                              exact VB_widen (by omega) (by omega) (J455 j405_7 j405_8 j405_s0 j405_11 j405_15 j405_17 j405_18 g438 hg438)
                                                            · skip
                                                              refine VB_iload (q := 446) dL_areOutfits_444 19 rfl rfl ?_
                                                              refine VB_iload (q := 448) dL_areOutfits_446 9 rfl rfl ?_
                                                              refine VB_uicmp_lt (q := 451) (tgt := 455) dL_areOutfits_448 (by decide) ?_ ?_
                                                              · skip
                                                                exact VB_widen (by omega) (by omega) (J455 j405_7 j405_8 j405_s0 j405_11 j405_15 j405_17 j405_18 g438 hg438)
                                                              · skip
                                                                exact VB_widen (by omega) (by omega) (J451 j405_7 j405_8 j405_s0 j405_15 j405_17 j405_18 g438 hg438)
                                                  have J400 : ∀ (j400_7 : Int32) (j400_8 : Int32) (j400_10 : Bool), VB 0 RL cL_areOutfits 20 (some .boolean) wsL_areOutfits (rmU 10 200) vXU (tyl c d) (qU (wal a c S b d F) (tyl c d) (fun _ => True) (fun _ => 0) 200 (6 * 200)) (10 * bA + 2 * cA + 40 * tA + 3) (60 * bA + 12 * cA + 240 * tA + 18) (wal a c S b d F gj362) 400 [(0, .ref (a 0)), (1, .ref (b 0)), (2, .ref (b 1)), (3, .ref (b 2)), (4, .ref (b 4)), (5, .int (iZ 0)), (6, .int (iZ 0)), (7, .int j400_7), (8, .int j400_8), (9, .int (iZ z)), (10, .int (iZ (bZ j400_10))), (11, .int (iZ (bZ j362_11))), (12, .int (iZ ((tA : Nat) : Int))), (13, .int (iZ ((bA : Nat) : Int))), (14, .int (iZ (((cA : Nat) : Int) - 1))), (15, .int (iZ (bZ j362_15))), (16, .int u244), (17, .int (iZ (bZ j362_17))), (18, .int (iZ (bZ j362_s0))), (19, .int f381)] [] := by
                                                    intro j400_7 j400_8 j400_10
                                                    refine VB_iconst (q := 401) dL_areOutfits_400 rfl ?_
                                                    refine VB_goto (tgt := 405) dL_areOutfits_401 (by decide) ?_
                                                    exact VB_widen (by omega) (by omega) (J405 j400_7 j400_8 j400_10 j362_11 j362_15 j362_17 j362_s0 true gj362 hgj362)
                                                  refine VB_uif_ne (q := 388) (tgt := 400) dL_areOutfits_385 (by decide) ?_ ?_
                                                  · skip
                                                    exact VB_widen (by omega) (by omega) (J400 j362_7 j362_8 j362_10)
                                                  · skip
                                                    refine VB_iload (q := 390) dL_areOutfits_388 18 rfl rfl ?_
                                                    have J404 : ∀ (j404_7 : Int32) (j404_8 : Int32) (j404_10 : Bool) (j404_11 : Bool) (j404_15 : Bool) (j404_17 : Bool) (j404_18 : Bool) (gj404 : Nat → Nat), (∀ j, gj404 j < 4096) → VB 0 RL cL_areOutfits 20 (some .boolean) wsL_areOutfits (rmU 10 200) vXU (tyl c d) (qU (wal a c S b d F) (tyl c d) (fun _ => True) (fun _ => 0) 200 (6 * 200)) (10 * bA + 2 * cA + 40 * tA + 3) (60 * bA + 12 * cA + 240 * tA + 18) (wal a c S b d F gj404) 404 [(0, .ref (a 0)), (1, .ref (b 0)), (2, .ref (b 1)), (3, .ref (b 2)), (4, .ref (b 4)), (5, .int (iZ 0)), (6, .int (iZ 0)), (7, .int j404_7), (8, .int j404_8), (9, .int (iZ z)), (10, .int (iZ (bZ j404_10))), (11, .int (iZ (bZ j404_11))), (12, .int (iZ ((tA : Nat) : Int))), (13, .int (iZ ((bA : Nat) : Int))), (14, .int (iZ (((cA : Nat) : Int) - 1))), (15, .int (iZ (bZ j404_15))), (16, .int u244), (17, .int (iZ (bZ j404_17))), (18, .int (iZ (bZ j404_18))), (19, .int f381)] [] := by
                                                      intro j404_7 j404_8 j404_10 j404_11 j404_15 j404_17 j404_18 gj404 hgj404
                                                      refine VB_iconst (q := 405) dL_areOutfits_404 rfl ?_
                                                      exact VB_widen (by omega) (by omega) (J405 j404_7 j404_8 j404_10 j404_11 j404_15 j404_17 j404_18 false gj404 hgj404)
                                                    refine VB_uif_eq (q := 393) (tgt := 404) dL_areOutfits_390 (by decide) ?_ ?_
                                                    · skip
                                                      exact VB_widen (by omega) (by omega) (J404 j362_7 j362_8 j362_10 j362_11 j362_15 j362_17 j362_s0 gj362 hgj362)
                                                    · skip
                                                      refine VB_iload (q := 395) dL_areOutfits_393 19 rfl rfl ?_
                                                      refine VB_iload (q := 397) dL_areOutfits_395 9 rfl rfl ?_
                                                      refine VB_uicmp_ne (q := 400) (tgt := 404) dL_areOutfits_397 (by decide) ?_ ?_
                                                      · skip
                                                        exact VB_widen (by omega) (by omega) (J404 j362_7 j362_8 j362_10 j362_11 j362_15 j362_17 j362_s0 gj362 hgj362)
                                                      · skip
                                                        exact VB_widen (by omega) (by omega) (J400 j362_7 j362_8 j362_10)
                                                have J361 : ∀ (j361_7 : Int32) (j361_8 : Int32) (j361_10 : Bool) (j361_11 : Bool) (j361_15 : Bool) (j361_17 : Bool) (gj361 : Nat → Nat), (∀ j, gj361 j < 4096) → VB 0 RL cL_areOutfits 20 (some .boolean) wsL_areOutfits (rmU 10 200) vXU (tyl c d) (qU (wal a c S b d F) (tyl c d) (fun _ => True) (fun _ => 0) 200 (6 * 200)) (10 * bA + 2 * cA + 40 * tA + 3) (60 * bA + 12 * cA + 240 * tA + 18) (wal a c S b d F gj361) 361 [(0, .ref (a 0)), (1, .ref (b 0)), (2, .ref (b 1)), (3, .ref (b 2)), (4, .ref (b 4)), (5, .int (iZ 0)), (6, .int (iZ 0)), (7, .int j361_7), (8, .int j361_8), (9, .int (iZ z)), (10, .int (iZ (bZ j361_10))), (11, .int (iZ (bZ j361_11))), (12, .int (iZ ((tA : Nat) : Int))), (13, .int (iZ ((bA : Nat) : Int))), (14, .int (iZ (((cA : Nat) : Int) - 1))), (15, .int (iZ (bZ j361_15))), (16, .int u244), (17, .int (iZ (bZ j361_17)))] [] := by
                                                  intro j361_7 j361_8 j361_10 j361_11 j361_15 j361_17 gj361 hgj361
                                                  refine VB_iconst (q := 362) dL_areOutfits_361 rfl ?_
                                                  exact VB_widen (by omega) (by omega) (J362 j361_7 j361_8 j361_10 j361_11 j361_15 j361_17 false gj361 hgj361)
                                                refine VB_uif_eq (q := 342) (tgt := 361) dL_areOutfits_339 (by decide) ?_ ?_
                                                · skip
                                                  exact VB_widen (by omega) (by omega) (J361 j335_7 j335_8 j335_10 j335_s0 j335_15 j335_17 g314 hg314)
                                                · skip
                                                  refine VB_aload_n (q := 343) dL_areOutfits_342 0 rfl rfl ?_
                                                  refine VB_iconst (q := 344) dL_areOutfits_343 rfl ?_
                                                  refine VB_iload (q := 346) dL_areOutfits_344 12 rfl rfl ?_
                                                  refine VB_iload (q := 348) dL_areOutfits_346 13 rfl rfl ?_
                                                  refine VB_iconst (q := 349) dL_areOutfits_348 rfl ?_
                                                  refine VB_iload (q := 351) dL_areOutfits_349 6 rfl rfl ?_
                                                  refine VB_callUW (q := 354) dL_areOutfits_351 (u_out1 (a := a) (c := c) (S := S) (b := b) (d := d) (F := F) ho hg314 ((tA : Nat) : Int) ((bA : Nat) : Int) 0 0 (by omega) (by omega) (by omega) (by omega)) yw_outfit rfl gL_areOutfits_L_outfit xU_U rfl (Nat.le_of_ble_eq_true rfl) (by decide) ⟨by show _ ≤ 200; omega, by show _ ≤ 6 * 200; omega⟩ (fun x351 g351 hP351 hg351 => ?_)
                                                  refine VB_lo (lo' := 0) (by show 0 ≤ 0 + 0; omega) ?_
                                                  refine VB_uif_ne (q := 357) (tgt := 361) dL_areOutfits_354 (by decide) ?_ ?_
                                                  · skip
                                                    exact VB_widen (by omega) (by omega) (J361 j335_7 j335_8 j335_10 j335_s0 j335_15 j335_17 g351 hg351)
                                                  · skip
                                                    refine VB_iconst (q := 358) dL_areOutfits_357 rfl ?_
                                                    refine VB_goto (tgt := 362) dL_areOutfits_358 (by decide) ?_
                                                    exact VB_widen (by omega) (by omega) (J362 j335_7 j335_8 j335_10 j335_s0 j335_15 j335_17 true g351 hg351)
                                              refine VB_uicmp_ne (q := 330) (tgt := 334) dL_areOutfits_327 (by decide) ?_ ?_
                                              · skip
                                                refine VB_iconst (q := 335) dL_areOutfits_334 rfl ?_
                                                exact VB_widen (by omega) (by omega) (J335 j327_7 j327_8 j327_10 j327_11 j327_15 j327_17 false)
                                              · skip
                                                refine VB_iconst (q := 331) dL_areOutfits_330 rfl ?_
                                                refine VB_goto (tgt := 335) dL_areOutfits_331 (by decide) ?_
                                                exact VB_widen (by omega) (by omega) (J335 j327_7 j327_8 j327_10 j327_11 j327_15 j327_17 true)
                                            refine VB_uif_eq (q := 322) (tgt := 326) dL_areOutfits_319 (by decide) ?_ ?_
                                            · skip
                                              refine VB_iconst (q := 327) dL_areOutfits_326 rfl ?_
                                              exact VB_widen (by omega) (by omega) (J327 j302_7 u302 j302_10 j302_11 j302_15 j302_17 false)
                                            · skip
                                              refine VB_iconst (q := 323) dL_areOutfits_322 rfl ?_
                                              refine VB_goto (tgt := 327) dL_areOutfits_323 (by decide) ?_
                                              exact VB_widen (by omega) (by omega) (J327 j302_7 u302 j302_10 j302_11 j302_15 j302_17 true)
                                          refine VB_uif_eq (q := 288) (tgt := 301) dL_areOutfits_285 (by decide) ?_ ?_
                                          · skip
                                            refine VB_iconst (q := 302) dL_areOutfits_301 rfl ?_
                                            exact VB_widen (by omega) (by omega) (J302 u278 j278_8 j278_10 j278_11 j278_15 j278_17 (iZ 0) j278_8 gj278 hgj278)
                                          · skip
                                            refine VB_iload (q := 290) dL_areOutfits_288 14 rfl rfl ?_
                                            refine VB_if_ge (q := 293) (tgt := 297) dL_areOutfits_290 (by omega) (by decide) (fun t290 => ?_) (fun t290 => ?_)
                                            · skip
                                              refine VB_iconst (q := 298) dL_areOutfits_297 rfl ?_
                                              refine VB_goto (tgt := 302) dL_areOutfits_298 (by decide) ?_
                                              exact VB_widen (by omega) (by omega) (J302 u278 j278_8 j278_10 j278_11 j278_15 j278_17 (iZ 3) j278_8 gj278 hgj278)
                                            · skip
                                              refine VB_iconst (q := 294) dL_areOutfits_293 rfl ?_
                                              refine VB_goto (tgt := 302) dL_areOutfits_294 (by decide) ?_
                                              exact VB_widen (by omega) (by omega) (J302 u278 j278_8 j278_10 j278_11 j278_15 j278_17 (iZ 2) j278_8 gj278 hgj278)
                                        refine VB_uif_eq (q := 273) (tgt := 277) dL_areOutfits_270 (by decide) ?_ ?_
                                        · skip
                                          refine VB_iconst (q := 278) dL_areOutfits_277 rfl ?_
                                          exact VB_widen (by omega) (by omega) (J278 j264_7 j264_8 j264_10 j264_11 j264_15 j264_s0 false j264_7 gj264 hgj264)
                                        · skip
                                          refine VB_iconst (q := 274) dL_areOutfits_273 rfl ?_
                                          refine VB_goto (tgt := 278) dL_areOutfits_274 (by decide) ?_
                                          exact VB_widen (by omega) (by omega) (J278 j264_7 j264_8 j264_10 j264_11 j264_15 j264_s0 true j264_7 gj264 hgj264)
                                      have J263 : ∀ (j263_7 : Int32) (j263_8 : Int32) (j263_10 : Bool) (j263_11 : Bool) (j263_15 : Bool) (gj263 : Nat → Nat), (∀ j, gj263 j < 4096) → VB 0 RL cL_areOutfits 20 (some .boolean) wsL_areOutfits (rmU 10 200) vXU (tyl c d) (qU (wal a c S b d F) (tyl c d) (fun _ => True) (fun _ => 0) 200 (6 * 200)) (10 * bA + 2 * cA + 40 * tA + 1) (60 * bA + 12 * cA + 240 * tA + 6) (wal a c S b d F gj263) 263 [(0, .ref (a 0)), (1, .ref (b 0)), (2, .ref (b 1)), (3, .ref (b 2)), (4, .ref (b 4)), (5, .int (iZ 0)), (6, .int (iZ 0)), (7, .int j263_7), (8, .int j263_8), (9, .int (iZ z)), (10, .int (iZ (bZ j263_10))), (11, .int (iZ (bZ j263_11))), (12, .int (iZ ((tA : Nat) : Int))), (13, .int (iZ ((bA : Nat) : Int))), (14, .int (iZ (((cA : Nat) : Int) - 1))), (15, .int (iZ (bZ j263_15))), (16, .int u244)] [] := by
                                        intro j263_7 j263_8 j263_10 j263_11 j263_15 gj263 hgj263
                                        refine VB_iconst (q := 264) dL_areOutfits_263 rfl ?_
                                        exact VB_widen (by omega) (by omega) (J264 j263_7 j263_8 j263_10 j263_11 j263_15 false gj263 hgj263)
                                      refine VB_uif_eq (q := 252) (tgt := 263) dL_areOutfits_249 (by decide) ?_ ?_
                                      · skip
                                        exact VB_widen (by omega) (by omega) (J263 j244_7 j244_8 j244_10 j244_11 j244_15 gj244 hgj244)
                                      · skip
                                        refine VB_iload (q := 254) dL_areOutfits_252 16 rfl rfl ?_
                                        refine VB_iload (q := 256) dL_areOutfits_254 5 rfl rfl ?_
                                        refine VB_uicmp_lt (q := 259) (tgt := 263) dL_areOutfits_256 (by decide) ?_ ?_
                                        · skip
                                          exact VB_widen (by omega) (by omega) (J263 j244_7 j244_8 j244_10 j244_11 j244_15 gj244 hgj244)
                                        · skip
                                          refine VB_iconst (q := 260) dL_areOutfits_259 rfl ?_
                                          refine VB_goto (tgt := 264) dL_areOutfits_260 (by decide) ?_
                                          exact VB_widen (by omega) (by omega) (J264 j244_7 j244_8 j244_10 j244_11 j244_15 true gj244 hgj244)
                                    refine VB_if_ge (q := 232) (tgt := 236) dL_areOutfits_229 (by omega) (by decide) (fun t229 => ?_) (fun t229 => ?_)
                                    · skip
                                      refine VB_aload_n (q := 237) dL_areOutfits_236 1 rfl rfl ?_
                                      refine VB_iconst (q := 238) dL_areOutfits_237 rfl ?_
                                      refine VB_iload (q := 240) dL_areOutfits_238 14 rfl rfl ?_
                                      refine VB_imul (q := 241) dL_areOutfits_240 rfl ?_
                                      refine VB_iconst (q := 242) dL_areOutfits_241 rfl ?_
                                      refine VB_iadd (q := 243) dL_areOutfits_242 rfl ?_
                                      refine VB_iald (q := 244) dL_areOutfits_243 9 8 rfl rfl (((5 * (cA - 1)) + 2)) (by omega) (by omega) (by decide) rfl rfl ?_
                                      refine VB_uany (fun u243 => ?_)
                                      exact VB_widen (by omega) (by omega) (J244 j208_7 j208_8 j208_10 j208_11 j208_s0 u243 gj208 hgj208)
                                    · skip
                                      refine VB_iconst (q := 233) dL_areOutfits_232 rfl ?_
                                      refine VB_goto (tgt := 244) dL_areOutfits_233 (by decide) ?_
                                      exact VB_widen (by omega) (by omega) (J244 j208_7 j208_8 j208_10 j208_11 j208_s0 (iZ 0) gj208 hgj208)
                                  have J207 : ∀ (j207_7 : Int32) (j207_8 : Int32) (j207_10 : Bool) (j207_11 : Bool) (gj207 : Nat → Nat), (∀ j, gj207 j < 4096) → VB 0 RL cL_areOutfits 20 (some .boolean) wsL_areOutfits (rmU 10 200) vXU (tyl c d) (qU (wal a c S b d F) (tyl c d) (fun _ => True) (fun _ => 0) 200 (6 * 200)) (10 * bA + 2 * cA + 40 * tA + 1) (60 * bA + 12 * cA + 240 * tA + 6) (wal a c S b d F gj207) 207 [(0, .ref (a 0)), (1, .ref (b 0)), (2, .ref (b 1)), (3, .ref (b 2)), (4, .ref (b 4)), (5, .int (iZ 0)), (6, .int (iZ 0)), (7, .int j207_7), (8, .int j207_8), (9, .int (iZ z)), (10, .int (iZ (bZ j207_10))), (11, .int (iZ (bZ j207_11))), (12, .int (iZ ((tA : Nat) : Int))), (13, .int (iZ ((bA : Nat) : Int))), (14, .int (iZ (((cA : Nat) : Int) - 1)))] [] := by
                                    intro j207_7 j207_8 j207_10 j207_11 gj207 hgj207
                                    refine VB_iconst (q := 208) dL_areOutfits_207 rfl ?_
                                    exact VB_widen (by omega) (by omega) (J208 j207_7 j207_8 j207_10 j207_11 false gj207 hgj207)
                                  refine VB_uicmp_ge (q := 132) (tgt := 207) dL_areOutfits_129 (by decide) ?_ ?_
                                  · skip
                                    exact VB_widen (by omega) (by omega) (J207 j117_7 j117_8 j117_10 j117_11 gj78 hgj78)
                                  · skip
                                    refine VB_aload_n (q := 133) dL_areOutfits_132 2 rfl rfl ?_
                                    refine VB_iload (q := 135) dL_areOutfits_133 13 rfl rfl ?_
                                    refine VB_iald (q := 136) dL_areOutfits_135 10 9 rfl rfl (bA) (by omega) (by omega) (by decide) rfl rfl ?_
                                    refine VB_uany (fun u135 => ?_)
                                    refine VB_aload_n (q := 137) dL_areOutfits_136 1 rfl rfl ?_
                                    refine VB_iconst (q := 138) dL_areOutfits_137 rfl ?_
                                    refine VB_iload (q := 140) dL_areOutfits_138 13 rfl rfl ?_
                                    refine VB_imul (q := 141) dL_areOutfits_140 rfl ?_
                                    refine VB_iconst (q := 142) dL_areOutfits_141 rfl ?_
                                    refine VB_iadd (q := 143) dL_areOutfits_142 rfl ?_
                                    refine VB_iald (q := 144) dL_areOutfits_143 9 8 rfl rfl (((5 * bA) + 3)) (by omega) (by omega) (by decide) rfl rfl ?_
                                    refine VB_uany (fun u143 => ?_)
                                    refine VB_uicmp_ge (q := 147) (tgt := 207) dL_areOutfits_144 (by decide) ?_ ?_
                                    · skip
                                      exact VB_widen (by omega) (by omega) (J207 j117_7 j117_8 j117_10 j117_11 gj78 hgj78)
                                    · skip
                                      refine VB_aload_n (q := 148) dL_areOutfits_147 1 rfl rfl ?_
                                      refine VB_aload_n (q := 149) dL_areOutfits_148 3 rfl rfl ?_
                                      refine VB_iload (q := 151) dL_areOutfits_149 12 rfl rfl ?_
                                      refine VB_iload (q := 153) dL_areOutfits_151 13 rfl rfl ?_
                                      refine VB_callU (q := 156) dL_areOutfits_153 (u_doClash (a := a) (c := c) (S := S) (b := b) (d := d) (F := F) hI tA bA (by omega) (by omega) hgj78) yv_L_doClash rfl gL_areOutfits_L_doClash xU_U rfl (Nat.le_of_ble_eq_true rfl) (by decide) ⟨by show _ ≤ 200; omega, by show _ ≤ 6 * 200; omega⟩ (fun x153 g153 hP153 hg153 => ?_)
                                      refine VB_lo (lo' := 0) (Nat.le_add_right _ _) ?_
                                      refine VB_uif_ne (q := 159) (tgt := 207) dL_areOutfits_156 (by decide) ?_ ?_
                                      · skip
                                        exact VB_widen (by omega) (by omega) (J207 j117_7 j117_8 j117_10 j117_11 g153 hg153)
                                      · skip
                                        refine VB_iload (q := 161) dL_areOutfits_159 14 rfl rfl ?_
                                        have J203 : ∀ (j203_7 : Int32) (j203_8 : Int32) (j203_10 : Bool) (j203_11 : Bool) (gj203 : Nat → Nat), (∀ j, gj203 j < 4096) → VB 0 RL cL_areOutfits 20 (some .boolean) wsL_areOutfits (rmU 10 200) vXU (tyl c d) (qU (wal a c S b d F) (tyl c d) (fun _ => True) (fun _ => 0) 200 (6 * 200)) (10 * bA + 2 * cA + 40 * tA + 1) (60 * bA + 12 * cA + 240 * tA + 6) (wal a c S b d F gj203) 203 [(0, .ref (a 0)), (1, .ref (b 0)), (2, .ref (b 1)), (3, .ref (b 2)), (4, .ref (b 4)), (5, .int (iZ 0)), (6, .int (iZ 0)), (7, .int j203_7), (8, .int j203_8), (9, .int (iZ z)), (10, .int (iZ (bZ j203_10))), (11, .int (iZ (bZ j203_11))), (12, .int (iZ ((tA : Nat) : Int))), (13, .int (iZ ((bA : Nat) : Int))), (14, .int (iZ (((cA : Nat) : Int) - 1)))] [] := by
                                          intro j203_7 j203_8 j203_10 j203_11 gj203 hgj203
                                          refine VB_iconst (q := 204) dL_areOutfits_203 rfl ?_
                                          refine VB_goto (tgt := 208) dL_areOutfits_204 (by decide) ?_
                                          exact VB_widen (by omega) (by omega) (J208 j203_7 j203_8 j203_10 j203_11 true gj203 hgj203)
                                        refine VB_if_lt (q := 164) (tgt := 203) dL_areOutfits_161 (by omega) (by decide) (fun t161 => ?_) (fun t161 => ?_)
                                        · skip
                                          exact VB_widen (by omega) (by omega) (J203 j117_7 j117_8 j117_10 j117_11 g153 hg153)
                                        · skip
                                          refine VB_aload_n (q := 165) dL_areOutfits_164 2 rfl rfl ?_
                                          refine VB_iload (q := 167) dL_areOutfits_165 14 rfl rfl ?_
                                          refine VB_iald (q := 168) dL_areOutfits_167 10 9 rfl rfl ((cA - 1)) (by omega) (by omega) (by decide) rfl rfl ?_
                                          refine VB_uany (fun u167 => ?_)
                                          refine VB_aload_n (q := 169) dL_areOutfits_168 1 rfl rfl ?_
                                          refine VB_iconst (q := 170) dL_areOutfits_169 rfl ?_
                                          refine VB_iload (q := 172) dL_areOutfits_170 14 rfl rfl ?_
                                          refine VB_imul (q := 173) dL_areOutfits_172 rfl ?_
                                          refine VB_iconst (q := 174) dL_areOutfits_173 rfl ?_
                                          refine VB_iadd (q := 175) dL_areOutfits_174 rfl ?_
                                          refine VB_iald (q := 176) dL_areOutfits_175 9 8 rfl rfl (((5 * (cA - 1)) + 3)) (by omega) (by omega) (by decide) rfl rfl ?_
                                          refine VB_uany (fun u175 => ?_)
                                          refine VB_uicmp_ge (q := 179) (tgt := 207) dL_areOutfits_176 (by decide) ?_ ?_
                                          · skip
                                            exact VB_widen (by omega) (by omega) (J207 j117_7 j117_8 j117_10 j117_11 g153 hg153)
                                          · skip
                                            refine VB_aload_n (q := 180) dL_areOutfits_179 1 rfl rfl ?_
                                            refine VB_aload_n (q := 181) dL_areOutfits_180 3 rfl rfl ?_
                                            refine VB_iload (q := 183) dL_areOutfits_181 12 rfl rfl ?_
                                            refine VB_iload (q := 185) dL_areOutfits_183 14 rfl rfl ?_
                                            refine VB_st (st' := [.int (iZ (((cA - 1) : Nat) : Int)), .int (iZ ((tA : Nat) : Int)), .ref (b 2), .ref (b 0)]) (by rw [show (((cA : Nat) : Int) - 1) = (((cA - 1) : Nat) : Int) by omega]) ?_
                                            refine VB_callU (q := 188) dL_areOutfits_185 (u_doClash (a := a) (c := c) (S := S) (b := b) (d := d) (F := F) hI tA (cA - 1) (by omega) (by omega) hg153) yv_L_doClash rfl gL_areOutfits_L_doClash xU_U rfl (Nat.le_of_ble_eq_true rfl) (by decide) ⟨by show _ ≤ 200; omega, by show _ ≤ 6 * 200; omega⟩ (fun x185 g185 hP185 hg185 => ?_)
                                            refine VB_lo (lo' := 0) (Nat.le_add_right _ _) ?_
                                            refine VB_uif_ne (q := 191) (tgt := 207) dL_areOutfits_188 (by decide) ?_ ?_
                                            · skip
                                              exact VB_widen (by omega) (by omega) (J207 j117_7 j117_8 j117_10 j117_11 g185 hg185)
                                            · skip
                                              refine VB_aload_n (q := 192) dL_areOutfits_191 1 rfl rfl ?_
                                              refine VB_aload_n (q := 193) dL_areOutfits_192 3 rfl rfl ?_
                                              refine VB_iload (q := 195) dL_areOutfits_193 13 rfl rfl ?_
                                              refine VB_iload (q := 197) dL_areOutfits_195 14 rfl rfl ?_
                                              refine VB_st (st' := [.int (iZ (((cA - 1) : Nat) : Int)), .int (iZ ((bA : Nat) : Int)), .ref (b 2), .ref (b 0)]) (by rw [show (((cA : Nat) : Int) - 1) = (((cA - 1) : Nat) : Int) by omega]) ?_
                                              refine VB_callU (q := 200) dL_areOutfits_197 (u_doClash (a := a) (c := c) (S := S) (b := b) (d := d) (F := F) hI bA (cA - 1) (by omega) (by omega) hg185) yv_L_doClash rfl gL_areOutfits_L_doClash xU_U rfl (Nat.le_of_ble_eq_true rfl) (by decide) ⟨by show _ ≤ 200; omega, by show _ ≤ 6 * 200; omega⟩ (fun x197 g197 hP197 hg197 => ?_)
                                              refine VB_lo (lo' := 0) (Nat.le_add_right _ _) ?_
                                              refine VB_uif_ne (q := 203) (tgt := 207) dL_areOutfits_200 (by decide) ?_ ?_
                                              · skip
                                                exact VB_widen (by omega) (by omega) (J207 j117_7 j117_8 j117_10 j117_11 g197 hg197)
                                              · skip
                                                exact VB_widen (by omega) (by omega) (J203 j117_7 j117_8 j117_10 j117_11 g197 hg197)
                                refine VB_if_lt (q := 107) (tgt := 117) dL_areOutfits_104 (by omega) (by decide) (fun t104 => ?_) (fun t104 => ?_)
                                · skip
                                  exact VB_widen (by omega) (by omega) (J117 j78_7 j78_8 j78_10 j78_11)
                                · skip
                                  refine VB_aload_n (q := 108) dL_areOutfits_107 1 rfl rfl ?_
                                  refine VB_iconst (q := 109) dL_areOutfits_108 rfl ?_
                                  refine VB_iload (q := 111) dL_areOutfits_109 14 rfl rfl ?_
                                  refine VB_imul (q := 112) dL_areOutfits_111 rfl ?_
                                  refine VB_iald (q := 113) dL_areOutfits_112 9 8 rfl rfl ((5 * (cA - 1))) (by omega) (by omega) (by decide) rfl rfl ?_
                                  refine VB_uany (fun u112 => ?_)
                                  refine VB_iconst (q := 114) dL_areOutfits_113 rfl ?_
                                  refine VB_uicmp_ne (q := 117) (tgt := 458) dL_areOutfits_114 (by decide) ?_ ?_
                                  · skip
                                    exact VB_widen (by omega) (by omega) (J458 j78_7 j78_8 j78_10 j78_11 gj78 hgj78)
                                  · skip
                                    exact VB_widen (by omega) (by omega) (J117 j78_7 j78_8 j78_10 j78_11)
                      refine VB_istore (q := 78) (lv' := [(0, _), (1, _), (2, _), (3, _), (4, _), (5, _), (6, _), (7, _), (8, _), (9, _), (10, _), (11, _), (12, _), (13, _), (14, _)]) dL_areOutfits_76 (by decide) rfl rfl ?_
                      exact VB_widen (by omega) (by omega) (J78 ((m0 + 1) + 1) 0 j52_7 j52_8 j52_10 j52_11 gj52 hgj52 (by omega) (by omega))
            refine VB_istore (q := 52) (lv' := [(0, _), (1, _), (2, _), (3, _), (4, _), (5, _), (6, _), (7, _), (8, _), (9, _), (10, _), (11, _), (12, _), (13, _)]) dL_areOutfits_50 (by decide) rfl rfl ?_
            exact VB_widen (by omega) (by omega) (J52 (m0 + 1) 0 j35_7 j35_8 j35_10 j35_11 gj35 hgj35 (by omega) (by omega))
    refine VB_istore (q := 35) (lv' := [(0, _), (1, _), (2, _), (3, _), (4, _), (5, _), (6, _), (7, _), (8, _), (9, _), (10, _), (11, _), (12, _)]) dL_areOutfits_33 (by decide) rfl rfl ?_
    exact VB_widen (by omega) (by omega) (J35 (m0 + 1) 0 (iZ 0) (iZ 0) j27_s0 true g hg (by omega) (by omega))
  refine VB_icmp_ne (q := 22) (tgt := 26) dL_areOutfits_19 (by omega) (by omega) (by decide) (fun t19 => ?_) (fun t19 => ?_)
  · skip
    refine VB_iconst (q := 27) dL_areOutfits_26 rfl ?_
    exact VB_widen (by omega) (by omega) (J27 false)
  · skip
    refine VB_iconst (q := 23) dL_areOutfits_22 rfl ?_
    refine VB_goto (tgt := 27) dL_areOutfits_23 (by decide) ?_
    exact VB_widen (by omega) (by omega) (J27 true)
